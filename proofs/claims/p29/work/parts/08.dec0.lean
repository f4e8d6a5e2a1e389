theorem dX0_init_0 : decode cX0_init 0 = .ok (.aload_n 0, 1) := by decide +kernel
theorem dX0_init_1 : decode cX0_init 1 = .ok (.invokespecial 3, 3) := by decide +kernel
theorem dX0_init_4 : decode cX0_init 4 = .ok (.aload_n 0, 1) := by decide +kernel
theorem dX0_init_5 : decode cX0_init 5 = .ok (.bipush 14, 2) := by decide +kernel
theorem dX0_init_7 : decode cX0_init 7 = .ok (.anewarray 9, 3) := by decide +kernel
theorem dX0_init_10 : decode cX0_init 10 = .ok (.putfield 11, 3) := by decide +kernel
theorem dX0_init_13 : decode cX0_init 13 = .ok (.aload_n 0, 1) := by decide +kernel
theorem dX0_init_14 : decode cX0_init 14 = .ok (.iconst 0, 1) := by decide +kernel
theorem dX0_init_15 : decode cX0_init 15 = .ok (.putfield 17, 3) := by decide +kernel
theorem dX0_init_18 : decode cX0_init 18 = .ok (.aload_n 0, 1) := by decide +kernel
theorem dX0_init_19 : decode cX0_init 19 = .ok (.iconst 0, 1) := by decide +kernel
theorem dX0_init_20 : decode cX0_init 20 = .ok (.putfield 21, 3) := by decide +kernel
theorem dX0_init_23 : decode cX0_init 23 = .ok (.iconst 0, 1) := by decide +kernel
theorem dX0_init_24 : decode cX0_init 24 = .ok (.istore_n 1, 1) := by decide +kernel
theorem dX0_init_25 : decode cX0_init 25 = .ok (.iload_n 1, 1) := by decide +kernel
theorem dX0_init_26 : decode cX0_init 26 = .ok (.bipush 14, 2) := by decide +kernel
theorem dX0_init_28 : decode cX0_init 28 = .ok (.if_icmp .ge 22, 3) := by decide +kernel
theorem dX0_init_31 : decode cX0_init 31 = .ok (.aload_n 0, 1) := by decide +kernel
theorem dX0_init_32 : decode cX0_init 32 = .ok (.getfield 11, 3) := by decide +kernel
theorem dX0_init_35 : decode cX0_init 35 = .ok (.iload_n 1, 1) := by decide +kernel
theorem dX0_init_36 : decode cX0_init 36 = .ok (.new 9, 3) := by decide +kernel
theorem dX0_init_39 : decode cX0_init 39 = .ok (.dup, 1) := by decide +kernel
theorem dX0_init_40 : decode cX0_init 40 = .ok (.invokespecial 24, 3) := by decide +kernel
theorem dX0_init_43 : decode cX0_init 43 = .ok (.aastore, 1) := by decide +kernel
theorem dX0_init_44 : decode cX0_init 44 = .ok (.iinc 1 1, 3) := by decide +kernel
theorem dX0_init_47 : decode cX0_init 47 = .ok (.goto (-22), 3) := by decide +kernel
theorem dX0_init_50 : decode cX0_init 50 = .ok (.return_, 1) := by decide +kernel
theorem dX0_forgetAll_0 : decode cX0_forgetAll 0 = .ok (.aload_n 0, 1) := by decide +kernel
theorem dX0_forgetAll_1 : decode cX0_forgetAll 1 = .ok (.iconst 0, 1) := by decide +kernel
theorem dX0_forgetAll_2 : decode cX0_forgetAll 2 = .ok (.putfield 21, 3) := by decide +kernel
theorem dX0_forgetAll_5 : decode cX0_forgetAll 5 = .ok (.return_, 1) := by decide +kernel
theorem dX0_remember_0 : decode cX0_remember 0 = .ok (.aload_n 0, 1) := by decide +kernel
theorem dX0_remember_1 : decode cX0_remember 1 = .ok (.getfield 11, 3) := by decide +kernel
theorem dX0_remember_4 : decode cX0_remember 4 = .ok (.aload_n 0, 1) := by decide +kernel
theorem dX0_remember_5 : decode cX0_remember 5 = .ok (.aload_n 0, 1) := by decide +kernel
theorem dX0_remember_6 : decode cX0_remember 6 = .ok (.getfield 21, 3) := by decide +kernel
theorem dX0_remember_9 : decode cX0_remember 9 = .ok (.invokevirtual 25, 3) := by decide +kernel
theorem dX0_remember_12 : decode cX0_remember 12 = .ok (.aaload, 1) := by decide +kernel
theorem dX0_remember_13 : decode cX0_remember 13 = .ok (.aload_n 1, 1) := by decide +kernel
theorem dX0_remember_14 : decode cX0_remember 14 = .ok (.invokevirtual 29, 3) := by decide +kernel
theorem dX0_remember_17 : decode cX0_remember 17 = .ok (.aload_n 0, 1) := by decide +kernel
theorem dX0_remember_18 : decode cX0_remember 18 = .ok (.getfield 21, 3) := by decide +kernel
theorem dX0_remember_21 : decode cX0_remember 21 = .ok (.bipush 14, 2) := by decide +kernel
theorem dX0_remember_23 : decode cX0_remember 23 = .ok (.if_icmp .ge 16, 3) := by decide +kernel
theorem dX0_remember_26 : decode cX0_remember 26 = .ok (.aload_n 0, 1) := by decide +kernel
theorem dX0_remember_27 : decode cX0_remember 27 = .ok (.dup, 1) := by decide +kernel
theorem dX0_remember_28 : decode cX0_remember 28 = .ok (.getfield 21, 3) := by decide +kernel
theorem dX0_remember_31 : decode cX0_remember 31 = .ok (.iconst 1, 1) := by decide +kernel
theorem dX0_remember_32 : decode cX0_remember 32 = .ok (.iadd, 1) := by decide +kernel
theorem dX0_remember_33 : decode cX0_remember 33 = .ok (.putfield 21, 3) := by decide +kernel
theorem dX0_remember_36 : decode cX0_remember 36 = .ok (.goto 12, 3) := by decide +kernel
theorem dX0_remember_39 : decode cX0_remember 39 = .ok (.aload_n 0, 1) := by decide +kernel
theorem dX0_remember_40 : decode cX0_remember 40 = .ok (.aload_n 0, 1) := by decide +kernel
theorem dX0_remember_41 : decode cX0_remember 41 = .ok (.iconst 1, 1) := by decide +kernel
theorem dX0_remember_42 : decode cX0_remember 42 = .ok (.invokevirtual 25, 3) := by decide +kernel
theorem dX0_remember_45 : decode cX0_remember 45 = .ok (.putfield 17, 3) := by decide +kernel
theorem dX0_remember_48 : decode cX0_remember 48 = .ok (.return_, 1) := by decide +kernel
theorem dX0_takeBack_0 : decode cX0_takeBack 0 = .ok (.aload_n 0, 1) := by decide +kernel
theorem dX0_takeBack_1 : decode cX0_takeBack 1 = .ok (.getfield 21, 3) := by decide +kernel
theorem dX0_takeBack_4 : decode cX0_takeBack 4 = .ok (.ifCond .le 30, 3) := by decide +kernel
theorem dX0_takeBack_7 : decode cX0_takeBack 7 = .ok (.aload_n 0, 1) := by decide +kernel
theorem dX0_takeBack_8 : decode cX0_takeBack 8 = .ok (.dup, 1) := by decide +kernel
theorem dX0_takeBack_9 : decode cX0_takeBack 9 = .ok (.getfield 21, 3) := by decide +kernel
theorem dX0_takeBack_12 : decode cX0_takeBack 12 = .ok (.iconst 1, 1) := by decide +kernel
theorem dX0_takeBack_13 : decode cX0_takeBack 13 = .ok (.isub, 1) := by decide +kernel
theorem dX0_takeBack_14 : decode cX0_takeBack 14 = .ok (.putfield 21, 3) := by decide +kernel
theorem dX0_takeBack_17 : decode cX0_takeBack 17 = .ok (.aload_n 1, 1) := by decide +kernel
theorem dX0_takeBack_18 : decode cX0_takeBack 18 = .ok (.aload_n 0, 1) := by decide +kernel
theorem dX0_takeBack_19 : decode cX0_takeBack 19 = .ok (.getfield 11, 3) := by decide +kernel
theorem dX0_takeBack_22 : decode cX0_takeBack 22 = .ok (.aload_n 0, 1) := by decide +kernel
theorem dX0_takeBack_23 : decode cX0_takeBack 23 = .ok (.aload_n 0, 1) := by decide +kernel
theorem dX0_takeBack_24 : decode cX0_takeBack 24 = .ok (.getfield 21, 3) := by decide +kernel
theorem dX0_takeBack_27 : decode cX0_takeBack 27 = .ok (.invokevirtual 25, 3) := by decide +kernel
theorem dX0_takeBack_30 : decode cX0_takeBack 30 = .ok (.aaload, 1) := by decide +kernel
theorem dX0_takeBack_31 : decode cX0_takeBack 31 = .ok (.invokevirtual 29, 3) := by decide +kernel
theorem dX0_takeBack_34 : decode cX0_takeBack 34 = .ok (.aload_n 0, 1) := by decide +kernel
theorem dX0_takeBack_35 : decode cX0_takeBack 35 = .ok (.getfield 21, 3) := by decide +kernel
theorem dX0_takeBack_38 : decode cX0_takeBack 38 = .ok (.ireturn, 1) := by decide +kernel
theorem dX0_placeOf_0 : decode cX0_placeOf 0 = .ok (.aload_n 0, 1) := by decide +kernel
theorem dX0_placeOf_1 : decode cX0_placeOf 1 = .ok (.getfield 17, 3) := by decide +kernel
theorem dX0_placeOf_4 : decode cX0_placeOf 4 = .ok (.iload_n 1, 1) := by decide +kernel
theorem dX0_placeOf_5 : decode cX0_placeOf 5 = .ok (.iadd, 1) := by decide +kernel
theorem dX0_placeOf_6 : decode cX0_placeOf 6 = .ok (.bipush 14, 2) := by decide +kernel
theorem dX0_placeOf_8 : decode cX0_placeOf 8 = .ok (.irem, 1) := by decide +kernel
theorem dX0_placeOf_9 : decode cX0_placeOf 9 = .ok (.ireturn, 1) := by decide +kernel
theorem dX1_init_0 : decode cX1_init 0 = .ok (.aload_n 0, 1) := by decide +kernel
theorem dX1_init_1 : decode cX1_init 1 = .ok (.invokespecial 3, 3) := by decide +kernel
theorem dX1_init_4 : decode cX1_init 4 = .ok (.aload_n 0, 1) := by decide +kernel
theorem dX1_init_5 : decode cX1_init 5 = .ok (.bipush 6, 2) := by decide +kernel
theorem dX1_init_7 : decode cX1_init 7 = .ok (.anewarray 9, 3) := by decide +kernel
theorem dX1_init_10 : decode cX1_init 10 = .ok (.putfield 11, 3) := by decide +kernel
theorem dX1_init_13 : decode cX1_init 13 = .ok (.aload_n 0, 1) := by decide +kernel
theorem dX1_init_14 : decode cX1_init 14 = .ok (.bipush 12, 2) := by decide +kernel
theorem dX1_init_16 : decode cX1_init 16 = .ok (.newarray .boolean, 2) := by decide +kernel
theorem dX1_init_18 : decode cX1_init 18 = .ok (.putfield 17, 3) := by decide +kernel
theorem dX1_init_21 : decode cX1_init 21 = .ok (.aload_n 0, 1) := by decide +kernel
theorem dX1_init_22 : decode cX1_init 22 = .ok (.iconst 3, 1) := by decide +kernel
theorem dX1_init_23 : decode cX1_init 23 = .ok (.newarray .int, 2) := by decide +kernel
theorem dX1_init_25 : decode cX1_init 25 = .ok (.putfield 21, 3) := by decide +kernel
theorem dX1_init_28 : decode cX1_init 28 = .ok (.iconst 0, 1) := by decide +kernel
theorem dX1_init_29 : decode cX1_init 29 = .ok (.istore_n 1, 1) := by decide +kernel
theorem dX1_init_30 : decode cX1_init 30 = .ok (.iload_n 1, 1) := by decide +kernel
theorem dX1_init_31 : decode cX1_init 31 = .ok (.bipush 6, 2) := by decide +kernel
theorem dX1_init_33 : decode cX1_init 33 = .ok (.if_icmp .ge 22, 3) := by decide +kernel
theorem dX1_init_36 : decode cX1_init 36 = .ok (.aload_n 0, 1) := by decide +kernel
theorem dX1_init_37 : decode cX1_init 37 = .ok (.getfield 11, 3) := by decide +kernel
theorem dX1_init_40 : decode cX1_init 40 = .ok (.iload_n 1, 1) := by decide +kernel
theorem dX1_init_41 : decode cX1_init 41 = .ok (.new 9, 3) := by decide +kernel
theorem dX1_init_44 : decode cX1_init 44 = .ok (.dup, 1) := by decide +kernel
theorem dX1_init_45 : decode cX1_init 45 = .ok (.invokespecial 25, 3) := by decide +kernel
theorem dX1_init_48 : decode cX1_init 48 = .ok (.aastore, 1) := by decide +kernel
theorem dX1_init_49 : decode cX1_init 49 = .ok (.iinc 1 1, 3) := by decide +kernel
theorem dX1_init_52 : decode cX1_init 52 = .ok (.goto (-22), 3) := by decide +kernel
theorem dX1_init_55 : decode cX1_init 55 = .ok (.aload_n 0, 1) := by decide +kernel
theorem dX1_init_56 : decode cX1_init 56 = .ok (.invokevirtual 26, 3) := by decide +kernel
theorem dX1_init_59 : decode cX1_init 59 = .ok (.return_, 1) := by decide +kernel
theorem dX1_reset_0 : decode cX1_reset 0 = .ok (.iconst 0, 1) := by decide +kernel
theorem dX1_reset_1 : decode cX1_reset 1 = .ok (.istore_n 1, 1) := by decide +kernel
theorem dX1_reset_2 : decode cX1_reset 2 = .ok (.iload_n 1, 1) := by decide +kernel
theorem dX1_reset_3 : decode cX1_reset 3 = .ok (.bipush 12, 2) := by decide +kernel
theorem dX1_reset_5 : decode cX1_reset 5 = .ok (.if_icmp .ge 16, 3) := by decide +kernel
theorem dX1_reset_8 : decode cX1_reset 8 = .ok (.aload_n 0, 1) := by decide +kernel
theorem dX1_reset_9 : decode cX1_reset 9 = .ok (.getfield 17, 3) := by decide +kernel
theorem dX1_reset_12 : decode cX1_reset 12 = .ok (.iload_n 1, 1) := by decide +kernel
theorem dX1_reset_13 : decode cX1_reset 13 = .ok (.iconst 0, 1) := by decide +kernel
theorem dX1_reset_14 : decode cX1_reset 14 = .ok (.bastore, 1) := by decide +kernel
theorem dX1_reset_15 : decode cX1_reset 15 = .ok (.iinc 1 1, 3) := by decide +kernel
theorem dX1_reset_18 : decode cX1_reset 18 = .ok (.goto (-16), 3) := by decide +kernel
theorem dX1_reset_21 : decode cX1_reset 21 = .ok (.iconst 0, 1) := by decide +kernel
theorem dX1_reset_22 : decode cX1_reset 22 = .ok (.istore_n 1, 1) := by decide +kernel
theorem dX1_reset_23 : decode cX1_reset 23 = .ok (.iload_n 1, 1) := by decide +kernel
theorem dX1_reset_24 : decode cX1_reset 24 = .ok (.iconst 3, 1) := by decide +kernel
theorem dX1_reset_25 : decode cX1_reset 25 = .ok (.if_icmp .ge 20, 3) := by decide +kernel
theorem dX1_reset_28 : decode cX1_reset 28 = .ok (.aload_n 0, 1) := by decide +kernel
theorem dX1_reset_29 : decode cX1_reset 29 = .ok (.getfield 21, 3) := by decide +kernel
theorem dX1_reset_32 : decode cX1_reset 32 = .ok (.iload_n 1, 1) := by decide +kernel
theorem dX1_reset_33 : decode cX1_reset 33 = .ok (.getstatic 29, 3) := by decide +kernel
theorem dX1_reset_36 : decode cX1_reset 36 = .ok (.iload_n 1, 1) := by decide +kernel
theorem dX1_reset_37 : decode cX1_reset 37 = .ok (.iaload, 1) := by decide +kernel
theorem dX1_reset_38 : decode cX1_reset 38 = .ok (.iastore, 1) := by decide +kernel
theorem dX1_reset_39 : decode cX1_reset 39 = .ok (.iinc 1 1, 3) := by decide +kernel
theorem dX1_reset_42 : decode cX1_reset 42 = .ok (.goto (-19), 3) := by decide +kernel
theorem dX1_reset_45 : decode cX1_reset 45 = .ok (.aload_n 0, 1) := by decide +kernel
theorem dX1_reset_46 : decode cX1_reset 46 = .ok (.iconst 0, 1) := by decide +kernel
theorem dX1_reset_47 : decode cX1_reset 47 = .ok (.putfield 32, 3) := by decide +kernel
theorem dX1_reset_50 : decode cX1_reset 50 = .ok (.aload_n 0, 1) := by decide +kernel
theorem dX1_reset_51 : decode cX1_reset 51 = .ok (.iconst 0, 1) := by decide +kernel
theorem dX1_reset_52 : decode cX1_reset 52 = .ok (.putfield 36, 3) := by decide +kernel
theorem dX1_reset_55 : decode cX1_reset 55 = .ok (.aload_n 0, 1) := by decide +kernel
theorem dX1_reset_56 : decode cX1_reset 56 = .ok (.iconst 0, 1) := by decide +kernel
theorem dX1_reset_57 : decode cX1_reset 57 = .ok (.putfield 39, 3) := by decide +kernel
theorem dX1_reset_60 : decode cX1_reset 60 = .ok (.aload_n 0, 1) := by decide +kernel
theorem dX1_reset_61 : decode cX1_reset 61 = .ok (.iconst 0, 1) := by decide +kernel
theorem dX1_reset_62 : decode cX1_reset 62 = .ok (.putfield 42, 3) := by decide +kernel
theorem dX1_reset_65 : decode cX1_reset 65 = .ok (.aload_n 0, 1) := by decide +kernel
theorem dX1_reset_66 : decode cX1_reset 66 = .ok (.iconst 0, 1) := by decide +kernel
theorem dX1_reset_67 : decode cX1_reset 67 = .ok (.putfield 45, 3) := by decide +kernel
theorem dX1_reset_70 : decode cX1_reset 70 = .ok (.aload_n 0, 1) := by decide +kernel
theorem dX1_reset_71 : decode cX1_reset 71 = .ok (.invokevirtual 48, 3) := by decide +kernel
theorem dX1_reset_74 : decode cX1_reset 74 = .ok (.return_, 1) := by decide +kernel
theorem dX1_copyFrom_0 : decode cX1_copyFrom 0 = .ok (.iconst 0, 1) := by decide +kernel
theorem dX1_copyFrom_1 : decode cX1_copyFrom 1 = .ok (.istore_n 2, 1) := by decide +kernel
theorem dX1_copyFrom_2 : decode cX1_copyFrom 2 = .ok (.iload_n 2, 1) := by decide +kernel
theorem dX1_copyFrom_3 : decode cX1_copyFrom 3 = .ok (.bipush 6, 2) := by decide +kernel
theorem dX1_copyFrom_5 : decode cX1_copyFrom 5 = .ok (.if_icmp .ge 24, 3) := by decide +kernel
theorem dX1_copyFrom_8 : decode cX1_copyFrom 8 = .ok (.aload_n 0, 1) := by decide +kernel
theorem dX1_copyFrom_9 : decode cX1_copyFrom 9 = .ok (.getfield 11, 3) := by decide +kernel
theorem dX1_copyFrom_12 : decode cX1_copyFrom 12 = .ok (.iload_n 2, 1) := by decide +kernel
theorem dX1_copyFrom_13 : decode cX1_copyFrom 13 = .ok (.aaload, 1) := by decide +kernel
theorem dX1_copyFrom_14 : decode cX1_copyFrom 14 = .ok (.aload_n 1, 1) := by decide +kernel
theorem dX1_copyFrom_15 : decode cX1_copyFrom 15 = .ok (.getfield 11, 3) := by decide +kernel
theorem dX1_copyFrom_18 : decode cX1_copyFrom 18 = .ok (.iload_n 2, 1) := by decide +kernel
theorem dX1_copyFrom_19 : decode cX1_copyFrom 19 = .ok (.aaload, 1) := by decide +kernel
theorem dX1_copyFrom_20 : decode cX1_copyFrom 20 = .ok (.invokevirtual 51, 3) := by decide +kernel
theorem dX1_copyFrom_23 : decode cX1_copyFrom 23 = .ok (.iinc 2 1, 3) := by decide +kernel
theorem dX1_copyFrom_26 : decode cX1_copyFrom 26 = .ok (.goto (-24), 3) := by decide +kernel
theorem dX1_copyFrom_29 : decode cX1_copyFrom 29 = .ok (.iconst 0, 1) := by decide +kernel
theorem dX1_copyFrom_30 : decode cX1_copyFrom 30 = .ok (.istore_n 2, 1) := by decide +kernel
theorem dX1_copyFrom_31 : decode cX1_copyFrom 31 = .ok (.iload_n 2, 1) := by decide +kernel
theorem dX1_copyFrom_32 : decode cX1_copyFrom 32 = .ok (.bipush 12, 2) := by decide +kernel
theorem dX1_copyFrom_34 : decode cX1_copyFrom 34 = .ok (.if_icmp .ge 21, 3) := by decide +kernel
theorem dX1_copyFrom_37 : decode cX1_copyFrom 37 = .ok (.aload_n 0, 1) := by decide +kernel
theorem dX1_copyFrom_38 : decode cX1_copyFrom 38 = .ok (.getfield 17, 3) := by decide +kernel
theorem dX1_copyFrom_41 : decode cX1_copyFrom 41 = .ok (.iload_n 2, 1) := by decide +kernel
theorem dX1_copyFrom_42 : decode cX1_copyFrom 42 = .ok (.aload_n 1, 1) := by decide +kernel
theorem dX1_copyFrom_43 : decode cX1_copyFrom 43 = .ok (.getfield 17, 3) := by decide +kernel
theorem dX1_copyFrom_46 : decode cX1_copyFrom 46 = .ok (.iload_n 2, 1) := by decide +kernel
theorem dX1_copyFrom_47 : decode cX1_copyFrom 47 = .ok (.baload, 1) := by decide +kernel
theorem dX1_copyFrom_48 : decode cX1_copyFrom 48 = .ok (.bastore, 1) := by decide +kernel
theorem dX1_copyFrom_49 : decode cX1_copyFrom 49 = .ok (.iinc 2 1, 3) := by decide +kernel
theorem dX1_copyFrom_52 : decode cX1_copyFrom 52 = .ok (.goto (-21), 3) := by decide +kernel
theorem dX1_copyFrom_55 : decode cX1_copyFrom 55 = .ok (.iconst 0, 1) := by decide +kernel
theorem dX1_copyFrom_56 : decode cX1_copyFrom 56 = .ok (.istore_n 2, 1) := by decide +kernel
theorem dX1_copyFrom_57 : decode cX1_copyFrom 57 = .ok (.iload_n 2, 1) := by decide +kernel
theorem dX1_copyFrom_58 : decode cX1_copyFrom 58 = .ok (.iconst 3, 1) := by decide +kernel
theorem dX1_copyFrom_59 : decode cX1_copyFrom 59 = .ok (.if_icmp .ge 21, 3) := by decide +kernel
theorem dX1_copyFrom_62 : decode cX1_copyFrom 62 = .ok (.aload_n 0, 1) := by decide +kernel
theorem dX1_copyFrom_63 : decode cX1_copyFrom 63 = .ok (.getfield 21, 3) := by decide +kernel
theorem dX1_copyFrom_66 : decode cX1_copyFrom 66 = .ok (.iload_n 2, 1) := by decide +kernel
theorem dX1_copyFrom_67 : decode cX1_copyFrom 67 = .ok (.aload_n 1, 1) := by decide +kernel
theorem dX1_copyFrom_68 : decode cX1_copyFrom 68 = .ok (.getfield 21, 3) := by decide +kernel
theorem dX1_copyFrom_71 : decode cX1_copyFrom 71 = .ok (.iload_n 2, 1) := by decide +kernel
theorem dX1_copyFrom_72 : decode cX1_copyFrom 72 = .ok (.iaload, 1) := by decide +kernel
theorem dX1_copyFrom_73 : decode cX1_copyFrom 73 = .ok (.iastore, 1) := by decide +kernel
theorem dX1_copyFrom_74 : decode cX1_copyFrom 74 = .ok (.iinc 2 1, 3) := by decide +kernel
theorem dX1_copyFrom_77 : decode cX1_copyFrom 77 = .ok (.goto (-20), 3) := by decide +kernel
theorem dX1_copyFrom_80 : decode cX1_copyFrom 80 = .ok (.aload_n 0, 1) := by decide +kernel
theorem dX1_copyFrom_81 : decode cX1_copyFrom 81 = .ok (.aload_n 1, 1) := by decide +kernel
theorem dX1_copyFrom_82 : decode cX1_copyFrom 82 = .ok (.getfield 32, 3) := by decide +kernel
theorem dX1_copyFrom_85 : decode cX1_copyFrom 85 = .ok (.putfield 32, 3) := by decide +kernel
theorem dX1_copyFrom_88 : decode cX1_copyFrom 88 = .ok (.aload_n 0, 1) := by decide +kernel
theorem dX1_copyFrom_89 : decode cX1_copyFrom 89 = .ok (.aload_n 1, 1) := by decide +kernel
theorem dX1_copyFrom_90 : decode cX1_copyFrom 90 = .ok (.getfield 36, 3) := by decide +kernel
theorem dX1_copyFrom_93 : decode cX1_copyFrom 93 = .ok (.putfield 36, 3) := by decide +kernel
theorem dX1_copyFrom_96 : decode cX1_copyFrom 96 = .ok (.aload_n 0, 1) := by decide +kernel
theorem dX1_copyFrom_97 : decode cX1_copyFrom 97 = .ok (.aload_n 1, 1) := by decide +kernel
theorem dX1_copyFrom_98 : decode cX1_copyFrom 98 = .ok (.getfield 39, 3) := by decide +kernel
theorem dX1_copyFrom_101 : decode cX1_copyFrom 101 = .ok (.putfield 39, 3) := by decide +kernel
theorem dX1_copyFrom_104 : decode cX1_copyFrom 104 = .ok (.aload_n 0, 1) := by decide +kernel
theorem dX1_copyFrom_105 : decode cX1_copyFrom 105 = .ok (.aload_n 1, 1) := by decide +kernel
theorem dX1_copyFrom_106 : decode cX1_copyFrom 106 = .ok (.getfield 55, 3) := by decide +kernel
theorem dX1_copyFrom_109 : decode cX1_copyFrom 109 = .ok (.putfield 55, 3) := by decide +kernel
theorem dX1_copyFrom_112 : decode cX1_copyFrom 112 = .ok (.aload_n 0, 1) := by decide +kernel
theorem dX1_copyFrom_113 : decode cX1_copyFrom 113 = .ok (.aload_n 1, 1) := by decide +kernel
theorem dX1_copyFrom_114 : decode cX1_copyFrom 114 = .ok (.getfield 58, 3) := by decide +kernel
theorem dX1_copyFrom_117 : decode cX1_copyFrom 117 = .ok (.putfield 58, 3) := by decide +kernel
theorem dX1_copyFrom_120 : decode cX1_copyFrom 120 = .ok (.aload_n 0, 1) := by decide +kernel
theorem dX1_copyFrom_121 : decode cX1_copyFrom 121 = .ok (.aload_n 1, 1) := by decide +kernel
theorem dX1_copyFrom_122 : decode cX1_copyFrom 122 = .ok (.getfield 61, 3) := by decide +kernel
theorem dX1_copyFrom_125 : decode cX1_copyFrom 125 = .ok (.putfield 61, 3) := by decide +kernel
theorem dX1_copyFrom_128 : decode cX1_copyFrom 128 = .ok (.aload_n 0, 1) := by decide +kernel
theorem dX1_copyFrom_129 : decode cX1_copyFrom 129 = .ok (.aload_n 1, 1) := by decide +kernel
theorem dX1_copyFrom_130 : decode cX1_copyFrom 130 = .ok (.getfield 42, 3) := by decide +kernel
theorem dX1_copyFrom_133 : decode cX1_copyFrom 133 = .ok (.putfield 42, 3) := by decide +kernel
theorem dX1_copyFrom_136 : decode cX1_copyFrom 136 = .ok (.aload_n 0, 1) := by decide +kernel
theorem dX1_copyFrom_137 : decode cX1_copyFrom 137 = .ok (.aload_n 1, 1) := by decide +kernel
theorem dX1_copyFrom_138 : decode cX1_copyFrom 138 = .ok (.getfield 45, 3) := by decide +kernel
theorem dX1_copyFrom_141 : decode cX1_copyFrom 141 = .ok (.putfield 45, 3) := by decide +kernel
theorem dX1_copyFrom_144 : decode cX1_copyFrom 144 = .ok (.return_, 1) := by decide +kernel
theorem dX1_hasTask_0 : decode cX1_hasTask 0 = .ok (.aload_n 0, 1) := by decide +kernel
theorem dX1_hasTask_1 : decode cX1_hasTask 1 = .ok (.iload_n 1, 1) := by decide +kernel
theorem dX1_hasTask_2 : decode cX1_hasTask 2 = .ok (.invokevirtual 64, 3) := by decide +kernel
theorem dX1_hasTask_5 : decode cX1_hasTask 5 = .ok (.ifnull 7, 3) := by decide +kernel
theorem dX1_hasTask_8 : decode cX1_hasTask 8 = .ok (.iconst 1, 1) := by decide +kernel
theorem dX1_hasTask_9 : decode cX1_hasTask 9 = .ok (.goto 4, 3) := by decide +kernel
theorem dX1_hasTask_12 : decode cX1_hasTask 12 = .ok (.iconst 0, 1) := by decide +kernel
theorem dX1_hasTask_13 : decode cX1_hasTask 13 = .ok (.ireturn, 1) := by decide +kernel
theorem dX1_taskNumbered_0 : decode cX1_taskNumbered 0 = .ok (.iload_n 1, 1) := by decide +kernel
theorem dX1_taskNumbered_1 : decode cX1_taskNumbered 1 = .ok (.ifCond .lt 26, 3) := by decide +kernel
theorem dX1_taskNumbered_4 : decode cX1_taskNumbered 4 = .ok (.iload_n 1, 1) := by decide +kernel
theorem dX1_taskNumbered_5 : decode cX1_taskNumbered 5 = .ok (.aload_n 0, 1) := by decide +kernel
theorem dX1_taskNumbered_6 : decode cX1_taskNumbered 6 = .ok (.getfield 32, 3) := by decide +kernel
theorem dX1_taskNumbered_9 : decode cX1_taskNumbered 9 = .ok (.if_icmp .ge 18, 3) := by decide +kernel
theorem dX1_taskNumbered_12 : decode cX1_taskNumbered 12 = .ok (.iload_n 1, 1) := by decide +kernel
theorem dX1_taskNumbered_13 : decode cX1_taskNumbered 13 = .ok (.bipush 6, 2) := by decide +kernel
theorem dX1_taskNumbered_15 : decode cX1_taskNumbered 15 = .ok (.if_icmp .ge 12, 3) := by decide +kernel
theorem dX1_taskNumbered_18 : decode cX1_taskNumbered 18 = .ok (.aload_n 0, 1) := by decide +kernel
theorem dX1_taskNumbered_19 : decode cX1_taskNumbered 19 = .ok (.getfield 11, 3) := by decide +kernel
theorem dX1_taskNumbered_22 : decode cX1_taskNumbered 22 = .ok (.iload_n 1, 1) := by decide +kernel
theorem dX1_taskNumbered_23 : decode cX1_taskNumbered 23 = .ok (.aaload, 1) := by decide +kernel
theorem dX1_taskNumbered_24 : decode cX1_taskNumbered 24 = .ok (.goto 4, 3) := by decide +kernel
theorem dX1_taskNumbered_27 : decode cX1_taskNumbered 27 = .ok (.aconst_null, 1) := by decide +kernel
theorem dX1_taskNumbered_28 : decode cX1_taskNumbered 28 = .ok (.areturn, 1) := by decide +kernel
theorem dX1_hasRoomForTask_0 : decode cX1_hasRoomForTask 0 = .ok (.aload_n 0, 1) := by decide +kernel
theorem dX1_hasRoomForTask_1 : decode cX1_hasRoomForTask 1 = .ok (.getfield 32, 3) := by decide +kernel
theorem dX1_hasRoomForTask_4 : decode cX1_hasRoomForTask 4 = .ok (.iconst 0, 1) := by decide +kernel
theorem dX1_hasRoomForTask_5 : decode cX1_hasRoomForTask 5 = .ok (.iconst 5, 1) := by decide +kernel
theorem dX1_hasRoomForTask_6 : decode cX1_hasRoomForTask 6 = .ok (.invokestatic 68, 3) := by decide +kernel
theorem dX1_hasRoomForTask_9 : decode cX1_hasRoomForTask 9 = .ok (.ireturn, 1) := by decide +kernel
theorem dX1_addTask_0 : decode cX1_addTask 0 = .ok (.aload_n 0, 1) := by decide +kernel
theorem dX1_addTask_1 : decode cX1_addTask 1 = .ok (.invokevirtual 72, 3) := by decide +kernel
theorem dX1_addTask_4 : decode cX1_addTask 4 = .ok (.ifCond .ne 5, 3) := by decide +kernel
theorem dX1_addTask_7 : decode cX1_addTask 7 = .ok (.iconst (-1), 1) := by decide +kernel
theorem dX1_addTask_8 : decode cX1_addTask 8 = .ok (.ireturn, 1) := by decide +kernel
theorem dX1_addTask_9 : decode cX1_addTask 9 = .ok (.aload_n 0, 1) := by decide +kernel
theorem dX1_addTask_10 : decode cX1_addTask 10 = .ok (.getfield 11, 3) := by decide +kernel
theorem dX1_addTask_13 : decode cX1_addTask 13 = .ok (.aload_n 0, 1) := by decide +kernel
theorem dX1_addTask_14 : decode cX1_addTask 14 = .ok (.getfield 32, 3) := by decide +kernel
theorem dX1_addTask_17 : decode cX1_addTask 17 = .ok (.aaload, 1) := by decide +kernel
theorem dX1_addTask_18 : decode cX1_addTask 18 = .ok (.iload_n 1, 1) := by decide +kernel
theorem dX1_addTask_19 : decode cX1_addTask 19 = .ok (.iload_n 2, 1) := by decide +kernel
theorem dX1_addTask_20 : decode cX1_addTask 20 = .ok (.invokevirtual 76, 3) := by decide +kernel
theorem dX1_addTask_23 : decode cX1_addTask 23 = .ok (.aload_n 0, 1) := by decide +kernel
theorem dX1_addTask_24 : decode cX1_addTask 24 = .ok (.dup, 1) := by decide +kernel
theorem dX1_addTask_25 : decode cX1_addTask 25 = .ok (.getfield 32, 3) := by decide +kernel
theorem dX1_addTask_28 : decode cX1_addTask 28 = .ok (.iconst 1, 1) := by decide +kernel
theorem dX1_addTask_29 : decode cX1_addTask 29 = .ok (.iadd, 1) := by decide +kernel
theorem dX1_addTask_30 : decode cX1_addTask 30 = .ok (.putfield 32, 3) := by decide +kernel
theorem dX1_addTask_33 : decode cX1_addTask 33 = .ok (.aload_n 0, 1) := by decide +kernel
theorem dX1_addTask_34 : decode cX1_addTask 34 = .ok (.getfield 32, 3) := by decide +kernel
theorem dX1_addTask_37 : decode cX1_addTask 37 = .ok (.iconst 1, 1) := by decide +kernel
theorem dX1_addTask_38 : decode cX1_addTask 38 = .ok (.isub, 1) := by decide +kernel
theorem dX1_addTask_39 : decode cX1_addTask 39 = .ok (.ireturn, 1) := by decide +kernel
theorem dX1_canStop_0 : decode cX1_canStop 0 = .ok (.aload_n 0, 1) := by decide +kernel
theorem dX1_canStop_1 : decode cX1_canStop 1 = .ok (.iload_n 1, 1) := by decide +kernel
theorem dX1_canStop_2 : decode cX1_canStop 2 = .ok (.invokevirtual 64, 3) := by decide +kernel
theorem dX1_canStop_5 : decode cX1_canStop 5 = .ok (.astore_n 2, 1) := by decide +kernel
theorem dX1_canStop_6 : decode cX1_canStop 6 = .ok (.aload_n 2, 1) := by decide +kernel
theorem dX1_canStop_7 : decode cX1_canStop 7 = .ok (.ifnull 23, 3) := by decide +kernel
theorem dX1_canStop_10 : decode cX1_canStop 10 = .ok (.aload_n 2, 1) := by decide +kernel
theorem dX1_canStop_11 : decode cX1_canStop 11 = .ok (.getfield 80, 3) := by decide +kernel
theorem dX1_canStop_14 : decode cX1_canStop 14 = .ok (.iconst 2, 1) := by decide +kernel
theorem dX1_canStop_15 : decode cX1_canStop 15 = .ok (.if_icmp .ne 15, 3) := by decide +kernel
theorem dX1_canStop_18 : decode cX1_canStop 18 = .ok (.iload_n 1, 1) := by decide +kernel
theorem dX1_canStop_19 : decode cX1_canStop 19 = .ok (.aload_n 0, 1) := by decide +kernel
theorem dX1_canStop_20 : decode cX1_canStop 20 = .ok (.getfield 55, 3) := by decide +kernel
theorem dX1_canStop_23 : decode cX1_canStop 23 = .ok (.if_icmp .eq 7, 3) := by decide +kernel
theorem dX1_canStop_26 : decode cX1_canStop 26 = .ok (.iconst 1, 1) := by decide +kernel
theorem dX1_canStop_27 : decode cX1_canStop 27 = .ok (.goto 4, 3) := by decide +kernel
theorem dX1_canStop_30 : decode cX1_canStop 30 = .ok (.iconst 0, 1) := by decide +kernel
theorem dX1_canStop_31 : decode cX1_canStop 31 = .ok (.ireturn, 1) := by decide +kernel
theorem dX1_stopTask_0 : decode cX1_stopTask 0 = .ok (.aload_n 0, 1) := by decide +kernel
theorem dX1_stopTask_1 : decode cX1_stopTask 1 = .ok (.iload_n 1, 1) := by decide +kernel
theorem dX1_stopTask_2 : decode cX1_stopTask 2 = .ok (.invokevirtual 64, 3) := by decide +kernel
theorem dX1_stopTask_5 : decode cX1_stopTask 5 = .ok (.astore_n 2, 1) := by decide +kernel
theorem dX1_stopTask_6 : decode cX1_stopTask 6 = .ok (.aload_n 2, 1) := by decide +kernel
theorem dX1_stopTask_7 : decode cX1_stopTask 7 = .ok (.ifnull 11, 3) := by decide +kernel
theorem dX1_stopTask_10 : decode cX1_stopTask 10 = .ok (.aload_n 0, 1) := by decide +kernel
theorem dX1_stopTask_11 : decode cX1_stopTask 11 = .ok (.iload_n 1, 1) := by decide +kernel
theorem dX1_stopTask_12 : decode cX1_stopTask 12 = .ok (.invokevirtual 83, 3) := by decide +kernel
theorem dX1_stopTask_15 : decode cX1_stopTask 15 = .ok (.ifCond .ne 5, 3) := by decide +kernel
theorem dX1_stopTask_18 : decode cX1_stopTask 18 = .ok (.iconst (-1), 1) := by decide +kernel
theorem dX1_stopTask_19 : decode cX1_stopTask 19 = .ok (.ireturn, 1) := by decide +kernel
theorem dX1_stopTask_20 : decode cX1_stopTask 20 = .ok (.aload_n 2, 1) := by decide +kernel
theorem dX1_stopTask_21 : decode cX1_stopTask 21 = .ok (.invokevirtual 87, 3) := by decide +kernel
theorem dX1_stopTask_24 : decode cX1_stopTask 24 = .ok (.aload_n 2, 1) := by decide +kernel
theorem dX1_stopTask_25 : decode cX1_stopTask 25 = .ok (.invokevirtual 90, 3) := by decide +kernel
theorem dX1_stopTask_28 : decode cX1_stopTask 28 = .ok (.aload_n 2, 1) := by decide +kernel
theorem dX1_stopTask_29 : decode cX1_stopTask 29 = .ok (.getfield 93, 3) := by decide +kernel
theorem dX1_stopTask_32 : decode cX1_stopTask 32 = .ok (.ireturn, 1) := by decide +kernel
theorem dX1_isTaskInStatus_0 : decode cX1_isTaskInStatus 0 = .ok (.aload_n 0, 1) := by decide +kernel
theorem dX1_isTaskInStatus_1 : decode cX1_isTaskInStatus 1 = .ok (.iload_n 1, 1) := by decide +kernel
theorem dX1_isTaskInStatus_2 : decode cX1_isTaskInStatus 2 = .ok (.invokevirtual 64, 3) := by decide +kernel
theorem dX1_isTaskInStatus_5 : decode cX1_isTaskInStatus 5 = .ok (.astore_n 3, 1) := by decide +kernel
theorem dX1_isTaskInStatus_6 : decode cX1_isTaskInStatus 6 = .ok (.aload_n 3, 1) := by decide +kernel
theorem dX1_isTaskInStatus_7 : decode cX1_isTaskInStatus 7 = .ok (.ifnull 15, 3) := by decide +kernel
theorem dX1_isTaskInStatus_10 : decode cX1_isTaskInStatus 10 = .ok (.aload_n 3, 1) := by decide +kernel
theorem dX1_isTaskInStatus_11 : decode cX1_isTaskInStatus 11 = .ok (.getfield 80, 3) := by decide +kernel
theorem dX1_isTaskInStatus_14 : decode cX1_isTaskInStatus 14 = .ok (.iload_n 2, 1) := by decide +kernel
theorem dX1_isTaskInStatus_15 : decode cX1_isTaskInStatus 15 = .ok (.if_icmp .ne 7, 3) := by decide +kernel
theorem dX1_isTaskInStatus_18 : decode cX1_isTaskInStatus 18 = .ok (.iconst 1, 1) := by decide +kernel
theorem dX1_isTaskInStatus_19 : decode cX1_isTaskInStatus 19 = .ok (.goto 4, 3) := by decide +kernel
theorem dX1_isTaskInStatus_22 : decode cX1_isTaskInStatus 22 = .ok (.iconst 0, 1) := by decide +kernel
theorem dX1_isTaskInStatus_23 : decode cX1_isTaskInStatus 23 = .ok (.ireturn, 1) := by decide +kernel
theorem dX1_isTaskAtValue_0 : decode cX1_isTaskAtValue 0 = .ok (.aload_n 0, 1) := by decide +kernel
theorem dX1_isTaskAtValue_1 : decode cX1_isTaskAtValue 1 = .ok (.iload_n 1, 1) := by decide +kernel
theorem dX1_isTaskAtValue_2 : decode cX1_isTaskAtValue 2 = .ok (.invokevirtual 64, 3) := by decide +kernel
theorem dX1_isTaskAtValue_5 : decode cX1_isTaskAtValue 5 = .ok (.astore_n 3, 1) := by decide +kernel
theorem dX1_isTaskAtValue_6 : decode cX1_isTaskAtValue 6 = .ok (.aload_n 3, 1) := by decide +kernel
theorem dX1_isTaskAtValue_7 : decode cX1_isTaskAtValue 7 = .ok (.ifnull 15, 3) := by decide +kernel
theorem dX1_isTaskAtValue_10 : decode cX1_isTaskAtValue 10 = .ok (.aload_n 3, 1) := by decide +kernel
theorem dX1_isTaskAtValue_11 : decode cX1_isTaskAtValue 11 = .ok (.getfield 93, 3) := by decide +kernel
theorem dX1_isTaskAtValue_14 : decode cX1_isTaskAtValue 14 = .ok (.iload_n 2, 1) := by decide +kernel
theorem dX1_isTaskAtValue_15 : decode cX1_isTaskAtValue 15 = .ok (.if_icmp .ne 7, 3) := by decide +kernel
theorem dX1_isTaskAtValue_18 : decode cX1_isTaskAtValue 18 = .ok (.iconst 1, 1) := by decide +kernel
theorem dX1_isTaskAtValue_19 : decode cX1_isTaskAtValue 19 = .ok (.goto 4, 3) := by decide +kernel
theorem dX1_isTaskAtValue_22 : decode cX1_isTaskAtValue 22 = .ok (.iconst 0, 1) := by decide +kernel
theorem dX1_isTaskAtValue_23 : decode cX1_isTaskAtValue 23 = .ok (.ireturn, 1) := by decide +kernel
theorem dX1_countRunning_0 : decode cX1_countRunning 0 = .ok (.iconst 0, 1) := by decide +kernel
theorem dX1_countRunning_1 : decode cX1_countRunning 1 = .ok (.istore_n 1, 1) := by decide +kernel
theorem dX1_countRunning_2 : decode cX1_countRunning 2 = .ok (.iconst 0, 1) := by decide +kernel
theorem dX1_countRunning_3 : decode cX1_countRunning 3 = .ok (.istore_n 2, 1) := by decide +kernel
theorem dX1_countRunning_4 : decode cX1_countRunning 4 = .ok (.iload_n 2, 1) := by decide +kernel
theorem dX1_countRunning_5 : decode cX1_countRunning 5 = .ok (.aload_n 0, 1) := by decide +kernel
theorem dX1_countRunning_6 : decode cX1_countRunning 6 = .ok (.getfield 32, 3) := by decide +kernel
theorem dX1_countRunning_9 : decode cX1_countRunning 9 = .ok (.if_icmp .ge 21, 3) := by decide +kernel
theorem dX1_countRunning_12 : decode cX1_countRunning 12 = .ok (.aload_n 0, 1) := by decide +kernel
theorem dX1_countRunning_13 : decode cX1_countRunning 13 = .ok (.iload_n 2, 1) := by decide +kernel
theorem dX1_countRunning_14 : decode cX1_countRunning 14 = .ok (.iconst 2, 1) := by decide +kernel
theorem dX1_countRunning_15 : decode cX1_countRunning 15 = .ok (.invokevirtual 96, 3) := by decide +kernel
theorem dX1_countRunning_18 : decode cX1_countRunning 18 = .ok (.ifCond .eq 6, 3) := by decide +kernel
theorem dX1_countRunning_21 : decode cX1_countRunning 21 = .ok (.iinc 1 1, 3) := by decide +kernel
theorem dX1_countRunning_24 : decode cX1_countRunning 24 = .ok (.iinc 2 1, 3) := by decide +kernel
theorem dX1_countRunning_27 : decode cX1_countRunning 27 = .ok (.goto (-23), 3) := by decide +kernel
theorem dX1_countRunning_30 : decode cX1_countRunning 30 = .ok (.iload_n 1, 1) := by decide +kernel
theorem dX1_countRunning_31 : decode cX1_countRunning 31 = .ok (.ireturn, 1) := by decide +kernel
theorem dX1_isBad_0 : decode cX1_isBad 0 = .ok (.iload_n 1, 1) := by decide +kernel
theorem dX1_isBad_1 : decode cX1_isBad 1 = .ok (.invokestatic 100, 3) := by decide +kernel
theorem dX1_isBad_4 : decode cX1_isBad 4 = .ok (.ifCond .eq 16, 3) := by decide +kernel
theorem dX1_isBad_7 : decode cX1_isBad 7 = .ok (.aload_n 0, 1) := by decide +kernel
theorem dX1_isBad_8 : decode cX1_isBad 8 = .ok (.getfield 17, 3) := by decide +kernel
theorem dX1_isBad_11 : decode cX1_isBad 11 = .ok (.iload_n 1, 1) := by decide +kernel
theorem dX1_isBad_12 : decode cX1_isBad 12 = .ok (.baload, 1) := by decide +kernel
theorem dX1_isBad_13 : decode cX1_isBad 13 = .ok (.ifCond .eq 7, 3) := by decide +kernel
theorem dX1_isBad_16 : decode cX1_isBad 16 = .ok (.iconst 1, 1) := by decide +kernel
theorem dX1_isBad_17 : decode cX1_isBad 17 = .ok (.goto 4, 3) := by decide +kernel
theorem dX1_isBad_20 : decode cX1_isBad 20 = .ok (.iconst 0, 1) := by decide +kernel
theorem dX1_isBad_21 : decode cX1_isBad 21 = .ok (.ireturn, 1) := by decide +kernel
theorem dX1_isGood_0 : decode cX1_isGood 0 = .ok (.iload_n 1, 1) := by decide +kernel
theorem dX1_isGood_1 : decode cX1_isGood 1 = .ok (.invokestatic 100, 3) := by decide +kernel
theorem dX1_isGood_4 : decode cX1_isGood 4 = .ok (.ifCond .eq 16, 3) := by decide +kernel
theorem dX1_isGood_7 : decode cX1_isGood 7 = .ok (.aload_n 0, 1) := by decide +kernel
theorem dX1_isGood_8 : decode cX1_isGood 8 = .ok (.getfield 17, 3) := by decide +kernel
theorem dX1_isGood_11 : decode cX1_isGood 11 = .ok (.iload_n 1, 1) := by decide +kernel
theorem dX1_isGood_12 : decode cX1_isGood 12 = .ok (.baload, 1) := by decide +kernel
theorem dX1_isGood_13 : decode cX1_isGood 13 = .ok (.ifCond .ne 7, 3) := by decide +kernel
theorem dX1_isGood_16 : decode cX1_isGood 16 = .ok (.iconst 1, 1) := by decide +kernel
theorem dX1_isGood_17 : decode cX1_isGood 17 = .ok (.goto 4, 3) := by decide +kernel
theorem dX1_isGood_20 : decode cX1_isGood 20 = .ok (.iconst 0, 1) := by decide +kernel
theorem dX1_isGood_21 : decode cX1_isGood 21 = .ok (.ireturn, 1) := by decide +kernel
theorem dX1_countBad_0 : decode cX1_countBad 0 = .ok (.iconst 0, 1) := by decide +kernel
theorem dX1_countBad_1 : decode cX1_countBad 1 = .ok (.istore_n 1, 1) := by decide +kernel
theorem dX1_countBad_2 : decode cX1_countBad 2 = .ok (.iconst 0, 1) := by decide +kernel
theorem dX1_countBad_3 : decode cX1_countBad 3 = .ok (.istore_n 2, 1) := by decide +kernel
theorem dX1_countBad_4 : decode cX1_countBad 4 = .ok (.iload_n 2, 1) := by decide +kernel
theorem dX1_countBad_5 : decode cX1_countBad 5 = .ok (.bipush 12, 2) := by decide +kernel
theorem dX1_countBad_7 : decode cX1_countBad 7 = .ok (.if_icmp .ge 21, 3) := by decide +kernel
theorem dX1_countBad_10 : decode cX1_countBad 10 = .ok (.aload_n 0, 1) := by decide +kernel
theorem dX1_countBad_11 : decode cX1_countBad 11 = .ok (.getfield 17, 3) := by decide +kernel
theorem dX1_countBad_14 : decode cX1_countBad 14 = .ok (.iload_n 2, 1) := by decide +kernel
theorem dX1_countBad_15 : decode cX1_countBad 15 = .ok (.baload, 1) := by decide +kernel
theorem dX1_countBad_16 : decode cX1_countBad 16 = .ok (.ifCond .eq 6, 3) := by decide +kernel
theorem dX1_countBad_19 : decode cX1_countBad 19 = .ok (.iinc 1 1, 3) := by decide +kernel
theorem dX1_countBad_22 : decode cX1_countBad 22 = .ok (.iinc 2 1, 3) := by decide +kernel
theorem dX1_countBad_25 : decode cX1_countBad 25 = .ok (.goto (-21), 3) := by decide +kernel
theorem dX1_countBad_28 : decode cX1_countBad 28 = .ok (.iload_n 1, 1) := by decide +kernel
theorem dX1_countBad_29 : decode cX1_countBad 29 = .ok (.ireturn, 1) := by decide +kernel
theorem dX1_takerOf_0 : decode cX1_takerOf 0 = .ok (.iconst 0, 1) := by decide +kernel
theorem dX1_takerOf_1 : decode cX1_takerOf 1 = .ok (.istore_n 2, 1) := by decide +kernel
theorem dX1_takerOf_2 : decode cX1_takerOf 2 = .ok (.iload_n 2, 1) := by decide +kernel
theorem dX1_takerOf_3 : decode cX1_takerOf 3 = .ok (.aload_n 0, 1) := by decide +kernel
theorem dX1_takerOf_4 : decode cX1_takerOf 4 = .ok (.getfield 32, 3) := by decide +kernel
theorem dX1_takerOf_7 : decode cX1_takerOf 7 = .ok (.if_icmp .ge 30, 3) := by decide +kernel
theorem dX1_takerOf_10 : decode cX1_takerOf 10 = .ok (.iload_n 2, 1) := by decide +kernel
theorem dX1_takerOf_11 : decode cX1_takerOf 11 = .ok (.bipush 6, 2) := by decide +kernel
theorem dX1_takerOf_13 : decode cX1_takerOf 13 = .ok (.if_icmp .ge 24, 3) := by decide +kernel
theorem dX1_takerOf_16 : decode cX1_takerOf 16 = .ok (.aload_n 0, 1) := by decide +kernel
theorem dX1_takerOf_17 : decode cX1_takerOf 17 = .ok (.getfield 11, 3) := by decide +kernel
theorem dX1_takerOf_20 : decode cX1_takerOf 20 = .ok (.iload_n 2, 1) := by decide +kernel
theorem dX1_takerOf_21 : decode cX1_takerOf 21 = .ok (.aaload, 1) := by decide +kernel
theorem dX1_takerOf_22 : decode cX1_takerOf 22 = .ok (.iload_n 1, 1) := by decide +kernel
theorem dX1_takerOf_23 : decode cX1_takerOf 23 = .ok (.invokevirtual 103, 3) := by decide +kernel
theorem dX1_takerOf_26 : decode cX1_takerOf 26 = .ok (.ifCond .eq 5, 3) := by decide +kernel
theorem dX1_takerOf_29 : decode cX1_takerOf 29 = .ok (.iload_n 2, 1) := by decide +kernel
theorem dX1_takerOf_30 : decode cX1_takerOf 30 = .ok (.ireturn, 1) := by decide +kernel
theorem dX1_takerOf_31 : decode cX1_takerOf 31 = .ok (.iinc 2 1, 3) := by decide +kernel
theorem dX1_takerOf_34 : decode cX1_takerOf 34 = .ok (.goto (-32), 3) := by decide +kernel
theorem dX1_takerOf_37 : decode cX1_takerOf 37 = .ok (.iconst (-1), 1) := by decide +kernel
theorem dX1_takerOf_38 : decode cX1_takerOf 38 = .ok (.ireturn, 1) := by decide +kernel
theorem dX1_moverTo_0 : decode cX1_moverTo 0 = .ok (.aload_n 0, 1) := by decide +kernel
theorem dX1_moverTo_1 : decode cX1_moverTo 1 = .ok (.invokevirtual 106, 3) := by decide +kernel
theorem dX1_moverTo_4 : decode cX1_moverTo 4 = .ok (.astore_n 2, 1) := by decide +kernel
theorem dX1_moverTo_5 : decode cX1_moverTo 5 = .ok (.aload_n 2, 1) := by decide +kernel
theorem dX1_moverTo_6 : decode cX1_moverTo 6 = .ok (.ifnull 11, 3) := by decide +kernel
theorem dX1_moverTo_9 : decode cX1_moverTo 9 = .ok (.aload_n 2, 1) := by decide +kernel
theorem dX1_moverTo_10 : decode cX1_moverTo 10 = .ok (.getfield 80, 3) := by decide +kernel
theorem dX1_moverTo_13 : decode cX1_moverTo 13 = .ok (.iconst 1, 1) := by decide +kernel
theorem dX1_moverTo_14 : decode cX1_moverTo 14 = .ok (.if_icmp .ne 5, 3) := by decide +kernel
theorem dX1_moverTo_17 : decode cX1_moverTo 17 = .ok (.iconst (-1), 1) := by decide +kernel
theorem dX1_moverTo_18 : decode cX1_moverTo 18 = .ok (.ireturn, 1) := by decide +kernel
theorem dX1_moverTo_19 : decode cX1_moverTo 19 = .ok (.iload_n 1, 1) := by decide +kernel
theorem dX1_moverTo_20 : decode cX1_moverTo 20 = .ok (.aload_n 0, 1) := by decide +kernel
theorem dX1_moverTo_21 : decode cX1_moverTo 21 = .ok (.getfield 58, 3) := by decide +kernel
theorem dX1_moverTo_24 : decode cX1_moverTo 24 = .ok (.if_icmp .lt 23, 3) := by decide +kernel
theorem dX1_moverTo_27 : decode cX1_moverTo 27 = .ok (.iload_n 1, 1) := by decide +kernel
theorem dX1_moverTo_28 : decode cX1_moverTo 28 = .ok (.aload_n 0, 1) := by decide +kernel
theorem dX1_moverTo_29 : decode cX1_moverTo 29 = .ok (.getfield 58, 3) := by decide +kernel
theorem dX1_moverTo_32 : decode cX1_moverTo 32 = .ok (.aload_n 2, 1) := by decide +kernel
theorem dX1_moverTo_33 : decode cX1_moverTo 33 = .ok (.getfield 110, 3) := by decide +kernel
theorem dX1_moverTo_36 : decode cX1_moverTo 36 = .ok (.iadd, 1) := by decide +kernel
theorem dX1_moverTo_37 : decode cX1_moverTo 37 = .ok (.if_icmp .ge 10, 3) := by decide +kernel
theorem dX1_moverTo_40 : decode cX1_moverTo 40 = .ok (.aload_n 0, 1) := by decide +kernel
theorem dX1_moverTo_41 : decode cX1_moverTo 41 = .ok (.getfield 55, 3) := by decide +kernel
theorem dX1_moverTo_44 : decode cX1_moverTo 44 = .ok (.goto 4, 3) := by decide +kernel
theorem dX1_moverTo_47 : decode cX1_moverTo 47 = .ok (.iconst (-1), 1) := by decide +kernel
theorem dX1_moverTo_48 : decode cX1_moverTo 48 = .ok (.ireturn, 1) := by decide +kernel
theorem dX1_isFree_0 : decode cX1_isFree 0 = .ok (.aload_n 0, 1) := by decide +kernel
theorem dX1_isFree_1 : decode cX1_isFree 1 = .ok (.iload_n 1, 1) := by decide +kernel
theorem dX1_isFree_2 : decode cX1_isFree 2 = .ok (.invokevirtual 113, 3) := by decide +kernel
theorem dX1_isFree_5 : decode cX1_isFree 5 = .ok (.ifCond .eq 25, 3) := by decide +kernel
theorem dX1_isFree_8 : decode cX1_isFree 8 = .ok (.aload_n 0, 1) := by decide +kernel
theorem dX1_isFree_9 : decode cX1_isFree 9 = .ok (.iload_n 1, 1) := by decide +kernel
theorem dX1_isFree_10 : decode cX1_isFree 10 = .ok (.invokevirtual 116, 3) := by decide +kernel
theorem dX1_isFree_13 : decode cX1_isFree 13 = .ok (.iconst (-1), 1) := by decide +kernel
theorem dX1_isFree_14 : decode cX1_isFree 14 = .ok (.if_icmp .ne 16, 3) := by decide +kernel
theorem dX1_isFree_17 : decode cX1_isFree 17 = .ok (.aload_n 0, 1) := by decide +kernel
theorem dX1_isFree_18 : decode cX1_isFree 18 = .ok (.iload_n 1, 1) := by decide +kernel
theorem dX1_isFree_19 : decode cX1_isFree 19 = .ok (.invokevirtual 120, 3) := by decide +kernel
theorem dX1_isFree_22 : decode cX1_isFree 22 = .ok (.iconst (-1), 1) := by decide +kernel
theorem dX1_isFree_23 : decode cX1_isFree 23 = .ok (.if_icmp .ne 7, 3) := by decide +kernel
theorem dX1_isFree_26 : decode cX1_isFree 26 = .ok (.iconst 1, 1) := by decide +kernel
theorem dX1_isFree_27 : decode cX1_isFree 27 = .ok (.goto 4, 3) := by decide +kernel
theorem dX1_isFree_30 : decode cX1_isFree 30 = .ok (.iconst 0, 1) := by decide +kernel
theorem dX1_isFree_31 : decode cX1_isFree 31 = .ok (.ireturn, 1) := by decide +kernel
theorem dX1_countFree_0 : decode cX1_countFree 0 = .ok (.iconst 0, 1) := by decide +kernel
theorem dX1_countFree_1 : decode cX1_countFree 1 = .ok (.istore_n 1, 1) := by decide +kernel
theorem dX1_countFree_2 : decode cX1_countFree 2 = .ok (.iconst 0, 1) := by decide +kernel
theorem dX1_countFree_3 : decode cX1_countFree 3 = .ok (.istore_n 2, 1) := by decide +kernel
theorem dX1_countFree_4 : decode cX1_countFree 4 = .ok (.iload_n 2, 1) := by decide +kernel
theorem dX1_countFree_5 : decode cX1_countFree 5 = .ok (.bipush 12, 2) := by decide +kernel
theorem dX1_countFree_7 : decode cX1_countFree 7 = .ok (.if_icmp .ge 20, 3) := by decide +kernel
theorem dX1_countFree_10 : decode cX1_countFree 10 = .ok (.aload_n 0, 1) := by decide +kernel
theorem dX1_countFree_11 : decode cX1_countFree 11 = .ok (.iload_n 2, 1) := by decide +kernel
theorem dX1_countFree_12 : decode cX1_countFree 12 = .ok (.invokevirtual 123, 3) := by decide +kernel
theorem dX1_countFree_15 : decode cX1_countFree 15 = .ok (.ifCond .eq 6, 3) := by decide +kernel
theorem dX1_countFree_18 : decode cX1_countFree 18 = .ok (.iinc 1 1, 3) := by decide +kernel
theorem dX1_countFree_21 : decode cX1_countFree 21 = .ok (.iinc 2 1, 3) := by decide +kernel
theorem dX1_countFree_24 : decode cX1_countFree 24 = .ok (.goto (-20), 3) := by decide +kernel
theorem dX1_countFree_27 : decode cX1_countFree 27 = .ok (.iload_n 1, 1) := by decide +kernel
theorem dX1_countFree_28 : decode cX1_countFree 28 = .ok (.ireturn, 1) := by decide +kernel
theorem dX1_freeRowFrom_0 : decode cX1_freeRowFrom 0 = .ok (.iconst 0, 1) := by decide +kernel
theorem dX1_freeRowFrom_1 : decode cX1_freeRowFrom 1 = .ok (.istore_n 2, 1) := by decide +kernel
theorem dX1_freeRowFrom_2 : decode cX1_freeRowFrom 2 = .ok (.iload_n 2, 1) := by decide +kernel
theorem dX1_freeRowFrom_3 : decode cX1_freeRowFrom 3 = .ok (.bipush 12, 2) := by decide +kernel
theorem dX1_freeRowFrom_5 : decode cX1_freeRowFrom 5 = .ok (.if_icmp .ge 19, 3) := by decide +kernel
theorem dX1_freeRowFrom_8 : decode cX1_freeRowFrom 8 = .ok (.aload_n 0, 1) := by decide +kernel
theorem dX1_freeRowFrom_9 : decode cX1_freeRowFrom 9 = .ok (.iload_n 1, 1) := by decide +kernel
theorem dX1_freeRowFrom_10 : decode cX1_freeRowFrom 10 = .ok (.iload_n 2, 1) := by decide +kernel
theorem dX1_freeRowFrom_11 : decode cX1_freeRowFrom 11 = .ok (.iadd, 1) := by decide +kernel
theorem dX1_freeRowFrom_12 : decode cX1_freeRowFrom 12 = .ok (.invokevirtual 123, 3) := by decide +kernel
theorem dX1_freeRowFrom_15 : decode cX1_freeRowFrom 15 = .ok (.ifCond .eq 9, 3) := by decide +kernel
theorem dX1_freeRowFrom_18 : decode cX1_freeRowFrom 18 = .ok (.iinc 2 1, 3) := by decide +kernel
theorem dX1_freeRowFrom_21 : decode cX1_freeRowFrom 21 = .ok (.goto (-19), 3) := by decide +kernel
theorem dX1_freeRowFrom_24 : decode cX1_freeRowFrom 24 = .ok (.iload_n 2, 1) := by decide +kernel
theorem dX1_freeRowFrom_25 : decode cX1_freeRowFrom 25 = .ok (.ireturn, 1) := by decide +kernel
theorem dX1_longestFreeRow_0 : decode cX1_longestFreeRow 0 = .ok (.iconst 0, 1) := by decide +kernel
theorem dX1_longestFreeRow_1 : decode cX1_longestFreeRow 1 = .ok (.istore_n 1, 1) := by decide +kernel
theorem dX1_longestFreeRow_2 : decode cX1_longestFreeRow 2 = .ok (.iconst 0, 1) := by decide +kernel
theorem dX1_longestFreeRow_3 : decode cX1_longestFreeRow 3 = .ok (.istore_n 2, 1) := by decide +kernel
theorem dX1_longestFreeRow_4 : decode cX1_longestFreeRow 4 = .ok (.iload_n 2, 1) := by decide +kernel
theorem dX1_longestFreeRow_5 : decode cX1_longestFreeRow 5 = .ok (.bipush 12, 2) := by decide +kernel
theorem dX1_longestFreeRow_7 : decode cX1_longestFreeRow 7 = .ok (.if_icmp .ge 19, 3) := by decide +kernel
theorem dX1_longestFreeRow_10 : decode cX1_longestFreeRow 10 = .ok (.iload_n 1, 1) := by decide +kernel
theorem dX1_longestFreeRow_11 : decode cX1_longestFreeRow 11 = .ok (.aload_n 0, 1) := by decide +kernel
theorem dX1_longestFreeRow_12 : decode cX1_longestFreeRow 12 = .ok (.iload_n 2, 1) := by decide +kernel
theorem dX1_longestFreeRow_13 : decode cX1_longestFreeRow 13 = .ok (.invokevirtual 126, 3) := by decide +kernel
theorem dX1_longestFreeRow_16 : decode cX1_longestFreeRow 16 = .ok (.invokestatic 129, 3) := by decide +kernel
theorem dX1_longestFreeRow_19 : decode cX1_longestFreeRow 19 = .ok (.istore_n 1, 1) := by decide +kernel
theorem dX1_longestFreeRow_20 : decode cX1_longestFreeRow 20 = .ok (.iinc 2 1, 3) := by decide +kernel
theorem dX1_longestFreeRow_23 : decode cX1_longestFreeRow 23 = .ok (.goto (-19), 3) := by decide +kernel
theorem dX1_longestFreeRow_26 : decode cX1_longestFreeRow 26 = .ok (.iload_n 1, 1) := by decide +kernel
theorem dX1_longestFreeRow_27 : decode cX1_longestFreeRow 27 = .ok (.ireturn, 1) := by decide +kernel
theorem dX1_shortestGap_0 : decode cX1_shortestGap 0 = .ok (.iconst (-1), 1) := by decide +kernel
theorem dX1_shortestGap_1 : decode cX1_shortestGap 1 = .ok (.istore_n 2, 1) := by decide +kernel
theorem dX1_shortestGap_2 : decode cX1_shortestGap 2 = .ok (.bipush 13, 2) := by decide +kernel
theorem dX1_shortestGap_4 : decode cX1_shortestGap 4 = .ok (.istore_n 3, 1) := by decide +kernel
theorem dX1_shortestGap_5 : decode cX1_shortestGap 5 = .ok (.iconst 0, 1) := by decide +kernel
theorem dX1_shortestGap_6 : decode cX1_shortestGap 6 = .ok (.istore 4, 2) := by decide +kernel
theorem dX1_shortestGap_8 : decode cX1_shortestGap 8 = .ok (.iload 4, 2) := by decide +kernel
theorem dX1_shortestGap_10 : decode cX1_shortestGap 10 = .ok (.bipush 12, 2) := by decide +kernel
theorem dX1_shortestGap_12 : decode cX1_shortestGap 12 = .ok (.if_icmp .ge 50, 3) := by decide +kernel
theorem dX1_shortestGap_15 : decode cX1_shortestGap 15 = .ok (.aload_n 0, 1) := by decide +kernel
theorem dX1_shortestGap_16 : decode cX1_shortestGap 16 = .ok (.iload 4, 2) := by decide +kernel
theorem dX1_shortestGap_18 : decode cX1_shortestGap 18 = .ok (.iconst 1, 1) := by decide +kernel
theorem dX1_shortestGap_19 : decode cX1_shortestGap 19 = .ok (.isub, 1) := by decide +kernel
theorem dX1_shortestGap_20 : decode cX1_shortestGap 20 = .ok (.invokevirtual 123, 3) := by decide +kernel
theorem dX1_shortestGap_23 : decode cX1_shortestGap 23 = .ok (.ifCond .eq 7, 3) := by decide +kernel
theorem dX1_shortestGap_26 : decode cX1_shortestGap 26 = .ok (.iconst 0, 1) := by decide +kernel
theorem dX1_shortestGap_27 : decode cX1_shortestGap 27 = .ok (.goto 9, 3) := by decide +kernel
theorem dX1_shortestGap_30 : decode cX1_shortestGap 30 = .ok (.aload_n 0, 1) := by decide +kernel
theorem dX1_shortestGap_31 : decode cX1_shortestGap 31 = .ok (.iload 4, 2) := by decide +kernel
theorem dX1_shortestGap_33 : decode cX1_shortestGap 33 = .ok (.invokevirtual 126, 3) := by decide +kernel
theorem dX1_shortestGap_36 : decode cX1_shortestGap 36 = .ok (.istore 5, 2) := by decide +kernel
theorem dX1_shortestGap_38 : decode cX1_shortestGap 38 = .ok (.iload 5, 2) := by decide +kernel
theorem dX1_shortestGap_40 : decode cX1_shortestGap 40 = .ok (.iload_n 1, 1) := by decide +kernel
theorem dX1_shortestGap_41 : decode cX1_shortestGap 41 = .ok (.if_icmp .lt 15, 3) := by decide +kernel
theorem dX1_shortestGap_44 : decode cX1_shortestGap 44 = .ok (.iload 5, 2) := by decide +kernel
theorem dX1_shortestGap_46 : decode cX1_shortestGap 46 = .ok (.iload_n 3, 1) := by decide +kernel
theorem dX1_shortestGap_47 : decode cX1_shortestGap 47 = .ok (.if_icmp .ge 9, 3) := by decide +kernel
theorem dX1_shortestGap_50 : decode cX1_shortestGap 50 = .ok (.iload 4, 2) := by decide +kernel
theorem dX1_shortestGap_52 : decode cX1_shortestGap 52 = .ok (.istore_n 2, 1) := by decide +kernel
theorem dX1_shortestGap_53 : decode cX1_shortestGap 53 = .ok (.iload 5, 2) := by decide +kernel
theorem dX1_shortestGap_55 : decode cX1_shortestGap 55 = .ok (.istore_n 3, 1) := by decide +kernel
theorem dX1_shortestGap_56 : decode cX1_shortestGap 56 = .ok (.iinc 4 1, 3) := by decide +kernel
theorem dX1_shortestGap_59 : decode cX1_shortestGap 59 = .ok (.goto (-51), 3) := by decide +kernel
theorem dX1_shortestGap_62 : decode cX1_shortestGap 62 = .ok (.iload_n 2, 1) := by decide +kernel
theorem dX1_shortestGap_63 : decode cX1_shortestGap 63 = .ok (.ireturn, 1) := by decide +kernel
theorem dX1_easiestWindow_0 : decode cX1_easiestWindow 0 = .ok (.iconst (-1), 1) := by decide +kernel
theorem dX1_easiestWindow_1 : decode cX1_easiestWindow 1 = .ok (.istore_n 2, 1) := by decide +kernel
theorem dX1_easiestWindow_2 : decode cX1_easiestWindow 2 = .ok (.iconst 0, 1) := by decide +kernel
theorem dX1_easiestWindow_3 : decode cX1_easiestWindow 3 = .ok (.istore_n 3, 1) := by decide +kernel
theorem dX1_easiestWindow_4 : decode cX1_easiestWindow 4 = .ok (.iconst 0, 1) := by decide +kernel
theorem dX1_easiestWindow_5 : decode cX1_easiestWindow 5 = .ok (.istore 4, 2) := by decide +kernel
theorem dX1_easiestWindow_7 : decode cX1_easiestWindow 7 = .ok (.iload 4, 2) := by decide +kernel
theorem dX1_easiestWindow_9 : decode cX1_easiestWindow 9 = .ok (.iload_n 1, 1) := by decide +kernel
theorem dX1_easiestWindow_10 : decode cX1_easiestWindow 10 = .ok (.iadd, 1) := by decide +kernel
theorem dX1_easiestWindow_11 : decode cX1_easiestWindow 11 = .ok (.bipush 12, 2) := by decide +kernel
theorem dX1_easiestWindow_13 : decode cX1_easiestWindow 13 = .ok (.if_icmp .gt 45, 3) := by decide +kernel
theorem dX1_easiestWindow_16 : decode cX1_easiestWindow 16 = .ok (.aload_n 0, 1) := by decide +kernel
theorem dX1_easiestWindow_17 : decode cX1_easiestWindow 17 = .ok (.iload 4, 2) := by decide +kernel
theorem dX1_easiestWindow_19 : decode cX1_easiestWindow 19 = .ok (.iload_n 1, 1) := by decide +kernel
theorem dX1_easiestWindow_20 : decode cX1_easiestWindow 20 = .ok (.invokevirtual 135, 3) := by decide +kernel
theorem dX1_easiestWindow_23 : decode cX1_easiestWindow 23 = .ok (.ifCond .eq 29, 3) := by decide +kernel
theorem dX1_easiestWindow_26 : decode cX1_easiestWindow 26 = .ok (.aload_n 0, 1) := by decide +kernel
theorem dX1_easiestWindow_27 : decode cX1_easiestWindow 27 = .ok (.iload 4, 2) := by decide +kernel
theorem dX1_easiestWindow_29 : decode cX1_easiestWindow 29 = .ok (.iload_n 1, 1) := by decide +kernel
theorem dX1_easiestWindow_30 : decode cX1_easiestWindow 30 = .ok (.invokevirtual 138, 3) := by decide +kernel
theorem dX1_easiestWindow_33 : decode cX1_easiestWindow 33 = .ok (.istore 5, 2) := by decide +kernel
theorem dX1_easiestWindow_35 : decode cX1_easiestWindow 35 = .ok (.iload_n 2, 1) := by decide +kernel
theorem dX1_easiestWindow_36 : decode cX1_easiestWindow 36 = .ok (.iconst (-1), 1) := by decide +kernel
theorem dX1_easiestWindow_37 : decode cX1_easiestWindow 37 = .ok (.if_icmp .eq 9, 3) := by decide +kernel
theorem dX1_easiestWindow_40 : decode cX1_easiestWindow 40 = .ok (.iload 5, 2) := by decide +kernel
theorem dX1_easiestWindow_42 : decode cX1_easiestWindow 42 = .ok (.iload_n 3, 1) := by decide +kernel
theorem dX1_easiestWindow_43 : decode cX1_easiestWindow 43 = .ok (.if_icmp .ge 9, 3) := by decide +kernel
theorem dX1_easiestWindow_46 : decode cX1_easiestWindow 46 = .ok (.iload 4, 2) := by decide +kernel
theorem dX1_easiestWindow_48 : decode cX1_easiestWindow 48 = .ok (.istore_n 2, 1) := by decide +kernel
theorem dX1_easiestWindow_49 : decode cX1_easiestWindow 49 = .ok (.iload 5, 2) := by decide +kernel
theorem dX1_easiestWindow_51 : decode cX1_easiestWindow 51 = .ok (.istore_n 3, 1) := by decide +kernel
theorem dX1_easiestWindow_52 : decode cX1_easiestWindow 52 = .ok (.iinc 4 1, 3) := by decide +kernel
theorem dX1_easiestWindow_55 : decode cX1_easiestWindow 55 = .ok (.goto (-48), 3) := by decide +kernel
theorem dX1_easiestWindow_58 : decode cX1_easiestWindow 58 = .ok (.iload_n 2, 1) := by decide +kernel
theorem dX1_easiestWindow_59 : decode cX1_easiestWindow 59 = .ok (.ireturn, 1) := by decide +kernel
theorem dX1_canBeMadeFree_0 : decode cX1_canBeMadeFree 0 = .ok (.iload_n 1, 1) := by decide +kernel
theorem dX1_canBeMadeFree_1 : decode cX1_canBeMadeFree 1 = .ok (.istore_n 3, 1) := by decide +kernel
theorem dX1_canBeMadeFree_2 : decode cX1_canBeMadeFree 2 = .ok (.iload_n 3, 1) := by decide +kernel
theorem dX1_canBeMadeFree_3 : decode cX1_canBeMadeFree 3 = .ok (.iload_n 1, 1) := by decide +kernel
theorem dX1_canBeMadeFree_4 : decode cX1_canBeMadeFree 4 = .ok (.iload_n 2, 1) := by decide +kernel
theorem dX1_canBeMadeFree_5 : decode cX1_canBeMadeFree 5 = .ok (.iadd, 1) := by decide +kernel
theorem dX1_canBeMadeFree_6 : decode cX1_canBeMadeFree 6 = .ok (.if_icmp .ge 28, 3) := by decide +kernel
theorem dX1_canBeMadeFree_9 : decode cX1_canBeMadeFree 9 = .ok (.aload_n 0, 1) := by decide +kernel
theorem dX1_canBeMadeFree_10 : decode cX1_canBeMadeFree 10 = .ok (.iload_n 3, 1) := by decide +kernel
theorem dX1_canBeMadeFree_11 : decode cX1_canBeMadeFree 11 = .ok (.invokevirtual 113, 3) := by decide +kernel
theorem dX1_canBeMadeFree_14 : decode cX1_canBeMadeFree 14 = .ok (.ifCond .eq 12, 3) := by decide +kernel
theorem dX1_canBeMadeFree_17 : decode cX1_canBeMadeFree 17 = .ok (.aload_n 0, 1) := by decide +kernel
theorem dX1_canBeMadeFree_18 : decode cX1_canBeMadeFree 18 = .ok (.iload_n 3, 1) := by decide +kernel
theorem dX1_canBeMadeFree_19 : decode cX1_canBeMadeFree 19 = .ok (.invokevirtual 120, 3) := by decide +kernel
theorem dX1_canBeMadeFree_22 : decode cX1_canBeMadeFree 22 = .ok (.iconst (-1), 1) := by decide +kernel
theorem dX1_canBeMadeFree_23 : decode cX1_canBeMadeFree 23 = .ok (.if_icmp .eq 5, 3) := by decide +kernel
theorem dX1_canBeMadeFree_26 : decode cX1_canBeMadeFree 26 = .ok (.iconst 0, 1) := by decide +kernel
theorem dX1_canBeMadeFree_27 : decode cX1_canBeMadeFree 27 = .ok (.ireturn, 1) := by decide +kernel
theorem dX1_canBeMadeFree_28 : decode cX1_canBeMadeFree 28 = .ok (.iinc 3 1, 3) := by decide +kernel
theorem dX1_canBeMadeFree_31 : decode cX1_canBeMadeFree 31 = .ok (.goto (-29), 3) := by decide +kernel
theorem dX1_canBeMadeFree_34 : decode cX1_canBeMadeFree 34 = .ok (.iconst 1, 1) := by decide +kernel
theorem dX1_canBeMadeFree_35 : decode cX1_canBeMadeFree 35 = .ok (.ireturn, 1) := by decide +kernel
theorem dX1_widthInTheWay_0 : decode cX1_widthInTheWay 0 = .ok (.iconst 0, 1) := by decide +kernel
theorem dX1_widthInTheWay_1 : decode cX1_widthInTheWay 1 = .ok (.istore_n 3, 1) := by decide +kernel
theorem dX1_widthInTheWay_2 : decode cX1_widthInTheWay 2 = .ok (.iconst 0, 1) := by decide +kernel
theorem dX1_widthInTheWay_3 : decode cX1_widthInTheWay 3 = .ok (.istore 4, 2) := by decide +kernel
theorem dX1_widthInTheWay_5 : decode cX1_widthInTheWay 5 = .ok (.iload 4, 2) := by decide +kernel
theorem dX1_widthInTheWay_7 : decode cX1_widthInTheWay 7 = .ok (.aload_n 0, 1) := by decide +kernel
theorem dX1_widthInTheWay_8 : decode cX1_widthInTheWay 8 = .ok (.getfield 32, 3) := by decide +kernel
theorem dX1_widthInTheWay_11 : decode cX1_widthInTheWay 11 = .ok (.if_icmp .ge 44, 3) := by decide +kernel
theorem dX1_widthInTheWay_14 : decode cX1_widthInTheWay 14 = .ok (.iload 4, 2) := by decide +kernel
theorem dX1_widthInTheWay_16 : decode cX1_widthInTheWay 16 = .ok (.bipush 6, 2) := by decide +kernel
theorem dX1_widthInTheWay_18 : decode cX1_widthInTheWay 18 = .ok (.if_icmp .ge 37, 3) := by decide +kernel
theorem dX1_widthInTheWay_21 : decode cX1_widthInTheWay 21 = .ok (.aload_n 0, 1) := by decide +kernel
theorem dX1_widthInTheWay_22 : decode cX1_widthInTheWay 22 = .ok (.getfield 11, 3) := by decide +kernel
theorem dX1_widthInTheWay_25 : decode cX1_widthInTheWay 25 = .ok (.iload 4, 2) := by decide +kernel
theorem dX1_widthInTheWay_27 : decode cX1_widthInTheWay 27 = .ok (.aaload, 1) := by decide +kernel
theorem dX1_widthInTheWay_28 : decode cX1_widthInTheWay 28 = .ok (.iload_n 1, 1) := by decide +kernel
theorem dX1_widthInTheWay_29 : decode cX1_widthInTheWay 29 = .ok (.iload_n 2, 1) := by decide +kernel
theorem dX1_widthInTheWay_30 : decode cX1_widthInTheWay 30 = .ok (.invokevirtual 141, 3) := by decide +kernel
theorem dX1_widthInTheWay_33 : decode cX1_widthInTheWay 33 = .ok (.ifCond .eq 16, 3) := by decide +kernel
theorem dX1_widthInTheWay_36 : decode cX1_widthInTheWay 36 = .ok (.iload_n 3, 1) := by decide +kernel
theorem dX1_widthInTheWay_37 : decode cX1_widthInTheWay 37 = .ok (.aload_n 0, 1) := by decide +kernel
theorem dX1_widthInTheWay_38 : decode cX1_widthInTheWay 38 = .ok (.getfield 11, 3) := by decide +kernel
theorem dX1_widthInTheWay_41 : decode cX1_widthInTheWay 41 = .ok (.iload 4, 2) := by decide +kernel
theorem dX1_widthInTheWay_43 : decode cX1_widthInTheWay 43 = .ok (.aaload, 1) := by decide +kernel
theorem dX1_widthInTheWay_44 : decode cX1_widthInTheWay 44 = .ok (.getfield 110, 3) := by decide +kernel
theorem dX1_widthInTheWay_47 : decode cX1_widthInTheWay 47 = .ok (.iadd, 1) := by decide +kernel
theorem dX1_widthInTheWay_48 : decode cX1_widthInTheWay 48 = .ok (.istore_n 3, 1) := by decide +kernel
theorem dX1_widthInTheWay_49 : decode cX1_widthInTheWay 49 = .ok (.iinc 4 1, 3) := by decide +kernel
theorem dX1_widthInTheWay_52 : decode cX1_widthInTheWay 52 = .ok (.goto (-47), 3) := by decide +kernel
theorem dX1_widthInTheWay_55 : decode cX1_widthInTheWay 55 = .ok (.iload_n 3, 1) := by decide +kernel
theorem dX1_widthInTheWay_56 : decode cX1_widthInTheWay 56 = .ok (.ireturn, 1) := by decide +kernel
theorem dX1_victimOf_0 : decode cX1_victimOf 0 = .ok (.aload_n 0, 1) := by decide +kernel
theorem dX1_victimOf_1 : decode cX1_victimOf 1 = .ok (.iload_n 1, 1) := by decide +kernel
theorem dX1_victimOf_2 : decode cX1_victimOf 2 = .ok (.invokevirtual 120, 3) := by decide +kernel
theorem dX1_victimOf_5 : decode cX1_victimOf 5 = .ok (.istore_n 2, 1) := by decide +kernel
theorem dX1_victimOf_6 : decode cX1_victimOf 6 = .ok (.aload_n 0, 1) := by decide +kernel
theorem dX1_victimOf_7 : decode cX1_victimOf 7 = .ok (.iload_n 2, 1) := by decide +kernel
theorem dX1_victimOf_8 : decode cX1_victimOf 8 = .ok (.iconst 3, 1) := by decide +kernel
theorem dX1_victimOf_9 : decode cX1_victimOf 9 = .ok (.invokevirtual 96, 3) := by decide +kernel
theorem dX1_victimOf_12 : decode cX1_victimOf 12 = .ok (.ifCond .eq 7, 3) := by decide +kernel
theorem dX1_victimOf_15 : decode cX1_victimOf 15 = .ok (.iload_n 2, 1) := by decide +kernel
theorem dX1_victimOf_16 : decode cX1_victimOf 16 = .ok (.goto 8, 3) := by decide +kernel
theorem dX1_victimOf_19 : decode cX1_victimOf 19 = .ok (.aload_n 0, 1) := by decide +kernel
theorem dX1_victimOf_20 : decode cX1_victimOf 20 = .ok (.iload_n 1, 1) := by decide +kernel
theorem dX1_victimOf_21 : decode cX1_victimOf 21 = .ok (.invokevirtual 116, 3) := by decide +kernel
theorem dX1_victimOf_24 : decode cX1_victimOf 24 = .ok (.ireturn, 1) := by decide +kernel
theorem dX1_makeBad_0 : decode cX1_makeBad 0 = .ok (.iload_n 1, 1) := by decide +kernel
theorem dX1_makeBad_1 : decode cX1_makeBad 1 = .ok (.invokestatic 100, 3) := by decide +kernel
theorem dX1_makeBad_4 : decode cX1_makeBad 4 = .ok (.ifCond .ne 5, 3) := by decide +kernel
theorem dX1_makeBad_7 : decode cX1_makeBad 7 = .ok (.iconst (-1), 1) := by decide +kernel
theorem dX1_makeBad_8 : decode cX1_makeBad 8 = .ok (.ireturn, 1) := by decide +kernel
theorem dX1_makeBad_9 : decode cX1_makeBad 9 = .ok (.aload_n 0, 1) := by decide +kernel
theorem dX1_makeBad_10 : decode cX1_makeBad 10 = .ok (.iload_n 1, 1) := by decide +kernel
theorem dX1_makeBad_11 : decode cX1_makeBad 11 = .ok (.invokevirtual 144, 3) := by decide +kernel
theorem dX1_makeBad_14 : decode cX1_makeBad 14 = .ok (.istore_n 2, 1) := by decide +kernel
theorem dX1_makeBad_15 : decode cX1_makeBad 15 = .ok (.aload_n 0, 1) := by decide +kernel
theorem dX1_makeBad_16 : decode cX1_makeBad 16 = .ok (.invokevirtual 147, 3) := by decide +kernel
theorem dX1_makeBad_19 : decode cX1_makeBad 19 = .ok (.ifCond .ne 37, 3) := by decide +kernel
theorem dX1_makeBad_22 : decode cX1_makeBad 22 = .ok (.iload_n 2, 1) := by decide +kernel
theorem dX1_makeBad_23 : decode cX1_makeBad 23 = .ok (.aload_n 0, 1) := by decide +kernel
theorem dX1_makeBad_24 : decode cX1_makeBad 24 = .ok (.getfield 55, 3) := by decide +kernel
theorem dX1_makeBad_27 : decode cX1_makeBad 27 = .ok (.if_icmp .eq 15, 3) := by decide +kernel
theorem dX1_makeBad_30 : decode cX1_makeBad 30 = .ok (.aload_n 0, 1) := by decide +kernel
theorem dX1_makeBad_31 : decode cX1_makeBad 31 = .ok (.iload_n 1, 1) := by decide +kernel
theorem dX1_makeBad_32 : decode cX1_makeBad 32 = .ok (.invokevirtual 120, 3) := by decide +kernel
theorem dX1_makeBad_35 : decode cX1_makeBad 35 = .ok (.aload_n 0, 1) := by decide +kernel
theorem dX1_makeBad_36 : decode cX1_makeBad 36 = .ok (.getfield 55, 3) := by decide +kernel
theorem dX1_makeBad_39 : decode cX1_makeBad 39 = .ok (.if_icmp .ne 17, 3) := by decide +kernel
theorem dX1_makeBad_42 : decode cX1_makeBad 42 = .ok (.aload_n 0, 1) := by decide +kernel
theorem dX1_makeBad_43 : decode cX1_makeBad 43 = .ok (.invokevirtual 48, 3) := by decide +kernel
theorem dX1_makeBad_46 : decode cX1_makeBad 46 = .ok (.aload_n 0, 1) := by decide +kernel
theorem dX1_makeBad_47 : decode cX1_makeBad 47 = .ok (.dup, 1) := by decide +kernel
theorem dX1_makeBad_48 : decode cX1_makeBad 48 = .ok (.getfield 45, 3) := by decide +kernel
theorem dX1_makeBad_51 : decode cX1_makeBad 51 = .ok (.iconst 1, 1) := by decide +kernel
theorem dX1_makeBad_52 : decode cX1_makeBad 52 = .ok (.iadd, 1) := by decide +kernel
theorem dX1_makeBad_53 : decode cX1_makeBad 53 = .ok (.putfield 45, 3) := by decide +kernel
theorem dX1_makeBad_56 : decode cX1_makeBad 56 = .ok (.aload_n 0, 1) := by decide +kernel
theorem dX1_makeBad_57 : decode cX1_makeBad 57 = .ok (.iload_n 2, 1) := by decide +kernel
theorem dX1_makeBad_58 : decode cX1_makeBad 58 = .ok (.invokevirtual 64, 3) := by decide +kernel
theorem dX1_makeBad_61 : decode cX1_makeBad 61 = .ok (.astore_n 3, 1) := by decide +kernel
theorem dX1_makeBad_62 : decode cX1_makeBad 62 = .ok (.aload_n 3, 1) := by decide +kernel
theorem dX1_makeBad_63 : decode cX1_makeBad 63 = .ok (.ifnull 7, 3) := by decide +kernel
theorem dX1_makeBad_66 : decode cX1_makeBad 66 = .ok (.aload_n 3, 1) := by decide +kernel
theorem dX1_makeBad_67 : decode cX1_makeBad 67 = .ok (.invokevirtual 150, 3) := by decide +kernel
theorem dX1_makeBad_70 : decode cX1_makeBad 70 = .ok (.aload_n 0, 1) := by decide +kernel
theorem dX1_makeBad_71 : decode cX1_makeBad 71 = .ok (.getfield 17, 3) := by decide +kernel
theorem dX1_makeBad_74 : decode cX1_makeBad 74 = .ok (.iload_n 1, 1) := by decide +kernel
theorem dX1_makeBad_75 : decode cX1_makeBad 75 = .ok (.iconst 1, 1) := by decide +kernel
theorem dX1_makeBad_76 : decode cX1_makeBad 76 = .ok (.bastore, 1) := by decide +kernel
theorem dX1_makeBad_77 : decode cX1_makeBad 77 = .ok (.iload_n 2, 1) := by decide +kernel
theorem dX1_makeBad_78 : decode cX1_makeBad 78 = .ok (.ireturn, 1) := by decide +kernel
theorem dX1_makeGood_0 : decode cX1_makeGood 0 = .ok (.iload_n 1, 1) := by decide +kernel
theorem dX1_makeGood_1 : decode cX1_makeGood 1 = .ok (.invokestatic 100, 3) := by decide +kernel
theorem dX1_makeGood_4 : decode cX1_makeGood 4 = .ok (.ifCond .ne 5, 3) := by decide +kernel
theorem dX1_makeGood_7 : decode cX1_makeGood 7 = .ok (.iconst (-1), 1) := by decide +kernel
theorem dX1_makeGood_8 : decode cX1_makeGood 8 = .ok (.ireturn, 1) := by decide +kernel
theorem dX1_makeGood_9 : decode cX1_makeGood 9 = .ok (.aload_n 0, 1) := by decide +kernel
theorem dX1_makeGood_10 : decode cX1_makeGood 10 = .ok (.getfield 17, 3) := by decide +kernel
theorem dX1_makeGood_13 : decode cX1_makeGood 13 = .ok (.iload_n 1, 1) := by decide +kernel
theorem dX1_makeGood_14 : decode cX1_makeGood 14 = .ok (.baload, 1) := by decide +kernel
theorem dX1_makeGood_15 : decode cX1_makeGood 15 = .ok (.ifCond .eq 7, 3) := by decide +kernel
theorem dX1_makeGood_18 : decode cX1_makeGood 18 = .ok (.iconst 1, 1) := by decide +kernel
theorem dX1_makeGood_19 : decode cX1_makeGood 19 = .ok (.goto 4, 3) := by decide +kernel
theorem dX1_makeGood_22 : decode cX1_makeGood 22 = .ok (.iconst 0, 1) := by decide +kernel
theorem dX1_makeGood_23 : decode cX1_makeGood 23 = .ok (.istore_n 2, 1) := by decide +kernel
theorem dX1_makeGood_24 : decode cX1_makeGood 24 = .ok (.aload_n 0, 1) := by decide +kernel
theorem dX1_makeGood_25 : decode cX1_makeGood 25 = .ok (.getfield 17, 3) := by decide +kernel
theorem dX1_makeGood_28 : decode cX1_makeGood 28 = .ok (.iload_n 1, 1) := by decide +kernel
theorem dX1_makeGood_29 : decode cX1_makeGood 29 = .ok (.iconst 0, 1) := by decide +kernel
theorem dX1_makeGood_30 : decode cX1_makeGood 30 = .ok (.bastore, 1) := by decide +kernel
theorem dX1_makeGood_31 : decode cX1_makeGood 31 = .ok (.iload_n 2, 1) := by decide +kernel
theorem dX1_makeGood_32 : decode cX1_makeGood 32 = .ok (.ireturn, 1) := by decide +kernel
theorem dX1_isIdle_0 : decode cX1_isIdle 0 = .ok (.aload_n 0, 1) := by decide +kernel
theorem dX1_isIdle_1 : decode cX1_isIdle 1 = .ok (.getfield 55, 3) := by decide +kernel
theorem dX1_isIdle_4 : decode cX1_isIdle 4 = .ok (.iconst (-1), 1) := by decide +kernel
theorem dX1_isIdle_5 : decode cX1_isIdle 5 = .ok (.if_icmp .ne 7, 3) := by decide +kernel
theorem dX1_isIdle_8 : decode cX1_isIdle 8 = .ok (.iconst 1, 1) := by decide +kernel
theorem dX1_isIdle_9 : decode cX1_isIdle 9 = .ok (.goto 4, 3) := by decide +kernel
theorem dX1_isIdle_12 : decode cX1_isIdle 12 = .ok (.iconst 0, 1) := by decide +kernel
theorem dX1_isIdle_13 : decode cX1_isIdle 13 = .ok (.ireturn, 1) := by decide +kernel
theorem dX1_jobOwner_0 : decode cX1_jobOwner 0 = .ok (.aload_n 0, 1) := by decide +kernel
theorem dX1_jobOwner_1 : decode cX1_jobOwner 1 = .ok (.aload_n 0, 1) := by decide +kernel
theorem dX1_jobOwner_2 : decode cX1_jobOwner 2 = .ok (.getfield 55, 3) := by decide +kernel
theorem dX1_jobOwner_5 : decode cX1_jobOwner 5 = .ok (.invokevirtual 64, 3) := by decide +kernel
theorem dX1_jobOwner_8 : decode cX1_jobOwner 8 = .ok (.areturn, 1) := by decide +kernel
theorem dX1_canBring_0 : decode cX1_canBring 0 = .ok (.aload_n 0, 1) := by decide +kernel
theorem dX1_canBring_1 : decode cX1_canBring 1 = .ok (.iload_n 1, 1) := by decide +kernel
theorem dX1_canBring_2 : decode cX1_canBring 2 = .ok (.invokevirtual 64, 3) := by decide +kernel
theorem dX1_canBring_5 : decode cX1_canBring 5 = .ok (.astore_n 3, 1) := by decide +kernel
theorem dX1_canBring_6 : decode cX1_canBring 6 = .ok (.aload_n 3, 1) := by decide +kernel
theorem dX1_canBring_7 : decode cX1_canBring 7 = .ok (.ifnull 17, 3) := by decide +kernel
theorem dX1_canBring_10 : decode cX1_canBring 10 = .ok (.iload_n 2, 1) := by decide +kernel
theorem dX1_canBring_11 : decode cX1_canBring 11 = .ok (.invokestatic 100, 3) := by decide +kernel
theorem dX1_canBring_14 : decode cX1_canBring 14 = .ok (.ifCond .eq 10, 3) := by decide +kernel
theorem dX1_canBring_17 : decode cX1_canBring 17 = .ok (.aload_n 0, 1) := by decide +kernel
theorem dX1_canBring_18 : decode cX1_canBring 18 = .ok (.invokevirtual 147, 3) := by decide +kernel
theorem dX1_canBring_21 : decode cX1_canBring 21 = .ok (.ifCond .ne 5, 3) := by decide +kernel
theorem dX1_canBring_24 : decode cX1_canBring 24 = .ok (.iconst 0, 1) := by decide +kernel
theorem dX1_canBring_25 : decode cX1_canBring 25 = .ok (.ireturn, 1) := by decide +kernel
theorem dX1_canBring_26 : decode cX1_canBring 26 = .ok (.iload_n 2, 1) := by decide +kernel
theorem dX1_canBring_27 : decode cX1_canBring 27 = .ok (.istore 4, 2) := by decide +kernel
theorem dX1_canBring_29 : decode cX1_canBring 29 = .ok (.iload 4, 2) := by decide +kernel
theorem dX1_canBring_31 : decode cX1_canBring 31 = .ok (.iload_n 2, 1) := by decide +kernel
theorem dX1_canBring_32 : decode cX1_canBring 32 = .ok (.aload_n 3, 1) := by decide +kernel
theorem dX1_canBring_33 : decode cX1_canBring 33 = .ok (.getfield 110, 3) := by decide +kernel
theorem dX1_canBring_36 : decode cX1_canBring 36 = .ok (.iadd, 1) := by decide +kernel
theorem dX1_canBring_37 : decode cX1_canBring 37 = .ok (.if_icmp .ge 40, 3) := by decide +kernel
theorem dX1_canBring_40 : decode cX1_canBring 40 = .ok (.aload_n 0, 1) := by decide +kernel
theorem dX1_canBring_41 : decode cX1_canBring 41 = .ok (.iload 4, 2) := by decide +kernel
theorem dX1_canBring_43 : decode cX1_canBring 43 = .ok (.invokevirtual 116, 3) := by decide +kernel
theorem dX1_canBring_46 : decode cX1_canBring 46 = .ok (.istore 5, 2) := by decide +kernel
theorem dX1_canBring_48 : decode cX1_canBring 48 = .ok (.aload_n 0, 1) := by decide +kernel
theorem dX1_canBring_49 : decode cX1_canBring 49 = .ok (.iload 4, 2) := by decide +kernel
theorem dX1_canBring_51 : decode cX1_canBring 51 = .ok (.invokevirtual 113, 3) := by decide +kernel
theorem dX1_canBring_54 : decode cX1_canBring 54 = .ok (.ifCond .eq 15, 3) := by decide +kernel
theorem dX1_canBring_57 : decode cX1_canBring 57 = .ok (.iload 5, 2) := by decide +kernel
theorem dX1_canBring_59 : decode cX1_canBring 59 = .ok (.iconst (-1), 1) := by decide +kernel
theorem dX1_canBring_60 : decode cX1_canBring 60 = .ok (.if_icmp .eq 11, 3) := by decide +kernel
theorem dX1_canBring_63 : decode cX1_canBring 63 = .ok (.iload 5, 2) := by decide +kernel
theorem dX1_canBring_65 : decode cX1_canBring 65 = .ok (.iload_n 1, 1) := by decide +kernel
theorem dX1_canBring_66 : decode cX1_canBring 66 = .ok (.if_icmp .eq 5, 3) := by decide +kernel
theorem dX1_canBring_69 : decode cX1_canBring 69 = .ok (.iconst 0, 1) := by decide +kernel
theorem dX1_canBring_70 : decode cX1_canBring 70 = .ok (.ireturn, 1) := by decide +kernel
theorem dX1_canBring_71 : decode cX1_canBring 71 = .ok (.iinc 4 1, 3) := by decide +kernel
theorem dX1_canBring_74 : decode cX1_canBring 74 = .ok (.goto (-45), 3) := by decide +kernel
theorem dX1_canBring_77 : decode cX1_canBring 77 = .ok (.iconst 1, 1) := by decide +kernel
theorem dX1_canBring_78 : decode cX1_canBring 78 = .ok (.ireturn, 1) := by decide +kernel
theorem dX1_startJob_0 : decode cX1_startJob 0 = .ok (.aload_n 0, 1) := by decide +kernel
theorem dX1_startJob_1 : decode cX1_startJob 1 = .ok (.iload_n 1, 1) := by decide +kernel
theorem dX1_startJob_2 : decode cX1_startJob 2 = .ok (.invokevirtual 64, 3) := by decide +kernel
theorem dX1_startJob_5 : decode cX1_startJob 5 = .ok (.astore_n 3, 1) := by decide +kernel
theorem dX1_startJob_6 : decode cX1_startJob 6 = .ok (.aload_n 3, 1) := by decide +kernel
theorem dX1_startJob_7 : decode cX1_startJob 7 = .ok (.ifnull 12, 3) := by decide +kernel
theorem dX1_startJob_10 : decode cX1_startJob 10 = .ok (.aload_n 0, 1) := by decide +kernel
theorem dX1_startJob_11 : decode cX1_startJob 11 = .ok (.iload_n 1, 1) := by decide +kernel
theorem dX1_startJob_12 : decode cX1_startJob 12 = .ok (.iload_n 2, 1) := by decide +kernel
theorem dX1_startJob_13 : decode cX1_startJob 13 = .ok (.invokevirtual 153, 3) := by decide +kernel
theorem dX1_startJob_16 : decode cX1_startJob 16 = .ok (.ifCond .ne 5, 3) := by decide +kernel
theorem dX1_startJob_19 : decode cX1_startJob 19 = .ok (.iconst (-1), 1) := by decide +kernel
theorem dX1_startJob_20 : decode cX1_startJob 20 = .ok (.ireturn, 1) := by decide +kernel
theorem dX1_startJob_21 : decode cX1_startJob 21 = .ok (.aload_n 0, 1) := by decide +kernel
theorem dX1_startJob_22 : decode cX1_startJob 22 = .ok (.getfield 21, 3) := by decide +kernel
theorem dX1_startJob_25 : decode cX1_startJob 25 = .ok (.iconst 0, 1) := by decide +kernel
theorem dX1_startJob_26 : decode cX1_startJob 26 = .ok (.iaload, 1) := by decide +kernel
theorem dX1_startJob_27 : decode cX1_startJob 27 = .ok (.aload_n 3, 1) := by decide +kernel
theorem dX1_startJob_28 : decode cX1_startJob 28 = .ok (.getfield 110, 3) := by decide +kernel
theorem dX1_startJob_31 : decode cX1_startJob 31 = .ok (.imul, 1) := by decide +kernel
theorem dX1_startJob_32 : decode cX1_startJob 32 = .ok (.istore 4, 2) := by decide +kernel
theorem dX1_startJob_34 : decode cX1_startJob 34 = .ok (.aload_n 0, 1) := by decide +kernel
theorem dX1_startJob_35 : decode cX1_startJob 35 = .ok (.iload_n 1, 1) := by decide +kernel
theorem dX1_startJob_36 : decode cX1_startJob 36 = .ok (.putfield 55, 3) := by decide +kernel
theorem dX1_startJob_39 : decode cX1_startJob 39 = .ok (.aload_n 0, 1) := by decide +kernel
theorem dX1_startJob_40 : decode cX1_startJob 40 = .ok (.iload_n 2, 1) := by decide +kernel
theorem dX1_startJob_41 : decode cX1_startJob 41 = .ok (.putfield 58, 3) := by decide +kernel
theorem dX1_startJob_44 : decode cX1_startJob 44 = .ok (.aload_n 0, 1) := by decide +kernel
theorem dX1_startJob_45 : decode cX1_startJob 45 = .ok (.iload 4, 2) := by decide +kernel
theorem dX1_startJob_47 : decode cX1_startJob 47 = .ok (.putfield 61, 3) := by decide +kernel
theorem dX1_startJob_50 : decode cX1_startJob 50 = .ok (.aload_n 3, 1) := by decide +kernel
theorem dX1_startJob_51 : decode cX1_startJob 51 = .ok (.getfield 80, 3) := by decide +kernel
theorem dX1_startJob_54 : decode cX1_startJob 54 = .ok (.ifCond .ne 16, 3) := by decide +kernel
theorem dX1_startJob_57 : decode cX1_startJob 57 = .ok (.aload_n 3, 1) := by decide +kernel
theorem dX1_startJob_58 : decode cX1_startJob 58 = .ok (.iconst 1, 1) := by decide +kernel
theorem dX1_startJob_59 : decode cX1_startJob 59 = .ok (.putfield 80, 3) := by decide +kernel
theorem dX1_startJob_62 : decode cX1_startJob 62 = .ok (.aload_n 3, 1) := by decide +kernel
theorem dX1_startJob_63 : decode cX1_startJob 63 = .ok (.iload_n 2, 1) := by decide +kernel
theorem dX1_startJob_64 : decode cX1_startJob 64 = .ok (.putfield 156, 3) := by decide +kernel
theorem dX1_startJob_67 : decode cX1_startJob 67 = .ok (.iload 4, 2) := by decide +kernel
theorem dX1_startJob_69 : decode cX1_startJob 69 = .ok (.ireturn, 1) := by decide +kernel
theorem dX1_startJob_70 : decode cX1_startJob 70 = .ok (.iload 4, 2) := by decide +kernel
theorem dX1_startJob_72 : decode cX1_startJob 72 = .ok (.aload_n 0, 1) := by decide +kernel
theorem dX1_startJob_73 : decode cX1_startJob 73 = .ok (.getfield 21, 3) := by decide +kernel
theorem dX1_startJob_76 : decode cX1_startJob 76 = .ok (.iconst 1, 1) := by decide +kernel
theorem dX1_startJob_77 : decode cX1_startJob 77 = .ok (.iaload, 1) := by decide +kernel
theorem dX1_startJob_78 : decode cX1_startJob 78 = .ok (.iadd, 1) := by decide +kernel
theorem dX1_startJob_79 : decode cX1_startJob 79 = .ok (.istore 5, 2) := by decide +kernel
theorem dX1_startJob_81 : decode cX1_startJob 81 = .ok (.aload_n 3, 1) := by decide +kernel
theorem dX1_startJob_82 : decode cX1_startJob 82 = .ok (.iload_n 2, 1) := by decide +kernel
theorem dX1_startJob_83 : decode cX1_startJob 83 = .ok (.aload_n 3, 1) := by decide +kernel
theorem dX1_startJob_84 : decode cX1_startJob 84 = .ok (.getfield 110, 3) := by decide +kernel
theorem dX1_startJob_87 : decode cX1_startJob 87 = .ok (.invokevirtual 141, 3) := by decide +kernel
theorem dX1_startJob_90 : decode cX1_startJob 90 = .ok (.ifCond .eq 14, 3) := by decide +kernel
theorem dX1_startJob_93 : decode cX1_startJob 93 = .ok (.aload_n 3, 1) := by decide +kernel
theorem dX1_startJob_94 : decode cX1_startJob 94 = .ok (.iconst 3, 1) := by decide +kernel
theorem dX1_startJob_95 : decode cX1_startJob 95 = .ok (.putfield 80, 3) := by decide +kernel
theorem dX1_startJob_98 : decode cX1_startJob 98 = .ok (.aload_n 0, 1) := by decide +kernel
theorem dX1_startJob_99 : decode cX1_startJob 99 = .ok (.iload 5, 2) := by decide +kernel
theorem dX1_startJob_101 : decode cX1_startJob 101 = .ok (.putfield 61, 3) := by decide +kernel
theorem dX1_startJob_104 : decode cX1_startJob 104 = .ok (.iload 5, 2) := by decide +kernel
theorem dX1_startJob_106 : decode cX1_startJob 106 = .ok (.ireturn, 1) := by decide +kernel
theorem dX1_endJob_0 : decode cX1_endJob 0 = .ok (.aload_n 0, 1) := by decide +kernel
theorem dX1_endJob_1 : decode cX1_endJob 1 = .ok (.iconst (-1), 1) := by decide +kernel
theorem dX1_endJob_2 : decode cX1_endJob 2 = .ok (.putfield 55, 3) := by decide +kernel
theorem dX1_endJob_5 : decode cX1_endJob 5 = .ok (.aload_n 0, 1) := by decide +kernel
theorem dX1_endJob_6 : decode cX1_endJob 6 = .ok (.iconst (-1), 1) := by decide +kernel
theorem dX1_endJob_7 : decode cX1_endJob 7 = .ok (.putfield 58, 3) := by decide +kernel
theorem dX1_endJob_10 : decode cX1_endJob 10 = .ok (.aload_n 0, 1) := by decide +kernel
theorem dX1_endJob_11 : decode cX1_endJob 11 = .ok (.iconst 0, 1) := by decide +kernel
theorem dX1_endJob_12 : decode cX1_endJob 12 = .ok (.putfield 61, 3) := by decide +kernel
theorem dX1_endJob_15 : decode cX1_endJob 15 = .ok (.return_, 1) := by decide +kernel
theorem dX1_ticksUntilIdle_0 : decode cX1_ticksUntilIdle 0 = .ok (.aload_n 0, 1) := by decide +kernel
theorem dX1_ticksUntilIdle_1 : decode cX1_ticksUntilIdle 1 = .ok (.invokevirtual 106, 3) := by decide +kernel
theorem dX1_ticksUntilIdle_4 : decode cX1_ticksUntilIdle 4 = .ok (.astore_n 1, 1) := by decide +kernel
theorem dX1_ticksUntilIdle_5 : decode cX1_ticksUntilIdle 5 = .ok (.aload_n 1, 1) := by decide +kernel
theorem dX1_ticksUntilIdle_6 : decode cX1_ticksUntilIdle 6 = .ok (.ifnonnull 5, 3) := by decide +kernel
theorem dX1_ticksUntilIdle_9 : decode cX1_ticksUntilIdle 9 = .ok (.iconst 0, 1) := by decide +kernel
theorem dX1_ticksUntilIdle_10 : decode cX1_ticksUntilIdle 10 = .ok (.ireturn, 1) := by decide +kernel
theorem dX1_ticksUntilIdle_11 : decode cX1_ticksUntilIdle 11 = .ok (.aload_n 1, 1) := by decide +kernel
theorem dX1_ticksUntilIdle_12 : decode cX1_ticksUntilIdle 12 = .ok (.getfield 80, 3) := by decide +kernel
theorem dX1_ticksUntilIdle_15 : decode cX1_ticksUntilIdle 15 = .ok (.iconst 2, 1) := by decide +kernel
theorem dX1_ticksUntilIdle_16 : decode cX1_ticksUntilIdle 16 = .ok (.if_icmp .ne 17, 3) := by decide +kernel
theorem dX1_ticksUntilIdle_19 : decode cX1_ticksUntilIdle 19 = .ok (.aload_n 0, 1) := by decide +kernel
theorem dX1_ticksUntilIdle_20 : decode cX1_ticksUntilIdle 20 = .ok (.getfield 61, 3) := by decide +kernel
theorem dX1_ticksUntilIdle_23 : decode cX1_ticksUntilIdle 23 = .ok (.aload_n 0, 1) := by decide +kernel
theorem dX1_ticksUntilIdle_24 : decode cX1_ticksUntilIdle 24 = .ok (.getfield 21, 3) := by decide +kernel
theorem dX1_ticksUntilIdle_27 : decode cX1_ticksUntilIdle 27 = .ok (.iconst 1, 1) := by decide +kernel
theorem dX1_ticksUntilIdle_28 : decode cX1_ticksUntilIdle 28 = .ok (.iaload, 1) := by decide +kernel
theorem dX1_ticksUntilIdle_29 : decode cX1_ticksUntilIdle 29 = .ok (.iadd, 1) := by decide +kernel
theorem dX1_ticksUntilIdle_30 : decode cX1_ticksUntilIdle 30 = .ok (.goto 7, 3) := by decide +kernel
theorem dX1_ticksUntilIdle_33 : decode cX1_ticksUntilIdle 33 = .ok (.aload_n 0, 1) := by decide +kernel
theorem dX1_ticksUntilIdle_34 : decode cX1_ticksUntilIdle 34 = .ok (.getfield 61, 3) := by decide +kernel
theorem dX1_ticksUntilIdle_37 : decode cX1_ticksUntilIdle 37 = .ok (.ireturn, 1) := by decide +kernel
theorem dX1_passTicks_0 : decode cX1_passTicks 0 = .ok (.iload_n 1, 1) := by decide +kernel
theorem dX1_passTicks_1 : decode cX1_passTicks 1 = .ok (.iconst 1, 1) := by decide +kernel
theorem dX1_passTicks_2 : decode cX1_passTicks 2 = .ok (.bipush 60, 2) := by decide +kernel
theorem dX1_passTicks_4 : decode cX1_passTicks 4 = .ok (.invokestatic 68, 3) := by decide +kernel
theorem dX1_passTicks_7 : decode cX1_passTicks 7 = .ok (.ifCond .ne 5, 3) := by decide +kernel
theorem dX1_passTicks_10 : decode cX1_passTicks 10 = .ok (.iconst (-1), 1) := by decide +kernel
theorem dX1_passTicks_11 : decode cX1_passTicks 11 = .ok (.ireturn, 1) := by decide +kernel
theorem dX1_passTicks_12 : decode cX1_passTicks 12 = .ok (.aload_n 0, 1) := by decide +kernel
theorem dX1_passTicks_13 : decode cX1_passTicks 13 = .ok (.getfield 39, 3) := by decide +kernel
theorem dX1_passTicks_16 : decode cX1_passTicks 16 = .ok (.istore_n 2, 1) := by decide +kernel
theorem dX1_passTicks_17 : decode cX1_passTicks 17 = .ok (.iconst 0, 1) := by decide +kernel
theorem dX1_passTicks_18 : decode cX1_passTicks 18 = .ok (.istore_n 3, 1) := by decide +kernel
theorem dX1_passTicks_19 : decode cX1_passTicks 19 = .ok (.iload_n 3, 1) := by decide +kernel
theorem dX1_passTicks_20 : decode cX1_passTicks 20 = .ok (.iload_n 1, 1) := by decide +kernel
theorem dX1_passTicks_21 : decode cX1_passTicks 21 = .ok (.if_icmp .ge 13, 3) := by decide +kernel
theorem dX1_passTicks_24 : decode cX1_passTicks 24 = .ok (.aload_n 0, 1) := by decide +kernel
theorem dX1_passTicks_25 : decode cX1_passTicks 25 = .ok (.invokevirtual 159, 3) := by decide +kernel
theorem dX1_passTicks_28 : decode cX1_passTicks 28 = .ok (.iinc 3 1, 3) := by decide +kernel
theorem dX1_passTicks_31 : decode cX1_passTicks 31 = .ok (.goto (-12), 3) := by decide +kernel
theorem dX1_passTicks_34 : decode cX1_passTicks 34 = .ok (.aload_n 0, 1) := by decide +kernel
theorem dX1_passTicks_35 : decode cX1_passTicks 35 = .ok (.getfield 39, 3) := by decide +kernel
theorem dX1_passTicks_38 : decode cX1_passTicks 38 = .ok (.iload_n 2, 1) := by decide +kernel
theorem dX1_passTicks_39 : decode cX1_passTicks 39 = .ok (.isub, 1) := by decide +kernel
theorem dX1_passTicks_40 : decode cX1_passTicks 40 = .ok (.ireturn, 1) := by decide +kernel
theorem dX1_passTick_0 : decode cX1_passTick 0 = .ok (.aload_n 0, 1) := by decide +kernel
theorem dX1_passTick_1 : decode cX1_passTick 1 = .ok (.invokevirtual 162, 3) := by decide +kernel
theorem dX1_passTick_4 : decode cX1_passTick 4 = .ok (.aload_n 0, 1) := by decide +kernel
theorem dX1_passTick_5 : decode cX1_passTick 5 = .ok (.dup, 1) := by decide +kernel
theorem dX1_passTick_6 : decode cX1_passTick 6 = .ok (.getfield 36, 3) := by decide +kernel
theorem dX1_passTick_9 : decode cX1_passTick 9 = .ok (.iconst 1, 1) := by decide +kernel
theorem dX1_passTick_10 : decode cX1_passTick 10 = .ok (.iadd, 1) := by decide +kernel
theorem dX1_passTick_11 : decode cX1_passTick 11 = .ok (.putfield 36, 3) := by decide +kernel
theorem dX1_passTick_14 : decode cX1_passTick 14 = .ok (.aload_n 0, 1) := by decide +kernel
theorem dX1_passTick_15 : decode cX1_passTick 15 = .ok (.getfield 21, 3) := by decide +kernel
theorem dX1_passTick_18 : decode cX1_passTick 18 = .ok (.iconst 2, 1) := by decide +kernel
theorem dX1_passTick_19 : decode cX1_passTick 19 = .ok (.iaload, 1) := by decide +kernel
theorem dX1_passTick_20 : decode cX1_passTick 20 = .ok (.istore_n 1, 1) := by decide +kernel
theorem dX1_passTick_21 : decode cX1_passTick 21 = .ok (.iload_n 1, 1) := by decide +kernel
theorem dX1_passTick_22 : decode cX1_passTick 22 = .ok (.ifCond .le 16, 3) := by decide +kernel
theorem dX1_passTick_25 : decode cX1_passTick 25 = .ok (.aload_n 0, 1) := by decide +kernel
theorem dX1_passTick_26 : decode cX1_passTick 26 = .ok (.getfield 36, 3) := by decide +kernel
theorem dX1_passTick_29 : decode cX1_passTick 29 = .ok (.iload_n 1, 1) := by decide +kernel
theorem dX1_passTick_30 : decode cX1_passTick 30 = .ok (.irem, 1) := by decide +kernel
theorem dX1_passTick_31 : decode cX1_passTick 31 = .ok (.ifCond .ne 7, 3) := by decide +kernel
theorem dX1_passTick_34 : decode cX1_passTick 34 = .ok (.iconst 1, 1) := by decide +kernel
theorem dX1_passTick_35 : decode cX1_passTick 35 = .ok (.goto 4, 3) := by decide +kernel
theorem dX1_passTick_38 : decode cX1_passTick 38 = .ok (.iconst 0, 1) := by decide +kernel
theorem dX1_passTick_39 : decode cX1_passTick 39 = .ok (.istore_n 2, 1) := by decide +kernel
theorem dX1_passTick_40 : decode cX1_passTick 40 = .ok (.iconst 0, 1) := by decide +kernel
theorem dX1_passTick_41 : decode cX1_passTick 41 = .ok (.istore_n 3, 1) := by decide +kernel
theorem dX1_passTick_42 : decode cX1_passTick 42 = .ok (.iload_n 3, 1) := by decide +kernel
theorem dX1_passTick_43 : decode cX1_passTick 43 = .ok (.aload_n 0, 1) := by decide +kernel
theorem dX1_passTick_44 : decode cX1_passTick 44 = .ok (.getfield 32, 3) := by decide +kernel
theorem dX1_passTick_47 : decode cX1_passTick 47 = .ok (.if_icmp .ge 56, 3) := by decide +kernel
theorem dX1_passTick_50 : decode cX1_passTick 50 = .ok (.iload_n 3, 1) := by decide +kernel
theorem dX1_passTick_51 : decode cX1_passTick 51 = .ok (.bipush 6, 2) := by decide +kernel
theorem dX1_passTick_53 : decode cX1_passTick 53 = .ok (.if_icmp .ge 50, 3) := by decide +kernel
theorem dX1_passTick_56 : decode cX1_passTick 56 = .ok (.aload_n 0, 1) := by decide +kernel
theorem dX1_passTick_57 : decode cX1_passTick 57 = .ok (.getfield 11, 3) := by decide +kernel
theorem dX1_passTick_60 : decode cX1_passTick 60 = .ok (.iload_n 3, 1) := by decide +kernel
theorem dX1_passTick_61 : decode cX1_passTick 61 = .ok (.aaload, 1) := by decide +kernel
theorem dX1_passTick_62 : decode cX1_passTick 62 = .ok (.astore 4, 2) := by decide +kernel
theorem dX1_passTick_64 : decode cX1_passTick 64 = .ok (.aload 4, 2) := by decide +kernel
theorem dX1_passTick_66 : decode cX1_passTick 66 = .ok (.getfield 80, 3) := by decide +kernel
theorem dX1_passTick_69 : decode cX1_passTick 69 = .ok (.iconst 2, 1) := by decide +kernel
theorem dX1_passTick_70 : decode cX1_passTick 70 = .ok (.if_icmp .ne 27, 3) := by decide +kernel
theorem dX1_passTick_73 : decode cX1_passTick 73 = .ok (.aload 4, 2) := by decide +kernel
theorem dX1_passTick_75 : decode cX1_passTick 75 = .ok (.invokevirtual 165, 3) := by decide +kernel
theorem dX1_passTick_78 : decode cX1_passTick 78 = .ok (.aload_n 0, 1) := by decide +kernel
theorem dX1_passTick_79 : decode cX1_passTick 79 = .ok (.dup, 1) := by decide +kernel
theorem dX1_passTick_80 : decode cX1_passTick 80 = .ok (.getfield 39, 3) := by decide +kernel
theorem dX1_passTick_83 : decode cX1_passTick 83 = .ok (.iconst 1, 1) := by decide +kernel
theorem dX1_passTick_84 : decode cX1_passTick 84 = .ok (.iadd, 1) := by decide +kernel
theorem dX1_passTick_85 : decode cX1_passTick 85 = .ok (.putfield 39, 3) := by decide +kernel
theorem dX1_passTick_88 : decode cX1_passTick 88 = .ok (.iload_n 2, 1) := by decide +kernel
theorem dX1_passTick_89 : decode cX1_passTick 89 = .ok (.ifCond .eq 8, 3) := by decide +kernel
theorem dX1_passTick_92 : decode cX1_passTick 92 = .ok (.aload 4, 2) := by decide +kernel
theorem dX1_passTick_94 : decode cX1_passTick 94 = .ok (.invokevirtual 87, 3) := by decide +kernel
theorem dX1_passTick_97 : decode cX1_passTick 97 = .ok (.iinc 3 1, 3) := by decide +kernel
theorem dX1_passTick_100 : decode cX1_passTick 100 = .ok (.goto (-58), 3) := by decide +kernel
theorem dX1_passTick_103 : decode cX1_passTick 103 = .ok (.return_, 1) := by decide +kernel
theorem dX1_advanceJob_0 : decode cX1_advanceJob 0 = .ok (.aload_n 0, 1) := by decide +kernel
theorem dX1_advanceJob_1 : decode cX1_advanceJob 1 = .ok (.invokevirtual 106, 3) := by decide +kernel
theorem dX1_advanceJob_4 : decode cX1_advanceJob 4 = .ok (.astore_n 1, 1) := by decide +kernel
theorem dX1_advanceJob_5 : decode cX1_advanceJob 5 = .ok (.aload_n 1, 1) := by decide +kernel
theorem dX1_advanceJob_6 : decode cX1_advanceJob 6 = .ok (.ifnonnull 4, 3) := by decide +kernel
theorem dX1_advanceJob_9 : decode cX1_advanceJob 9 = .ok (.return_, 1) := by decide +kernel
theorem dX1_advanceJob_10 : decode cX1_advanceJob 10 = .ok (.aload_n 0, 1) := by decide +kernel
theorem dX1_advanceJob_11 : decode cX1_advanceJob 11 = .ok (.dup, 1) := by decide +kernel
theorem dX1_advanceJob_12 : decode cX1_advanceJob 12 = .ok (.getfield 61, 3) := by decide +kernel
theorem dX1_advanceJob_15 : decode cX1_advanceJob 15 = .ok (.iconst 1, 1) := by decide +kernel
theorem dX1_advanceJob_16 : decode cX1_advanceJob 16 = .ok (.isub, 1) := by decide +kernel
theorem dX1_advanceJob_17 : decode cX1_advanceJob 17 = .ok (.putfield 61, 3) := by decide +kernel
theorem dX1_advanceJob_20 : decode cX1_advanceJob 20 = .ok (.aload_n 0, 1) := by decide +kernel
theorem dX1_advanceJob_21 : decode cX1_advanceJob 21 = .ok (.getfield 61, 3) := by decide +kernel
theorem dX1_advanceJob_24 : decode cX1_advanceJob 24 = .ok (.ifCond .ne 26, 3) := by decide +kernel
theorem dX1_advanceJob_27 : decode cX1_advanceJob 27 = .ok (.aload_n 1, 1) := by decide +kernel
theorem dX1_advanceJob_28 : decode cX1_advanceJob 28 = .ok (.getfield 80, 3) := by decide +kernel
theorem dX1_advanceJob_31 : decode cX1_advanceJob 31 = .ok (.iconst 2, 1) := by decide +kernel
theorem dX1_advanceJob_32 : decode cX1_advanceJob 32 = .ok (.if_icmp .ne 18, 3) := by decide +kernel
theorem dX1_advanceJob_35 : decode cX1_advanceJob 35 = .ok (.aload_n 1, 1) := by decide +kernel
theorem dX1_advanceJob_36 : decode cX1_advanceJob 36 = .ok (.iconst 3, 1) := by decide +kernel
theorem dX1_advanceJob_37 : decode cX1_advanceJob 37 = .ok (.putfield 80, 3) := by decide +kernel
theorem dX1_advanceJob_40 : decode cX1_advanceJob 40 = .ok (.aload_n 0, 1) := by decide +kernel
theorem dX1_advanceJob_41 : decode cX1_advanceJob 41 = .ok (.aload_n 0, 1) := by decide +kernel
theorem dX1_advanceJob_42 : decode cX1_advanceJob 42 = .ok (.getfield 21, 3) := by decide +kernel
theorem dX1_advanceJob_45 : decode cX1_advanceJob 45 = .ok (.iconst 1, 1) := by decide +kernel
theorem dX1_advanceJob_46 : decode cX1_advanceJob 46 = .ok (.iaload, 1) := by decide +kernel
theorem dX1_advanceJob_47 : decode cX1_advanceJob 47 = .ok (.putfield 61, 3) := by decide +kernel
theorem dX1_advanceJob_50 : decode cX1_advanceJob 50 = .ok (.aload_n 0, 1) := by decide +kernel
theorem dX1_advanceJob_51 : decode cX1_advanceJob 51 = .ok (.getfield 61, 3) := by decide +kernel
theorem dX1_advanceJob_54 : decode cX1_advanceJob 54 = .ok (.ifCond .ne 30, 3) := by decide +kernel
theorem dX1_advanceJob_57 : decode cX1_advanceJob 57 = .ok (.aload_n 1, 1) := by decide +kernel
theorem dX1_advanceJob_58 : decode cX1_advanceJob 58 = .ok (.iconst 2, 1) := by decide +kernel
theorem dX1_advanceJob_59 : decode cX1_advanceJob 59 = .ok (.putfield 80, 3) := by decide +kernel
theorem dX1_advanceJob_62 : decode cX1_advanceJob 62 = .ok (.aload_n 1, 1) := by decide +kernel
theorem dX1_advanceJob_63 : decode cX1_advanceJob 63 = .ok (.aload_n 0, 1) := by decide +kernel
theorem dX1_advanceJob_64 : decode cX1_advanceJob 64 = .ok (.getfield 58, 3) := by decide +kernel
theorem dX1_advanceJob_67 : decode cX1_advanceJob 67 = .ok (.putfield 156, 3) := by decide +kernel
theorem dX1_advanceJob_70 : decode cX1_advanceJob 70 = .ok (.aload_n 0, 1) := by decide +kernel
theorem dX1_advanceJob_71 : decode cX1_advanceJob 71 = .ok (.invokevirtual 48, 3) := by decide +kernel
theorem dX1_advanceJob_74 : decode cX1_advanceJob 74 = .ok (.aload_n 0, 1) := by decide +kernel
theorem dX1_advanceJob_75 : decode cX1_advanceJob 75 = .ok (.dup, 1) := by decide +kernel
theorem dX1_advanceJob_76 : decode cX1_advanceJob 76 = .ok (.getfield 42, 3) := by decide +kernel
theorem dX1_advanceJob_79 : decode cX1_advanceJob 79 = .ok (.iconst 1, 1) := by decide +kernel
theorem dX1_advanceJob_80 : decode cX1_advanceJob 80 = .ok (.iadd, 1) := by decide +kernel
theorem dX1_advanceJob_81 : decode cX1_advanceJob 81 = .ok (.putfield 42, 3) := by decide +kernel
theorem dX1_advanceJob_84 : decode cX1_advanceJob 84 = .ok (.return_, 1) := by decide +kernel
theorem dX2_init_0 : decode cX2_init 0 = .ok (.aload_n 0, 1) := by decide +kernel
theorem dX2_init_1 : decode cX2_init 1 = .ok (.invokespecial 3, 3) := by decide +kernel
theorem dX2_init_4 : decode cX2_init 4 = .ok (.return_, 1) := by decide +kernel
theorem dX2_begin_0 : decode cX2_begin 0 = .ok (.aload_n 0, 1) := by decide +kernel
theorem dX2_begin_1 : decode cX2_begin 1 = .ok (.iload_n 1, 1) := by decide +kernel
theorem dX2_begin_2 : decode cX2_begin 2 = .ok (.putfield 9, 3) := by decide +kernel
theorem dX2_begin_5 : decode cX2_begin 5 = .ok (.aload_n 0, 1) := by decide +kernel
theorem dX2_begin_6 : decode cX2_begin 6 = .ok (.iload_n 2, 1) := by decide +kernel
theorem dX2_begin_7 : decode cX2_begin 7 = .ok (.putfield 15, 3) := by decide +kernel
theorem dX2_begin_10 : decode cX2_begin 10 = .ok (.aload_n 0, 1) := by decide +kernel
theorem dX2_begin_11 : decode cX2_begin 11 = .ok (.iload_n 2, 1) := by decide +kernel
theorem dX2_begin_12 : decode cX2_begin 12 = .ok (.putfield 18, 3) := by decide +kernel
theorem dX2_begin_15 : decode cX2_begin 15 = .ok (.aload_n 0, 1) := by decide +kernel
theorem dX2_begin_16 : decode cX2_begin 16 = .ok (.iconst 0, 1) := by decide +kernel
theorem dX2_begin_17 : decode cX2_begin 17 = .ok (.putfield 21, 3) := by decide +kernel
theorem dX2_begin_20 : decode cX2_begin 20 = .ok (.aload_n 0, 1) := by decide +kernel
theorem dX2_begin_21 : decode cX2_begin 21 = .ok (.iconst 0, 1) := by decide +kernel
theorem dX2_begin_22 : decode cX2_begin 22 = .ok (.putfield 24, 3) := by decide +kernel
theorem dX2_begin_25 : decode cX2_begin 25 = .ok (.aload_n 0, 1) := by decide +kernel
theorem dX2_begin_26 : decode cX2_begin 26 = .ok (.invokevirtual 27, 3) := by decide +kernel
theorem dX2_begin_29 : decode cX2_begin 29 = .ok (.return_, 1) := by decide +kernel
theorem dX2_copyFrom_0 : decode cX2_copyFrom 0 = .ok (.aload_n 0, 1) := by decide +kernel
theorem dX2_copyFrom_1 : decode cX2_copyFrom 1 = .ok (.aload_n 1, 1) := by decide +kernel
theorem dX2_copyFrom_2 : decode cX2_copyFrom 2 = .ok (.getfield 9, 3) := by decide +kernel
theorem dX2_copyFrom_5 : decode cX2_copyFrom 5 = .ok (.putfield 9, 3) := by decide +kernel
theorem dX2_copyFrom_8 : decode cX2_copyFrom 8 = .ok (.aload_n 0, 1) := by decide +kernel
theorem dX2_copyFrom_9 : decode cX2_copyFrom 9 = .ok (.aload_n 1, 1) := by decide +kernel
theorem dX2_copyFrom_10 : decode cX2_copyFrom 10 = .ok (.getfield 15, 3) := by decide +kernel
theorem dX2_copyFrom_13 : decode cX2_copyFrom 13 = .ok (.putfield 15, 3) := by decide +kernel
theorem dX2_copyFrom_16 : decode cX2_copyFrom 16 = .ok (.aload_n 0, 1) := by decide +kernel
theorem dX2_copyFrom_17 : decode cX2_copyFrom 17 = .ok (.aload_n 1, 1) := by decide +kernel
theorem dX2_copyFrom_18 : decode cX2_copyFrom 18 = .ok (.getfield 18, 3) := by decide +kernel
theorem dX2_copyFrom_21 : decode cX2_copyFrom 21 = .ok (.putfield 18, 3) := by decide +kernel
theorem dX2_copyFrom_24 : decode cX2_copyFrom 24 = .ok (.aload_n 0, 1) := by decide +kernel
theorem dX2_copyFrom_25 : decode cX2_copyFrom 25 = .ok (.aload_n 1, 1) := by decide +kernel
theorem dX2_copyFrom_26 : decode cX2_copyFrom 26 = .ok (.getfield 21, 3) := by decide +kernel
theorem dX2_copyFrom_29 : decode cX2_copyFrom 29 = .ok (.putfield 21, 3) := by decide +kernel
theorem dX2_copyFrom_32 : decode cX2_copyFrom 32 = .ok (.aload_n 0, 1) := by decide +kernel
theorem dX2_copyFrom_33 : decode cX2_copyFrom 33 = .ok (.aload_n 1, 1) := by decide +kernel
theorem dX2_copyFrom_34 : decode cX2_copyFrom 34 = .ok (.getfield 24, 3) := by decide +kernel
theorem dX2_copyFrom_37 : decode cX2_copyFrom 37 = .ok (.putfield 24, 3) := by decide +kernel
theorem dX2_copyFrom_40 : decode cX2_copyFrom 40 = .ok (.aload_n 0, 1) := by decide +kernel
theorem dX2_copyFrom_41 : decode cX2_copyFrom 41 = .ok (.aload_n 1, 1) := by decide +kernel
theorem dX2_copyFrom_42 : decode cX2_copyFrom 42 = .ok (.getfield 30, 3) := by decide +kernel
theorem dX2_copyFrom_45 : decode cX2_copyFrom 45 = .ok (.putfield 30, 3) := by decide +kernel
theorem dX2_copyFrom_48 : decode cX2_copyFrom 48 = .ok (.aload_n 0, 1) := by decide +kernel
theorem dX2_copyFrom_49 : decode cX2_copyFrom 49 = .ok (.aload_n 1, 1) := by decide +kernel
theorem dX2_copyFrom_50 : decode cX2_copyFrom 50 = .ok (.getfield 33, 3) := by decide +kernel
theorem dX2_copyFrom_53 : decode cX2_copyFrom 53 = .ok (.putfield 33, 3) := by decide +kernel
theorem dX2_copyFrom_56 : decode cX2_copyFrom 56 = .ok (.return_, 1) := by decide +kernel
theorem dX2_takes_0 : decode cX2_takes 0 = .ok (.aload_n 0, 1) := by decide +kernel
theorem dX2_takes_1 : decode cX2_takes 1 = .ok (.getfield 33, 3) := by decide +kernel
theorem dX2_takes_4 : decode cX2_takes 4 = .ok (.iconst (-1), 1) := by decide +kernel
theorem dX2_takes_5 : decode cX2_takes 5 = .ok (.if_icmp .eq 28, 3) := by decide +kernel
theorem dX2_takes_8 : decode cX2_takes 8 = .ok (.iload_n 1, 1) := by decide +kernel
theorem dX2_takes_9 : decode cX2_takes 9 = .ok (.aload_n 0, 1) := by decide +kernel
theorem dX2_takes_10 : decode cX2_takes 10 = .ok (.getfield 33, 3) := by decide +kernel
theorem dX2_takes_13 : decode cX2_takes 13 = .ok (.if_icmp .lt 20, 3) := by decide +kernel
theorem dX2_takes_16 : decode cX2_takes 16 = .ok (.iload_n 1, 1) := by decide +kernel
theorem dX2_takes_17 : decode cX2_takes 17 = .ok (.aload_n 0, 1) := by decide +kernel
theorem dX2_takes_18 : decode cX2_takes 18 = .ok (.getfield 33, 3) := by decide +kernel
theorem dX2_takes_21 : decode cX2_takes 21 = .ok (.aload_n 0, 1) := by decide +kernel
theorem dX2_takes_22 : decode cX2_takes 22 = .ok (.getfield 9, 3) := by decide +kernel
theorem dX2_takes_25 : decode cX2_takes 25 = .ok (.iadd, 1) := by decide +kernel
theorem dX2_takes_26 : decode cX2_takes 26 = .ok (.if_icmp .ge 7, 3) := by decide +kernel
theorem dX2_takes_29 : decode cX2_takes 29 = .ok (.iconst 1, 1) := by decide +kernel
theorem dX2_takes_30 : decode cX2_takes 30 = .ok (.goto 4, 3) := by decide +kernel
theorem dX2_takes_33 : decode cX2_takes 33 = .ok (.iconst 0, 1) := by decide +kernel
theorem dX2_takes_34 : decode cX2_takes 34 = .ok (.ireturn, 1) := by decide +kernel
theorem dX2_takesOneOf_0 : decode cX2_takesOneOf 0 = .ok (.aload_n 0, 1) := by decide +kernel
theorem dX2_takesOneOf_1 : decode cX2_takesOneOf 1 = .ok (.getfield 33, 3) := by decide +kernel
theorem dX2_takesOneOf_4 : decode cX2_takesOneOf 4 = .ok (.iconst (-1), 1) := by decide +kernel
theorem dX2_takesOneOf_5 : decode cX2_takesOneOf 5 = .ok (.if_icmp .eq 30, 3) := by decide +kernel
theorem dX2_takesOneOf_8 : decode cX2_takesOneOf 8 = .ok (.aload_n 0, 1) := by decide +kernel
theorem dX2_takesOneOf_9 : decode cX2_takesOneOf 9 = .ok (.getfield 33, 3) := by decide +kernel
theorem dX2_takesOneOf_12 : decode cX2_takesOneOf 12 = .ok (.iload_n 1, 1) := by decide +kernel
theorem dX2_takesOneOf_13 : decode cX2_takesOneOf 13 = .ok (.iload_n 2, 1) := by decide +kernel
theorem dX2_takesOneOf_14 : decode cX2_takesOneOf 14 = .ok (.iadd, 1) := by decide +kernel
theorem dX2_takesOneOf_15 : decode cX2_takesOneOf 15 = .ok (.if_icmp .ge 20, 3) := by decide +kernel
theorem dX2_takesOneOf_18 : decode cX2_takesOneOf 18 = .ok (.iload_n 1, 1) := by decide +kernel
theorem dX2_takesOneOf_19 : decode cX2_takesOneOf 19 = .ok (.aload_n 0, 1) := by decide +kernel
theorem dX2_takesOneOf_20 : decode cX2_takesOneOf 20 = .ok (.getfield 33, 3) := by decide +kernel
theorem dX2_takesOneOf_23 : decode cX2_takesOneOf 23 = .ok (.aload_n 0, 1) := by decide +kernel
theorem dX2_takesOneOf_24 : decode cX2_takesOneOf 24 = .ok (.getfield 9, 3) := by decide +kernel
theorem dX2_takesOneOf_27 : decode cX2_takesOneOf 27 = .ok (.iadd, 1) := by decide +kernel
theorem dX2_takesOneOf_28 : decode cX2_takesOneOf 28 = .ok (.if_icmp .ge 7, 3) := by decide +kernel
theorem dX2_takesOneOf_31 : decode cX2_takesOneOf 31 = .ok (.iconst 1, 1) := by decide +kernel
theorem dX2_takesOneOf_32 : decode cX2_takesOneOf 32 = .ok (.goto 4, 3) := by decide +kernel
theorem dX2_takesOneOf_35 : decode cX2_takesOneOf 35 = .ok (.iconst 0, 1) := by decide +kernel
theorem dX2_takesOneOf_36 : decode cX2_takesOneOf 36 = .ok (.ireturn, 1) := by decide +kernel
theorem dX2_switchOff_0 : decode cX2_switchOff 0 = .ok (.aload_n 0, 1) := by decide +kernel
theorem dX2_switchOff_1 : decode cX2_switchOff 1 = .ok (.iconst 0, 1) := by decide +kernel
theorem dX2_switchOff_2 : decode cX2_switchOff 2 = .ok (.putfield 30, 3) := by decide +kernel
theorem dX2_switchOff_5 : decode cX2_switchOff 5 = .ok (.aload_n 0, 1) := by decide +kernel
theorem dX2_switchOff_6 : decode cX2_switchOff 6 = .ok (.iconst (-1), 1) := by decide +kernel
theorem dX2_switchOff_7 : decode cX2_switchOff 7 = .ok (.putfield 33, 3) := by decide +kernel
theorem dX2_switchOff_10 : decode cX2_switchOff 10 = .ok (.return_, 1) := by decide +kernel
theorem dX2_work_0 : decode cX2_work 0 = .ok (.aload_n 0, 1) := by decide +kernel
theorem dX2_work_1 : decode cX2_work 1 = .ok (.bipush 31, 2) := by decide +kernel
theorem dX2_work_3 : decode cX2_work 3 = .ok (.aload_n 0, 1) := by decide +kernel
theorem dX2_work_4 : decode cX2_work 4 = .ok (.getfield 15, 3) := by decide +kernel
theorem dX2_work_7 : decode cX2_work 7 = .ok (.imul, 1) := by decide +kernel
theorem dX2_work_8 : decode cX2_work 8 = .ok (.bipush 7, 2) := by decide +kernel
theorem dX2_work_10 : decode cX2_work 10 = .ok (.aload_n 0, 1) := by decide +kernel
theorem dX2_work_11 : decode cX2_work 11 = .ok (.getfield 9, 3) := by decide +kernel
theorem dX2_work_14 : decode cX2_work 14 = .ok (.imul, 1) := by decide +kernel
theorem dX2_work_15 : decode cX2_work 15 = .ok (.iadd, 1) := by decide +kernel
theorem dX2_work_16 : decode cX2_work 16 = .ok (.iconst 1, 1) := by decide +kernel
theorem dX2_work_17 : decode cX2_work 17 = .ok (.iadd, 1) := by decide +kernel
theorem dX2_work_18 : decode cX2_work 18 = .ok (.sipush 997, 3) := by decide +kernel
theorem dX2_work_21 : decode cX2_work 21 = .ok (.irem, 1) := by decide +kernel
theorem dX2_work_22 : decode cX2_work 22 = .ok (.putfield 15, 3) := by decide +kernel
theorem dX2_work_25 : decode cX2_work 25 = .ok (.aload_n 0, 1) := by decide +kernel
theorem dX2_work_26 : decode cX2_work 26 = .ok (.dup, 1) := by decide +kernel
theorem dX2_work_27 : decode cX2_work 27 = .ok (.getfield 21, 3) := by decide +kernel
theorem dX2_work_30 : decode cX2_work 30 = .ok (.iconst 1, 1) := by decide +kernel
theorem dX2_work_31 : decode cX2_work 31 = .ok (.iadd, 1) := by decide +kernel
theorem dX2_work_32 : decode cX2_work 32 = .ok (.putfield 21, 3) := by decide +kernel
theorem dX2_work_35 : decode cX2_work 35 = .ok (.aload_n 0, 1) := by decide +kernel
theorem dX2_work_36 : decode cX2_work 36 = .ok (.dup, 1) := by decide +kernel
theorem dX2_work_37 : decode cX2_work 37 = .ok (.getfield 24, 3) := by decide +kernel
theorem dX2_work_40 : decode cX2_work 40 = .ok (.iconst 1, 1) := by decide +kernel
theorem dX2_work_41 : decode cX2_work 41 = .ok (.iadd, 1) := by decide +kernel
theorem dX2_work_42 : decode cX2_work 42 = .ok (.putfield 24, 3) := by decide +kernel
theorem dX2_work_45 : decode cX2_work 45 = .ok (.return_, 1) := by decide +kernel
theorem dX2_saveValue_0 : decode cX2_saveValue 0 = .ok (.aload_n 0, 1) := by decide +kernel
theorem dX2_saveValue_1 : decode cX2_saveValue 1 = .ok (.aload_n 0, 1) := by decide +kernel
theorem dX2_saveValue_2 : decode cX2_saveValue 2 = .ok (.getfield 15, 3) := by decide +kernel
theorem dX2_saveValue_5 : decode cX2_saveValue 5 = .ok (.putfield 18, 3) := by decide +kernel
theorem dX2_saveValue_8 : decode cX2_saveValue 8 = .ok (.aload_n 0, 1) := by decide +kernel
theorem dX2_saveValue_9 : decode cX2_saveValue 9 = .ok (.iconst 0, 1) := by decide +kernel
theorem dX2_saveValue_10 : decode cX2_saveValue 10 = .ok (.putfield 24, 3) := by decide +kernel
theorem dX2_saveValue_13 : decode cX2_saveValue 13 = .ok (.return_, 1) := by decide +kernel
theorem dX2_fallBack_0 : decode cX2_fallBack 0 = .ok (.aload_n 0, 1) := by decide +kernel
theorem dX2_fallBack_1 : decode cX2_fallBack 1 = .ok (.invokevirtual 27, 3) := by decide +kernel
theorem dX2_fallBack_4 : decode cX2_fallBack 4 = .ok (.aload_n 0, 1) := by decide +kernel
theorem dX2_fallBack_5 : decode cX2_fallBack 5 = .ok (.aload_n 0, 1) := by decide +kernel
theorem dX2_fallBack_6 : decode cX2_fallBack 6 = .ok (.getfield 18, 3) := by decide +kernel
theorem dX2_fallBack_9 : decode cX2_fallBack 9 = .ok (.putfield 15, 3) := by decide +kernel
theorem dX2_fallBack_12 : decode cX2_fallBack 12 = .ok (.aload_n 0, 1) := by decide +kernel
theorem dX2_fallBack_13 : decode cX2_fallBack 13 = .ok (.iconst 0, 1) := by decide +kernel
theorem dX2_fallBack_14 : decode cX2_fallBack 14 = .ok (.putfield 24, 3) := by decide +kernel
theorem dX2_fallBack_17 : decode cX2_fallBack 17 = .ok (.return_, 1) := by decide +kernel
theorem dX3_init_0 : decode cX3_init 0 = .ok (.aload_n 0, 1) := by decide +kernel
theorem dX3_init_1 : decode cX3_init 1 = .ok (.invokespecial 3, 3) := by decide +kernel
theorem dX3_init_4 : decode cX3_init 4 = .ok (.aload_n 0, 1) := by decide +kernel
theorem dX3_init_5 : decode cX3_init 5 = .ok (.bipush 120, 2) := by decide +kernel
theorem dX3_init_7 : decode cX3_init 7 = .ok (.newarray .char, 2) := by decide +kernel
theorem dX3_init_9 : decode cX3_init 9 = .ok (.putfield 9, 3) := by decide +kernel
theorem dX3_init_12 : decode cX3_init 12 = .ok (.aload_n 0, 1) := by decide +kernel
theorem dX3_init_13 : decode cX3_init 13 = .ok (.iconst 0, 1) := by decide +kernel
theorem dX3_init_14 : decode cX3_init 14 = .ok (.putfield 15, 3) := by decide +kernel
theorem dX3_init_17 : decode cX3_init 17 = .ok (.aload_n 0, 1) := by decide +kernel
theorem dX3_init_18 : decode cX3_init 18 = .ok (.iconst 0, 1) := by decide +kernel
theorem dX3_init_19 : decode cX3_init 19 = .ok (.putfield 19, 3) := by decide +kernel
theorem dX3_init_22 : decode cX3_init 22 = .ok (.aload_n 0, 1) := by decide +kernel
theorem dX3_init_23 : decode cX3_init 23 = .ok (.iconst 0, 1) := by decide +kernel
theorem dX3_init_24 : decode cX3_init 24 = .ok (.putfield 22, 3) := by decide +kernel
theorem dX3_init_27 : decode cX3_init 27 = .ok (.aload_n 0, 1) := by decide +kernel
theorem dX3_init_28 : decode cX3_init 28 = .ok (.iconst (-1), 1) := by decide +kernel
theorem dX3_init_29 : decode cX3_init 29 = .ok (.putfield 26, 3) := by decide +kernel
theorem dX3_init_32 : decode cX3_init 32 = .ok (.aload_n 0, 1) := by decide +kernel
theorem dX3_init_33 : decode cX3_init 33 = .ok (.iconst (-1), 1) := by decide +kernel
theorem dX3_init_34 : decode cX3_init 34 = .ok (.putfield 29, 3) := by decide +kernel
theorem dX3_init_37 : decode cX3_init 37 = .ok (.aload_n 0, 1) := by decide +kernel
theorem dX3_init_38 : decode cX3_init 38 = .ok (.iconst (-1), 1) := by decide +kernel
theorem dX3_init_39 : decode cX3_init 39 = .ok (.putfield 32, 3) := by decide +kernel
theorem dX3_init_42 : decode cX3_init 42 = .ok (.return_, 1) := by decide +kernel
theorem dX3_isFull_0 : decode cX3_isFull 0 = .ok (.aload_n 0, 1) := by decide +kernel
theorem dX3_isFull_1 : decode cX3_isFull 1 = .ok (.getfield 15, 3) := by decide +kernel
theorem dX3_isFull_4 : decode cX3_isFull 4 = .ok (.bipush 120, 2) := by decide +kernel
theorem dX3_isFull_6 : decode cX3_isFull 6 = .ok (.if_icmp .lt 7, 3) := by decide +kernel
theorem dX3_isFull_9 : decode cX3_isFull 9 = .ok (.iconst 1, 1) := by decide +kernel
theorem dX3_isFull_10 : decode cX3_isFull 10 = .ok (.goto 4, 3) := by decide +kernel
theorem dX3_isFull_13 : decode cX3_isFull 13 = .ok (.iconst 0, 1) := by decide +kernel
theorem dX3_isFull_14 : decode cX3_isFull 14 = .ok (.ireturn, 1) := by decide +kernel
theorem dX3_put_0 : decode cX3_put 0 = .ok (.aload_n 0, 1) := by decide +kernel
theorem dX3_put_1 : decode cX3_put 1 = .ok (.getfield 15, 3) := by decide +kernel
theorem dX3_put_4 : decode cX3_put 4 = .ok (.iconst 0, 1) := by decide +kernel
theorem dX3_put_5 : decode cX3_put 5 = .ok (.bipush 119, 2) := by decide +kernel
theorem dX3_put_7 : decode cX3_put 7 = .ok (.invokestatic 35, 3) := by decide +kernel
theorem dX3_put_10 : decode cX3_put 10 = .ok (.ifCond .eq 23, 3) := by decide +kernel
theorem dX3_put_13 : decode cX3_put 13 = .ok (.aload_n 0, 1) := by decide +kernel
theorem dX3_put_14 : decode cX3_put 14 = .ok (.getfield 9, 3) := by decide +kernel
theorem dX3_put_17 : decode cX3_put 17 = .ok (.aload_n 0, 1) := by decide +kernel
theorem dX3_put_18 : decode cX3_put 18 = .ok (.getfield 15, 3) := by decide +kernel
theorem dX3_put_21 : decode cX3_put 21 = .ok (.iload_n 1, 1) := by decide +kernel
theorem dX3_put_22 : decode cX3_put 22 = .ok (.castore, 1) := by decide +kernel
theorem dX3_put_23 : decode cX3_put 23 = .ok (.aload_n 0, 1) := by decide +kernel
theorem dX3_put_24 : decode cX3_put 24 = .ok (.dup, 1) := by decide +kernel
theorem dX3_put_25 : decode cX3_put 25 = .ok (.getfield 15, 3) := by decide +kernel
theorem dX3_put_28 : decode cX3_put 28 = .ok (.iconst 1, 1) := by decide +kernel
theorem dX3_put_29 : decode cX3_put 29 = .ok (.iadd, 1) := by decide +kernel
theorem dX3_put_30 : decode cX3_put 30 = .ok (.putfield 15, 3) := by decide +kernel
theorem dX3_put_33 : decode cX3_put 33 = .ok (.aload_n 0, 1) := by decide +kernel
theorem dX3_put_34 : decode cX3_put 34 = .ok (.getfield 15, 3) := by decide +kernel
theorem dX3_put_37 : decode cX3_put 37 = .ok (.ireturn, 1) := by decide +kernel
theorem dX3_firstError_0 : decode cX3_firstError 0 = .ok (.aload_n 0, 1) := by decide +kernel
theorem dX3_firstError_1 : decode cX3_firstError 1 = .ok (.invokevirtual 39, 3) := by decide +kernel
theorem dX3_firstError_4 : decode cX3_firstError 4 = .ok (.iconst 0, 1) := by decide +kernel
theorem dX3_firstError_5 : decode cX3_firstError 5 = .ok (.istore_n 1, 1) := by decide +kernel
theorem dX3_firstError_6 : decode cX3_firstError 6 = .ok (.iload_n 1, 1) := by decide +kernel
theorem dX3_firstError_7 : decode cX3_firstError 7 = .ok (.bipush 120, 2) := by decide +kernel
theorem dX3_firstError_9 : decode cX3_firstError 9 = .ok (.if_icmp .ge 16, 3) := by decide +kernel
theorem dX3_firstError_12 : decode cX3_firstError 12 = .ok (.aload_n 0, 1) := by decide +kernel
theorem dX3_firstError_13 : decode cX3_firstError 13 = .ok (.invokevirtual 42, 3) := by decide +kernel
theorem dX3_firstError_16 : decode cX3_firstError 16 = .ok (.ifCond .eq 9, 3) := by decide +kernel
theorem dX3_firstError_19 : decode cX3_firstError 19 = .ok (.iinc 1 1, 3) := by decide +kernel
theorem dX3_firstError_22 : decode cX3_firstError 22 = .ok (.goto (-16), 3) := by decide +kernel
theorem dX3_firstError_25 : decode cX3_firstError 25 = .ok (.aload_n 0, 1) := by decide +kernel
theorem dX3_firstError_26 : decode cX3_firstError 26 = .ok (.getfield 22, 3) := by decide +kernel
theorem dX3_firstError_29 : decode cX3_firstError 29 = .ok (.ifCond .eq 10, 3) := by decide +kernel
theorem dX3_firstError_32 : decode cX3_firstError 32 = .ok (.aload_n 0, 1) := by decide +kernel
theorem dX3_firstError_33 : decode cX3_firstError 33 = .ok (.getfield 19, 3) := by decide +kernel
theorem dX3_firstError_36 : decode cX3_firstError 36 = .ok (.goto 4, 3) := by decide +kernel
theorem dX3_firstError_39 : decode cX3_firstError 39 = .ok (.iconst (-1), 1) := by decide +kernel
theorem dX3_firstError_40 : decode cX3_firstError 40 = .ok (.ireturn, 1) := by decide +kernel
theorem dX3_beginReading_0 : decode cX3_beginReading 0 = .ok (.aload_n 0, 1) := by decide +kernel
theorem dX3_beginReading_1 : decode cX3_beginReading 1 = .ok (.aload_n 0, 1) := by decide +kernel
theorem dX3_beginReading_2 : decode cX3_beginReading 2 = .ok (.getfield 15, 3) := by decide +kernel
theorem dX3_beginReading_5 : decode cX3_beginReading 5 = .ok (.ifCond .eq 14, 3) := by decide +kernel
theorem dX3_beginReading_8 : decode cX3_beginReading 8 = .ok (.aload_n 0, 1) := by decide +kernel
theorem dX3_beginReading_9 : decode cX3_beginReading 9 = .ok (.getfield 9, 3) := by decide +kernel
theorem dX3_beginReading_12 : decode cX3_beginReading 12 = .ok (.iconst 0, 1) := by decide +kernel
theorem dX3_beginReading_13 : decode cX3_beginReading 13 = .ok (.caload, 1) := by decide +kernel
theorem dX3_beginReading_14 : decode cX3_beginReading 14 = .ok (.bipush 65, 2) := by decide +kernel
theorem dX3_beginReading_16 : decode cX3_beginReading 16 = .ok (.if_icmp .eq 7, 3) := by decide +kernel
theorem dX3_beginReading_19 : decode cX3_beginReading 19 = .ok (.iconst 1, 1) := by decide +kernel
theorem dX3_beginReading_20 : decode cX3_beginReading 20 = .ok (.goto 4, 3) := by decide +kernel
theorem dX3_beginReading_23 : decode cX3_beginReading 23 = .ok (.iconst 0, 1) := by decide +kernel
theorem dX3_beginReading_24 : decode cX3_beginReading 24 = .ok (.putfield 22, 3) := by decide +kernel
theorem dX3_beginReading_27 : decode cX3_beginReading 27 = .ok (.aload_n 0, 1) := by decide +kernel
theorem dX3_beginReading_28 : decode cX3_beginReading 28 = .ok (.aload_n 0, 1) := by decide +kernel
theorem dX3_beginReading_29 : decode cX3_beginReading 29 = .ok (.getfield 22, 3) := by decide +kernel
theorem dX3_beginReading_32 : decode cX3_beginReading 32 = .ok (.ifCond .eq 7, 3) := by decide +kernel
theorem dX3_beginReading_35 : decode cX3_beginReading 35 = .ok (.iconst 0, 1) := by decide +kernel
theorem dX3_beginReading_36 : decode cX3_beginReading 36 = .ok (.goto 4, 3) := by decide +kernel
theorem dX3_beginReading_39 : decode cX3_beginReading 39 = .ok (.iconst 1, 1) := by decide +kernel
theorem dX3_beginReading_40 : decode cX3_beginReading 40 = .ok (.putfield 19, 3) := by decide +kernel
theorem dX3_beginReading_43 : decode cX3_beginReading 43 = .ok (.return_, 1) := by decide +kernel
theorem dX3_readCommand_0 : decode cX3_readCommand 0 = .ok (.aload_n 0, 1) := by decide +kernel
theorem dX3_readCommand_1 : decode cX3_readCommand 1 = .ok (.getfield 22, 3) := by decide +kernel
theorem dX3_readCommand_4 : decode cX3_readCommand 4 = .ok (.ifCond .ne 14, 3) := by decide +kernel
theorem dX3_readCommand_7 : decode cX3_readCommand 7 = .ok (.aload_n 0, 1) := by decide +kernel
theorem dX3_readCommand_8 : decode cX3_readCommand 8 = .ok (.aload_n 0, 1) := by decide +kernel
theorem dX3_readCommand_9 : decode cX3_readCommand 9 = .ok (.getfield 19, 3) := by decide +kernel
theorem dX3_readCommand_12 : decode cX3_readCommand 12 = .ok (.invokevirtual 46, 3) := by decide +kernel
theorem dX3_readCommand_15 : decode cX3_readCommand 15 = .ok (.ifCond .ne 5, 3) := by decide +kernel
theorem dX3_readCommand_18 : decode cX3_readCommand 18 = .ok (.iconst 0, 1) := by decide +kernel
theorem dX3_readCommand_19 : decode cX3_readCommand 19 = .ok (.ireturn, 1) := by decide +kernel
theorem dX3_readCommand_20 : decode cX3_readCommand 20 = .ok (.aload_n 0, 1) := by decide +kernel
theorem dX3_readCommand_21 : decode cX3_readCommand 21 = .ok (.aload_n 0, 1) := by decide +kernel
theorem dX3_readCommand_22 : decode cX3_readCommand 22 = .ok (.getfield 9, 3) := by decide +kernel
theorem dX3_readCommand_25 : decode cX3_readCommand 25 = .ok (.aload_n 0, 1) := by decide +kernel
theorem dX3_readCommand_26 : decode cX3_readCommand 26 = .ok (.getfield 19, 3) := by decide +kernel
theorem dX3_readCommand_29 : decode cX3_readCommand 29 = .ok (.caload, 1) := by decide +kernel
theorem dX3_readCommand_30 : decode cX3_readCommand 30 = .ok (.putfield 26, 3) := by decide +kernel
theorem dX3_readCommand_33 : decode cX3_readCommand 33 = .ok (.aload_n 0, 1) := by decide +kernel
theorem dX3_readCommand_34 : decode cX3_readCommand 34 = .ok (.dup, 1) := by decide +kernel
theorem dX3_readCommand_35 : decode cX3_readCommand 35 = .ok (.getfield 19, 3) := by decide +kernel
theorem dX3_readCommand_38 : decode cX3_readCommand 38 = .ok (.iconst 1, 1) := by decide +kernel
theorem dX3_readCommand_39 : decode cX3_readCommand 39 = .ok (.iadd, 1) := by decide +kernel
theorem dX3_readCommand_40 : decode cX3_readCommand 40 = .ok (.putfield 19, 3) := by decide +kernel
theorem dX3_readCommand_43 : decode cX3_readCommand 43 = .ok (.aload_n 0, 1) := by decide +kernel
theorem dX3_readCommand_44 : decode cX3_readCommand 44 = .ok (.getfield 26, 3) := by decide +kernel
theorem dX3_readCommand_47 : decode cX3_readCommand 47 = .ok (.lookupswitch 155 #[(98, 111), (103, 111), (108, 85), (115, 126), (116, 57), (119, 140)], 57) := by decide +kernel
theorem dX3_readCommand_104 : decode cX3_readCommand 104 = .ok (.aload_n 0, 1) := by decide +kernel
theorem dX3_readCommand_105 : decode cX3_readCommand 105 = .ok (.aload_n 0, 1) := by decide +kernel
theorem dX3_readCommand_106 : decode cX3_readCommand 106 = .ok (.iconst 1, 1) := by decide +kernel
theorem dX3_readCommand_107 : decode cX3_readCommand 107 = .ok (.iconst 1, 1) := by decide +kernel
theorem dX3_readCommand_108 : decode cX3_readCommand 108 = .ok (.bipush 6, 2) := by decide +kernel
theorem dX3_readCommand_110 : decode cX3_readCommand 110 = .ok (.invokevirtual 50, 3) := by decide +kernel
theorem dX3_readCommand_113 : decode cX3_readCommand 113 = .ok (.putfield 29, 3) := by decide +kernel
theorem dX3_readCommand_116 : decode cX3_readCommand 116 = .ok (.aload_n 0, 1) := by decide +kernel
theorem dX3_readCommand_117 : decode cX3_readCommand 117 = .ok (.aload_n 0, 1) := by decide +kernel
theorem dX3_readCommand_118 : decode cX3_readCommand 118 = .ok (.iconst 3, 1) := by decide +kernel
theorem dX3_readCommand_119 : decode cX3_readCommand 119 = .ok (.iconst 0, 1) := by decide +kernel
theorem dX3_readCommand_120 : decode cX3_readCommand 120 = .ok (.sipush 996, 3) := by decide +kernel
theorem dX3_readCommand_123 : decode cX3_readCommand 123 = .ok (.invokevirtual 50, 3) := by decide +kernel
theorem dX3_readCommand_126 : decode cX3_readCommand 126 = .ok (.putfield 32, 3) := by decide +kernel
theorem dX3_readCommand_129 : decode cX3_readCommand 129 = .ok (.goto 88, 3) := by decide +kernel
theorem dX3_readCommand_132 : decode cX3_readCommand 132 = .ok (.aload_n 0, 1) := by decide +kernel
theorem dX3_readCommand_133 : decode cX3_readCommand 133 = .ok (.aload_n 0, 1) := by decide +kernel
theorem dX3_readCommand_134 : decode cX3_readCommand 134 = .ok (.iconst 1, 1) := by decide +kernel
theorem dX3_readCommand_135 : decode cX3_readCommand 135 = .ok (.iconst 0, 1) := by decide +kernel
theorem dX3_readCommand_136 : decode cX3_readCommand 136 = .ok (.iconst 5, 1) := by decide +kernel
theorem dX3_readCommand_137 : decode cX3_readCommand 137 = .ok (.invokevirtual 50, 3) := by decide +kernel
theorem dX3_readCommand_140 : decode cX3_readCommand 140 = .ok (.putfield 29, 3) := by decide +kernel
theorem dX3_readCommand_143 : decode cX3_readCommand 143 = .ok (.aload_n 0, 1) := by decide +kernel
theorem dX3_readCommand_144 : decode cX3_readCommand 144 = .ok (.aload_n 0, 1) := by decide +kernel
theorem dX3_readCommand_145 : decode cX3_readCommand 145 = .ok (.iconst 2, 1) := by decide +kernel
theorem dX3_readCommand_146 : decode cX3_readCommand 146 = .ok (.iconst 0, 1) := by decide +kernel
theorem dX3_readCommand_147 : decode cX3_readCommand 147 = .ok (.bipush 11, 2) := by decide +kernel
theorem dX3_readCommand_149 : decode cX3_readCommand 149 = .ok (.invokevirtual 50, 3) := by decide +kernel
theorem dX3_readCommand_152 : decode cX3_readCommand 152 = .ok (.putfield 32, 3) := by decide +kernel
theorem dX3_readCommand_155 : decode cX3_readCommand 155 = .ok (.goto 62, 3) := by decide +kernel
theorem dX3_readCommand_158 : decode cX3_readCommand 158 = .ok (.aload_n 0, 1) := by decide +kernel
theorem dX3_readCommand_159 : decode cX3_readCommand 159 = .ok (.aload_n 0, 1) := by decide +kernel
theorem dX3_readCommand_160 : decode cX3_readCommand 160 = .ok (.iconst 2, 1) := by decide +kernel
theorem dX3_readCommand_161 : decode cX3_readCommand 161 = .ok (.iconst 0, 1) := by decide +kernel
theorem dX3_readCommand_162 : decode cX3_readCommand 162 = .ok (.bipush 11, 2) := by decide +kernel
theorem dX3_readCommand_164 : decode cX3_readCommand 164 = .ok (.invokevirtual 50, 3) := by decide +kernel
theorem dX3_readCommand_167 : decode cX3_readCommand 167 = .ok (.putfield 29, 3) := by decide +kernel
theorem dX3_readCommand_170 : decode cX3_readCommand 170 = .ok (.goto 47, 3) := by decide +kernel
theorem dX3_readCommand_173 : decode cX3_readCommand 173 = .ok (.aload_n 0, 1) := by decide +kernel
theorem dX3_readCommand_174 : decode cX3_readCommand 174 = .ok (.aload_n 0, 1) := by decide +kernel
theorem dX3_readCommand_175 : decode cX3_readCommand 175 = .ok (.iconst 1, 1) := by decide +kernel
theorem dX3_readCommand_176 : decode cX3_readCommand 176 = .ok (.iconst 0, 1) := by decide +kernel
theorem dX3_readCommand_177 : decode cX3_readCommand 177 = .ok (.iconst 5, 1) := by decide +kernel
theorem dX3_readCommand_178 : decode cX3_readCommand 178 = .ok (.invokevirtual 50, 3) := by decide +kernel
theorem dX3_readCommand_181 : decode cX3_readCommand 181 = .ok (.putfield 29, 3) := by decide +kernel
theorem dX3_readCommand_184 : decode cX3_readCommand 184 = .ok (.goto 33, 3) := by decide +kernel
theorem dX3_readCommand_187 : decode cX3_readCommand 187 = .ok (.aload_n 0, 1) := by decide +kernel
theorem dX3_readCommand_188 : decode cX3_readCommand 188 = .ok (.aload_n 0, 1) := by decide +kernel
theorem dX3_readCommand_189 : decode cX3_readCommand 189 = .ok (.iconst 2, 1) := by decide +kernel
theorem dX3_readCommand_190 : decode cX3_readCommand 190 = .ok (.iconst 1, 1) := by decide +kernel
theorem dX3_readCommand_191 : decode cX3_readCommand 191 = .ok (.bipush 60, 2) := by decide +kernel
theorem dX3_readCommand_193 : decode cX3_readCommand 193 = .ok (.invokevirtual 50, 3) := by decide +kernel
theorem dX3_readCommand_196 : decode cX3_readCommand 196 = .ok (.putfield 29, 3) := by decide +kernel
theorem dX3_readCommand_199 : decode cX3_readCommand 199 = .ok (.goto 18, 3) := by decide +kernel
theorem dX3_readCommand_202 : decode cX3_readCommand 202 = .ok (.aload_n 0, 1) := by decide +kernel
theorem dX3_readCommand_203 : decode cX3_readCommand 203 = .ok (.dup, 1) := by decide +kernel
theorem dX3_readCommand_204 : decode cX3_readCommand 204 = .ok (.getfield 19, 3) := by decide +kernel
theorem dX3_readCommand_207 : decode cX3_readCommand 207 = .ok (.iconst 1, 1) := by decide +kernel
theorem dX3_readCommand_208 : decode cX3_readCommand 208 = .ok (.isub, 1) := by decide +kernel
theorem dX3_readCommand_209 : decode cX3_readCommand 209 = .ok (.putfield 19, 3) := by decide +kernel
theorem dX3_readCommand_212 : decode cX3_readCommand 212 = .ok (.aload_n 0, 1) := by decide +kernel
theorem dX3_readCommand_213 : decode cX3_readCommand 213 = .ok (.iconst 1, 1) := by decide +kernel
theorem dX3_readCommand_214 : decode cX3_readCommand 214 = .ok (.putfield 22, 3) := by decide +kernel
theorem dX3_readCommand_217 : decode cX3_readCommand 217 = .ok (.aload_n 0, 1) := by decide +kernel
theorem dX3_readCommand_218 : decode cX3_readCommand 218 = .ok (.getfield 22, 3) := by decide +kernel
theorem dX3_readCommand_221 : decode cX3_readCommand 221 = .ok (.ifCond .ne 7, 3) := by decide +kernel
theorem dX3_readCommand_224 : decode cX3_readCommand 224 = .ok (.iconst 1, 1) := by decide +kernel
theorem dX3_readCommand_225 : decode cX3_readCommand 225 = .ok (.goto 4, 3) := by decide +kernel
theorem dX3_readCommand_228 : decode cX3_readCommand 228 = .ok (.iconst 0, 1) := by decide +kernel
theorem dX3_readCommand_229 : decode cX3_readCommand 229 = .ok (.ireturn, 1) := by decide +kernel
theorem dX3_readNumber_0 : decode cX3_readNumber 0 = .ok (.iconst 0, 1) := by decide +kernel
theorem dX3_readNumber_1 : decode cX3_readNumber 1 = .ok (.istore 4, 2) := by decide +kernel
theorem dX3_readNumber_3 : decode cX3_readNumber 3 = .ok (.iconst 1, 1) := by decide +kernel
theorem dX3_readNumber_4 : decode cX3_readNumber 4 = .ok (.istore 5, 2) := by decide +kernel
theorem dX3_readNumber_6 : decode cX3_readNumber 6 = .ok (.iconst 0, 1) := by decide +kernel
theorem dX3_readNumber_7 : decode cX3_readNumber 7 = .ok (.istore 6, 2) := by decide +kernel
theorem dX3_readNumber_9 : decode cX3_readNumber 9 = .ok (.iload 6, 2) := by decide +kernel
theorem dX3_readNumber_11 : decode cX3_readNumber 11 = .ok (.iload_n 1, 1) := by decide +kernel
theorem dX3_readNumber_12 : decode cX3_readNumber 12 = .ok (.if_icmp .ge 16, 3) := by decide +kernel
theorem dX3_readNumber_15 : decode cX3_readNumber 15 = .ok (.iload 5, 2) := by decide +kernel
theorem dX3_readNumber_17 : decode cX3_readNumber 17 = .ok (.bipush 10, 2) := by decide +kernel
theorem dX3_readNumber_19 : decode cX3_readNumber 19 = .ok (.imul, 1) := by decide +kernel
theorem dX3_readNumber_20 : decode cX3_readNumber 20 = .ok (.istore 5, 2) := by decide +kernel
theorem dX3_readNumber_22 : decode cX3_readNumber 22 = .ok (.iinc 6 1, 3) := by decide +kernel
theorem dX3_readNumber_25 : decode cX3_readNumber 25 = .ok (.goto (-16), 3) := by decide +kernel
theorem dX3_readNumber_28 : decode cX3_readNumber 28 = .ok (.iconst 0, 1) := by decide +kernel
theorem dX3_readNumber_29 : decode cX3_readNumber 29 = .ok (.istore 6, 2) := by decide +kernel
theorem dX3_readNumber_31 : decode cX3_readNumber 31 = .ok (.iload 6, 2) := by decide +kernel
theorem dX3_readNumber_33 : decode cX3_readNumber 33 = .ok (.iload_n 1, 1) := by decide +kernel
theorem dX3_readNumber_34 : decode cX3_readNumber 34 = .ok (.if_icmp .ge 95, 3) := by decide +kernel
theorem dX3_readNumber_37 : decode cX3_readNumber 37 = .ok (.aload_n 0, 1) := by decide +kernel
theorem dX3_readNumber_38 : decode cX3_readNumber 38 = .ok (.getfield 22, 3) := by decide +kernel
theorem dX3_readNumber_41 : decode cX3_readNumber 41 = .ok (.ifCond .ne 88, 3) := by decide +kernel
theorem dX3_readNumber_44 : decode cX3_readNumber 44 = .ok (.iload 5, 2) := by decide +kernel
theorem dX3_readNumber_46 : decode cX3_readNumber 46 = .ok (.bipush 10, 2) := by decide +kernel
theorem dX3_readNumber_48 : decode cX3_readNumber 48 = .ok (.idiv, 1) := by decide +kernel
theorem dX3_readNumber_49 : decode cX3_readNumber 49 = .ok (.istore 5, 2) := by decide +kernel
theorem dX3_readNumber_51 : decode cX3_readNumber 51 = .ok (.aload_n 0, 1) := by decide +kernel
theorem dX3_readNumber_52 : decode cX3_readNumber 52 = .ok (.aload_n 0, 1) := by decide +kernel
theorem dX3_readNumber_53 : decode cX3_readNumber 53 = .ok (.getfield 19, 3) := by decide +kernel
theorem dX3_readNumber_56 : decode cX3_readNumber 56 = .ok (.invokevirtual 54, 3) := by decide +kernel
theorem dX3_readNumber_59 : decode cX3_readNumber 59 = .ok (.istore 7, 2) := by decide +kernel
theorem dX3_readNumber_61 : decode cX3_readNumber 61 = .ok (.iload 4, 2) := by decide +kernel
theorem dX3_readNumber_63 : decode cX3_readNumber 63 = .ok (.bipush 10, 2) := by decide +kernel
theorem dX3_readNumber_65 : decode cX3_readNumber 65 = .ok (.imul, 1) := by decide +kernel
theorem dX3_readNumber_66 : decode cX3_readNumber 66 = .ok (.iload 7, 2) := by decide +kernel
theorem dX3_readNumber_68 : decode cX3_readNumber 68 = .ok (.iadd, 1) := by decide +kernel
theorem dX3_readNumber_69 : decode cX3_readNumber 69 = .ok (.istore 4, 2) := by decide +kernel
theorem dX3_readNumber_71 : decode cX3_readNumber 71 = .ok (.aload_n 0, 1) := by decide +kernel
theorem dX3_readNumber_72 : decode cX3_readNumber 72 = .ok (.iload 7, 2) := by decide +kernel
theorem dX3_readNumber_74 : decode cX3_readNumber 74 = .ok (.iconst (-1), 1) := by decide +kernel
theorem dX3_readNumber_75 : decode cX3_readNumber 75 = .ok (.if_icmp .eq 23, 3) := by decide +kernel
theorem dX3_readNumber_78 : decode cX3_readNumber 78 = .ok (.iload 4, 2) := by decide +kernel
theorem dX3_readNumber_80 : decode cX3_readNumber 80 = .ok (.iload 5, 2) := by decide +kernel
theorem dX3_readNumber_82 : decode cX3_readNumber 82 = .ok (.imul, 1) := by decide +kernel
theorem dX3_readNumber_83 : decode cX3_readNumber 83 = .ok (.iload_n 3, 1) := by decide +kernel
theorem dX3_readNumber_84 : decode cX3_readNumber 84 = .ok (.if_icmp .gt 14, 3) := by decide +kernel
theorem dX3_readNumber_87 : decode cX3_readNumber 87 = .ok (.iload 4, 2) := by decide +kernel
theorem dX3_readNumber_89 : decode cX3_readNumber 89 = .ok (.iconst 1, 1) := by decide +kernel
theorem dX3_readNumber_90 : decode cX3_readNumber 90 = .ok (.iadd, 1) := by decide +kernel
theorem dX3_readNumber_91 : decode cX3_readNumber 91 = .ok (.iload 5, 2) := by decide +kernel
theorem dX3_readNumber_93 : decode cX3_readNumber 93 = .ok (.imul, 1) := by decide +kernel
theorem dX3_readNumber_94 : decode cX3_readNumber 94 = .ok (.iload_n 2, 1) := by decide +kernel
theorem dX3_readNumber_95 : decode cX3_readNumber 95 = .ok (.if_icmp .gt 7, 3) := by decide +kernel
theorem dX3_readNumber_98 : decode cX3_readNumber 98 = .ok (.iconst 1, 1) := by decide +kernel
theorem dX3_readNumber_99 : decode cX3_readNumber 99 = .ok (.goto 4, 3) := by decide +kernel
theorem dX3_readNumber_102 : decode cX3_readNumber 102 = .ok (.iconst 0, 1) := by decide +kernel
theorem dX3_readNumber_103 : decode cX3_readNumber 103 = .ok (.putfield 22, 3) := by decide +kernel
theorem dX3_readNumber_106 : decode cX3_readNumber 106 = .ok (.aload_n 0, 1) := by decide +kernel
theorem dX3_readNumber_107 : decode cX3_readNumber 107 = .ok (.getfield 22, 3) := by decide +kernel
theorem dX3_readNumber_110 : decode cX3_readNumber 110 = .ok (.ifCond .ne 13, 3) := by decide +kernel
theorem dX3_readNumber_113 : decode cX3_readNumber 113 = .ok (.aload_n 0, 1) := by decide +kernel
theorem dX3_readNumber_114 : decode cX3_readNumber 114 = .ok (.dup, 1) := by decide +kernel
theorem dX3_readNumber_115 : decode cX3_readNumber 115 = .ok (.getfield 19, 3) := by decide +kernel
theorem dX3_readNumber_118 : decode cX3_readNumber 118 = .ok (.iconst 1, 1) := by decide +kernel
theorem dX3_readNumber_119 : decode cX3_readNumber 119 = .ok (.iadd, 1) := by decide +kernel
theorem dX3_readNumber_120 : decode cX3_readNumber 120 = .ok (.putfield 19, 3) := by decide +kernel
theorem dX3_readNumber_123 : decode cX3_readNumber 123 = .ok (.iinc 6 1, 3) := by decide +kernel
theorem dX3_readNumber_126 : decode cX3_readNumber 126 = .ok (.goto (-95), 3) := by decide +kernel
theorem dX3_readNumber_129 : decode cX3_readNumber 129 = .ok (.aload_n 0, 1) := by decide +kernel
theorem dX3_readNumber_130 : decode cX3_readNumber 130 = .ok (.getfield 22, 3) := by decide +kernel
theorem dX3_readNumber_133 : decode cX3_readNumber 133 = .ok (.ifCond .eq 7, 3) := by decide +kernel
theorem dX3_readNumber_136 : decode cX3_readNumber 136 = .ok (.iconst (-1), 1) := by decide +kernel
theorem dX3_readNumber_137 : decode cX3_readNumber 137 = .ok (.goto 5, 3) := by decide +kernel
theorem dX3_readNumber_140 : decode cX3_readNumber 140 = .ok (.iload 4, 2) := by decide +kernel
theorem dX3_readNumber_142 : decode cX3_readNumber 142 = .ok (.ireturn, 1) := by decide +kernel
theorem dX3_digitAt_0 : decode cX3_digitAt 0 = .ok (.aload_n 0, 1) := by decide +kernel
theorem dX3_digitAt_1 : decode cX3_digitAt 1 = .ok (.iload_n 1, 1) := by decide +kernel
theorem dX3_digitAt_2 : decode cX3_digitAt 2 = .ok (.invokevirtual 46, 3) := by decide +kernel
theorem dX3_digitAt_5 : decode cX3_digitAt 5 = .ok (.ifCond .eq 31, 3) := by decide +kernel
theorem dX3_digitAt_8 : decode cX3_digitAt 8 = .ok (.aload_n 0, 1) := by decide +kernel
theorem dX3_digitAt_9 : decode cX3_digitAt 9 = .ok (.getfield 9, 3) := by decide +kernel
theorem dX3_digitAt_12 : decode cX3_digitAt 12 = .ok (.iload_n 1, 1) := by decide +kernel
theorem dX3_digitAt_13 : decode cX3_digitAt 13 = .ok (.caload, 1) := by decide +kernel
theorem dX3_digitAt_14 : decode cX3_digitAt 14 = .ok (.bipush 48, 2) := by decide +kernel
theorem dX3_digitAt_16 : decode cX3_digitAt 16 = .ok (.bipush 57, 2) := by decide +kernel
theorem dX3_digitAt_18 : decode cX3_digitAt 18 = .ok (.invokestatic 35, 3) := by decide +kernel
theorem dX3_digitAt_21 : decode cX3_digitAt 21 = .ok (.ifCond .eq 15, 3) := by decide +kernel
theorem dX3_digitAt_24 : decode cX3_digitAt 24 = .ok (.aload_n 0, 1) := by decide +kernel
theorem dX3_digitAt_25 : decode cX3_digitAt 25 = .ok (.getfield 9, 3) := by decide +kernel
theorem dX3_digitAt_28 : decode cX3_digitAt 28 = .ok (.iload_n 1, 1) := by decide +kernel
theorem dX3_digitAt_29 : decode cX3_digitAt 29 = .ok (.caload, 1) := by decide +kernel
theorem dX3_digitAt_30 : decode cX3_digitAt 30 = .ok (.bipush 48, 2) := by decide +kernel
theorem dX3_digitAt_32 : decode cX3_digitAt 32 = .ok (.isub, 1) := by decide +kernel
theorem dX3_digitAt_33 : decode cX3_digitAt 33 = .ok (.goto 4, 3) := by decide +kernel
theorem dX3_digitAt_36 : decode cX3_digitAt 36 = .ok (.iconst (-1), 1) := by decide +kernel
theorem dX3_digitAt_37 : decode cX3_digitAt 37 = .ok (.ireturn, 1) := by decide +kernel
theorem dX3_isInText_0 : decode cX3_isInText 0 = .ok (.iload_n 1, 1) := by decide +kernel
theorem dX3_isInText_1 : decode cX3_isInText 1 = .ok (.iconst 0, 1) := by decide +kernel
theorem dX3_isInText_2 : decode cX3_isInText 2 = .ok (.aload_n 0, 1) := by decide +kernel
theorem dX3_isInText_3 : decode cX3_isInText 3 = .ok (.getfield 15, 3) := by decide +kernel
theorem dX3_isInText_6 : decode cX3_isInText 6 = .ok (.iconst 1, 1) := by decide +kernel
theorem dX3_isInText_7 : decode cX3_isInText 7 = .ok (.isub, 1) := by decide +kernel
theorem dX3_isInText_8 : decode cX3_isInText 8 = .ok (.invokestatic 35, 3) := by decide +kernel
theorem dX3_isInText_11 : decode cX3_isInText 11 = .ok (.ifCond .eq 13, 3) := by decide +kernel
theorem dX3_isInText_14 : decode cX3_isInText 14 = .ok (.iload_n 1, 1) := by decide +kernel
theorem dX3_isInText_15 : decode cX3_isInText 15 = .ok (.bipush 120, 2) := by decide +kernel
theorem dX3_isInText_17 : decode cX3_isInText 17 = .ok (.if_icmp .ge 7, 3) := by decide +kernel
theorem dX3_isInText_20 : decode cX3_isInText 20 = .ok (.iconst 1, 1) := by decide +kernel
theorem dX3_isInText_21 : decode cX3_isInText 21 = .ok (.goto 4, 3) := by decide +kernel
theorem dX3_isInText_24 : decode cX3_isInText 24 = .ok (.iconst 0, 1) := by decide +kernel
theorem dX3_isInText_25 : decode cX3_isInText 25 = .ok (.ireturn, 1) := by decide +kernel
