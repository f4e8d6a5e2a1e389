theorem dX5_init_0 : decode cX5_init 0 = .ok (.aload_n 0, 1) := by decide +kernel
theorem dX5_init_1 : decode cX5_init 1 = .ok (.invokespecial 1, 3) := by decide +kernel
theorem dX5_init_4 : decode cX5_init 4 = .ok (.aload_n 0, 1) := by decide +kernel
theorem dX5_init_5 : decode cX5_init 5 = .ok (.bipush 120, 2) := by decide +kernel
theorem dX5_init_7 : decode cX5_init 7 = .ok (.newarray .int, 2) := by decide +kernel
theorem dX5_init_9 : decode cX5_init 9 = .ok (.putfield 7, 3) := by decide +kernel
theorem dX5_init_12 : decode cX5_init 12 = .ok (.aload_n 0, 1) := by decide +kernel
theorem dX5_init_13 : decode cX5_init 13 = .ok (.bipush 65, 2) := by decide +kernel
theorem dX5_init_15 : decode cX5_init 15 = .ok (.newarray .int, 2) := by decide +kernel
theorem dX5_init_17 : decode cX5_init 17 = .ok (.putfield 13, 3) := by decide +kernel
theorem dX5_init_20 : decode cX5_init 20 = .ok (.aload_n 0, 1) := by decide +kernel
theorem dX5_init_21 : decode cX5_init 21 = .ok (.bipush 65, 2) := by decide +kernel
theorem dX5_init_23 : decode cX5_init 23 = .ok (.newarray .int, 2) := by decide +kernel
theorem dX5_init_25 : decode cX5_init 25 = .ok (.putfield 16, 3) := by decide +kernel
theorem dX5_init_28 : decode cX5_init 28 = .ok (.aload_n 0, 1) := by decide +kernel
theorem dX5_init_29 : decode cX5_init 29 = .ok (.sipush 910, 3) := by decide +kernel
theorem dX5_init_32 : decode cX5_init 32 = .ok (.newarray .int, 2) := by decide +kernel
theorem dX5_init_34 : decode cX5_init 34 = .ok (.putfield 19, 3) := by decide +kernel
theorem dX5_init_37 : decode cX5_init 37 = .ok (.aload_n 0, 1) := by decide +kernel
theorem dX5_init_38 : decode cX5_init 38 = .ok (.sipush 130, 3) := by decide +kernel
theorem dX5_init_41 : decode cX5_init 41 = .ok (.newarray .int, 2) := by decide +kernel
theorem dX5_init_43 : decode cX5_init 43 = .ok (.putfield 22, 3) := by decide +kernel
theorem dX5_init_46 : decode cX5_init 46 = .ok (.aload_n 0, 1) := by decide +kernel
theorem dX5_init_47 : decode cX5_init 47 = .ok (.iconst 2, 1) := by decide +kernel
theorem dX5_init_48 : decode cX5_init 48 = .ok (.newarray .boolean, 2) := by decide +kernel
theorem dX5_init_50 : decode cX5_init 50 = .ok (.putfield 25, 3) := by decide +kernel
theorem dX5_init_53 : decode cX5_init 53 = .ok (.aload_n 0, 1) := by decide +kernel
theorem dX5_init_54 : decode cX5_init 54 = .ok (.getfield 13, 3) := by decide +kernel
theorem dX5_init_57 : decode cX5_init 57 = .ok (.invokestatic 29, 3) := by decide +kernel
theorem dX5_init_60 : decode cX5_init 60 = .ok (.return_, 1) := by decide +kernel
theorem dX5_thrown_0 : decode cX5_thrown 0 = .ok (.aload_n 0, 1) := by decide +kernel
theorem dX5_thrown_1 : decode cX5_thrown 1 = .ok (.getfield 33, 3) := by decide +kernel
theorem dX5_thrown_4 : decode cX5_thrown 4 = .ok (.ireturn, 1) := by decide +kernel
theorem dX5_refused_0 : decode cX5_refused 0 = .ok (.aload_n 0, 1) := by decide +kernel
theorem dX5_refused_1 : decode cX5_refused 1 = .ok (.iload_n 1, 1) := by decide +kernel
theorem dX5_refused_2 : decode cX5_refused 2 = .ok (.putfield 33, 3) := by decide +kernel
theorem dX5_refused_5 : decode cX5_refused 5 = .ok (.iload_n 1, 1) := by decide +kernel
theorem dX5_refused_6 : decode cX5_refused 6 = .ok (.ifCond .le 7, 3) := by decide +kernel
theorem dX5_refused_9 : decode cX5_refused 9 = .ok (.iconst 1, 1) := by decide +kernel
theorem dX5_refused_10 : decode cX5_refused 10 = .ok (.goto 4, 3) := by decide +kernel
theorem dX5_refused_13 : decode cX5_refused 13 = .ok (.iconst 0, 1) := by decide +kernel
theorem dX5_refused_14 : decode cX5_refused 14 = .ok (.ireturn, 1) := by decide +kernel
theorem dX5_in_0 : decode cX5_in 0 = .ok (.lload_n 0, 1) := by decide +kernel
theorem dX5_in_1 : decode cX5_in 1 = .ok (.lload_n 2, 1) := by decide +kernel
theorem dX5_in_2 : decode cX5_in 2 = .ok (.lcmp, 1) := by decide +kernel
theorem dX5_in_3 : decode cX5_in 3 = .ok (.ifCond .lt 14, 3) := by decide +kernel
theorem dX5_in_6 : decode cX5_in 6 = .ok (.lload_n 0, 1) := by decide +kernel
theorem dX5_in_7 : decode cX5_in 7 = .ok (.lload 4, 2) := by decide +kernel
theorem dX5_in_9 : decode cX5_in 9 = .ok (.lcmp, 1) := by decide +kernel
theorem dX5_in_10 : decode cX5_in 10 = .ok (.ifCond .gt 7, 3) := by decide +kernel
theorem dX5_in_13 : decode cX5_in 13 = .ok (.iconst 1, 1) := by decide +kernel
theorem dX5_in_14 : decode cX5_in 14 = .ok (.goto 4, 3) := by decide +kernel
theorem dX5_in_17 : decode cX5_in 17 = .ok (.iconst 0, 1) := by decide +kernel
theorem dX5_in_18 : decode cX5_in 18 = .ok (.ireturn, 1) := by decide +kernel
theorem dX5_copyState_0 : decode cX5_copyState 0 = .ok (.iconst 0, 1) := by decide +kernel
theorem dX5_copyState_1 : decode cX5_copyState 1 = .ok (.istore 4, 2) := by decide +kernel
theorem dX5_copyState_3 : decode cX5_copyState 3 = .ok (.iload 4, 2) := by decide +kernel
theorem dX5_copyState_5 : decode cX5_copyState 5 = .ok (.bipush 65, 2) := by decide +kernel
theorem dX5_copyState_7 : decode cX5_copyState 7 = .ok (.if_icmp .ge 21, 3) := by decide +kernel
theorem dX5_copyState_10 : decode cX5_copyState 10 = .ok (.aload_n 2, 1) := by decide +kernel
theorem dX5_copyState_11 : decode cX5_copyState 11 = .ok (.iload_n 3, 1) := by decide +kernel
theorem dX5_copyState_12 : decode cX5_copyState 12 = .ok (.iload 4, 2) := by decide +kernel
theorem dX5_copyState_14 : decode cX5_copyState 14 = .ok (.iadd, 1) := by decide +kernel
theorem dX5_copyState_15 : decode cX5_copyState 15 = .ok (.aload_n 0, 1) := by decide +kernel
theorem dX5_copyState_16 : decode cX5_copyState 16 = .ok (.iload_n 1, 1) := by decide +kernel
theorem dX5_copyState_17 : decode cX5_copyState 17 = .ok (.iload 4, 2) := by decide +kernel
theorem dX5_copyState_19 : decode cX5_copyState 19 = .ok (.iadd, 1) := by decide +kernel
theorem dX5_copyState_20 : decode cX5_copyState 20 = .ok (.iaload, 1) := by decide +kernel
theorem dX5_copyState_21 : decode cX5_copyState 21 = .ok (.iastore, 1) := by decide +kernel
theorem dX5_copyState_22 : decode cX5_copyState 22 = .ok (.iinc 4 1, 3) := by decide +kernel
theorem dX5_copyState_25 : decode cX5_copyState 25 = .ok (.goto (-22), 3) := by decide +kernel
theorem dX5_copyState_28 : decode cX5_copyState 28 = .ok (.return_, 1) := by decide +kernel
theorem dX5_clear_0 : decode cX5_clear 0 = .ok (.iconst 0, 1) := by decide +kernel
theorem dX5_clear_1 : decode cX5_clear 1 = .ok (.istore_n 1, 1) := by decide +kernel
theorem dX5_clear_2 : decode cX5_clear 2 = .ok (.iload_n 1, 1) := by decide +kernel
theorem dX5_clear_3 : decode cX5_clear 3 = .ok (.bipush 65, 2) := by decide +kernel
theorem dX5_clear_5 : decode cX5_clear 5 = .ok (.if_icmp .ge 13, 3) := by decide +kernel
theorem dX5_clear_8 : decode cX5_clear 8 = .ok (.aload_n 0, 1) := by decide +kernel
theorem dX5_clear_9 : decode cX5_clear 9 = .ok (.iload_n 1, 1) := by decide +kernel
theorem dX5_clear_10 : decode cX5_clear 10 = .ok (.iconst 0, 1) := by decide +kernel
theorem dX5_clear_11 : decode cX5_clear 11 = .ok (.iastore, 1) := by decide +kernel
theorem dX5_clear_12 : decode cX5_clear 12 = .ok (.iinc 1 1, 3) := by decide +kernel
theorem dX5_clear_15 : decode cX5_clear 15 = .ok (.goto (-13), 3) := by decide +kernel
theorem dX5_clear_18 : decode cX5_clear 18 = .ok (.aload_n 0, 1) := by decide +kernel
theorem dX5_clear_19 : decode cX5_clear 19 = .ok (.iconst 5, 1) := by decide +kernel
theorem dX5_clear_20 : decode cX5_clear 20 = .ok (.iconst (-1), 1) := by decide +kernel
theorem dX5_clear_21 : decode cX5_clear 21 = .ok (.iastore, 1) := by decide +kernel
theorem dX5_clear_22 : decode cX5_clear 22 = .ok (.aload_n 0, 1) := by decide +kernel
theorem dX5_clear_23 : decode cX5_clear 23 = .ok (.bipush 8, 2) := by decide +kernel
theorem dX5_clear_25 : decode cX5_clear 25 = .ok (.iconst 3, 1) := by decide +kernel
theorem dX5_clear_26 : decode cX5_clear 26 = .ok (.iastore, 1) := by decide +kernel
theorem dX5_clear_27 : decode cX5_clear 27 = .ok (.aload_n 0, 1) := by decide +kernel
theorem dX5_clear_28 : decode cX5_clear 28 = .ok (.bipush 9, 2) := by decide +kernel
theorem dX5_clear_30 : decode cX5_clear 30 = .ok (.iconst 2, 1) := by decide +kernel
theorem dX5_clear_31 : decode cX5_clear 31 = .ok (.iastore, 1) := by decide +kernel
theorem dX5_clear_32 : decode cX5_clear 32 = .ok (.aload_n 0, 1) := by decide +kernel
theorem dX5_clear_33 : decode cX5_clear 33 = .ok (.bipush 10, 2) := by decide +kernel
theorem dX5_clear_35 : decode cX5_clear 35 = .ok (.bipush 10, 2) := by decide +kernel
theorem dX5_clear_37 : decode cX5_clear 37 = .ok (.iastore, 1) := by decide +kernel
theorem dX5_clear_38 : decode cX5_clear 38 = .ok (.return_, 1) := by decide +kernel
theorem dX5_isTask_0 : decode cX5_isTask 0 = .ok (.iload_n 1, 1) := by decide +kernel
theorem dX5_isTask_1 : decode cX5_isTask 1 = .ok (.i2l, 1) := by decide +kernel
theorem dX5_isTask_2 : decode cX5_isTask 2 = .ok (.lconst 0, 1) := by decide +kernel
theorem dX5_isTask_3 : decode cX5_isTask 3 = .ok (.aload_n 0, 1) := by decide +kernel
theorem dX5_isTask_4 : decode cX5_isTask 4 = .ok (.iconst 0, 1) := by decide +kernel
theorem dX5_isTask_5 : decode cX5_isTask 5 = .ok (.iaload, 1) := by decide +kernel
theorem dX5_isTask_6 : decode cX5_isTask 6 = .ok (.iconst 1, 1) := by decide +kernel
theorem dX5_isTask_7 : decode cX5_isTask 7 = .ok (.isub, 1) := by decide +kernel
theorem dX5_isTask_8 : decode cX5_isTask 8 = .ok (.i2l, 1) := by decide +kernel
theorem dX5_isTask_9 : decode cX5_isTask 9 = .ok (.invokestatic 37, 3) := by decide +kernel
theorem dX5_isTask_12 : decode cX5_isTask 12 = .ok (.ireturn, 1) := by decide +kernel
theorem dX5_isStripe_0 : decode cX5_isStripe 0 = .ok (.iload_n 0, 1) := by decide +kernel
theorem dX5_isStripe_1 : decode cX5_isStripe 1 = .ok (.i2l, 1) := by decide +kernel
theorem dX5_isStripe_2 : decode cX5_isStripe 2 = .ok (.lconst 0, 1) := by decide +kernel
theorem dX5_isStripe_3 : decode cX5_isStripe 3 = .ok (.ldc2_w 41, 3) := by decide +kernel
theorem dX5_isStripe_6 : decode cX5_isStripe 6 = .ok (.invokestatic 37, 3) := by decide +kernel
theorem dX5_isStripe_9 : decode cX5_isStripe 9 = .ok (.ireturn, 1) := by decide +kernel
theorem dX5_of_0 : decode cX5_of 0 = .ok (.aload_n 0, 1) := by decide +kernel
theorem dX5_of_1 : decode cX5_of 1 = .ok (.bipush 23, 2) := by decide +kernel
theorem dX5_of_3 : decode cX5_of 3 = .ok (.bipush 7, 2) := by decide +kernel
theorem dX5_of_5 : decode cX5_of 5 = .ok (.iload_n 1, 1) := by decide +kernel
theorem dX5_of_6 : decode cX5_of 6 = .ok (.imul, 1) := by decide +kernel
theorem dX5_of_7 : decode cX5_of 7 = .ok (.iadd, 1) := by decide +kernel
theorem dX5_of_8 : decode cX5_of 8 = .ok (.iload_n 2, 1) := by decide +kernel
theorem dX5_of_9 : decode cX5_of 9 = .ok (.iadd, 1) := by decide +kernel
theorem dX5_of_10 : decode cX5_of 10 = .ok (.iaload, 1) := by decide +kernel
theorem dX5_of_11 : decode cX5_of 11 = .ok (.ireturn, 1) := by decide +kernel
theorem dX5_lay_0 : decode cX5_lay 0 = .ok (.aload_n 0, 1) := by decide +kernel
theorem dX5_lay_1 : decode cX5_lay 1 = .ok (.bipush 23, 2) := by decide +kernel
theorem dX5_lay_3 : decode cX5_lay 3 = .ok (.bipush 7, 2) := by decide +kernel
theorem dX5_lay_5 : decode cX5_lay 5 = .ok (.iload_n 1, 1) := by decide +kernel
theorem dX5_lay_6 : decode cX5_lay 6 = .ok (.imul, 1) := by decide +kernel
theorem dX5_lay_7 : decode cX5_lay 7 = .ok (.iadd, 1) := by decide +kernel
theorem dX5_lay_8 : decode cX5_lay 8 = .ok (.iload_n 2, 1) := by decide +kernel
theorem dX5_lay_9 : decode cX5_lay 9 = .ok (.iadd, 1) := by decide +kernel
theorem dX5_lay_10 : decode cX5_lay 10 = .ok (.iload_n 3, 1) := by decide +kernel
theorem dX5_lay_11 : decode cX5_lay 11 = .ok (.iastore, 1) := by decide +kernel
theorem dX5_lay_12 : decode cX5_lay 12 = .ok (.return_, 1) := by decide +kernel
theorem dX5_taker_0 : decode cX5_taker 0 = .ok (.iconst 0, 1) := by decide +kernel
theorem dX5_taker_1 : decode cX5_taker 1 = .ok (.istore_n 2, 1) := by decide +kernel
theorem dX5_taker_2 : decode cX5_taker 2 = .ok (.iload_n 2, 1) := by decide +kernel
theorem dX5_taker_3 : decode cX5_taker 3 = .ok (.aload_n 0, 1) := by decide +kernel
theorem dX5_taker_4 : decode cX5_taker 4 = .ok (.iconst 0, 1) := by decide +kernel
theorem dX5_taker_5 : decode cX5_taker 5 = .ok (.iaload, 1) := by decide +kernel
theorem dX5_taker_6 : decode cX5_taker 6 = .ok (.if_icmp .ge 40, 3) := by decide +kernel
theorem dX5_taker_9 : decode cX5_taker 9 = .ok (.aload_n 0, 1) := by decide +kernel
theorem dX5_taker_10 : decode cX5_taker 10 = .ok (.iload_n 2, 1) := by decide +kernel
theorem dX5_taker_11 : decode cX5_taker 11 = .ok (.iconst 5, 1) := by decide +kernel
theorem dX5_taker_12 : decode cX5_taker 12 = .ok (.invokestatic 43, 3) := by decide +kernel
theorem dX5_taker_15 : decode cX5_taker 15 = .ok (.istore_n 3, 1) := by decide +kernel
theorem dX5_taker_16 : decode cX5_taker 16 = .ok (.iload_n 3, 1) := by decide +kernel
theorem dX5_taker_17 : decode cX5_taker 17 = .ok (.iconst (-1), 1) := by decide +kernel
theorem dX5_taker_18 : decode cX5_taker 18 = .ok (.if_icmp .eq 22, 3) := by decide +kernel
theorem dX5_taker_21 : decode cX5_taker 21 = .ok (.iload_n 1, 1) := by decide +kernel
theorem dX5_taker_22 : decode cX5_taker 22 = .ok (.iload_n 3, 1) := by decide +kernel
theorem dX5_taker_23 : decode cX5_taker 23 = .ok (.if_icmp .lt 17, 3) := by decide +kernel
theorem dX5_taker_26 : decode cX5_taker 26 = .ok (.iload_n 1, 1) := by decide +kernel
theorem dX5_taker_27 : decode cX5_taker 27 = .ok (.iload_n 3, 1) := by decide +kernel
theorem dX5_taker_28 : decode cX5_taker 28 = .ok (.aload_n 0, 1) := by decide +kernel
theorem dX5_taker_29 : decode cX5_taker 29 = .ok (.iload_n 2, 1) := by decide +kernel
theorem dX5_taker_30 : decode cX5_taker 30 = .ok (.iconst 0, 1) := by decide +kernel
theorem dX5_taker_31 : decode cX5_taker 31 = .ok (.invokestatic 43, 3) := by decide +kernel
theorem dX5_taker_34 : decode cX5_taker 34 = .ok (.iadd, 1) := by decide +kernel
theorem dX5_taker_35 : decode cX5_taker 35 = .ok (.if_icmp .ge 5, 3) := by decide +kernel
theorem dX5_taker_38 : decode cX5_taker 38 = .ok (.iload_n 2, 1) := by decide +kernel
theorem dX5_taker_39 : decode cX5_taker 39 = .ok (.ireturn, 1) := by decide +kernel
theorem dX5_taker_40 : decode cX5_taker 40 = .ok (.iinc 2 1, 3) := by decide +kernel
theorem dX5_taker_43 : decode cX5_taker 43 = .ok (.goto (-41), 3) := by decide +kernel
theorem dX5_taker_46 : decode cX5_taker 46 = .ok (.iconst (-1), 1) := by decide +kernel
theorem dX5_taker_47 : decode cX5_taker 47 = .ok (.ireturn, 1) := by decide +kernel
theorem dX5_isMove_0 : decode cX5_isMove 0 = .ok (.aload_n 0, 1) := by decide +kernel
theorem dX5_isMove_1 : decode cX5_isMove 1 = .ok (.iconst 5, 1) := by decide +kernel
theorem dX5_isMove_2 : decode cX5_isMove 2 = .ok (.iaload, 1) := by decide +kernel
theorem dX5_isMove_3 : decode cX5_isMove 3 = .ok (.iconst (-1), 1) := by decide +kernel
theorem dX5_isMove_4 : decode cX5_isMove 4 = .ok (.if_icmp .eq 19, 3) := by decide +kernel
theorem dX5_isMove_7 : decode cX5_isMove 7 = .ok (.aload_n 0, 1) := by decide +kernel
theorem dX5_isMove_8 : decode cX5_isMove 8 = .ok (.aload_n 0, 1) := by decide +kernel
theorem dX5_isMove_9 : decode cX5_isMove 9 = .ok (.iconst 5, 1) := by decide +kernel
theorem dX5_isMove_10 : decode cX5_isMove 10 = .ok (.iaload, 1) := by decide +kernel
theorem dX5_isMove_11 : decode cX5_isMove 11 = .ok (.iconst 4, 1) := by decide +kernel
theorem dX5_isMove_12 : decode cX5_isMove 12 = .ok (.invokestatic 43, 3) := by decide +kernel
theorem dX5_isMove_15 : decode cX5_isMove 15 = .ok (.iconst 1, 1) := by decide +kernel
theorem dX5_isMove_16 : decode cX5_isMove 16 = .ok (.if_icmp .eq 7, 3) := by decide +kernel
theorem dX5_isMove_19 : decode cX5_isMove 19 = .ok (.iconst 1, 1) := by decide +kernel
theorem dX5_isMove_20 : decode cX5_isMove 20 = .ok (.goto 4, 3) := by decide +kernel
theorem dX5_isMove_23 : decode cX5_isMove 23 = .ok (.iconst 0, 1) := by decide +kernel
theorem dX5_isMove_24 : decode cX5_isMove 24 = .ok (.ireturn, 1) := by decide +kernel
theorem dX5_comer_0 : decode cX5_comer 0 = .ok (.aload_n 0, 1) := by decide +kernel
theorem dX5_comer_1 : decode cX5_comer 1 = .ok (.invokestatic 47, 3) := by decide +kernel
theorem dX5_comer_4 : decode cX5_comer 4 = .ok (.ifCond .eq 34, 3) := by decide +kernel
theorem dX5_comer_7 : decode cX5_comer 7 = .ok (.iload_n 1, 1) := by decide +kernel
theorem dX5_comer_8 : decode cX5_comer 8 = .ok (.aload_n 0, 1) := by decide +kernel
theorem dX5_comer_9 : decode cX5_comer 9 = .ok (.bipush 6, 2) := by decide +kernel
theorem dX5_comer_11 : decode cX5_comer 11 = .ok (.iaload, 1) := by decide +kernel
theorem dX5_comer_12 : decode cX5_comer 12 = .ok (.if_icmp .lt 26, 3) := by decide +kernel
theorem dX5_comer_15 : decode cX5_comer 15 = .ok (.iload_n 1, 1) := by decide +kernel
theorem dX5_comer_16 : decode cX5_comer 16 = .ok (.aload_n 0, 1) := by decide +kernel
theorem dX5_comer_17 : decode cX5_comer 17 = .ok (.bipush 6, 2) := by decide +kernel
theorem dX5_comer_19 : decode cX5_comer 19 = .ok (.iaload, 1) := by decide +kernel
theorem dX5_comer_20 : decode cX5_comer 20 = .ok (.aload_n 0, 1) := by decide +kernel
theorem dX5_comer_21 : decode cX5_comer 21 = .ok (.aload_n 0, 1) := by decide +kernel
theorem dX5_comer_22 : decode cX5_comer 22 = .ok (.iconst 5, 1) := by decide +kernel
theorem dX5_comer_23 : decode cX5_comer 23 = .ok (.iaload, 1) := by decide +kernel
theorem dX5_comer_24 : decode cX5_comer 24 = .ok (.iconst 0, 1) := by decide +kernel
theorem dX5_comer_25 : decode cX5_comer 25 = .ok (.invokestatic 43, 3) := by decide +kernel
theorem dX5_comer_28 : decode cX5_comer 28 = .ok (.iadd, 1) := by decide +kernel
theorem dX5_comer_29 : decode cX5_comer 29 = .ok (.if_icmp .ge 9, 3) := by decide +kernel
theorem dX5_comer_32 : decode cX5_comer 32 = .ok (.aload_n 0, 1) := by decide +kernel
theorem dX5_comer_33 : decode cX5_comer 33 = .ok (.iconst 5, 1) := by decide +kernel
theorem dX5_comer_34 : decode cX5_comer 34 = .ok (.iaload, 1) := by decide +kernel
theorem dX5_comer_35 : decode cX5_comer 35 = .ok (.goto 4, 3) := by decide +kernel
theorem dX5_comer_38 : decode cX5_comer 38 = .ok (.iconst (-1), 1) := by decide +kernel
theorem dX5_comer_39 : decode cX5_comer 39 = .ok (.ireturn, 1) := by decide +kernel
theorem dX5_isFree_0 : decode cX5_isFree 0 = .ok (.aload_n 0, 1) := by decide +kernel
theorem dX5_isFree_1 : decode cX5_isFree 1 = .ok (.bipush 11, 2) := by decide +kernel
theorem dX5_isFree_3 : decode cX5_isFree 3 = .ok (.iload_n 1, 1) := by decide +kernel
theorem dX5_isFree_4 : decode cX5_isFree 4 = .ok (.iadd, 1) := by decide +kernel
theorem dX5_isFree_5 : decode cX5_isFree 5 = .ok (.iaload, 1) := by decide +kernel
theorem dX5_isFree_6 : decode cX5_isFree 6 = .ok (.ifCond .ne 25, 3) := by decide +kernel
theorem dX5_isFree_9 : decode cX5_isFree 9 = .ok (.aload_n 0, 1) := by decide +kernel
theorem dX5_isFree_10 : decode cX5_isFree 10 = .ok (.iload_n 1, 1) := by decide +kernel
theorem dX5_isFree_11 : decode cX5_isFree 11 = .ok (.invokestatic 51, 3) := by decide +kernel
theorem dX5_isFree_14 : decode cX5_isFree 14 = .ok (.iconst (-1), 1) := by decide +kernel
theorem dX5_isFree_15 : decode cX5_isFree 15 = .ok (.if_icmp .ne 16, 3) := by decide +kernel
theorem dX5_isFree_18 : decode cX5_isFree 18 = .ok (.aload_n 0, 1) := by decide +kernel
theorem dX5_isFree_19 : decode cX5_isFree 19 = .ok (.iload_n 1, 1) := by decide +kernel
theorem dX5_isFree_20 : decode cX5_isFree 20 = .ok (.invokestatic 55, 3) := by decide +kernel
theorem dX5_isFree_23 : decode cX5_isFree 23 = .ok (.iconst (-1), 1) := by decide +kernel
theorem dX5_isFree_24 : decode cX5_isFree 24 = .ok (.if_icmp .ne 7, 3) := by decide +kernel
theorem dX5_isFree_27 : decode cX5_isFree 27 = .ok (.iconst 1, 1) := by decide +kernel
theorem dX5_isFree_28 : decode cX5_isFree 28 = .ok (.goto 4, 3) := by decide +kernel
theorem dX5_isFree_31 : decode cX5_isFree 31 = .ok (.iconst 0, 1) := by decide +kernel
theorem dX5_isFree_32 : decode cX5_isFree 32 = .ok (.ireturn, 1) := by decide +kernel
theorem dX5_freeFrom_0 : decode cX5_freeFrom 0 = .ok (.iconst 0, 1) := by decide +kernel
theorem dX5_freeFrom_1 : decode cX5_freeFrom 1 = .ok (.istore_n 2, 1) := by decide +kernel
theorem dX5_freeFrom_2 : decode cX5_freeFrom 2 = .ok (.iload_n 1, 1) := by decide +kernel
theorem dX5_freeFrom_3 : decode cX5_freeFrom 3 = .ok (.iload_n 2, 1) := by decide +kernel
theorem dX5_freeFrom_4 : decode cX5_freeFrom 4 = .ok (.iadd, 1) := by decide +kernel
theorem dX5_freeFrom_5 : decode cX5_freeFrom 5 = .ok (.bipush 12, 2) := by decide +kernel
theorem dX5_freeFrom_7 : decode cX5_freeFrom 7 = .ok (.if_icmp .ge 19, 3) := by decide +kernel
theorem dX5_freeFrom_10 : decode cX5_freeFrom 10 = .ok (.aload_n 0, 1) := by decide +kernel
theorem dX5_freeFrom_11 : decode cX5_freeFrom 11 = .ok (.iload_n 1, 1) := by decide +kernel
theorem dX5_freeFrom_12 : decode cX5_freeFrom 12 = .ok (.iload_n 2, 1) := by decide +kernel
theorem dX5_freeFrom_13 : decode cX5_freeFrom 13 = .ok (.iadd, 1) := by decide +kernel
theorem dX5_freeFrom_14 : decode cX5_freeFrom 14 = .ok (.invokestatic 58, 3) := by decide +kernel
theorem dX5_freeFrom_17 : decode cX5_freeFrom 17 = .ok (.ifCond .eq 9, 3) := by decide +kernel
theorem dX5_freeFrom_20 : decode cX5_freeFrom 20 = .ok (.iinc 2 1, 3) := by decide +kernel
theorem dX5_freeFrom_23 : decode cX5_freeFrom 23 = .ok (.goto (-21), 3) := by decide +kernel
theorem dX5_freeFrom_26 : decode cX5_freeFrom 26 = .ok (.iload_n 2, 1) := by decide +kernel
theorem dX5_freeFrom_27 : decode cX5_freeFrom 27 = .ok (.ireturn, 1) := by decide +kernel
theorem dX5_canBring_0 : decode cX5_canBring 0 = .ok (.aload_n 0, 1) := by decide +kernel
theorem dX5_canBring_1 : decode cX5_canBring 1 = .ok (.iload_n 1, 1) := by decide +kernel
theorem dX5_canBring_2 : decode cX5_canBring 2 = .ok (.invokestatic 62, 3) := by decide +kernel
theorem dX5_canBring_5 : decode cX5_canBring 5 = .ok (.ifCond .eq 30, 3) := by decide +kernel
theorem dX5_canBring_8 : decode cX5_canBring 8 = .ok (.iload_n 2, 1) := by decide +kernel
theorem dX5_canBring_9 : decode cX5_canBring 9 = .ok (.invokestatic 65, 3) := by decide +kernel
theorem dX5_canBring_12 : decode cX5_canBring 12 = .ok (.ifCond .eq 23, 3) := by decide +kernel
theorem dX5_canBring_15 : decode cX5_canBring 15 = .ok (.aload_n 0, 1) := by decide +kernel
theorem dX5_canBring_16 : decode cX5_canBring 16 = .ok (.iconst 5, 1) := by decide +kernel
theorem dX5_canBring_17 : decode cX5_canBring 17 = .ok (.iaload, 1) := by decide +kernel
theorem dX5_canBring_18 : decode cX5_canBring 18 = .ok (.iconst (-1), 1) := by decide +kernel
theorem dX5_canBring_19 : decode cX5_canBring 19 = .ok (.if_icmp .ne 16, 3) := by decide +kernel
theorem dX5_canBring_22 : decode cX5_canBring 22 = .ok (.iload_n 2, 1) := by decide +kernel
theorem dX5_canBring_23 : decode cX5_canBring 23 = .ok (.aload_n 0, 1) := by decide +kernel
theorem dX5_canBring_24 : decode cX5_canBring 24 = .ok (.iload_n 1, 1) := by decide +kernel
theorem dX5_canBring_25 : decode cX5_canBring 25 = .ok (.iconst 0, 1) := by decide +kernel
theorem dX5_canBring_26 : decode cX5_canBring 26 = .ok (.invokestatic 43, 3) := by decide +kernel
theorem dX5_canBring_29 : decode cX5_canBring 29 = .ok (.iadd, 1) := by decide +kernel
theorem dX5_canBring_30 : decode cX5_canBring 30 = .ok (.bipush 12, 2) := by decide +kernel
theorem dX5_canBring_32 : decode cX5_canBring 32 = .ok (.if_icmp .le 5, 3) := by decide +kernel
theorem dX5_canBring_35 : decode cX5_canBring 35 = .ok (.iconst 0, 1) := by decide +kernel
theorem dX5_canBring_36 : decode cX5_canBring 36 = .ok (.ireturn, 1) := by decide +kernel
theorem dX5_canBring_37 : decode cX5_canBring 37 = .ok (.iload_n 2, 1) := by decide +kernel
theorem dX5_canBring_38 : decode cX5_canBring 38 = .ok (.istore_n 3, 1) := by decide +kernel
theorem dX5_canBring_39 : decode cX5_canBring 39 = .ok (.iload_n 3, 1) := by decide +kernel
theorem dX5_canBring_40 : decode cX5_canBring 40 = .ok (.iload_n 2, 1) := by decide +kernel
theorem dX5_canBring_41 : decode cX5_canBring 41 = .ok (.aload_n 0, 1) := by decide +kernel
theorem dX5_canBring_42 : decode cX5_canBring 42 = .ok (.iload_n 1, 1) := by decide +kernel
theorem dX5_canBring_43 : decode cX5_canBring 43 = .ok (.iconst 0, 1) := by decide +kernel
theorem dX5_canBring_44 : decode cX5_canBring 44 = .ok (.invokestatic 43, 3) := by decide +kernel
theorem dX5_canBring_47 : decode cX5_canBring 47 = .ok (.iadd, 1) := by decide +kernel
theorem dX5_canBring_48 : decode cX5_canBring 48 = .ok (.if_icmp .ge 40, 3) := by decide +kernel
theorem dX5_canBring_51 : decode cX5_canBring 51 = .ok (.aload_n 0, 1) := by decide +kernel
theorem dX5_canBring_52 : decode cX5_canBring 52 = .ok (.iload_n 3, 1) := by decide +kernel
theorem dX5_canBring_53 : decode cX5_canBring 53 = .ok (.invokestatic 51, 3) := by decide +kernel
theorem dX5_canBring_56 : decode cX5_canBring 56 = .ok (.istore 4, 2) := by decide +kernel
theorem dX5_canBring_58 : decode cX5_canBring 58 = .ok (.aload_n 0, 1) := by decide +kernel
theorem dX5_canBring_59 : decode cX5_canBring 59 = .ok (.bipush 11, 2) := by decide +kernel
theorem dX5_canBring_61 : decode cX5_canBring 61 = .ok (.iload_n 3, 1) := by decide +kernel
theorem dX5_canBring_62 : decode cX5_canBring 62 = .ok (.iadd, 1) := by decide +kernel
theorem dX5_canBring_63 : decode cX5_canBring 63 = .ok (.iaload, 1) := by decide +kernel
theorem dX5_canBring_64 : decode cX5_canBring 64 = .ok (.iconst 1, 1) := by decide +kernel
theorem dX5_canBring_65 : decode cX5_canBring 65 = .ok (.if_icmp .eq 15, 3) := by decide +kernel
theorem dX5_canBring_68 : decode cX5_canBring 68 = .ok (.iload 4, 2) := by decide +kernel
theorem dX5_canBring_70 : decode cX5_canBring 70 = .ok (.iconst (-1), 1) := by decide +kernel
theorem dX5_canBring_71 : decode cX5_canBring 71 = .ok (.if_icmp .eq 11, 3) := by decide +kernel
theorem dX5_canBring_74 : decode cX5_canBring 74 = .ok (.iload 4, 2) := by decide +kernel
theorem dX5_canBring_76 : decode cX5_canBring 76 = .ok (.iload_n 1, 1) := by decide +kernel
theorem dX5_canBring_77 : decode cX5_canBring 77 = .ok (.if_icmp .eq 5, 3) := by decide +kernel
theorem dX5_canBring_80 : decode cX5_canBring 80 = .ok (.iconst 0, 1) := by decide +kernel
theorem dX5_canBring_81 : decode cX5_canBring 81 = .ok (.ireturn, 1) := by decide +kernel
theorem dX5_canBring_82 : decode cX5_canBring 82 = .ok (.iinc 3 1, 3) := by decide +kernel
theorem dX5_canBring_85 : decode cX5_canBring 85 = .ok (.goto (-46), 3) := by decide +kernel
theorem dX5_canBring_88 : decode cX5_canBring 88 = .ok (.iconst 1, 1) := by decide +kernel
theorem dX5_canBring_89 : decode cX5_canBring 89 = .ok (.ireturn, 1) := by decide +kernel
theorem dX5_bringOn_0 : decode cX5_bringOn 0 = .ok (.aload_n 0, 1) := by decide +kernel
theorem dX5_bringOn_1 : decode cX5_bringOn 1 = .ok (.iload_n 1, 1) := by decide +kernel
theorem dX5_bringOn_2 : decode cX5_bringOn 2 = .ok (.iconst 0, 1) := by decide +kernel
theorem dX5_bringOn_3 : decode cX5_bringOn 3 = .ok (.invokestatic 43, 3) := by decide +kernel
theorem dX5_bringOn_6 : decode cX5_bringOn 6 = .ok (.istore_n 3, 1) := by decide +kernel
theorem dX5_bringOn_7 : decode cX5_bringOn 7 = .ok (.aload_n 0, 1) := by decide +kernel
theorem dX5_bringOn_8 : decode cX5_bringOn 8 = .ok (.bipush 8, 2) := by decide +kernel
theorem dX5_bringOn_10 : decode cX5_bringOn 10 = .ok (.iaload, 1) := by decide +kernel
theorem dX5_bringOn_11 : decode cX5_bringOn 11 = .ok (.iload_n 3, 1) := by decide +kernel
theorem dX5_bringOn_12 : decode cX5_bringOn 12 = .ok (.imul, 1) := by decide +kernel
theorem dX5_bringOn_13 : decode cX5_bringOn 13 = .ok (.istore 4, 2) := by decide +kernel
theorem dX5_bringOn_15 : decode cX5_bringOn 15 = .ok (.iload 4, 2) := by decide +kernel
theorem dX5_bringOn_17 : decode cX5_bringOn 17 = .ok (.aload_n 0, 1) := by decide +kernel
theorem dX5_bringOn_18 : decode cX5_bringOn 18 = .ok (.bipush 9, 2) := by decide +kernel
theorem dX5_bringOn_20 : decode cX5_bringOn 20 = .ok (.iaload, 1) := by decide +kernel
theorem dX5_bringOn_21 : decode cX5_bringOn 21 = .ok (.iadd, 1) := by decide +kernel
theorem dX5_bringOn_22 : decode cX5_bringOn 22 = .ok (.istore 5, 2) := by decide +kernel
theorem dX5_bringOn_24 : decode cX5_bringOn 24 = .ok (.aload_n 0, 1) := by decide +kernel
theorem dX5_bringOn_25 : decode cX5_bringOn 25 = .ok (.iconst 5, 1) := by decide +kernel
theorem dX5_bringOn_26 : decode cX5_bringOn 26 = .ok (.iload_n 1, 1) := by decide +kernel
theorem dX5_bringOn_27 : decode cX5_bringOn 27 = .ok (.iastore, 1) := by decide +kernel
theorem dX5_bringOn_28 : decode cX5_bringOn 28 = .ok (.aload_n 0, 1) := by decide +kernel
theorem dX5_bringOn_29 : decode cX5_bringOn 29 = .ok (.bipush 6, 2) := by decide +kernel
theorem dX5_bringOn_31 : decode cX5_bringOn 31 = .ok (.iload_n 2, 1) := by decide +kernel
theorem dX5_bringOn_32 : decode cX5_bringOn 32 = .ok (.iastore, 1) := by decide +kernel
theorem dX5_bringOn_33 : decode cX5_bringOn 33 = .ok (.aload_n 0, 1) := by decide +kernel
theorem dX5_bringOn_34 : decode cX5_bringOn 34 = .ok (.bipush 7, 2) := by decide +kernel
theorem dX5_bringOn_36 : decode cX5_bringOn 36 = .ok (.iload 4, 2) := by decide +kernel
theorem dX5_bringOn_38 : decode cX5_bringOn 38 = .ok (.iastore, 1) := by decide +kernel
theorem dX5_bringOn_39 : decode cX5_bringOn 39 = .ok (.aload_n 0, 1) := by decide +kernel
theorem dX5_bringOn_40 : decode cX5_bringOn 40 = .ok (.iload_n 1, 1) := by decide +kernel
theorem dX5_bringOn_41 : decode cX5_bringOn 41 = .ok (.iconst 4, 1) := by decide +kernel
theorem dX5_bringOn_42 : decode cX5_bringOn 42 = .ok (.invokestatic 43, 3) := by decide +kernel
theorem dX5_bringOn_45 : decode cX5_bringOn 45 = .ok (.ifCond .ne 20, 3) := by decide +kernel
theorem dX5_bringOn_48 : decode cX5_bringOn 48 = .ok (.aload_n 0, 1) := by decide +kernel
theorem dX5_bringOn_49 : decode cX5_bringOn 49 = .ok (.iload_n 1, 1) := by decide +kernel
theorem dX5_bringOn_50 : decode cX5_bringOn 50 = .ok (.iconst 4, 1) := by decide +kernel
theorem dX5_bringOn_51 : decode cX5_bringOn 51 = .ok (.iconst 1, 1) := by decide +kernel
theorem dX5_bringOn_52 : decode cX5_bringOn 52 = .ok (.invokestatic 69, 3) := by decide +kernel
theorem dX5_bringOn_55 : decode cX5_bringOn 55 = .ok (.aload_n 0, 1) := by decide +kernel
theorem dX5_bringOn_56 : decode cX5_bringOn 56 = .ok (.iload_n 1, 1) := by decide +kernel
theorem dX5_bringOn_57 : decode cX5_bringOn 57 = .ok (.iconst 5, 1) := by decide +kernel
theorem dX5_bringOn_58 : decode cX5_bringOn 58 = .ok (.iload_n 2, 1) := by decide +kernel
theorem dX5_bringOn_59 : decode cX5_bringOn 59 = .ok (.invokestatic 69, 3) := by decide +kernel
theorem dX5_bringOn_62 : decode cX5_bringOn 62 = .ok (.iload 4, 2) := by decide +kernel
theorem dX5_bringOn_64 : decode cX5_bringOn 64 = .ok (.ireturn, 1) := by decide +kernel
theorem dX5_bringOn_65 : decode cX5_bringOn 65 = .ok (.iload_n 2, 1) := by decide +kernel
theorem dX5_bringOn_66 : decode cX5_bringOn 66 = .ok (.aload_n 0, 1) := by decide +kernel
theorem dX5_bringOn_67 : decode cX5_bringOn 67 = .ok (.iload_n 1, 1) := by decide +kernel
theorem dX5_bringOn_68 : decode cX5_bringOn 68 = .ok (.iconst 5, 1) := by decide +kernel
theorem dX5_bringOn_69 : decode cX5_bringOn 69 = .ok (.invokestatic 43, 3) := by decide +kernel
theorem dX5_bringOn_72 : decode cX5_bringOn 72 = .ok (.isub, 1) := by decide +kernel
theorem dX5_bringOn_73 : decode cX5_bringOn 73 = .ok (.istore 6, 2) := by decide +kernel
theorem dX5_bringOn_75 : decode cX5_bringOn 75 = .ok (.iload 6, 2) := by decide +kernel
theorem dX5_bringOn_77 : decode cX5_bringOn 77 = .ok (.iload_n 3, 1) := by decide +kernel
theorem dX5_bringOn_78 : decode cX5_bringOn 78 = .ok (.if_icmp .ge 23, 3) := by decide +kernel
theorem dX5_bringOn_81 : decode cX5_bringOn 81 = .ok (.iload 6, 2) := by decide +kernel
theorem dX5_bringOn_83 : decode cX5_bringOn 83 = .ok (.ineg, 1) := by decide +kernel
theorem dX5_bringOn_84 : decode cX5_bringOn 84 = .ok (.iload_n 3, 1) := by decide +kernel
theorem dX5_bringOn_85 : decode cX5_bringOn 85 = .ok (.if_icmp .ge 16, 3) := by decide +kernel
theorem dX5_bringOn_88 : decode cX5_bringOn 88 = .ok (.aload_n 0, 1) := by decide +kernel
theorem dX5_bringOn_89 : decode cX5_bringOn 89 = .ok (.iload_n 1, 1) := by decide +kernel
theorem dX5_bringOn_90 : decode cX5_bringOn 90 = .ok (.iconst 4, 1) := by decide +kernel
theorem dX5_bringOn_91 : decode cX5_bringOn 91 = .ok (.iconst 3, 1) := by decide +kernel
theorem dX5_bringOn_92 : decode cX5_bringOn 92 = .ok (.invokestatic 69, 3) := by decide +kernel
theorem dX5_bringOn_95 : decode cX5_bringOn 95 = .ok (.aload_n 0, 1) := by decide +kernel
theorem dX5_bringOn_96 : decode cX5_bringOn 96 = .ok (.bipush 7, 2) := by decide +kernel
theorem dX5_bringOn_98 : decode cX5_bringOn 98 = .ok (.iload 5, 2) := by decide +kernel
theorem dX5_bringOn_100 : decode cX5_bringOn 100 = .ok (.iastore, 1) := by decide +kernel
theorem dX5_bringOn_101 : decode cX5_bringOn 101 = .ok (.iload 5, 2) := by decide +kernel
theorem dX5_bringOn_103 : decode cX5_bringOn 103 = .ok (.ireturn, 1) := by decide +kernel
theorem dX5_finish_0 : decode cX5_finish 0 = .ok (.aload_n 0, 1) := by decide +kernel
theorem dX5_finish_1 : decode cX5_finish 1 = .ok (.iconst 5, 1) := by decide +kernel
theorem dX5_finish_2 : decode cX5_finish 2 = .ok (.iaload, 1) := by decide +kernel
theorem dX5_finish_3 : decode cX5_finish 3 = .ok (.istore_n 1, 1) := by decide +kernel
theorem dX5_finish_4 : decode cX5_finish 4 = .ok (.aload_n 0, 1) := by decide +kernel
theorem dX5_finish_5 : decode cX5_finish 5 = .ok (.iload_n 1, 1) := by decide +kernel
theorem dX5_finish_6 : decode cX5_finish 6 = .ok (.iconst 4, 1) := by decide +kernel
theorem dX5_finish_7 : decode cX5_finish 7 = .ok (.iconst 2, 1) := by decide +kernel
theorem dX5_finish_8 : decode cX5_finish 8 = .ok (.invokestatic 69, 3) := by decide +kernel
theorem dX5_finish_11 : decode cX5_finish 11 = .ok (.aload_n 0, 1) := by decide +kernel
theorem dX5_finish_12 : decode cX5_finish 12 = .ok (.iload_n 1, 1) := by decide +kernel
theorem dX5_finish_13 : decode cX5_finish 13 = .ok (.iconst 5, 1) := by decide +kernel
theorem dX5_finish_14 : decode cX5_finish 14 = .ok (.aload_n 0, 1) := by decide +kernel
theorem dX5_finish_15 : decode cX5_finish 15 = .ok (.bipush 6, 2) := by decide +kernel
theorem dX5_finish_17 : decode cX5_finish 17 = .ok (.iaload, 1) := by decide +kernel
theorem dX5_finish_18 : decode cX5_finish 18 = .ok (.invokestatic 69, 3) := by decide +kernel
theorem dX5_finish_21 : decode cX5_finish 21 = .ok (.aload_n 0, 1) := by decide +kernel
theorem dX5_finish_22 : decode cX5_finish 22 = .ok (.iconst 5, 1) := by decide +kernel
theorem dX5_finish_23 : decode cX5_finish 23 = .ok (.iconst (-1), 1) := by decide +kernel
theorem dX5_finish_24 : decode cX5_finish 24 = .ok (.iastore, 1) := by decide +kernel
theorem dX5_finish_25 : decode cX5_finish 25 = .ok (.aload_n 0, 1) := by decide +kernel
theorem dX5_finish_26 : decode cX5_finish 26 = .ok (.iconst 2, 1) := by decide +kernel
theorem dX5_finish_27 : decode cX5_finish 27 = .ok (.dup2, 1) := by decide +kernel
theorem dX5_finish_28 : decode cX5_finish 28 = .ok (.iaload, 1) := by decide +kernel
theorem dX5_finish_29 : decode cX5_finish 29 = .ok (.iconst 1, 1) := by decide +kernel
theorem dX5_finish_30 : decode cX5_finish 30 = .ok (.iadd, 1) := by decide +kernel
theorem dX5_finish_31 : decode cX5_finish 31 = .ok (.iastore, 1) := by decide +kernel
theorem dX5_finish_32 : decode cX5_finish 32 = .ok (.return_, 1) := by decide +kernel
theorem dX5_loadOn_0 : decode cX5_loadOn 0 = .ok (.aload_n 0, 1) := by decide +kernel
theorem dX5_loadOn_1 : decode cX5_loadOn 1 = .ok (.iconst 5, 1) := by decide +kernel
theorem dX5_loadOn_2 : decode cX5_loadOn 2 = .ok (.iaload, 1) := by decide +kernel
theorem dX5_loadOn_3 : decode cX5_loadOn 3 = .ok (.iconst (-1), 1) := by decide +kernel
theorem dX5_loadOn_4 : decode cX5_loadOn 4 = .ok (.if_icmp .ne 4, 3) := by decide +kernel
theorem dX5_loadOn_7 : decode cX5_loadOn 7 = .ok (.return_, 1) := by decide +kernel
theorem dX5_loadOn_8 : decode cX5_loadOn 8 = .ok (.aload_n 0, 1) := by decide +kernel
theorem dX5_loadOn_9 : decode cX5_loadOn 9 = .ok (.bipush 7, 2) := by decide +kernel
theorem dX5_loadOn_11 : decode cX5_loadOn 11 = .ok (.dup2, 1) := by decide +kernel
theorem dX5_loadOn_12 : decode cX5_loadOn 12 = .ok (.iaload, 1) := by decide +kernel
theorem dX5_loadOn_13 : decode cX5_loadOn 13 = .ok (.iconst 1, 1) := by decide +kernel
theorem dX5_loadOn_14 : decode cX5_loadOn 14 = .ok (.isub, 1) := by decide +kernel
theorem dX5_loadOn_15 : decode cX5_loadOn 15 = .ok (.iastore, 1) := by decide +kernel
theorem dX5_loadOn_16 : decode cX5_loadOn 16 = .ok (.aload_n 0, 1) := by decide +kernel
theorem dX5_loadOn_17 : decode cX5_loadOn 17 = .ok (.bipush 7, 2) := by decide +kernel
theorem dX5_loadOn_19 : decode cX5_loadOn 19 = .ok (.iaload, 1) := by decide +kernel
theorem dX5_loadOn_20 : decode cX5_loadOn 20 = .ok (.ifCond .le 4, 3) := by decide +kernel
theorem dX5_loadOn_23 : decode cX5_loadOn 23 = .ok (.return_, 1) := by decide +kernel
theorem dX5_loadOn_24 : decode cX5_loadOn 24 = .ok (.aload_n 0, 1) := by decide +kernel
theorem dX5_loadOn_25 : decode cX5_loadOn 25 = .ok (.aload_n 0, 1) := by decide +kernel
theorem dX5_loadOn_26 : decode cX5_loadOn 26 = .ok (.iconst 5, 1) := by decide +kernel
theorem dX5_loadOn_27 : decode cX5_loadOn 27 = .ok (.iaload, 1) := by decide +kernel
theorem dX5_loadOn_28 : decode cX5_loadOn 28 = .ok (.iconst 4, 1) := by decide +kernel
theorem dX5_loadOn_29 : decode cX5_loadOn 29 = .ok (.invokestatic 43, 3) := by decide +kernel
theorem dX5_loadOn_32 : decode cX5_loadOn 32 = .ok (.iconst 2, 1) := by decide +kernel
theorem dX5_loadOn_33 : decode cX5_loadOn 33 = .ok (.if_icmp .ne 30, 3) := by decide +kernel
theorem dX5_loadOn_36 : decode cX5_loadOn 36 = .ok (.aload_n 0, 1) := by decide +kernel
theorem dX5_loadOn_37 : decode cX5_loadOn 37 = .ok (.bipush 9, 2) := by decide +kernel
theorem dX5_loadOn_39 : decode cX5_loadOn 39 = .ok (.iaload, 1) := by decide +kernel
theorem dX5_loadOn_40 : decode cX5_loadOn 40 = .ok (.ifCond .le 23, 3) := by decide +kernel
theorem dX5_loadOn_43 : decode cX5_loadOn 43 = .ok (.aload_n 0, 1) := by decide +kernel
theorem dX5_loadOn_44 : decode cX5_loadOn 44 = .ok (.aload_n 0, 1) := by decide +kernel
theorem dX5_loadOn_45 : decode cX5_loadOn 45 = .ok (.iconst 5, 1) := by decide +kernel
theorem dX5_loadOn_46 : decode cX5_loadOn 46 = .ok (.iaload, 1) := by decide +kernel
theorem dX5_loadOn_47 : decode cX5_loadOn 47 = .ok (.iconst 4, 1) := by decide +kernel
theorem dX5_loadOn_48 : decode cX5_loadOn 48 = .ok (.iconst 3, 1) := by decide +kernel
theorem dX5_loadOn_49 : decode cX5_loadOn 49 = .ok (.invokestatic 69, 3) := by decide +kernel
theorem dX5_loadOn_52 : decode cX5_loadOn 52 = .ok (.aload_n 0, 1) := by decide +kernel
theorem dX5_loadOn_53 : decode cX5_loadOn 53 = .ok (.bipush 7, 2) := by decide +kernel
theorem dX5_loadOn_55 : decode cX5_loadOn 55 = .ok (.aload_n 0, 1) := by decide +kernel
theorem dX5_loadOn_56 : decode cX5_loadOn 56 = .ok (.bipush 9, 2) := by decide +kernel
theorem dX5_loadOn_58 : decode cX5_loadOn 58 = .ok (.iaload, 1) := by decide +kernel
theorem dX5_loadOn_59 : decode cX5_loadOn 59 = .ok (.iastore, 1) := by decide +kernel
theorem dX5_loadOn_60 : decode cX5_loadOn 60 = .ok (.goto 7, 3) := by decide +kernel
theorem dX5_loadOn_63 : decode cX5_loadOn 63 = .ok (.aload_n 0, 1) := by decide +kernel
theorem dX5_loadOn_64 : decode cX5_loadOn 64 = .ok (.invokestatic 73, 3) := by decide +kernel
theorem dX5_loadOn_67 : decode cX5_loadOn 67 = .ok (.return_, 1) := by decide +kernel
theorem dX5_tickOn_0 : decode cX5_tickOn 0 = .ok (.aload_n 0, 1) := by decide +kernel
theorem dX5_tickOn_1 : decode cX5_tickOn 1 = .ok (.invokestatic 76, 3) := by decide +kernel
theorem dX5_tickOn_4 : decode cX5_tickOn 4 = .ok (.aload_n 0, 1) := by decide +kernel
theorem dX5_tickOn_5 : decode cX5_tickOn 5 = .ok (.iconst 1, 1) := by decide +kernel
theorem dX5_tickOn_6 : decode cX5_tickOn 6 = .ok (.iaload, 1) := by decide +kernel
theorem dX5_tickOn_7 : decode cX5_tickOn 7 = .ok (.iconst 1, 1) := by decide +kernel
theorem dX5_tickOn_8 : decode cX5_tickOn 8 = .ok (.iadd, 1) := by decide +kernel
theorem dX5_tickOn_9 : decode cX5_tickOn 9 = .ok (.aload_n 0, 1) := by decide +kernel
theorem dX5_tickOn_10 : decode cX5_tickOn 10 = .ok (.bipush 10, 2) := by decide +kernel
theorem dX5_tickOn_12 : decode cX5_tickOn 12 = .ok (.iaload, 1) := by decide +kernel
theorem dX5_tickOn_13 : decode cX5_tickOn 13 = .ok (.irem, 1) := by decide +kernel
theorem dX5_tickOn_14 : decode cX5_tickOn 14 = .ok (.ifCond .ne 7, 3) := by decide +kernel
theorem dX5_tickOn_17 : decode cX5_tickOn 17 = .ok (.iconst 1, 1) := by decide +kernel
theorem dX5_tickOn_18 : decode cX5_tickOn 18 = .ok (.goto 4, 3) := by decide +kernel
theorem dX5_tickOn_21 : decode cX5_tickOn 21 = .ok (.iconst 0, 1) := by decide +kernel
theorem dX5_tickOn_22 : decode cX5_tickOn 22 = .ok (.istore_n 1, 1) := by decide +kernel
theorem dX5_tickOn_23 : decode cX5_tickOn 23 = .ok (.iconst 0, 1) := by decide +kernel
theorem dX5_tickOn_24 : decode cX5_tickOn 24 = .ok (.istore_n 2, 1) := by decide +kernel
theorem dX5_tickOn_25 : decode cX5_tickOn 25 = .ok (.iload_n 2, 1) := by decide +kernel
theorem dX5_tickOn_26 : decode cX5_tickOn 26 = .ok (.aload_n 0, 1) := by decide +kernel
theorem dX5_tickOn_27 : decode cX5_tickOn 27 = .ok (.iconst 0, 1) := by decide +kernel
theorem dX5_tickOn_28 : decode cX5_tickOn 28 = .ok (.iaload, 1) := by decide +kernel
theorem dX5_tickOn_29 : decode cX5_tickOn 29 = .ok (.if_icmp .ge 117, 3) := by decide +kernel
theorem dX5_tickOn_32 : decode cX5_tickOn 32 = .ok (.aload_n 0, 1) := by decide +kernel
theorem dX5_tickOn_33 : decode cX5_tickOn 33 = .ok (.iload_n 2, 1) := by decide +kernel
theorem dX5_tickOn_34 : decode cX5_tickOn 34 = .ok (.iconst 4, 1) := by decide +kernel
theorem dX5_tickOn_35 : decode cX5_tickOn 35 = .ok (.invokestatic 43, 3) := by decide +kernel
theorem dX5_tickOn_38 : decode cX5_tickOn 38 = .ok (.iconst 2, 1) := by decide +kernel
theorem dX5_tickOn_39 : decode cX5_tickOn 39 = .ok (.if_icmp .ne 101, 3) := by decide +kernel
theorem dX5_tickOn_42 : decode cX5_tickOn 42 = .ok (.bipush 31, 2) := by decide +kernel
theorem dX5_tickOn_44 : decode cX5_tickOn 44 = .ok (.aload_n 0, 1) := by decide +kernel
theorem dX5_tickOn_45 : decode cX5_tickOn 45 = .ok (.iload_n 2, 1) := by decide +kernel
theorem dX5_tickOn_46 : decode cX5_tickOn 46 = .ok (.iconst 1, 1) := by decide +kernel
theorem dX5_tickOn_47 : decode cX5_tickOn 47 = .ok (.invokestatic 43, 3) := by decide +kernel
theorem dX5_tickOn_50 : decode cX5_tickOn 50 = .ok (.imul, 1) := by decide +kernel
theorem dX5_tickOn_51 : decode cX5_tickOn 51 = .ok (.bipush 7, 2) := by decide +kernel
theorem dX5_tickOn_53 : decode cX5_tickOn 53 = .ok (.aload_n 0, 1) := by decide +kernel
theorem dX5_tickOn_54 : decode cX5_tickOn 54 = .ok (.iload_n 2, 1) := by decide +kernel
theorem dX5_tickOn_55 : decode cX5_tickOn 55 = .ok (.iconst 0, 1) := by decide +kernel
theorem dX5_tickOn_56 : decode cX5_tickOn 56 = .ok (.invokestatic 43, 3) := by decide +kernel
theorem dX5_tickOn_59 : decode cX5_tickOn 59 = .ok (.imul, 1) := by decide +kernel
theorem dX5_tickOn_60 : decode cX5_tickOn 60 = .ok (.iadd, 1) := by decide +kernel
theorem dX5_tickOn_61 : decode cX5_tickOn 61 = .ok (.iconst 1, 1) := by decide +kernel
theorem dX5_tickOn_62 : decode cX5_tickOn 62 = .ok (.iadd, 1) := by decide +kernel
theorem dX5_tickOn_63 : decode cX5_tickOn 63 = .ok (.sipush 997, 3) := by decide +kernel
theorem dX5_tickOn_66 : decode cX5_tickOn 66 = .ok (.irem, 1) := by decide +kernel
theorem dX5_tickOn_67 : decode cX5_tickOn 67 = .ok (.istore_n 3, 1) := by decide +kernel
theorem dX5_tickOn_68 : decode cX5_tickOn 68 = .ok (.aload_n 0, 1) := by decide +kernel
theorem dX5_tickOn_69 : decode cX5_tickOn 69 = .ok (.iload_n 2, 1) := by decide +kernel
theorem dX5_tickOn_70 : decode cX5_tickOn 70 = .ok (.iconst 1, 1) := by decide +kernel
theorem dX5_tickOn_71 : decode cX5_tickOn 71 = .ok (.iload_n 3, 1) := by decide +kernel
theorem dX5_tickOn_72 : decode cX5_tickOn 72 = .ok (.invokestatic 69, 3) := by decide +kernel
theorem dX5_tickOn_75 : decode cX5_tickOn 75 = .ok (.aload_n 0, 1) := by decide +kernel
theorem dX5_tickOn_76 : decode cX5_tickOn 76 = .ok (.iload_n 2, 1) := by decide +kernel
theorem dX5_tickOn_77 : decode cX5_tickOn 77 = .ok (.iconst 3, 1) := by decide +kernel
theorem dX5_tickOn_78 : decode cX5_tickOn 78 = .ok (.aload_n 0, 1) := by decide +kernel
theorem dX5_tickOn_79 : decode cX5_tickOn 79 = .ok (.iload_n 2, 1) := by decide +kernel
theorem dX5_tickOn_80 : decode cX5_tickOn 80 = .ok (.iconst 3, 1) := by decide +kernel
theorem dX5_tickOn_81 : decode cX5_tickOn 81 = .ok (.invokestatic 43, 3) := by decide +kernel
theorem dX5_tickOn_84 : decode cX5_tickOn 84 = .ok (.iconst 1, 1) := by decide +kernel
theorem dX5_tickOn_85 : decode cX5_tickOn 85 = .ok (.iadd, 1) := by decide +kernel
theorem dX5_tickOn_86 : decode cX5_tickOn 86 = .ok (.invokestatic 69, 3) := by decide +kernel
theorem dX5_tickOn_89 : decode cX5_tickOn 89 = .ok (.aload_n 0, 1) := by decide +kernel
theorem dX5_tickOn_90 : decode cX5_tickOn 90 = .ok (.iload_n 2, 1) := by decide +kernel
theorem dX5_tickOn_91 : decode cX5_tickOn 91 = .ok (.iconst 2, 1) := by decide +kernel
theorem dX5_tickOn_92 : decode cX5_tickOn 92 = .ok (.iload_n 1, 1) := by decide +kernel
theorem dX5_tickOn_93 : decode cX5_tickOn 93 = .ok (.ifCond .eq 7, 3) := by decide +kernel
theorem dX5_tickOn_96 : decode cX5_tickOn 96 = .ok (.iload_n 3, 1) := by decide +kernel
theorem dX5_tickOn_97 : decode cX5_tickOn 97 = .ok (.goto 9, 3) := by decide +kernel
theorem dX5_tickOn_100 : decode cX5_tickOn 100 = .ok (.aload_n 0, 1) := by decide +kernel
theorem dX5_tickOn_101 : decode cX5_tickOn 101 = .ok (.iload_n 2, 1) := by decide +kernel
theorem dX5_tickOn_102 : decode cX5_tickOn 102 = .ok (.iconst 2, 1) := by decide +kernel
theorem dX5_tickOn_103 : decode cX5_tickOn 103 = .ok (.invokestatic 43, 3) := by decide +kernel
theorem dX5_tickOn_106 : decode cX5_tickOn 106 = .ok (.invokestatic 69, 3) := by decide +kernel
theorem dX5_tickOn_109 : decode cX5_tickOn 109 = .ok (.aload_n 0, 1) := by decide +kernel
theorem dX5_tickOn_110 : decode cX5_tickOn 110 = .ok (.iload_n 2, 1) := by decide +kernel
theorem dX5_tickOn_111 : decode cX5_tickOn 111 = .ok (.bipush 6, 2) := by decide +kernel
theorem dX5_tickOn_113 : decode cX5_tickOn 113 = .ok (.iload_n 1, 1) := by decide +kernel
theorem dX5_tickOn_114 : decode cX5_tickOn 114 = .ok (.ifCond .eq 7, 3) := by decide +kernel
theorem dX5_tickOn_117 : decode cX5_tickOn 117 = .ok (.iconst 0, 1) := by decide +kernel
theorem dX5_tickOn_118 : decode cX5_tickOn 118 = .ok (.goto 12, 3) := by decide +kernel
theorem dX5_tickOn_121 : decode cX5_tickOn 121 = .ok (.aload_n 0, 1) := by decide +kernel
theorem dX5_tickOn_122 : decode cX5_tickOn 122 = .ok (.iload_n 2, 1) := by decide +kernel
theorem dX5_tickOn_123 : decode cX5_tickOn 123 = .ok (.bipush 6, 2) := by decide +kernel
theorem dX5_tickOn_125 : decode cX5_tickOn 125 = .ok (.invokestatic 43, 3) := by decide +kernel
theorem dX5_tickOn_128 : decode cX5_tickOn 128 = .ok (.iconst 1, 1) := by decide +kernel
theorem dX5_tickOn_129 : decode cX5_tickOn 129 = .ok (.iadd, 1) := by decide +kernel
theorem dX5_tickOn_130 : decode cX5_tickOn 130 = .ok (.invokestatic 69, 3) := by decide +kernel
theorem dX5_tickOn_133 : decode cX5_tickOn 133 = .ok (.aload_n 0, 1) := by decide +kernel
theorem dX5_tickOn_134 : decode cX5_tickOn 134 = .ok (.iconst 4, 1) := by decide +kernel
theorem dX5_tickOn_135 : decode cX5_tickOn 135 = .ok (.dup2, 1) := by decide +kernel
theorem dX5_tickOn_136 : decode cX5_tickOn 136 = .ok (.iaload, 1) := by decide +kernel
theorem dX5_tickOn_137 : decode cX5_tickOn 137 = .ok (.iconst 1, 1) := by decide +kernel
theorem dX5_tickOn_138 : decode cX5_tickOn 138 = .ok (.iadd, 1) := by decide +kernel
theorem dX5_tickOn_139 : decode cX5_tickOn 139 = .ok (.iastore, 1) := by decide +kernel
theorem dX5_tickOn_140 : decode cX5_tickOn 140 = .ok (.iinc 2 1, 3) := by decide +kernel
theorem dX5_tickOn_143 : decode cX5_tickOn 143 = .ok (.goto (-118), 3) := by decide +kernel
theorem dX5_tickOn_146 : decode cX5_tickOn 146 = .ok (.aload_n 0, 1) := by decide +kernel
theorem dX5_tickOn_147 : decode cX5_tickOn 147 = .ok (.iconst 1, 1) := by decide +kernel
theorem dX5_tickOn_148 : decode cX5_tickOn 148 = .ok (.dup2, 1) := by decide +kernel
theorem dX5_tickOn_149 : decode cX5_tickOn 149 = .ok (.iaload, 1) := by decide +kernel
theorem dX5_tickOn_150 : decode cX5_tickOn 150 = .ok (.iconst 1, 1) := by decide +kernel
theorem dX5_tickOn_151 : decode cX5_tickOn 151 = .ok (.iadd, 1) := by decide +kernel
theorem dX5_tickOn_152 : decode cX5_tickOn 152 = .ok (.iastore, 1) := by decide +kernel
theorem dX5_tickOn_153 : decode cX5_tickOn 153 = .ok (.return_, 1) := by decide +kernel
theorem dX5_runOn_0 : decode cX5_runOn 0 = .ok (.aload_n 0, 1) := by decide +kernel
theorem dX5_runOn_1 : decode cX5_runOn 1 = .ok (.iconst 4, 1) := by decide +kernel
theorem dX5_runOn_2 : decode cX5_runOn 2 = .ok (.iaload, 1) := by decide +kernel
theorem dX5_runOn_3 : decode cX5_runOn 3 = .ok (.istore_n 2, 1) := by decide +kernel
theorem dX5_runOn_4 : decode cX5_runOn 4 = .ok (.iconst 0, 1) := by decide +kernel
theorem dX5_runOn_5 : decode cX5_runOn 5 = .ok (.istore_n 3, 1) := by decide +kernel
theorem dX5_runOn_6 : decode cX5_runOn 6 = .ok (.iload_n 3, 1) := by decide +kernel
theorem dX5_runOn_7 : decode cX5_runOn 7 = .ok (.iload_n 1, 1) := by decide +kernel
theorem dX5_runOn_8 : decode cX5_runOn 8 = .ok (.if_icmp .ge 13, 3) := by decide +kernel
theorem dX5_runOn_11 : decode cX5_runOn 11 = .ok (.aload_n 0, 1) := by decide +kernel
theorem dX5_runOn_12 : decode cX5_runOn 12 = .ok (.invokestatic 79, 3) := by decide +kernel
theorem dX5_runOn_15 : decode cX5_runOn 15 = .ok (.iinc 3 1, 3) := by decide +kernel
theorem dX5_runOn_18 : decode cX5_runOn 18 = .ok (.goto (-12), 3) := by decide +kernel
theorem dX5_runOn_21 : decode cX5_runOn 21 = .ok (.aload_n 0, 1) := by decide +kernel
theorem dX5_runOn_22 : decode cX5_runOn 22 = .ok (.iconst 4, 1) := by decide +kernel
theorem dX5_runOn_23 : decode cX5_runOn 23 = .ok (.iaload, 1) := by decide +kernel
theorem dX5_runOn_24 : decode cX5_runOn 24 = .ok (.iload_n 2, 1) := by decide +kernel
theorem dX5_runOn_25 : decode cX5_runOn 25 = .ok (.isub, 1) := by decide +kernel
theorem dX5_runOn_26 : decode cX5_runOn 26 = .ok (.ireturn, 1) := by decide +kernel
theorem dX5_dropJob_0 : decode cX5_dropJob 0 = .ok (.aload_n 0, 1) := by decide +kernel
theorem dX5_dropJob_1 : decode cX5_dropJob 1 = .ok (.iconst 5, 1) := by decide +kernel
theorem dX5_dropJob_2 : decode cX5_dropJob 2 = .ok (.iconst (-1), 1) := by decide +kernel
theorem dX5_dropJob_3 : decode cX5_dropJob 3 = .ok (.iastore, 1) := by decide +kernel
theorem dX5_dropJob_4 : decode cX5_dropJob 4 = .ok (.aload_n 0, 1) := by decide +kernel
theorem dX5_dropJob_5 : decode cX5_dropJob 5 = .ok (.iconst 3, 1) := by decide +kernel
theorem dX5_dropJob_6 : decode cX5_dropJob 6 = .ok (.dup2, 1) := by decide +kernel
theorem dX5_dropJob_7 : decode cX5_dropJob 7 = .ok (.iaload, 1) := by decide +kernel
theorem dX5_dropJob_8 : decode cX5_dropJob 8 = .ok (.iconst 1, 1) := by decide +kernel
theorem dX5_dropJob_9 : decode cX5_dropJob 9 = .ok (.iadd, 1) := by decide +kernel
theorem dX5_dropJob_10 : decode cX5_dropJob 10 = .ok (.iastore, 1) := by decide +kernel
theorem dX5_dropJob_11 : decode cX5_dropJob 11 = .ok (.return_, 1) := by decide +kernel
theorem dX5_hurt_0 : decode cX5_hurt 0 = .ok (.aload_n 0, 1) := by decide +kernel
theorem dX5_hurt_1 : decode cX5_hurt 1 = .ok (.iload_n 1, 1) := by decide +kernel
theorem dX5_hurt_2 : decode cX5_hurt 2 = .ok (.invokestatic 51, 3) := by decide +kernel
theorem dX5_hurt_5 : decode cX5_hurt 5 = .ok (.istore_n 2, 1) := by decide +kernel
theorem dX5_hurt_6 : decode cX5_hurt 6 = .ok (.aload_n 0, 1) := by decide +kernel
theorem dX5_hurt_7 : decode cX5_hurt 7 = .ok (.iload_n 1, 1) := by decide +kernel
theorem dX5_hurt_8 : decode cX5_hurt 8 = .ok (.invokestatic 55, 3) := by decide +kernel
theorem dX5_hurt_11 : decode cX5_hurt 11 = .ok (.istore_n 3, 1) := by decide +kernel
theorem dX5_hurt_12 : decode cX5_hurt 12 = .ok (.iload_n 2, 1) := by decide +kernel
theorem dX5_hurt_13 : decode cX5_hurt 13 = .ok (.iconst (-1), 1) := by decide +kernel
theorem dX5_hurt_14 : decode cX5_hurt 14 = .ok (.if_icmp .eq 7, 3) := by decide +kernel
theorem dX5_hurt_17 : decode cX5_hurt 17 = .ok (.iload_n 2, 1) := by decide +kernel
theorem dX5_hurt_18 : decode cX5_hurt 18 = .ok (.goto 23, 3) := by decide +kernel
theorem dX5_hurt_21 : decode cX5_hurt 21 = .ok (.iload_n 3, 1) := by decide +kernel
theorem dX5_hurt_22 : decode cX5_hurt 22 = .ok (.iconst (-1), 1) := by decide +kernel
theorem dX5_hurt_23 : decode cX5_hurt 23 = .ok (.if_icmp .eq 17, 3) := by decide +kernel
theorem dX5_hurt_26 : decode cX5_hurt 26 = .ok (.aload_n 0, 1) := by decide +kernel
theorem dX5_hurt_27 : decode cX5_hurt 27 = .ok (.iload_n 3, 1) := by decide +kernel
theorem dX5_hurt_28 : decode cX5_hurt 28 = .ok (.iconst 4, 1) := by decide +kernel
theorem dX5_hurt_29 : decode cX5_hurt 29 = .ok (.invokestatic 43, 3) := by decide +kernel
theorem dX5_hurt_32 : decode cX5_hurt 32 = .ok (.iconst 3, 1) := by decide +kernel
theorem dX5_hurt_33 : decode cX5_hurt 33 = .ok (.if_icmp .ne 7, 3) := by decide +kernel
theorem dX5_hurt_36 : decode cX5_hurt 36 = .ok (.iload_n 3, 1) := by decide +kernel
theorem dX5_hurt_37 : decode cX5_hurt 37 = .ok (.goto 4, 3) := by decide +kernel
theorem dX5_hurt_40 : decode cX5_hurt 40 = .ok (.iconst (-1), 1) := by decide +kernel
theorem dX5_hurt_41 : decode cX5_hurt 41 = .ok (.ireturn, 1) := by decide +kernel
theorem dX5_turnOn_0 : decode cX5_turnOn 0 = .ok (.aload_n 0, 1) := by decide +kernel
theorem dX5_turnOn_1 : decode cX5_turnOn 1 = .ok (.iload_n 1, 1) := by decide +kernel
theorem dX5_turnOn_2 : decode cX5_turnOn 2 = .ok (.invokestatic 82, 3) := by decide +kernel
theorem dX5_turnOn_5 : decode cX5_turnOn 5 = .ok (.istore_n 2, 1) := by decide +kernel
theorem dX5_turnOn_6 : decode cX5_turnOn 6 = .ok (.aload_n 0, 1) := by decide +kernel
theorem dX5_turnOn_7 : decode cX5_turnOn 7 = .ok (.iload_n 1, 1) := by decide +kernel
theorem dX5_turnOn_8 : decode cX5_turnOn 8 = .ok (.invokestatic 55, 3) := by decide +kernel
theorem dX5_turnOn_11 : decode cX5_turnOn 11 = .ok (.istore_n 3, 1) := by decide +kernel
theorem dX5_turnOn_12 : decode cX5_turnOn 12 = .ok (.iload_n 2, 1) := by decide +kernel
theorem dX5_turnOn_13 : decode cX5_turnOn 13 = .ok (.iconst (-1), 1) := by decide +kernel
theorem dX5_turnOn_14 : decode cX5_turnOn 14 = .ok (.if_icmp .eq 10, 3) := by decide +kernel
theorem dX5_turnOn_17 : decode cX5_turnOn 17 = .ok (.aload_n 0, 1) := by decide +kernel
theorem dX5_turnOn_18 : decode cX5_turnOn 18 = .ok (.iconst 5, 1) := by decide +kernel
theorem dX5_turnOn_19 : decode cX5_turnOn 19 = .ok (.iaload, 1) := by decide +kernel
theorem dX5_turnOn_20 : decode cX5_turnOn 20 = .ok (.iload_n 2, 1) := by decide +kernel
theorem dX5_turnOn_21 : decode cX5_turnOn 21 = .ok (.if_icmp .eq 13, 3) := by decide +kernel
theorem dX5_turnOn_24 : decode cX5_turnOn 24 = .ok (.iload_n 2, 1) := by decide +kernel
theorem dX5_turnOn_25 : decode cX5_turnOn 25 = .ok (.iconst (-1), 1) := by decide +kernel
theorem dX5_turnOn_26 : decode cX5_turnOn 26 = .ok (.if_icmp .ne 12, 3) := by decide +kernel
theorem dX5_turnOn_29 : decode cX5_turnOn 29 = .ok (.iload_n 3, 1) := by decide +kernel
theorem dX5_turnOn_30 : decode cX5_turnOn 30 = .ok (.iconst (-1), 1) := by decide +kernel
theorem dX5_turnOn_31 : decode cX5_turnOn 31 = .ok (.if_icmp .eq 7, 3) := by decide +kernel
theorem dX5_turnOn_34 : decode cX5_turnOn 34 = .ok (.aload_n 0, 1) := by decide +kernel
theorem dX5_turnOn_35 : decode cX5_turnOn 35 = .ok (.invokestatic 85, 3) := by decide +kernel
theorem dX5_turnOn_38 : decode cX5_turnOn 38 = .ok (.aload_n 0, 1) := by decide +kernel
theorem dX5_turnOn_39 : decode cX5_turnOn 39 = .ok (.bipush 11, 2) := by decide +kernel
theorem dX5_turnOn_41 : decode cX5_turnOn 41 = .ok (.iload_n 1, 1) := by decide +kernel
theorem dX5_turnOn_42 : decode cX5_turnOn 42 = .ok (.iadd, 1) := by decide +kernel
theorem dX5_turnOn_43 : decode cX5_turnOn 43 = .ok (.iconst 1, 1) := by decide +kernel
theorem dX5_turnOn_44 : decode cX5_turnOn 44 = .ok (.iastore, 1) := by decide +kernel
theorem dX5_turnOn_45 : decode cX5_turnOn 45 = .ok (.iload_n 2, 1) := by decide +kernel
theorem dX5_turnOn_46 : decode cX5_turnOn 46 = .ok (.iconst (-1), 1) := by decide +kernel
theorem dX5_turnOn_47 : decode cX5_turnOn 47 = .ok (.if_icmp .eq 37, 3) := by decide +kernel
theorem dX5_turnOn_50 : decode cX5_turnOn 50 = .ok (.aload_n 0, 1) := by decide +kernel
theorem dX5_turnOn_51 : decode cX5_turnOn 51 = .ok (.iload_n 2, 1) := by decide +kernel
theorem dX5_turnOn_52 : decode cX5_turnOn 52 = .ok (.iconst 4, 1) := by decide +kernel
theorem dX5_turnOn_53 : decode cX5_turnOn 53 = .ok (.iconst 0, 1) := by decide +kernel
theorem dX5_turnOn_54 : decode cX5_turnOn 54 = .ok (.invokestatic 69, 3) := by decide +kernel
theorem dX5_turnOn_57 : decode cX5_turnOn 57 = .ok (.aload_n 0, 1) := by decide +kernel
theorem dX5_turnOn_58 : decode cX5_turnOn 58 = .ok (.iload_n 2, 1) := by decide +kernel
theorem dX5_turnOn_59 : decode cX5_turnOn 59 = .ok (.iconst 5, 1) := by decide +kernel
theorem dX5_turnOn_60 : decode cX5_turnOn 60 = .ok (.iconst (-1), 1) := by decide +kernel
theorem dX5_turnOn_61 : decode cX5_turnOn 61 = .ok (.invokestatic 69, 3) := by decide +kernel
theorem dX5_turnOn_64 : decode cX5_turnOn 64 = .ok (.aload_n 0, 1) := by decide +kernel
theorem dX5_turnOn_65 : decode cX5_turnOn 65 = .ok (.iload_n 2, 1) := by decide +kernel
theorem dX5_turnOn_66 : decode cX5_turnOn 66 = .ok (.iconst 1, 1) := by decide +kernel
theorem dX5_turnOn_67 : decode cX5_turnOn 67 = .ok (.aload_n 0, 1) := by decide +kernel
theorem dX5_turnOn_68 : decode cX5_turnOn 68 = .ok (.iload_n 2, 1) := by decide +kernel
theorem dX5_turnOn_69 : decode cX5_turnOn 69 = .ok (.iconst 2, 1) := by decide +kernel
theorem dX5_turnOn_70 : decode cX5_turnOn 70 = .ok (.invokestatic 43, 3) := by decide +kernel
theorem dX5_turnOn_73 : decode cX5_turnOn 73 = .ok (.invokestatic 69, 3) := by decide +kernel
theorem dX5_turnOn_76 : decode cX5_turnOn 76 = .ok (.aload_n 0, 1) := by decide +kernel
theorem dX5_turnOn_77 : decode cX5_turnOn 77 = .ok (.iload_n 2, 1) := by decide +kernel
theorem dX5_turnOn_78 : decode cX5_turnOn 78 = .ok (.bipush 6, 2) := by decide +kernel
theorem dX5_turnOn_80 : decode cX5_turnOn 80 = .ok (.iconst 0, 1) := by decide +kernel
theorem dX5_turnOn_81 : decode cX5_turnOn 81 = .ok (.invokestatic 69, 3) := by decide +kernel
theorem dX5_turnOn_84 : decode cX5_turnOn 84 = .ok (.iload_n 2, 1) := by decide +kernel
theorem dX5_turnOn_85 : decode cX5_turnOn 85 = .ok (.ireturn, 1) := by decide +kernel
theorem dX5_mendOn_0 : decode cX5_mendOn 0 = .ok (.aload_n 0, 1) := by decide +kernel
theorem dX5_mendOn_1 : decode cX5_mendOn 1 = .ok (.bipush 11, 2) := by decide +kernel
theorem dX5_mendOn_3 : decode cX5_mendOn 3 = .ok (.iload_n 1, 1) := by decide +kernel
theorem dX5_mendOn_4 : decode cX5_mendOn 4 = .ok (.iadd, 1) := by decide +kernel
theorem dX5_mendOn_5 : decode cX5_mendOn 5 = .ok (.iaload, 1) := by decide +kernel
theorem dX5_mendOn_6 : decode cX5_mendOn 6 = .ok (.istore_n 2, 1) := by decide +kernel
theorem dX5_mendOn_7 : decode cX5_mendOn 7 = .ok (.aload_n 0, 1) := by decide +kernel
theorem dX5_mendOn_8 : decode cX5_mendOn 8 = .ok (.bipush 11, 2) := by decide +kernel
theorem dX5_mendOn_10 : decode cX5_mendOn 10 = .ok (.iload_n 1, 1) := by decide +kernel
theorem dX5_mendOn_11 : decode cX5_mendOn 11 = .ok (.iadd, 1) := by decide +kernel
theorem dX5_mendOn_12 : decode cX5_mendOn 12 = .ok (.iconst 0, 1) := by decide +kernel
theorem dX5_mendOn_13 : decode cX5_mendOn 13 = .ok (.iastore, 1) := by decide +kernel
theorem dX5_mendOn_14 : decode cX5_mendOn 14 = .ok (.iload_n 2, 1) := by decide +kernel
theorem dX5_mendOn_15 : decode cX5_mendOn 15 = .ok (.ireturn, 1) := by decide +kernel
theorem dX5_addOn_0 : decode cX5_addOn 0 = .ok (.aload_n 0, 1) := by decide +kernel
theorem dX5_addOn_1 : decode cX5_addOn 1 = .ok (.iconst 0, 1) := by decide +kernel
theorem dX5_addOn_2 : decode cX5_addOn 2 = .ok (.iaload, 1) := by decide +kernel
theorem dX5_addOn_3 : decode cX5_addOn 3 = .ok (.istore_n 3, 1) := by decide +kernel
theorem dX5_addOn_4 : decode cX5_addOn 4 = .ok (.aload_n 0, 1) := by decide +kernel
theorem dX5_addOn_5 : decode cX5_addOn 5 = .ok (.iload_n 3, 1) := by decide +kernel
theorem dX5_addOn_6 : decode cX5_addOn 6 = .ok (.iconst 0, 1) := by decide +kernel
theorem dX5_addOn_7 : decode cX5_addOn 7 = .ok (.iload_n 1, 1) := by decide +kernel
theorem dX5_addOn_8 : decode cX5_addOn 8 = .ok (.invokestatic 69, 3) := by decide +kernel
theorem dX5_addOn_11 : decode cX5_addOn 11 = .ok (.aload_n 0, 1) := by decide +kernel
theorem dX5_addOn_12 : decode cX5_addOn 12 = .ok (.iload_n 3, 1) := by decide +kernel
theorem dX5_addOn_13 : decode cX5_addOn 13 = .ok (.iconst 1, 1) := by decide +kernel
theorem dX5_addOn_14 : decode cX5_addOn 14 = .ok (.iload_n 2, 1) := by decide +kernel
theorem dX5_addOn_15 : decode cX5_addOn 15 = .ok (.invokestatic 69, 3) := by decide +kernel
theorem dX5_addOn_18 : decode cX5_addOn 18 = .ok (.aload_n 0, 1) := by decide +kernel
theorem dX5_addOn_19 : decode cX5_addOn 19 = .ok (.iload_n 3, 1) := by decide +kernel
theorem dX5_addOn_20 : decode cX5_addOn 20 = .ok (.iconst 2, 1) := by decide +kernel
theorem dX5_addOn_21 : decode cX5_addOn 21 = .ok (.iload_n 2, 1) := by decide +kernel
theorem dX5_addOn_22 : decode cX5_addOn 22 = .ok (.invokestatic 69, 3) := by decide +kernel
theorem dX5_addOn_25 : decode cX5_addOn 25 = .ok (.aload_n 0, 1) := by decide +kernel
theorem dX5_addOn_26 : decode cX5_addOn 26 = .ok (.iload_n 3, 1) := by decide +kernel
theorem dX5_addOn_27 : decode cX5_addOn 27 = .ok (.iconst 3, 1) := by decide +kernel
theorem dX5_addOn_28 : decode cX5_addOn 28 = .ok (.iconst 0, 1) := by decide +kernel
theorem dX5_addOn_29 : decode cX5_addOn 29 = .ok (.invokestatic 69, 3) := by decide +kernel
theorem dX5_addOn_32 : decode cX5_addOn 32 = .ok (.aload_n 0, 1) := by decide +kernel
theorem dX5_addOn_33 : decode cX5_addOn 33 = .ok (.iload_n 3, 1) := by decide +kernel
theorem dX5_addOn_34 : decode cX5_addOn 34 = .ok (.iconst 4, 1) := by decide +kernel
theorem dX5_addOn_35 : decode cX5_addOn 35 = .ok (.iconst 0, 1) := by decide +kernel
theorem dX5_addOn_36 : decode cX5_addOn 36 = .ok (.invokestatic 69, 3) := by decide +kernel
theorem dX5_addOn_39 : decode cX5_addOn 39 = .ok (.aload_n 0, 1) := by decide +kernel
theorem dX5_addOn_40 : decode cX5_addOn 40 = .ok (.iload_n 3, 1) := by decide +kernel
theorem dX5_addOn_41 : decode cX5_addOn 41 = .ok (.iconst 5, 1) := by decide +kernel
theorem dX5_addOn_42 : decode cX5_addOn 42 = .ok (.iconst (-1), 1) := by decide +kernel
theorem dX5_addOn_43 : decode cX5_addOn 43 = .ok (.invokestatic 69, 3) := by decide +kernel
theorem dX5_addOn_46 : decode cX5_addOn 46 = .ok (.aload_n 0, 1) := by decide +kernel
theorem dX5_addOn_47 : decode cX5_addOn 47 = .ok (.iload_n 3, 1) := by decide +kernel
theorem dX5_addOn_48 : decode cX5_addOn 48 = .ok (.bipush 6, 2) := by decide +kernel
theorem dX5_addOn_50 : decode cX5_addOn 50 = .ok (.iconst 0, 1) := by decide +kernel
theorem dX5_addOn_51 : decode cX5_addOn 51 = .ok (.invokestatic 69, 3) := by decide +kernel
theorem dX5_addOn_54 : decode cX5_addOn 54 = .ok (.aload_n 0, 1) := by decide +kernel
theorem dX5_addOn_55 : decode cX5_addOn 55 = .ok (.iconst 0, 1) := by decide +kernel
theorem dX5_addOn_56 : decode cX5_addOn 56 = .ok (.dup2, 1) := by decide +kernel
theorem dX5_addOn_57 : decode cX5_addOn 57 = .ok (.iaload, 1) := by decide +kernel
theorem dX5_addOn_58 : decode cX5_addOn 58 = .ok (.iconst 1, 1) := by decide +kernel
theorem dX5_addOn_59 : decode cX5_addOn 59 = .ok (.iadd, 1) := by decide +kernel
theorem dX5_addOn_60 : decode cX5_addOn 60 = .ok (.iastore, 1) := by decide +kernel
theorem dX5_addOn_61 : decode cX5_addOn 61 = .ok (.iload_n 3, 1) := by decide +kernel
theorem dX5_addOn_62 : decode cX5_addOn 62 = .ok (.ireturn, 1) := by decide +kernel
theorem dX5_canStop_0 : decode cX5_canStop 0 = .ok (.aload_n 0, 1) := by decide +kernel
theorem dX5_canStop_1 : decode cX5_canStop 1 = .ok (.iload_n 1, 1) := by decide +kernel
theorem dX5_canStop_2 : decode cX5_canStop 2 = .ok (.invokestatic 62, 3) := by decide +kernel
theorem dX5_canStop_5 : decode cX5_canStop 5 = .ok (.ifCond .eq 24, 3) := by decide +kernel
theorem dX5_canStop_8 : decode cX5_canStop 8 = .ok (.aload_n 0, 1) := by decide +kernel
theorem dX5_canStop_9 : decode cX5_canStop 9 = .ok (.iload_n 1, 1) := by decide +kernel
theorem dX5_canStop_10 : decode cX5_canStop 10 = .ok (.iconst 4, 1) := by decide +kernel
theorem dX5_canStop_11 : decode cX5_canStop 11 = .ok (.invokestatic 43, 3) := by decide +kernel
theorem dX5_canStop_14 : decode cX5_canStop 14 = .ok (.iconst 2, 1) := by decide +kernel
theorem dX5_canStop_15 : decode cX5_canStop 15 = .ok (.if_icmp .ne 14, 3) := by decide +kernel
theorem dX5_canStop_18 : decode cX5_canStop 18 = .ok (.aload_n 0, 1) := by decide +kernel
theorem dX5_canStop_19 : decode cX5_canStop 19 = .ok (.iconst 5, 1) := by decide +kernel
theorem dX5_canStop_20 : decode cX5_canStop 20 = .ok (.iaload, 1) := by decide +kernel
theorem dX5_canStop_21 : decode cX5_canStop 21 = .ok (.iload_n 1, 1) := by decide +kernel
theorem dX5_canStop_22 : decode cX5_canStop 22 = .ok (.if_icmp .eq 7, 3) := by decide +kernel
theorem dX5_canStop_25 : decode cX5_canStop 25 = .ok (.iconst 1, 1) := by decide +kernel
theorem dX5_canStop_26 : decode cX5_canStop 26 = .ok (.goto 4, 3) := by decide +kernel
theorem dX5_canStop_29 : decode cX5_canStop 29 = .ok (.iconst 0, 1) := by decide +kernel
theorem dX5_canStop_30 : decode cX5_canStop 30 = .ok (.ireturn, 1) := by decide +kernel
theorem dX5_stopOn_0 : decode cX5_stopOn 0 = .ok (.aload_n 0, 1) := by decide +kernel
theorem dX5_stopOn_1 : decode cX5_stopOn 1 = .ok (.iload_n 1, 1) := by decide +kernel
theorem dX5_stopOn_2 : decode cX5_stopOn 2 = .ok (.iconst 4, 1) := by decide +kernel
theorem dX5_stopOn_3 : decode cX5_stopOn 3 = .ok (.iconst 0, 1) := by decide +kernel
theorem dX5_stopOn_4 : decode cX5_stopOn 4 = .ok (.invokestatic 69, 3) := by decide +kernel
theorem dX5_stopOn_7 : decode cX5_stopOn 7 = .ok (.aload_n 0, 1) := by decide +kernel
theorem dX5_stopOn_8 : decode cX5_stopOn 8 = .ok (.iload_n 1, 1) := by decide +kernel
theorem dX5_stopOn_9 : decode cX5_stopOn 9 = .ok (.iconst 5, 1) := by decide +kernel
theorem dX5_stopOn_10 : decode cX5_stopOn 10 = .ok (.iconst (-1), 1) := by decide +kernel
theorem dX5_stopOn_11 : decode cX5_stopOn 11 = .ok (.invokestatic 69, 3) := by decide +kernel
theorem dX5_stopOn_14 : decode cX5_stopOn 14 = .ok (.aload_n 0, 1) := by decide +kernel
theorem dX5_stopOn_15 : decode cX5_stopOn 15 = .ok (.iload_n 1, 1) := by decide +kernel
theorem dX5_stopOn_16 : decode cX5_stopOn 16 = .ok (.iconst 2, 1) := by decide +kernel
theorem dX5_stopOn_17 : decode cX5_stopOn 17 = .ok (.aload_n 0, 1) := by decide +kernel
theorem dX5_stopOn_18 : decode cX5_stopOn 18 = .ok (.iload_n 1, 1) := by decide +kernel
theorem dX5_stopOn_19 : decode cX5_stopOn 19 = .ok (.iconst 1, 1) := by decide +kernel
theorem dX5_stopOn_20 : decode cX5_stopOn 20 = .ok (.invokestatic 43, 3) := by decide +kernel
theorem dX5_stopOn_23 : decode cX5_stopOn 23 = .ok (.invokestatic 69, 3) := by decide +kernel
theorem dX5_stopOn_26 : decode cX5_stopOn 26 = .ok (.aload_n 0, 1) := by decide +kernel
theorem dX5_stopOn_27 : decode cX5_stopOn 27 = .ok (.iload_n 1, 1) := by decide +kernel
theorem dX5_stopOn_28 : decode cX5_stopOn 28 = .ok (.bipush 6, 2) := by decide +kernel
theorem dX5_stopOn_30 : decode cX5_stopOn 30 = .ok (.iconst 0, 1) := by decide +kernel
theorem dX5_stopOn_31 : decode cX5_stopOn 31 = .ok (.invokestatic 69, 3) := by decide +kernel
theorem dX5_stopOn_34 : decode cX5_stopOn 34 = .ok (.aload_n 0, 1) := by decide +kernel
theorem dX5_stopOn_35 : decode cX5_stopOn 35 = .ok (.iload_n 1, 1) := by decide +kernel
theorem dX5_stopOn_36 : decode cX5_stopOn 36 = .ok (.iconst 1, 1) := by decide +kernel
theorem dX5_stopOn_37 : decode cX5_stopOn 37 = .ok (.invokestatic 43, 3) := by decide +kernel
theorem dX5_stopOn_40 : decode cX5_stopOn 40 = .ok (.ireturn, 1) := by decide +kernel
theorem dX5_isSetting_0 : decode cX5_isSetting 0 = .ok (.iload_n 0, 1) := by decide +kernel
theorem dX5_isSetting_1 : decode cX5_isSetting 1 = .ok (.ifCond .ne 15, 3) := by decide +kernel
theorem dX5_isSetting_4 : decode cX5_isSetting 4 = .ok (.iload_n 1, 1) := by decide +kernel
theorem dX5_isSetting_5 : decode cX5_isSetting 5 = .ok (.i2l, 1) := by decide +kernel
theorem dX5_isSetting_6 : decode cX5_isSetting 6 = .ok (.lconst 1, 1) := by decide +kernel
theorem dX5_isSetting_7 : decode cX5_isSetting 7 = .ok (.ldc2_w 88, 3) := by decide +kernel
theorem dX5_isSetting_10 : decode cX5_isSetting 10 = .ok (.invokestatic 37, 3) := by decide +kernel
theorem dX5_isSetting_13 : decode cX5_isSetting 13 = .ok (.ifCond .ne 37, 3) := by decide +kernel
theorem dX5_isSetting_16 : decode cX5_isSetting 16 = .ok (.iload_n 0, 1) := by decide +kernel
theorem dX5_isSetting_17 : decode cX5_isSetting 17 = .ok (.iconst 1, 1) := by decide +kernel
theorem dX5_isSetting_18 : decode cX5_isSetting 18 = .ok (.if_icmp .ne 15, 3) := by decide +kernel
theorem dX5_isSetting_21 : decode cX5_isSetting 21 = .ok (.iload_n 1, 1) := by decide +kernel
theorem dX5_isSetting_22 : decode cX5_isSetting 22 = .ok (.i2l, 1) := by decide +kernel
theorem dX5_isSetting_23 : decode cX5_isSetting 23 = .ok (.lconst 0, 1) := by decide +kernel
theorem dX5_isSetting_24 : decode cX5_isSetting 24 = .ok (.ldc2_w 90, 3) := by decide +kernel
theorem dX5_isSetting_27 : decode cX5_isSetting 27 = .ok (.invokestatic 37, 3) := by decide +kernel
theorem dX5_isSetting_30 : decode cX5_isSetting 30 = .ok (.ifCond .ne 20, 3) := by decide +kernel
theorem dX5_isSetting_33 : decode cX5_isSetting 33 = .ok (.iload_n 0, 1) := by decide +kernel
theorem dX5_isSetting_34 : decode cX5_isSetting 34 = .ok (.iconst 2, 1) := by decide +kernel
theorem dX5_isSetting_35 : decode cX5_isSetting 35 = .ok (.if_icmp .ne 19, 3) := by decide +kernel
theorem dX5_isSetting_38 : decode cX5_isSetting 38 = .ok (.iload_n 1, 1) := by decide +kernel
theorem dX5_isSetting_39 : decode cX5_isSetting 39 = .ok (.i2l, 1) := by decide +kernel
theorem dX5_isSetting_40 : decode cX5_isSetting 40 = .ok (.lconst 1, 1) := by decide +kernel
theorem dX5_isSetting_41 : decode cX5_isSetting 41 = .ok (.ldc2_w 92, 3) := by decide +kernel
theorem dX5_isSetting_44 : decode cX5_isSetting 44 = .ok (.invokestatic 37, 3) := by decide +kernel
theorem dX5_isSetting_47 : decode cX5_isSetting 47 = .ok (.ifCond .eq 7, 3) := by decide +kernel
theorem dX5_isSetting_50 : decode cX5_isSetting 50 = .ok (.iconst 1, 1) := by decide +kernel
theorem dX5_isSetting_51 : decode cX5_isSetting 51 = .ok (.goto 4, 3) := by decide +kernel
theorem dX5_isSetting_54 : decode cX5_isSetting 54 = .ok (.iconst 0, 1) := by decide +kernel
theorem dX5_isSetting_55 : decode cX5_isSetting 55 = .ok (.ireturn, 1) := by decide +kernel
theorem dX5_running_0 : decode cX5_running 0 = .ok (.iconst 0, 1) := by decide +kernel
theorem dX5_running_1 : decode cX5_running 1 = .ok (.istore_n 1, 1) := by decide +kernel
theorem dX5_running_2 : decode cX5_running 2 = .ok (.iconst 0, 1) := by decide +kernel
theorem dX5_running_3 : decode cX5_running 3 = .ok (.istore_n 2, 1) := by decide +kernel
theorem dX5_running_4 : decode cX5_running 4 = .ok (.iload_n 2, 1) := by decide +kernel
theorem dX5_running_5 : decode cX5_running 5 = .ok (.aload_n 0, 1) := by decide +kernel
theorem dX5_running_6 : decode cX5_running 6 = .ok (.iconst 0, 1) := by decide +kernel
theorem dX5_running_7 : decode cX5_running 7 = .ok (.iaload, 1) := by decide +kernel
theorem dX5_running_8 : decode cX5_running 8 = .ok (.if_icmp .ge 27, 3) := by decide +kernel
theorem dX5_running_11 : decode cX5_running 11 = .ok (.iload_n 1, 1) := by decide +kernel
theorem dX5_running_12 : decode cX5_running 12 = .ok (.aload_n 0, 1) := by decide +kernel
theorem dX5_running_13 : decode cX5_running 13 = .ok (.iload_n 2, 1) := by decide +kernel
theorem dX5_running_14 : decode cX5_running 14 = .ok (.iconst 4, 1) := by decide +kernel
theorem dX5_running_15 : decode cX5_running 15 = .ok (.invokestatic 43, 3) := by decide +kernel
theorem dX5_running_18 : decode cX5_running 18 = .ok (.iconst 2, 1) := by decide +kernel
theorem dX5_running_19 : decode cX5_running 19 = .ok (.if_icmp .ne 7, 3) := by decide +kernel
theorem dX5_running_22 : decode cX5_running 22 = .ok (.iconst 1, 1) := by decide +kernel
theorem dX5_running_23 : decode cX5_running 23 = .ok (.goto 4, 3) := by decide +kernel
theorem dX5_running_26 : decode cX5_running 26 = .ok (.iconst 0, 1) := by decide +kernel
theorem dX5_running_27 : decode cX5_running 27 = .ok (.iadd, 1) := by decide +kernel
theorem dX5_running_28 : decode cX5_running 28 = .ok (.istore_n 1, 1) := by decide +kernel
theorem dX5_running_29 : decode cX5_running 29 = .ok (.iinc 2 1, 3) := by decide +kernel
theorem dX5_running_32 : decode cX5_running 32 = .ok (.goto (-28), 3) := by decide +kernel
theorem dX5_running_35 : decode cX5_running 35 = .ok (.iload_n 1, 1) := by decide +kernel
theorem dX5_running_36 : decode cX5_running 36 = .ok (.ireturn, 1) := by decide +kernel
theorem dX5_idle_0 : decode cX5_idle 0 = .ok (.aload_n 0, 1) := by decide +kernel
theorem dX5_idle_1 : decode cX5_idle 1 = .ok (.iconst 5, 1) := by decide +kernel
theorem dX5_idle_2 : decode cX5_idle 2 = .ok (.iaload, 1) := by decide +kernel
theorem dX5_idle_3 : decode cX5_idle 3 = .ok (.iconst (-1), 1) := by decide +kernel
theorem dX5_idle_4 : decode cX5_idle 4 = .ok (.if_icmp .ne 5, 3) := by decide +kernel
theorem dX5_idle_7 : decode cX5_idle 7 = .ok (.iconst 0, 1) := by decide +kernel
theorem dX5_idle_8 : decode cX5_idle 8 = .ok (.ireturn, 1) := by decide +kernel
theorem dX5_idle_9 : decode cX5_idle 9 = .ok (.aload_n 0, 1) := by decide +kernel
theorem dX5_idle_10 : decode cX5_idle 10 = .ok (.bipush 7, 2) := by decide +kernel
theorem dX5_idle_12 : decode cX5_idle 12 = .ok (.iaload, 1) := by decide +kernel
theorem dX5_idle_13 : decode cX5_idle 13 = .ok (.aload_n 0, 1) := by decide +kernel
theorem dX5_idle_14 : decode cX5_idle 14 = .ok (.aload_n 0, 1) := by decide +kernel
theorem dX5_idle_15 : decode cX5_idle 15 = .ok (.iconst 5, 1) := by decide +kernel
theorem dX5_idle_16 : decode cX5_idle 16 = .ok (.iaload, 1) := by decide +kernel
theorem dX5_idle_17 : decode cX5_idle 17 = .ok (.iconst 4, 1) := by decide +kernel
theorem dX5_idle_18 : decode cX5_idle 18 = .ok (.invokestatic 43, 3) := by decide +kernel
theorem dX5_idle_21 : decode cX5_idle 21 = .ok (.iconst 2, 1) := by decide +kernel
theorem dX5_idle_22 : decode cX5_idle 22 = .ok (.if_icmp .ne 10, 3) := by decide +kernel
theorem dX5_idle_25 : decode cX5_idle 25 = .ok (.aload_n 0, 1) := by decide +kernel
theorem dX5_idle_26 : decode cX5_idle 26 = .ok (.bipush 9, 2) := by decide +kernel
theorem dX5_idle_28 : decode cX5_idle 28 = .ok (.iaload, 1) := by decide +kernel
theorem dX5_idle_29 : decode cX5_idle 29 = .ok (.goto 4, 3) := by decide +kernel
theorem dX5_idle_32 : decode cX5_idle 32 = .ok (.iconst 0, 1) := by decide +kernel
theorem dX5_idle_33 : decode cX5_idle 33 = .ok (.iadd, 1) := by decide +kernel
theorem dX5_idle_34 : decode cX5_idle 34 = .ok (.ireturn, 1) := by decide +kernel
theorem dX5_append_0 : decode cX5_append 0 = .ok (.aload_n 0, 1) := by decide +kernel
theorem dX5_append_1 : decode cX5_append 1 = .ok (.iload_n 1, 1) := by decide +kernel
theorem dX5_append_2 : decode cX5_append 2 = .ok (.i2l, 1) := by decide +kernel
theorem dX5_append_3 : decode cX5_append 3 = .ok (.lconst 0, 1) := by decide +kernel
theorem dX5_append_4 : decode cX5_append 4 = .ok (.ldc2_w 94, 3) := by decide +kernel
theorem dX5_append_7 : decode cX5_append 7 = .ok (.invokestatic 37, 3) := by decide +kernel
theorem dX5_append_10 : decode cX5_append 10 = .ok (.ifCond .ne 7, 3) := by decide +kernel
theorem dX5_append_13 : decode cX5_append 13 = .ok (.iconst 1, 1) := by decide +kernel
theorem dX5_append_14 : decode cX5_append 14 = .ok (.goto 17, 3) := by decide +kernel
theorem dX5_append_17 : decode cX5_append 17 = .ok (.aload_n 0, 1) := by decide +kernel
theorem dX5_append_18 : decode cX5_append 18 = .ok (.getfield 96, 3) := by decide +kernel
theorem dX5_append_21 : decode cX5_append 21 = .ok (.bipush 120, 2) := by decide +kernel
theorem dX5_append_23 : decode cX5_append 23 = .ok (.if_icmp .ne 7, 3) := by decide +kernel
theorem dX5_append_26 : decode cX5_append 26 = .ok (.iconst 2, 1) := by decide +kernel
theorem dX5_append_27 : decode cX5_append 27 = .ok (.goto 4, 3) := by decide +kernel
theorem dX5_append_30 : decode cX5_append 30 = .ok (.iconst 0, 1) := by decide +kernel
theorem dX5_append_31 : decode cX5_append 31 = .ok (.invokevirtual 99, 3) := by decide +kernel
theorem dX5_append_34 : decode cX5_append 34 = .ok (.ifCond .eq 5, 3) := by decide +kernel
theorem dX5_append_37 : decode cX5_append 37 = .ok (.iconst 0, 1) := by decide +kernel
theorem dX5_append_38 : decode cX5_append 38 = .ok (.ireturn, 1) := by decide +kernel
theorem dX5_append_39 : decode cX5_append 39 = .ok (.aload_n 0, 1) := by decide +kernel
theorem dX5_append_40 : decode cX5_append 40 = .ok (.getfield 7, 3) := by decide +kernel
theorem dX5_append_43 : decode cX5_append 43 = .ok (.aload_n 0, 1) := by decide +kernel
theorem dX5_append_44 : decode cX5_append 44 = .ok (.getfield 96, 3) := by decide +kernel
theorem dX5_append_47 : decode cX5_append 47 = .ok (.iload_n 1, 1) := by decide +kernel
theorem dX5_append_48 : decode cX5_append 48 = .ok (.iastore, 1) := by decide +kernel
theorem dX5_append_49 : decode cX5_append 49 = .ok (.aload_n 0, 1) := by decide +kernel
theorem dX5_append_50 : decode cX5_append 50 = .ok (.dup, 1) := by decide +kernel
theorem dX5_append_51 : decode cX5_append 51 = .ok (.getfield 96, 3) := by decide +kernel
theorem dX5_append_54 : decode cX5_append 54 = .ok (.iconst 1, 1) := by decide +kernel
theorem dX5_append_55 : decode cX5_append 55 = .ok (.iadd, 1) := by decide +kernel
theorem dX5_append_56 : decode cX5_append 56 = .ok (.putfield 96, 3) := by decide +kernel
theorem dX5_append_59 : decode cX5_append 59 = .ok (.aload_n 0, 1) := by decide +kernel
theorem dX5_append_60 : decode cX5_append 60 = .ok (.getfield 96, 3) := by decide +kernel
theorem dX5_append_63 : decode cX5_append 63 = .ok (.ireturn, 1) := by decide +kernel
theorem dX5_clearText_0 : decode cX5_clearText 0 = .ok (.aload_n 0, 1) := by decide +kernel
theorem dX5_clearText_1 : decode cX5_clearText 1 = .ok (.iconst 0, 1) := by decide +kernel
theorem dX5_clearText_2 : decode cX5_clearText 2 = .ok (.putfield 33, 3) := by decide +kernel
theorem dX5_clearText_5 : decode cX5_clearText 5 = .ok (.aload_n 0, 1) := by decide +kernel
theorem dX5_clearText_6 : decode cX5_clearText 6 = .ok (.getfield 96, 3) := by decide +kernel
theorem dX5_clearText_9 : decode cX5_clearText 9 = .ok (.istore_n 1, 1) := by decide +kernel
theorem dX5_clearText_10 : decode cX5_clearText 10 = .ok (.aload_n 0, 1) := by decide +kernel
theorem dX5_clearText_11 : decode cX5_clearText 11 = .ok (.iconst 0, 1) := by decide +kernel
theorem dX5_clearText_12 : decode cX5_clearText 12 = .ok (.putfield 96, 3) := by decide +kernel
theorem dX5_clearText_15 : decode cX5_clearText 15 = .ok (.iload_n 1, 1) := by decide +kernel
theorem dX5_clearText_16 : decode cX5_clearText 16 = .ok (.ireturn, 1) := by decide +kernel
theorem dX5_figures_0 : decode cX5_figures 0 = .ok (.iconst 0, 1) := by decide +kernel
theorem dX5_figures_1 : decode cX5_figures 1 = .ok (.istore 5, 2) := by decide +kernel
theorem dX5_figures_3 : decode cX5_figures 3 = .ok (.iload_n 2, 1) := by decide +kernel
theorem dX5_figures_4 : decode cX5_figures 4 = .ok (.iconst 3, 1) := by decide +kernel
theorem dX5_figures_5 : decode cX5_figures 5 = .ok (.if_icmp .ne 8, 3) := by decide +kernel
theorem dX5_figures_8 : decode cX5_figures 8 = .ok (.bipush 100, 2) := by decide +kernel
theorem dX5_figures_10 : decode cX5_figures 10 = .ok (.goto 14, 3) := by decide +kernel
theorem dX5_figures_13 : decode cX5_figures 13 = .ok (.iload_n 2, 1) := by decide +kernel
theorem dX5_figures_14 : decode cX5_figures 14 = .ok (.iconst 2, 1) := by decide +kernel
theorem dX5_figures_15 : decode cX5_figures 15 = .ok (.if_icmp .ne 8, 3) := by decide +kernel
theorem dX5_figures_18 : decode cX5_figures 18 = .ok (.bipush 10, 2) := by decide +kernel
theorem dX5_figures_20 : decode cX5_figures 20 = .ok (.goto 4, 3) := by decide +kernel
theorem dX5_figures_23 : decode cX5_figures 23 = .ok (.iconst 1, 1) := by decide +kernel
theorem dX5_figures_24 : decode cX5_figures 24 = .ok (.istore 6, 2) := by decide +kernel
theorem dX5_figures_26 : decode cX5_figures 26 = .ok (.iload 6, 2) := by decide +kernel
theorem dX5_figures_28 : decode cX5_figures 28 = .ok (.ifCond .le 104, 3) := by decide +kernel
theorem dX5_figures_31 : decode cX5_figures 31 = .ok (.iload_n 1, 1) := by decide +kernel
theorem dX5_figures_32 : decode cX5_figures 32 = .ok (.iconst (-1), 1) := by decide +kernel
theorem dX5_figures_33 : decode cX5_figures 33 = .ok (.if_icmp .eq 99, 3) := by decide +kernel
theorem dX5_figures_36 : decode cX5_figures 36 = .ok (.aload_n 0, 1) := by decide +kernel
theorem dX5_figures_37 : decode cX5_figures 37 = .ok (.getfield 102, 3) := by decide +kernel
theorem dX5_figures_40 : decode cX5_figures 40 = .ok (.aload_n 0, 1) := by decide +kernel
theorem dX5_figures_41 : decode cX5_figures 41 = .ok (.getfield 96, 3) := by decide +kernel
theorem dX5_figures_44 : decode cX5_figures 44 = .ok (.if_icmp .ge 18, 3) := by decide +kernel
theorem dX5_figures_47 : decode cX5_figures 47 = .ok (.aload_n 0, 1) := by decide +kernel
theorem dX5_figures_48 : decode cX5_figures 48 = .ok (.getfield 7, 3) := by decide +kernel
theorem dX5_figures_51 : decode cX5_figures 51 = .ok (.aload_n 0, 1) := by decide +kernel
theorem dX5_figures_52 : decode cX5_figures 52 = .ok (.getfield 102, 3) := by decide +kernel
theorem dX5_figures_55 : decode cX5_figures 55 = .ok (.iaload, 1) := by decide +kernel
theorem dX5_figures_56 : decode cX5_figures 56 = .ok (.bipush 48, 2) := by decide +kernel
theorem dX5_figures_58 : decode cX5_figures 58 = .ok (.isub, 1) := by decide +kernel
theorem dX5_figures_59 : decode cX5_figures 59 = .ok (.goto 4, 3) := by decide +kernel
theorem dX5_figures_62 : decode cX5_figures 62 = .ok (.iconst (-1), 1) := by decide +kernel
theorem dX5_figures_63 : decode cX5_figures 63 = .ok (.istore 7, 2) := by decide +kernel
theorem dX5_figures_65 : decode cX5_figures 65 = .ok (.iload 5, 2) := by decide +kernel
theorem dX5_figures_67 : decode cX5_figures 67 = .ok (.iload 7, 2) := by decide +kernel
theorem dX5_figures_69 : decode cX5_figures 69 = .ok (.iload 6, 2) := by decide +kernel
theorem dX5_figures_71 : decode cX5_figures 71 = .ok (.imul, 1) := by decide +kernel
theorem dX5_figures_72 : decode cX5_figures 72 = .ok (.iadd, 1) := by decide +kernel
theorem dX5_figures_73 : decode cX5_figures 73 = .ok (.istore 8, 2) := by decide +kernel
theorem dX5_figures_75 : decode cX5_figures 75 = .ok (.iload 7, 2) := by decide +kernel
theorem dX5_figures_77 : decode cX5_figures 77 = .ok (.i2l, 1) := by decide +kernel
theorem dX5_figures_78 : decode cX5_figures 78 = .ok (.lconst 0, 1) := by decide +kernel
theorem dX5_figures_79 : decode cX5_figures 79 = .ok (.ldc2_w 88, 3) := by decide +kernel
theorem dX5_figures_82 : decode cX5_figures 82 = .ok (.invokestatic 37, 3) := by decide +kernel
theorem dX5_figures_85 : decode cX5_figures 85 = .ok (.ifCond .eq 21, 3) := by decide +kernel
theorem dX5_figures_88 : decode cX5_figures 88 = .ok (.iload 8, 2) := by decide +kernel
theorem dX5_figures_90 : decode cX5_figures 90 = .ok (.iload 4, 2) := by decide +kernel
theorem dX5_figures_92 : decode cX5_figures 92 = .ok (.if_icmp .gt 14, 3) := by decide +kernel
theorem dX5_figures_95 : decode cX5_figures 95 = .ok (.iload 8, 2) := by decide +kernel
theorem dX5_figures_97 : decode cX5_figures 97 = .ok (.iload 6, 2) := by decide +kernel
theorem dX5_figures_99 : decode cX5_figures 99 = .ok (.iadd, 1) := by decide +kernel
theorem dX5_figures_100 : decode cX5_figures 100 = .ok (.iconst 1, 1) := by decide +kernel
theorem dX5_figures_101 : decode cX5_figures 101 = .ok (.isub, 1) := by decide +kernel
theorem dX5_figures_102 : decode cX5_figures 102 = .ok (.iload_n 3, 1) := by decide +kernel
theorem dX5_figures_103 : decode cX5_figures 103 = .ok (.if_icmp .ge 5, 3) := by decide +kernel
theorem dX5_figures_106 : decode cX5_figures 106 = .ok (.iconst (-1), 1) := by decide +kernel
theorem dX5_figures_107 : decode cX5_figures 107 = .ok (.ireturn, 1) := by decide +kernel
theorem dX5_figures_108 : decode cX5_figures 108 = .ok (.iload 8, 2) := by decide +kernel
theorem dX5_figures_110 : decode cX5_figures 110 = .ok (.istore 5, 2) := by decide +kernel
theorem dX5_figures_112 : decode cX5_figures 112 = .ok (.aload_n 0, 1) := by decide +kernel
theorem dX5_figures_113 : decode cX5_figures 113 = .ok (.dup, 1) := by decide +kernel
theorem dX5_figures_114 : decode cX5_figures 114 = .ok (.getfield 102, 3) := by decide +kernel
theorem dX5_figures_117 : decode cX5_figures 117 = .ok (.iconst 1, 1) := by decide +kernel
theorem dX5_figures_118 : decode cX5_figures 118 = .ok (.iadd, 1) := by decide +kernel
theorem dX5_figures_119 : decode cX5_figures 119 = .ok (.putfield 102, 3) := by decide +kernel
theorem dX5_figures_122 : decode cX5_figures 122 = .ok (.iload 6, 2) := by decide +kernel
theorem dX5_figures_124 : decode cX5_figures 124 = .ok (.bipush 10, 2) := by decide +kernel
theorem dX5_figures_126 : decode cX5_figures 126 = .ok (.idiv, 1) := by decide +kernel
theorem dX5_figures_127 : decode cX5_figures 127 = .ok (.istore 6, 2) := by decide +kernel
theorem dX5_figures_129 : decode cX5_figures 129 = .ok (.goto (-103), 3) := by decide +kernel
theorem dX5_figures_132 : decode cX5_figures 132 = .ok (.iload_n 1, 1) := by decide +kernel
theorem dX5_figures_133 : decode cX5_figures 133 = .ok (.iconst (-1), 1) := by decide +kernel
theorem dX5_figures_134 : decode cX5_figures 134 = .ok (.if_icmp .ne 7, 3) := by decide +kernel
theorem dX5_figures_137 : decode cX5_figures 137 = .ok (.iconst (-1), 1) := by decide +kernel
theorem dX5_figures_138 : decode cX5_figures 138 = .ok (.goto 5, 3) := by decide +kernel
theorem dX5_figures_141 : decode cX5_figures 141 = .ok (.iload 5, 2) := by decide +kernel
theorem dX5_figures_143 : decode cX5_figures 143 = .ok (.ireturn, 1) := by decide +kernel
theorem dX5_done_0 : decode cX5_done 0 = .ok (.aload_n 0, 1) := by decide +kernel
theorem dX5_done_1 : decode cX5_done 1 = .ok (.dup, 1) := by decide +kernel
theorem dX5_done_2 : decode cX5_done 2 = .ok (.getfield 105, 3) := by decide +kernel
theorem dX5_done_5 : decode cX5_done 5 = .ok (.iload_n 1, 1) := by decide +kernel
theorem dX5_done_6 : decode cX5_done 6 = .ok (.ifCond .eq 7, 3) := by decide +kernel
theorem dX5_done_9 : decode cX5_done 9 = .ok (.iconst 0, 1) := by decide +kernel
theorem dX5_done_10 : decode cX5_done 10 = .ok (.goto 4, 3) := by decide +kernel
theorem dX5_done_13 : decode cX5_done 13 = .ok (.iconst 1, 1) := by decide +kernel
theorem dX5_done_14 : decode cX5_done 14 = .ok (.iadd, 1) := by decide +kernel
theorem dX5_done_15 : decode cX5_done 15 = .ok (.putfield 105, 3) := by decide +kernel
theorem dX5_done_18 : decode cX5_done 18 = .ok (.iconst 1, 1) := by decide +kernel
theorem dX5_done_19 : decode cX5_done 19 = .ok (.ireturn, 1) := by decide +kernel
theorem dX5_readCommand_0 : decode cX5_readCommand 0 = .ok (.aload_n 0, 1) := by decide +kernel
theorem dX5_readCommand_1 : decode cX5_readCommand 1 = .ok (.getfield 7, 3) := by decide +kernel
theorem dX5_readCommand_4 : decode cX5_readCommand 4 = .ok (.aload_n 0, 1) := by decide +kernel
theorem dX5_readCommand_5 : decode cX5_readCommand 5 = .ok (.getfield 102, 3) := by decide +kernel
theorem dX5_readCommand_8 : decode cX5_readCommand 8 = .ok (.iaload, 1) := by decide +kernel
theorem dX5_readCommand_9 : decode cX5_readCommand 9 = .ok (.istore_n 2, 1) := by decide +kernel
theorem dX5_readCommand_10 : decode cX5_readCommand 10 = .ok (.aload_n 0, 1) := by decide +kernel
theorem dX5_readCommand_11 : decode cX5_readCommand 11 = .ok (.dup, 1) := by decide +kernel
theorem dX5_readCommand_12 : decode cX5_readCommand 12 = .ok (.getfield 102, 3) := by decide +kernel
theorem dX5_readCommand_15 : decode cX5_readCommand 15 = .ok (.iconst 1, 1) := by decide +kernel
theorem dX5_readCommand_16 : decode cX5_readCommand 16 = .ok (.iadd, 1) := by decide +kernel
theorem dX5_readCommand_17 : decode cX5_readCommand 17 = .ok (.putfield 102, 3) := by decide +kernel
theorem dX5_readCommand_20 : decode cX5_readCommand 20 = .ok (.iload_n 2, 1) := by decide +kernel
theorem dX5_readCommand_21 : decode cX5_readCommand 21 = .ok (.lookupswitch 359 #[(98, 187), (103, 229), (108, 123), (115, 270), (116, 59), (119, 318)], 59) := by decide +kernel
theorem dX5_readCommand_80 : decode cX5_readCommand 80 = .ok (.aload_n 0, 1) := by decide +kernel
theorem dX5_readCommand_81 : decode cX5_readCommand 81 = .ok (.iconst 0, 1) := by decide +kernel
theorem dX5_readCommand_82 : decode cX5_readCommand 82 = .ok (.iconst 1, 1) := by decide +kernel
theorem dX5_readCommand_83 : decode cX5_readCommand 83 = .ok (.iconst 1, 1) := by decide +kernel
theorem dX5_readCommand_84 : decode cX5_readCommand 84 = .ok (.bipush 6, 2) := by decide +kernel
theorem dX5_readCommand_86 : decode cX5_readCommand 86 = .ok (.invokevirtual 108, 3) := by decide +kernel
theorem dX5_readCommand_89 : decode cX5_readCommand 89 = .ok (.istore_n 3, 1) := by decide +kernel
theorem dX5_readCommand_90 : decode cX5_readCommand 90 = .ok (.aload_n 0, 1) := by decide +kernel
theorem dX5_readCommand_91 : decode cX5_readCommand 91 = .ok (.iload_n 3, 1) := by decide +kernel
theorem dX5_readCommand_92 : decode cX5_readCommand 92 = .ok (.iconst 3, 1) := by decide +kernel
theorem dX5_readCommand_93 : decode cX5_readCommand 93 = .ok (.iconst 0, 1) := by decide +kernel
theorem dX5_readCommand_94 : decode cX5_readCommand 94 = .ok (.sipush 996, 3) := by decide +kernel
theorem dX5_readCommand_97 : decode cX5_readCommand 97 = .ok (.invokevirtual 108, 3) := by decide +kernel
theorem dX5_readCommand_100 : decode cX5_readCommand 100 = .ok (.istore 4, 2) := by decide +kernel
theorem dX5_readCommand_102 : decode cX5_readCommand 102 = .ok (.iload 4, 2) := by decide +kernel
theorem dX5_readCommand_104 : decode cX5_readCommand 104 = .ok (.iconst (-1), 1) := by decide +kernel
theorem dX5_readCommand_105 : decode cX5_readCommand 105 = .ok (.if_icmp .eq 37, 3) := by decide +kernel
theorem dX5_readCommand_108 : decode cX5_readCommand 108 = .ok (.aload_n 0, 1) := by decide +kernel
theorem dX5_readCommand_109 : decode cX5_readCommand 109 = .ok (.aload_n 1, 1) := by decide +kernel
theorem dX5_readCommand_110 : decode cX5_readCommand 110 = .ok (.iconst 0, 1) := by decide +kernel
theorem dX5_readCommand_111 : decode cX5_readCommand 111 = .ok (.iaload, 1) := by decide +kernel
theorem dX5_readCommand_112 : decode cX5_readCommand 112 = .ok (.bipush 6, 2) := by decide +kernel
theorem dX5_readCommand_114 : decode cX5_readCommand 114 = .ok (.if_icmp .ge 17, 3) := by decide +kernel
theorem dX5_readCommand_117 : decode cX5_readCommand 117 = .ok (.aload_n 1, 1) := by decide +kernel
theorem dX5_readCommand_118 : decode cX5_readCommand 118 = .ok (.iload_n 3, 1) := by decide +kernel
theorem dX5_readCommand_119 : decode cX5_readCommand 119 = .ok (.iload 4, 2) := by decide +kernel
theorem dX5_readCommand_121 : decode cX5_readCommand 121 = .ok (.invokestatic 112, 3) := by decide +kernel
theorem dX5_readCommand_124 : decode cX5_readCommand 124 = .ok (.ifCond .lt 7, 3) := by decide +kernel
theorem dX5_readCommand_127 : decode cX5_readCommand 127 = .ok (.iconst 1, 1) := by decide +kernel
theorem dX5_readCommand_128 : decode cX5_readCommand 128 = .ok (.goto 4, 3) := by decide +kernel
theorem dX5_readCommand_131 : decode cX5_readCommand 131 = .ok (.iconst 0, 1) := by decide +kernel
theorem dX5_readCommand_132 : decode cX5_readCommand 132 = .ok (.invokevirtual 115, 3) := by decide +kernel
theorem dX5_readCommand_135 : decode cX5_readCommand 135 = .ok (.ifCond .eq 7, 3) := by decide +kernel
theorem dX5_readCommand_138 : decode cX5_readCommand 138 = .ok (.iconst 1, 1) := by decide +kernel
theorem dX5_readCommand_139 : decode cX5_readCommand 139 = .ok (.goto 4, 3) := by decide +kernel
theorem dX5_readCommand_142 : decode cX5_readCommand 142 = .ok (.iconst 0, 1) := by decide +kernel
theorem dX5_readCommand_143 : decode cX5_readCommand 143 = .ok (.ireturn, 1) := by decide +kernel
theorem dX5_readCommand_144 : decode cX5_readCommand 144 = .ok (.aload_n 0, 1) := by decide +kernel
theorem dX5_readCommand_145 : decode cX5_readCommand 145 = .ok (.iconst 0, 1) := by decide +kernel
theorem dX5_readCommand_146 : decode cX5_readCommand 146 = .ok (.iconst 1, 1) := by decide +kernel
theorem dX5_readCommand_147 : decode cX5_readCommand 147 = .ok (.iconst 0, 1) := by decide +kernel
theorem dX5_readCommand_148 : decode cX5_readCommand 148 = .ok (.iconst 5, 1) := by decide +kernel
theorem dX5_readCommand_149 : decode cX5_readCommand 149 = .ok (.invokevirtual 108, 3) := by decide +kernel
theorem dX5_readCommand_152 : decode cX5_readCommand 152 = .ok (.istore_n 3, 1) := by decide +kernel
theorem dX5_readCommand_153 : decode cX5_readCommand 153 = .ok (.aload_n 0, 1) := by decide +kernel
theorem dX5_readCommand_154 : decode cX5_readCommand 154 = .ok (.iload_n 3, 1) := by decide +kernel
theorem dX5_readCommand_155 : decode cX5_readCommand 155 = .ok (.iconst 2, 1) := by decide +kernel
theorem dX5_readCommand_156 : decode cX5_readCommand 156 = .ok (.iconst 0, 1) := by decide +kernel
theorem dX5_readCommand_157 : decode cX5_readCommand 157 = .ok (.bipush 11, 2) := by decide +kernel
theorem dX5_readCommand_159 : decode cX5_readCommand 159 = .ok (.invokevirtual 108, 3) := by decide +kernel
theorem dX5_readCommand_162 : decode cX5_readCommand 162 = .ok (.istore 4, 2) := by decide +kernel
theorem dX5_readCommand_164 : decode cX5_readCommand 164 = .ok (.iload 4, 2) := by decide +kernel
theorem dX5_readCommand_166 : decode cX5_readCommand 166 = .ok (.iconst (-1), 1) := by decide +kernel
theorem dX5_readCommand_167 : decode cX5_readCommand 167 = .ok (.if_icmp .eq 39, 3) := by decide +kernel
theorem dX5_readCommand_170 : decode cX5_readCommand 170 = .ok (.aload_n 0, 1) := by decide +kernel
theorem dX5_readCommand_171 : decode cX5_readCommand 171 = .ok (.aload_n 1, 1) := by decide +kernel
theorem dX5_readCommand_172 : decode cX5_readCommand 172 = .ok (.iload_n 3, 1) := by decide +kernel
theorem dX5_readCommand_173 : decode cX5_readCommand 173 = .ok (.iload 4, 2) := by decide +kernel
theorem dX5_readCommand_175 : decode cX5_readCommand 175 = .ok (.invokestatic 119, 3) := by decide +kernel
theorem dX5_readCommand_178 : decode cX5_readCommand 178 = .ok (.ifCond .eq 17, 3) := by decide +kernel
theorem dX5_readCommand_181 : decode cX5_readCommand 181 = .ok (.aload_n 1, 1) := by decide +kernel
theorem dX5_readCommand_182 : decode cX5_readCommand 182 = .ok (.iload_n 3, 1) := by decide +kernel
theorem dX5_readCommand_183 : decode cX5_readCommand 183 = .ok (.iload 4, 2) := by decide +kernel
theorem dX5_readCommand_185 : decode cX5_readCommand 185 = .ok (.invokestatic 123, 3) := by decide +kernel
theorem dX5_readCommand_188 : decode cX5_readCommand 188 = .ok (.ifCond .le 7, 3) := by decide +kernel
theorem dX5_readCommand_191 : decode cX5_readCommand 191 = .ok (.iconst 1, 1) := by decide +kernel
theorem dX5_readCommand_192 : decode cX5_readCommand 192 = .ok (.goto 4, 3) := by decide +kernel
theorem dX5_readCommand_195 : decode cX5_readCommand 195 = .ok (.iconst 0, 1) := by decide +kernel
theorem dX5_readCommand_196 : decode cX5_readCommand 196 = .ok (.invokevirtual 115, 3) := by decide +kernel
theorem dX5_readCommand_199 : decode cX5_readCommand 199 = .ok (.ifCond .eq 7, 3) := by decide +kernel
theorem dX5_readCommand_202 : decode cX5_readCommand 202 = .ok (.iconst 1, 1) := by decide +kernel
theorem dX5_readCommand_203 : decode cX5_readCommand 203 = .ok (.goto 4, 3) := by decide +kernel
theorem dX5_readCommand_206 : decode cX5_readCommand 206 = .ok (.iconst 0, 1) := by decide +kernel
theorem dX5_readCommand_207 : decode cX5_readCommand 207 = .ok (.ireturn, 1) := by decide +kernel
theorem dX5_readCommand_208 : decode cX5_readCommand 208 = .ok (.aload_n 0, 1) := by decide +kernel
theorem dX5_readCommand_209 : decode cX5_readCommand 209 = .ok (.iconst 0, 1) := by decide +kernel
theorem dX5_readCommand_210 : decode cX5_readCommand 210 = .ok (.iconst 2, 1) := by decide +kernel
theorem dX5_readCommand_211 : decode cX5_readCommand 211 = .ok (.iconst 0, 1) := by decide +kernel
theorem dX5_readCommand_212 : decode cX5_readCommand 212 = .ok (.bipush 11, 2) := by decide +kernel
theorem dX5_readCommand_214 : decode cX5_readCommand 214 = .ok (.invokevirtual 108, 3) := by decide +kernel
theorem dX5_readCommand_217 : decode cX5_readCommand 217 = .ok (.istore_n 3, 1) := by decide +kernel
theorem dX5_readCommand_218 : decode cX5_readCommand 218 = .ok (.iload_n 3, 1) := by decide +kernel
theorem dX5_readCommand_219 : decode cX5_readCommand 219 = .ok (.iconst (-1), 1) := by decide +kernel
theorem dX5_readCommand_220 : decode cX5_readCommand 220 = .ok (.if_icmp .eq 28, 3) := by decide +kernel
theorem dX5_readCommand_223 : decode cX5_readCommand 223 = .ok (.aload_n 0, 1) := by decide +kernel
theorem dX5_readCommand_224 : decode cX5_readCommand 224 = .ok (.aload_n 1, 1) := by decide +kernel
theorem dX5_readCommand_225 : decode cX5_readCommand 225 = .ok (.iload_n 3, 1) := by decide +kernel
theorem dX5_readCommand_226 : decode cX5_readCommand 226 = .ok (.invokestatic 126, 3) := by decide +kernel
theorem dX5_readCommand_229 : decode cX5_readCommand 229 = .ok (.iconst (-1), 1) := by decide +kernel
theorem dX5_readCommand_230 : decode cX5_readCommand 230 = .ok (.if_icmp .lt 7, 3) := by decide +kernel
theorem dX5_readCommand_233 : decode cX5_readCommand 233 = .ok (.iconst 1, 1) := by decide +kernel
theorem dX5_readCommand_234 : decode cX5_readCommand 234 = .ok (.goto 4, 3) := by decide +kernel
theorem dX5_readCommand_237 : decode cX5_readCommand 237 = .ok (.iconst 0, 1) := by decide +kernel
theorem dX5_readCommand_238 : decode cX5_readCommand 238 = .ok (.invokevirtual 115, 3) := by decide +kernel
theorem dX5_readCommand_241 : decode cX5_readCommand 241 = .ok (.ifCond .eq 7, 3) := by decide +kernel
theorem dX5_readCommand_244 : decode cX5_readCommand 244 = .ok (.iconst 1, 1) := by decide +kernel
theorem dX5_readCommand_245 : decode cX5_readCommand 245 = .ok (.goto 4, 3) := by decide +kernel
theorem dX5_readCommand_248 : decode cX5_readCommand 248 = .ok (.iconst 0, 1) := by decide +kernel
theorem dX5_readCommand_249 : decode cX5_readCommand 249 = .ok (.ireturn, 1) := by decide +kernel
theorem dX5_readCommand_250 : decode cX5_readCommand 250 = .ok (.aload_n 0, 1) := by decide +kernel
theorem dX5_readCommand_251 : decode cX5_readCommand 251 = .ok (.iconst 0, 1) := by decide +kernel
theorem dX5_readCommand_252 : decode cX5_readCommand 252 = .ok (.iconst 2, 1) := by decide +kernel
theorem dX5_readCommand_253 : decode cX5_readCommand 253 = .ok (.iconst 0, 1) := by decide +kernel
theorem dX5_readCommand_254 : decode cX5_readCommand 254 = .ok (.bipush 11, 2) := by decide +kernel
theorem dX5_readCommand_256 : decode cX5_readCommand 256 = .ok (.invokevirtual 108, 3) := by decide +kernel
theorem dX5_readCommand_259 : decode cX5_readCommand 259 = .ok (.istore_n 3, 1) := by decide +kernel
theorem dX5_readCommand_260 : decode cX5_readCommand 260 = .ok (.iload_n 3, 1) := by decide +kernel
theorem dX5_readCommand_261 : decode cX5_readCommand 261 = .ok (.iconst (-1), 1) := by decide +kernel
theorem dX5_readCommand_262 : decode cX5_readCommand 262 = .ok (.if_icmp .eq 27, 3) := by decide +kernel
theorem dX5_readCommand_265 : decode cX5_readCommand 265 = .ok (.aload_n 0, 1) := by decide +kernel
theorem dX5_readCommand_266 : decode cX5_readCommand 266 = .ok (.aload_n 1, 1) := by decide +kernel
theorem dX5_readCommand_267 : decode cX5_readCommand 267 = .ok (.iload_n 3, 1) := by decide +kernel
theorem dX5_readCommand_268 : decode cX5_readCommand 268 = .ok (.invokestatic 129, 3) := by decide +kernel
theorem dX5_readCommand_271 : decode cX5_readCommand 271 = .ok (.ifCond .lt 7, 3) := by decide +kernel
theorem dX5_readCommand_274 : decode cX5_readCommand 274 = .ok (.iconst 1, 1) := by decide +kernel
theorem dX5_readCommand_275 : decode cX5_readCommand 275 = .ok (.goto 4, 3) := by decide +kernel
theorem dX5_readCommand_278 : decode cX5_readCommand 278 = .ok (.iconst 0, 1) := by decide +kernel
theorem dX5_readCommand_279 : decode cX5_readCommand 279 = .ok (.invokevirtual 115, 3) := by decide +kernel
theorem dX5_readCommand_282 : decode cX5_readCommand 282 = .ok (.ifCond .eq 7, 3) := by decide +kernel
theorem dX5_readCommand_285 : decode cX5_readCommand 285 = .ok (.iconst 1, 1) := by decide +kernel
theorem dX5_readCommand_286 : decode cX5_readCommand 286 = .ok (.goto 4, 3) := by decide +kernel
theorem dX5_readCommand_289 : decode cX5_readCommand 289 = .ok (.iconst 0, 1) := by decide +kernel
theorem dX5_readCommand_290 : decode cX5_readCommand 290 = .ok (.ireturn, 1) := by decide +kernel
theorem dX5_readCommand_291 : decode cX5_readCommand 291 = .ok (.aload_n 0, 1) := by decide +kernel
theorem dX5_readCommand_292 : decode cX5_readCommand 292 = .ok (.iconst 0, 1) := by decide +kernel
theorem dX5_readCommand_293 : decode cX5_readCommand 293 = .ok (.iconst 1, 1) := by decide +kernel
theorem dX5_readCommand_294 : decode cX5_readCommand 294 = .ok (.iconst 0, 1) := by decide +kernel
theorem dX5_readCommand_295 : decode cX5_readCommand 295 = .ok (.iconst 5, 1) := by decide +kernel
theorem dX5_readCommand_296 : decode cX5_readCommand 296 = .ok (.invokevirtual 108, 3) := by decide +kernel
theorem dX5_readCommand_299 : decode cX5_readCommand 299 = .ok (.istore_n 3, 1) := by decide +kernel
theorem dX5_readCommand_300 : decode cX5_readCommand 300 = .ok (.iload_n 3, 1) := by decide +kernel
theorem dX5_readCommand_301 : decode cX5_readCommand 301 = .ok (.iconst (-1), 1) := by decide +kernel
theorem dX5_readCommand_302 : decode cX5_readCommand 302 = .ok (.if_icmp .eq 35, 3) := by decide +kernel
theorem dX5_readCommand_305 : decode cX5_readCommand 305 = .ok (.aload_n 0, 1) := by decide +kernel
theorem dX5_readCommand_306 : decode cX5_readCommand 306 = .ok (.aload_n 1, 1) := by decide +kernel
theorem dX5_readCommand_307 : decode cX5_readCommand 307 = .ok (.iload_n 3, 1) := by decide +kernel
theorem dX5_readCommand_308 : decode cX5_readCommand 308 = .ok (.invokestatic 132, 3) := by decide +kernel
theorem dX5_readCommand_311 : decode cX5_readCommand 311 = .ok (.ifCond .eq 15, 3) := by decide +kernel
theorem dX5_readCommand_314 : decode cX5_readCommand 314 = .ok (.aload_n 1, 1) := by decide +kernel
theorem dX5_readCommand_315 : decode cX5_readCommand 315 = .ok (.iload_n 3, 1) := by decide +kernel
theorem dX5_readCommand_316 : decode cX5_readCommand 316 = .ok (.invokestatic 135, 3) := by decide +kernel
theorem dX5_readCommand_319 : decode cX5_readCommand 319 = .ok (.ifCond .lt 7, 3) := by decide +kernel
theorem dX5_readCommand_322 : decode cX5_readCommand 322 = .ok (.iconst 1, 1) := by decide +kernel
theorem dX5_readCommand_323 : decode cX5_readCommand 323 = .ok (.goto 4, 3) := by decide +kernel
theorem dX5_readCommand_326 : decode cX5_readCommand 326 = .ok (.iconst 0, 1) := by decide +kernel
theorem dX5_readCommand_327 : decode cX5_readCommand 327 = .ok (.invokevirtual 115, 3) := by decide +kernel
theorem dX5_readCommand_330 : decode cX5_readCommand 330 = .ok (.ifCond .eq 7, 3) := by decide +kernel
theorem dX5_readCommand_333 : decode cX5_readCommand 333 = .ok (.iconst 1, 1) := by decide +kernel
theorem dX5_readCommand_334 : decode cX5_readCommand 334 = .ok (.goto 4, 3) := by decide +kernel
theorem dX5_readCommand_337 : decode cX5_readCommand 337 = .ok (.iconst 0, 1) := by decide +kernel
theorem dX5_readCommand_338 : decode cX5_readCommand 338 = .ok (.ireturn, 1) := by decide +kernel
theorem dX5_readCommand_339 : decode cX5_readCommand 339 = .ok (.aload_n 0, 1) := by decide +kernel
theorem dX5_readCommand_340 : decode cX5_readCommand 340 = .ok (.iconst 0, 1) := by decide +kernel
theorem dX5_readCommand_341 : decode cX5_readCommand 341 = .ok (.iconst 2, 1) := by decide +kernel
theorem dX5_readCommand_342 : decode cX5_readCommand 342 = .ok (.iconst 1, 1) := by decide +kernel
theorem dX5_readCommand_343 : decode cX5_readCommand 343 = .ok (.bipush 60, 2) := by decide +kernel
theorem dX5_readCommand_345 : decode cX5_readCommand 345 = .ok (.invokevirtual 108, 3) := by decide +kernel
theorem dX5_readCommand_348 : decode cX5_readCommand 348 = .ok (.istore_n 3, 1) := by decide +kernel
theorem dX5_readCommand_349 : decode cX5_readCommand 349 = .ok (.iload_n 3, 1) := by decide +kernel
theorem dX5_readCommand_350 : decode cX5_readCommand 350 = .ok (.iconst (-1), 1) := by decide +kernel
theorem dX5_readCommand_351 : decode cX5_readCommand 351 = .ok (.if_icmp .eq 27, 3) := by decide +kernel
theorem dX5_readCommand_354 : decode cX5_readCommand 354 = .ok (.aload_n 0, 1) := by decide +kernel
theorem dX5_readCommand_355 : decode cX5_readCommand 355 = .ok (.aload_n 1, 1) := by decide +kernel
theorem dX5_readCommand_356 : decode cX5_readCommand 356 = .ok (.iload_n 3, 1) := by decide +kernel
theorem dX5_readCommand_357 : decode cX5_readCommand 357 = .ok (.invokestatic 138, 3) := by decide +kernel
theorem dX5_readCommand_360 : decode cX5_readCommand 360 = .ok (.ifCond .lt 7, 3) := by decide +kernel
theorem dX5_readCommand_363 : decode cX5_readCommand 363 = .ok (.iconst 1, 1) := by decide +kernel
theorem dX5_readCommand_364 : decode cX5_readCommand 364 = .ok (.goto 4, 3) := by decide +kernel
theorem dX5_readCommand_367 : decode cX5_readCommand 367 = .ok (.iconst 0, 1) := by decide +kernel
theorem dX5_readCommand_368 : decode cX5_readCommand 368 = .ok (.invokevirtual 115, 3) := by decide +kernel
theorem dX5_readCommand_371 : decode cX5_readCommand 371 = .ok (.ifCond .eq 7, 3) := by decide +kernel
theorem dX5_readCommand_374 : decode cX5_readCommand 374 = .ok (.iconst 1, 1) := by decide +kernel
theorem dX5_readCommand_375 : decode cX5_readCommand 375 = .ok (.goto 4, 3) := by decide +kernel
theorem dX5_readCommand_378 : decode cX5_readCommand 378 = .ok (.iconst 0, 1) := by decide +kernel
theorem dX5_readCommand_379 : decode cX5_readCommand 379 = .ok (.ireturn, 1) := by decide +kernel
theorem dX5_readCommand_380 : decode cX5_readCommand 380 = .ok (.aload_n 0, 1) := by decide +kernel
theorem dX5_readCommand_381 : decode cX5_readCommand 381 = .ok (.dup, 1) := by decide +kernel
theorem dX5_readCommand_382 : decode cX5_readCommand 382 = .ok (.getfield 102, 3) := by decide +kernel
theorem dX5_readCommand_385 : decode cX5_readCommand 385 = .ok (.iconst 1, 1) := by decide +kernel
theorem dX5_readCommand_386 : decode cX5_readCommand 386 = .ok (.isub, 1) := by decide +kernel
theorem dX5_readCommand_387 : decode cX5_readCommand 387 = .ok (.putfield 102, 3) := by decide +kernel
theorem dX5_readCommand_390 : decode cX5_readCommand 390 = .ok (.iconst 0, 1) := by decide +kernel
theorem dX5_readCommand_391 : decode cX5_readCommand 391 = .ok (.ireturn, 1) := by decide +kernel
theorem dX5_readText_0 : decode cX5_readText 0 = .ok (.aload_n 1, 1) := by decide +kernel
theorem dX5_readText_1 : decode cX5_readText 1 = .ok (.invokestatic 29, 3) := by decide +kernel
theorem dX5_readText_4 : decode cX5_readText 4 = .ok (.aload_n 0, 1) := by decide +kernel
theorem dX5_readText_5 : decode cX5_readText 5 = .ok (.iconst 0, 1) := by decide +kernel
theorem dX5_readText_6 : decode cX5_readText 6 = .ok (.putfield 105, 3) := by decide +kernel
theorem dX5_readText_9 : decode cX5_readText 9 = .ok (.aload_n 0, 1) := by decide +kernel
theorem dX5_readText_10 : decode cX5_readText 10 = .ok (.iconst 0, 1) := by decide +kernel
theorem dX5_readText_11 : decode cX5_readText 11 = .ok (.putfield 102, 3) := by decide +kernel
theorem dX5_readText_14 : decode cX5_readText 14 = .ok (.aload_n 0, 1) := by decide +kernel
theorem dX5_readText_15 : decode cX5_readText 15 = .ok (.getfield 96, 3) := by decide +kernel
theorem dX5_readText_18 : decode cX5_readText 18 = .ok (.ifCond .eq 14, 3) := by decide +kernel
theorem dX5_readText_21 : decode cX5_readText 21 = .ok (.aload_n 0, 1) := by decide +kernel
theorem dX5_readText_22 : decode cX5_readText 22 = .ok (.getfield 7, 3) := by decide +kernel
theorem dX5_readText_25 : decode cX5_readText 25 = .ok (.iconst 0, 1) := by decide +kernel
theorem dX5_readText_26 : decode cX5_readText 26 = .ok (.iaload, 1) := by decide +kernel
theorem dX5_readText_27 : decode cX5_readText 27 = .ok (.bipush 65, 2) := by decide +kernel
theorem dX5_readText_29 : decode cX5_readText 29 = .ok (.if_icmp .eq 5, 3) := by decide +kernel
theorem dX5_readText_32 : decode cX5_readText 32 = .ok (.iconst 0, 1) := by decide +kernel
theorem dX5_readText_33 : decode cX5_readText 33 = .ok (.ireturn, 1) := by decide +kernel
theorem dX5_readText_34 : decode cX5_readText 34 = .ok (.aload_n 0, 1) := by decide +kernel
theorem dX5_readText_35 : decode cX5_readText 35 = .ok (.iconst 1, 1) := by decide +kernel
theorem dX5_readText_36 : decode cX5_readText 36 = .ok (.putfield 102, 3) := by decide +kernel
theorem dX5_readText_39 : decode cX5_readText 39 = .ok (.aload_n 0, 1) := by decide +kernel
theorem dX5_readText_40 : decode cX5_readText 40 = .ok (.getfield 102, 3) := by decide +kernel
theorem dX5_readText_43 : decode cX5_readText 43 = .ok (.aload_n 0, 1) := by decide +kernel
theorem dX5_readText_44 : decode cX5_readText 44 = .ok (.getfield 96, 3) := by decide +kernel
theorem dX5_readText_47 : decode cX5_readText 47 = .ok (.if_icmp .ge 16, 3) := by decide +kernel
theorem dX5_readText_50 : decode cX5_readText 50 = .ok (.aload_n 0, 1) := by decide +kernel
theorem dX5_readText_51 : decode cX5_readText 51 = .ok (.aload_n 1, 1) := by decide +kernel
theorem dX5_readText_52 : decode cX5_readText 52 = .ok (.invokevirtual 141, 3) := by decide +kernel
theorem dX5_readText_55 : decode cX5_readText 55 = .ok (.ifCond .ne (-16), 3) := by decide +kernel
theorem dX5_readText_58 : decode cX5_readText 58 = .ok (.aload_n 0, 1) := by decide +kernel
theorem dX5_readText_59 : decode cX5_readText 59 = .ok (.getfield 102, 3) := by decide +kernel
theorem dX5_readText_62 : decode cX5_readText 62 = .ok (.ireturn, 1) := by decide +kernel
theorem dX5_readText_63 : decode cX5_readText 63 = .ok (.iconst (-1), 1) := by decide +kernel
theorem dX5_readText_64 : decode cX5_readText 64 = .ok (.ireturn, 1) := by decide +kernel
theorem dX5_errorPosition_0 : decode cX5_errorPosition 0 = .ok (.aload_n 0, 1) := by decide +kernel
theorem dX5_errorPosition_1 : decode cX5_errorPosition 1 = .ok (.iconst 0, 1) := by decide +kernel
theorem dX5_errorPosition_2 : decode cX5_errorPosition 2 = .ok (.putfield 33, 3) := by decide +kernel
theorem dX5_errorPosition_5 : decode cX5_errorPosition 5 = .ok (.aload_n 0, 1) := by decide +kernel
theorem dX5_errorPosition_6 : decode cX5_errorPosition 6 = .ok (.aload_n 0, 1) := by decide +kernel
theorem dX5_errorPosition_7 : decode cX5_errorPosition 7 = .ok (.getfield 16, 3) := by decide +kernel
theorem dX5_errorPosition_10 : decode cX5_errorPosition 10 = .ok (.invokevirtual 144, 3) := by decide +kernel
theorem dX5_errorPosition_13 : decode cX5_errorPosition 13 = .ok (.ireturn, 1) := by decide +kernel
theorem dX5_load_0 : decode cX5_load 0 = .ok (.aload_n 0, 1) := by decide +kernel
theorem dX5_load_1 : decode cX5_load 1 = .ok (.aload_n 0, 1) := by decide +kernel
theorem dX5_load_2 : decode cX5_load 2 = .ok (.aload_n 0, 1) := by decide +kernel
theorem dX5_load_3 : decode cX5_load 3 = .ok (.getfield 16, 3) := by decide +kernel
theorem dX5_load_6 : decode cX5_load 6 = .ok (.invokevirtual 144, 3) := by decide +kernel
theorem dX5_load_9 : decode cX5_load 9 = .ok (.iconst (-1), 1) := by decide +kernel
theorem dX5_load_10 : decode cX5_load 10 = .ok (.if_icmp .ne 7, 3) := by decide +kernel
theorem dX5_load_13 : decode cX5_load 13 = .ok (.iconst 0, 1) := by decide +kernel
theorem dX5_load_14 : decode cX5_load 14 = .ok (.goto 4, 3) := by decide +kernel
theorem dX5_load_17 : decode cX5_load 17 = .ok (.iconst 1, 1) := by decide +kernel
theorem dX5_load_18 : decode cX5_load 18 = .ok (.invokevirtual 99, 3) := by decide +kernel
theorem dX5_load_21 : decode cX5_load 21 = .ok (.ifCond .eq 5, 3) := by decide +kernel
theorem dX5_load_24 : decode cX5_load 24 = .ok (.iconst 0, 1) := by decide +kernel
theorem dX5_load_25 : decode cX5_load 25 = .ok (.ireturn, 1) := by decide +kernel
theorem dX5_load_26 : decode cX5_load 26 = .ok (.aload_n 0, 1) := by decide +kernel
theorem dX5_load_27 : decode cX5_load 27 = .ok (.getfield 16, 3) := by decide +kernel
theorem dX5_load_30 : decode cX5_load 30 = .ok (.iconst 0, 1) := by decide +kernel
theorem dX5_load_31 : decode cX5_load 31 = .ok (.aload_n 0, 1) := by decide +kernel
theorem dX5_load_32 : decode cX5_load 32 = .ok (.getfield 13, 3) := by decide +kernel
theorem dX5_load_35 : decode cX5_load 35 = .ok (.iconst 0, 1) := by decide +kernel
theorem dX5_load_36 : decode cX5_load 36 = .ok (.invokestatic 148, 3) := by decide +kernel
theorem dX5_load_39 : decode cX5_load 39 = .ok (.aload_n 0, 1) := by decide +kernel
theorem dX5_load_40 : decode cX5_load 40 = .ok (.iconst 0, 1) := by decide +kernel
theorem dX5_load_41 : decode cX5_load 41 = .ok (.putfield 152, 3) := by decide +kernel
theorem dX5_load_44 : decode cX5_load 44 = .ok (.aload_n 0, 1) := by decide +kernel
theorem dX5_load_45 : decode cX5_load 45 = .ok (.getfield 25, 3) := by decide +kernel
theorem dX5_load_48 : decode cX5_load 48 = .ok (.iconst 0, 1) := by decide +kernel
theorem dX5_load_49 : decode cX5_load 49 = .ok (.iconst 0, 1) := by decide +kernel
theorem dX5_load_50 : decode cX5_load 50 = .ok (.bastore, 1) := by decide +kernel
theorem dX5_load_51 : decode cX5_load 51 = .ok (.aload_n 0, 1) := by decide +kernel
theorem dX5_load_52 : decode cX5_load 52 = .ok (.getfield 25, 3) := by decide +kernel
theorem dX5_load_55 : decode cX5_load 55 = .ok (.iconst 1, 1) := by decide +kernel
theorem dX5_load_56 : decode cX5_load 56 = .ok (.iconst 0, 1) := by decide +kernel
theorem dX5_load_57 : decode cX5_load 57 = .ok (.bastore, 1) := by decide +kernel
theorem dX5_load_58 : decode cX5_load 58 = .ok (.aload_n 0, 1) := by decide +kernel
theorem dX5_load_59 : decode cX5_load 59 = .ok (.getfield 105, 3) := by decide +kernel
theorem dX5_load_62 : decode cX5_load 62 = .ok (.ireturn, 1) := by decide +kernel
theorem dX5_about_0 : decode cX5_about 0 = .ok (.aload_n 0, 1) := by decide +kernel
theorem dX5_about_1 : decode cX5_about 1 = .ok (.iload_n 1, 1) := by decide +kernel
theorem dX5_about_2 : decode cX5_about 2 = .ok (.i2l, 1) := by decide +kernel
theorem dX5_about_3 : decode cX5_about 3 = .ok (.lconst 0, 1) := by decide +kernel
theorem dX5_about_4 : decode cX5_about 4 = .ok (.ldc2_w 155, 3) := by decide +kernel
theorem dX5_about_7 : decode cX5_about 7 = .ok (.invokestatic 37, 3) := by decide +kernel
theorem dX5_about_10 : decode cX5_about 10 = .ok (.ifCond .eq 7, 3) := by decide +kernel
theorem dX5_about_13 : decode cX5_about 13 = .ok (.iconst 0, 1) := by decide +kernel
theorem dX5_about_14 : decode cX5_about 14 = .ok (.goto 4, 3) := by decide +kernel
theorem dX5_about_17 : decode cX5_about 17 = .ok (.iconst 1, 1) := by decide +kernel
theorem dX5_about_18 : decode cX5_about 18 = .ok (.invokevirtual 99, 3) := by decide +kernel
theorem dX5_about_21 : decode cX5_about 21 = .ok (.ifCond .eq 5, 3) := by decide +kernel
theorem dX5_about_24 : decode cX5_about 24 = .ok (.iconst 0, 1) := by decide +kernel
theorem dX5_about_25 : decode cX5_about 25 = .ok (.ireturn, 1) := by decide +kernel
theorem dX5_about_26 : decode cX5_about 26 = .ok (.iconst 0, 1) := by decide +kernel
theorem dX5_about_27 : decode cX5_about 27 = .ok (.istore_n 2, 1) := by decide +kernel
theorem dX5_about_28 : decode cX5_about 28 = .ok (.iconst 0, 1) := by decide +kernel
theorem dX5_about_29 : decode cX5_about 29 = .ok (.istore_n 3, 1) := by decide +kernel
theorem dX5_about_30 : decode cX5_about 30 = .ok (.iconst 0, 1) := by decide +kernel
theorem dX5_about_31 : decode cX5_about 31 = .ok (.istore 4, 2) := by decide +kernel
theorem dX5_about_33 : decode cX5_about 33 = .ok (.iconst 0, 1) := by decide +kernel
theorem dX5_about_34 : decode cX5_about 34 = .ok (.istore 5, 2) := by decide +kernel
theorem dX5_about_36 : decode cX5_about 36 = .ok (.iload 5, 2) := by decide +kernel
theorem dX5_about_38 : decode cX5_about 38 = .ok (.bipush 12, 2) := by decide +kernel
theorem dX5_about_40 : decode cX5_about 40 = .ok (.if_icmp .ge 61, 3) := by decide +kernel
theorem dX5_about_43 : decode cX5_about 43 = .ok (.aload_n 0, 1) := by decide +kernel
theorem dX5_about_44 : decode cX5_about 44 = .ok (.getfield 13, 3) := by decide +kernel
theorem dX5_about_47 : decode cX5_about 47 = .ok (.iload 5, 2) := by decide +kernel
theorem dX5_about_49 : decode cX5_about 49 = .ok (.invokestatic 157, 3) := by decide +kernel
theorem dX5_about_52 : decode cX5_about 52 = .ok (.istore 6, 2) := by decide +kernel
theorem dX5_about_54 : decode cX5_about 54 = .ok (.iload_n 2, 1) := by decide +kernel
theorem dX5_about_55 : decode cX5_about 55 = .ok (.iload 6, 2) := by decide +kernel
theorem dX5_about_57 : decode cX5_about 57 = .ok (.ifCond .le 7, 3) := by decide +kernel
theorem dX5_about_60 : decode cX5_about 60 = .ok (.iconst 1, 1) := by decide +kernel
theorem dX5_about_61 : decode cX5_about 61 = .ok (.goto 4, 3) := by decide +kernel
theorem dX5_about_64 : decode cX5_about 64 = .ok (.iconst 0, 1) := by decide +kernel
theorem dX5_about_65 : decode cX5_about 65 = .ok (.iadd, 1) := by decide +kernel
theorem dX5_about_66 : decode cX5_about 66 = .ok (.istore_n 2, 1) := by decide +kernel
theorem dX5_about_67 : decode cX5_about 67 = .ok (.iload 6, 2) := by decide +kernel
theorem dX5_about_69 : decode cX5_about 69 = .ok (.iload_n 3, 1) := by decide +kernel
theorem dX5_about_70 : decode cX5_about 70 = .ok (.if_icmp .le 8, 3) := by decide +kernel
theorem dX5_about_73 : decode cX5_about 73 = .ok (.iload 6, 2) := by decide +kernel
theorem dX5_about_75 : decode cX5_about 75 = .ok (.goto 4, 3) := by decide +kernel
theorem dX5_about_78 : decode cX5_about 78 = .ok (.iload_n 3, 1) := by decide +kernel
theorem dX5_about_79 : decode cX5_about 79 = .ok (.istore_n 3, 1) := by decide +kernel
theorem dX5_about_80 : decode cX5_about 80 = .ok (.iload 4, 2) := by decide +kernel
theorem dX5_about_82 : decode cX5_about 82 = .ok (.aload_n 0, 1) := by decide +kernel
theorem dX5_about_83 : decode cX5_about 83 = .ok (.getfield 13, 3) := by decide +kernel
theorem dX5_about_86 : decode cX5_about 86 = .ok (.bipush 11, 2) := by decide +kernel
theorem dX5_about_88 : decode cX5_about 88 = .ok (.iload 5, 2) := by decide +kernel
theorem dX5_about_90 : decode cX5_about 90 = .ok (.iadd, 1) := by decide +kernel
theorem dX5_about_91 : decode cX5_about 91 = .ok (.iaload, 1) := by decide +kernel
theorem dX5_about_92 : decode cX5_about 92 = .ok (.iadd, 1) := by decide +kernel
theorem dX5_about_93 : decode cX5_about 93 = .ok (.istore 4, 2) := by decide +kernel
theorem dX5_about_95 : decode cX5_about 95 = .ok (.iinc 5 1, 3) := by decide +kernel
theorem dX5_about_98 : decode cX5_about 98 = .ok (.goto (-62), 3) := by decide +kernel
theorem dX5_about_101 : decode cX5_about 101 = .ok (.iload_n 1, 1) := by decide +kernel
theorem dX5_about_102 : decode cX5_about 102 = .ok (.tableswitch 60 0 5 #[38, 38, 45, 53, 55, 57], 38) := by decide +kernel
theorem dX5_about_140 : decode cX5_about 140 = .ok (.aload_n 0, 1) := by decide +kernel
theorem dX5_about_141 : decode cX5_about 141 = .ok (.getfield 13, 3) := by decide +kernel
theorem dX5_about_144 : decode cX5_about 144 = .ok (.iload_n 1, 1) := by decide +kernel
theorem dX5_about_145 : decode cX5_about 145 = .ok (.iaload, 1) := by decide +kernel
theorem dX5_about_146 : decode cX5_about 146 = .ok (.ireturn, 1) := by decide +kernel
theorem dX5_about_147 : decode cX5_about 147 = .ok (.aload_n 0, 1) := by decide +kernel
theorem dX5_about_148 : decode cX5_about 148 = .ok (.getfield 13, 3) := by decide +kernel
theorem dX5_about_151 : decode cX5_about 151 = .ok (.invokestatic 160, 3) := by decide +kernel
theorem dX5_about_154 : decode cX5_about 154 = .ok (.ireturn, 1) := by decide +kernel
theorem dX5_about_155 : decode cX5_about 155 = .ok (.iload_n 2, 1) := by decide +kernel
theorem dX5_about_156 : decode cX5_about 156 = .ok (.ireturn, 1) := by decide +kernel
theorem dX5_about_157 : decode cX5_about 157 = .ok (.iload_n 3, 1) := by decide +kernel
theorem dX5_about_158 : decode cX5_about 158 = .ok (.ireturn, 1) := by decide +kernel
theorem dX5_about_159 : decode cX5_about 159 = .ok (.iload 4, 2) := by decide +kernel
theorem dX5_about_161 : decode cX5_about 161 = .ok (.ireturn, 1) := by decide +kernel
theorem dX5_about_162 : decode cX5_about 162 = .ok (.aload_n 0, 1) := by decide +kernel
theorem dX5_about_163 : decode cX5_about 163 = .ok (.getfield 13, 3) := by decide +kernel
theorem dX5_about_166 : decode cX5_about 166 = .ok (.iload_n 1, 1) := by decide +kernel
theorem dX5_about_167 : decode cX5_about 167 = .ok (.iconst 4, 1) := by decide +kernel
theorem dX5_about_168 : decode cX5_about 168 = .ok (.isub, 1) := by decide +kernel
theorem dX5_about_169 : decode cX5_about 169 = .ok (.iaload, 1) := by decide +kernel
theorem dX5_about_170 : decode cX5_about 170 = .ok (.ireturn, 1) := by decide +kernel
theorem dX5_task_0 : decode cX5_task 0 = .ok (.aload_n 0, 1) := by decide +kernel
theorem dX5_task_1 : decode cX5_task 1 = .ok (.aload_n 0, 1) := by decide +kernel
theorem dX5_task_2 : decode cX5_task 2 = .ok (.getfield 13, 3) := by decide +kernel
theorem dX5_task_5 : decode cX5_task 5 = .ok (.iload_n 1, 1) := by decide +kernel
theorem dX5_task_6 : decode cX5_task 6 = .ok (.invokestatic 62, 3) := by decide +kernel
theorem dX5_task_9 : decode cX5_task 9 = .ok (.ifCond .ne 7, 3) := by decide +kernel
theorem dX5_task_12 : decode cX5_task 12 = .ok (.iconst 1, 1) := by decide +kernel
theorem dX5_task_13 : decode cX5_task 13 = .ok (.goto 20, 3) := by decide +kernel
theorem dX5_task_16 : decode cX5_task 16 = .ok (.iload_n 2, 1) := by decide +kernel
theorem dX5_task_17 : decode cX5_task 17 = .ok (.i2l, 1) := by decide +kernel
theorem dX5_task_18 : decode cX5_task 18 = .ok (.lconst 0, 1) := by decide +kernel
theorem dX5_task_19 : decode cX5_task 19 = .ok (.ldc2_w 163, 3) := by decide +kernel
theorem dX5_task_22 : decode cX5_task 22 = .ok (.invokestatic 37, 3) := by decide +kernel
theorem dX5_task_25 : decode cX5_task 25 = .ok (.ifCond .eq 7, 3) := by decide +kernel
theorem dX5_task_28 : decode cX5_task 28 = .ok (.iconst 0, 1) := by decide +kernel
theorem dX5_task_29 : decode cX5_task 29 = .ok (.goto 4, 3) := by decide +kernel
theorem dX5_task_32 : decode cX5_task 32 = .ok (.iconst 2, 1) := by decide +kernel
theorem dX5_task_33 : decode cX5_task 33 = .ok (.invokevirtual 99, 3) := by decide +kernel
theorem dX5_task_36 : decode cX5_task 36 = .ok (.ifCond .eq 5, 3) := by decide +kernel
theorem dX5_task_39 : decode cX5_task 39 = .ok (.iconst 0, 1) := by decide +kernel
theorem dX5_task_40 : decode cX5_task 40 = .ok (.ireturn, 1) := by decide +kernel
theorem dX5_task_41 : decode cX5_task 41 = .ok (.aload_n 0, 1) := by decide +kernel
theorem dX5_task_42 : decode cX5_task 42 = .ok (.getfield 13, 3) := by decide +kernel
theorem dX5_task_45 : decode cX5_task 45 = .ok (.iload_n 1, 1) := by decide +kernel
theorem dX5_task_46 : decode cX5_task 46 = .ok (.iload_n 2, 1) := by decide +kernel
theorem dX5_task_47 : decode cX5_task 47 = .ok (.invokestatic 43, 3) := by decide +kernel
theorem dX5_task_50 : decode cX5_task 50 = .ok (.ireturn, 1) := by decide +kernel
theorem dX5_stripe_0 : decode cX5_stripe 0 = .ok (.aload_n 0, 1) := by decide +kernel
theorem dX5_stripe_1 : decode cX5_stripe 1 = .ok (.iload_n 1, 1) := by decide +kernel
theorem dX5_stripe_2 : decode cX5_stripe 2 = .ok (.invokestatic 65, 3) := by decide +kernel
theorem dX5_stripe_5 : decode cX5_stripe 5 = .ok (.ifCond .ne 7, 3) := by decide +kernel
theorem dX5_stripe_8 : decode cX5_stripe 8 = .ok (.iconst 1, 1) := by decide +kernel
theorem dX5_stripe_9 : decode cX5_stripe 9 = .ok (.goto 20, 3) := by decide +kernel
theorem dX5_stripe_12 : decode cX5_stripe 12 = .ok (.iload_n 2, 1) := by decide +kernel
theorem dX5_stripe_13 : decode cX5_stripe 13 = .ok (.i2l, 1) := by decide +kernel
theorem dX5_stripe_14 : decode cX5_stripe 14 = .ok (.lconst 0, 1) := by decide +kernel
theorem dX5_stripe_15 : decode cX5_stripe 15 = .ok (.ldc2_w 165, 3) := by decide +kernel
theorem dX5_stripe_18 : decode cX5_stripe 18 = .ok (.invokestatic 37, 3) := by decide +kernel
theorem dX5_stripe_21 : decode cX5_stripe 21 = .ok (.ifCond .eq 7, 3) := by decide +kernel
theorem dX5_stripe_24 : decode cX5_stripe 24 = .ok (.iconst 0, 1) := by decide +kernel
theorem dX5_stripe_25 : decode cX5_stripe 25 = .ok (.goto 4, 3) := by decide +kernel
theorem dX5_stripe_28 : decode cX5_stripe 28 = .ok (.iconst 2, 1) := by decide +kernel
theorem dX5_stripe_29 : decode cX5_stripe 29 = .ok (.invokevirtual 99, 3) := by decide +kernel
theorem dX5_stripe_32 : decode cX5_stripe 32 = .ok (.ifCond .eq 5, 3) := by decide +kernel
theorem dX5_stripe_35 : decode cX5_stripe 35 = .ok (.iconst 0, 1) := by decide +kernel
theorem dX5_stripe_36 : decode cX5_stripe 36 = .ok (.ireturn, 1) := by decide +kernel
theorem dX5_stripe_37 : decode cX5_stripe 37 = .ok (.iload_n 2, 1) := by decide +kernel
theorem dX5_stripe_38 : decode cX5_stripe 38 = .ok (.ifCond .ne 14, 3) := by decide +kernel
theorem dX5_stripe_41 : decode cX5_stripe 41 = .ok (.aload_n 0, 1) := by decide +kernel
theorem dX5_stripe_42 : decode cX5_stripe 42 = .ok (.getfield 13, 3) := by decide +kernel
theorem dX5_stripe_45 : decode cX5_stripe 45 = .ok (.iload_n 1, 1) := by decide +kernel
theorem dX5_stripe_46 : decode cX5_stripe 46 = .ok (.invokestatic 51, 3) := by decide +kernel
theorem dX5_stripe_49 : decode cX5_stripe 49 = .ok (.goto 28, 3) := by decide +kernel
theorem dX5_stripe_52 : decode cX5_stripe 52 = .ok (.iload_n 2, 1) := by decide +kernel
theorem dX5_stripe_53 : decode cX5_stripe 53 = .ok (.iconst 1, 1) := by decide +kernel
theorem dX5_stripe_54 : decode cX5_stripe 54 = .ok (.if_icmp .ne 14, 3) := by decide +kernel
theorem dX5_stripe_57 : decode cX5_stripe 57 = .ok (.aload_n 0, 1) := by decide +kernel
theorem dX5_stripe_58 : decode cX5_stripe 58 = .ok (.getfield 13, 3) := by decide +kernel
theorem dX5_stripe_61 : decode cX5_stripe 61 = .ok (.iload_n 1, 1) := by decide +kernel
theorem dX5_stripe_62 : decode cX5_stripe 62 = .ok (.invokestatic 55, 3) := by decide +kernel
theorem dX5_stripe_65 : decode cX5_stripe 65 = .ok (.goto 12, 3) := by decide +kernel
theorem dX5_stripe_68 : decode cX5_stripe 68 = .ok (.aload_n 0, 1) := by decide +kernel
theorem dX5_stripe_69 : decode cX5_stripe 69 = .ok (.getfield 13, 3) := by decide +kernel
theorem dX5_stripe_72 : decode cX5_stripe 72 = .ok (.bipush 11, 2) := by decide +kernel
theorem dX5_stripe_74 : decode cX5_stripe 74 = .ok (.iload_n 1, 1) := by decide +kernel
theorem dX5_stripe_75 : decode cX5_stripe 75 = .ok (.iadd, 1) := by decide +kernel
theorem dX5_stripe_76 : decode cX5_stripe 76 = .ok (.iaload, 1) := by decide +kernel
theorem dX5_stripe_77 : decode cX5_stripe 77 = .ok (.ireturn, 1) := by decide +kernel
theorem dX5_job_0 : decode cX5_job 0 = .ok (.aload_n 0, 1) := by decide +kernel
theorem dX5_job_1 : decode cX5_job 1 = .ok (.iload_n 1, 1) := by decide +kernel
theorem dX5_job_2 : decode cX5_job 2 = .ok (.i2l, 1) := by decide +kernel
theorem dX5_job_3 : decode cX5_job 3 = .ok (.lconst 0, 1) := by decide +kernel
theorem dX5_job_4 : decode cX5_job 4 = .ok (.ldc2_w 165, 3) := by decide +kernel
theorem dX5_job_7 : decode cX5_job 7 = .ok (.invokestatic 37, 3) := by decide +kernel
theorem dX5_job_10 : decode cX5_job 10 = .ok (.ifCond .eq 7, 3) := by decide +kernel
theorem dX5_job_13 : decode cX5_job 13 = .ok (.iconst 0, 1) := by decide +kernel
theorem dX5_job_14 : decode cX5_job 14 = .ok (.goto 4, 3) := by decide +kernel
theorem dX5_job_17 : decode cX5_job 17 = .ok (.iconst 1, 1) := by decide +kernel
theorem dX5_job_18 : decode cX5_job 18 = .ok (.invokevirtual 99, 3) := by decide +kernel
theorem dX5_job_21 : decode cX5_job 21 = .ok (.ifCond .eq 5, 3) := by decide +kernel
theorem dX5_job_24 : decode cX5_job 24 = .ok (.iconst 0, 1) := by decide +kernel
theorem dX5_job_25 : decode cX5_job 25 = .ok (.ireturn, 1) := by decide +kernel
theorem dX5_job_26 : decode cX5_job 26 = .ok (.aload_n 0, 1) := by decide +kernel
theorem dX5_job_27 : decode cX5_job 27 = .ok (.getfield 13, 3) := by decide +kernel
theorem dX5_job_30 : decode cX5_job 30 = .ok (.iconst 5, 1) := by decide +kernel
theorem dX5_job_31 : decode cX5_job 31 = .ok (.iaload, 1) := by decide +kernel
theorem dX5_job_32 : decode cX5_job 32 = .ok (.iconst (-1), 1) := by decide +kernel
theorem dX5_job_33 : decode cX5_job 33 = .ok (.if_icmp .ne 7, 3) := by decide +kernel
theorem dX5_job_36 : decode cX5_job 36 = .ok (.iconst (-1), 1) := by decide +kernel
theorem dX5_job_37 : decode cX5_job 37 = .ok (.goto 11, 3) := by decide +kernel
theorem dX5_job_40 : decode cX5_job 40 = .ok (.aload_n 0, 1) := by decide +kernel
theorem dX5_job_41 : decode cX5_job 41 = .ok (.getfield 13, 3) := by decide +kernel
theorem dX5_job_44 : decode cX5_job 44 = .ok (.iconst 5, 1) := by decide +kernel
theorem dX5_job_45 : decode cX5_job 45 = .ok (.iload_n 1, 1) := by decide +kernel
theorem dX5_job_46 : decode cX5_job 46 = .ok (.iadd, 1) := by decide +kernel
theorem dX5_job_47 : decode cX5_job 47 = .ok (.iaload, 1) := by decide +kernel
theorem dX5_job_48 : decode cX5_job 48 = .ok (.ireturn, 1) := by decide +kernel
theorem dX5_setting_0 : decode cX5_setting 0 = .ok (.aload_n 0, 1) := by decide +kernel
theorem dX5_setting_1 : decode cX5_setting 1 = .ok (.iload_n 1, 1) := by decide +kernel
theorem dX5_setting_2 : decode cX5_setting 2 = .ok (.i2l, 1) := by decide +kernel
theorem dX5_setting_3 : decode cX5_setting 3 = .ok (.lconst 0, 1) := by decide +kernel
theorem dX5_setting_4 : decode cX5_setting 4 = .ok (.ldc2_w 165, 3) := by decide +kernel
theorem dX5_setting_7 : decode cX5_setting 7 = .ok (.invokestatic 37, 3) := by decide +kernel
theorem dX5_setting_10 : decode cX5_setting 10 = .ok (.ifCond .eq 7, 3) := by decide +kernel
theorem dX5_setting_13 : decode cX5_setting 13 = .ok (.iconst 0, 1) := by decide +kernel
theorem dX5_setting_14 : decode cX5_setting 14 = .ok (.goto 4, 3) := by decide +kernel
theorem dX5_setting_17 : decode cX5_setting 17 = .ok (.iconst 1, 1) := by decide +kernel
theorem dX5_setting_18 : decode cX5_setting 18 = .ok (.invokevirtual 99, 3) := by decide +kernel
theorem dX5_setting_21 : decode cX5_setting 21 = .ok (.ifCond .eq 5, 3) := by decide +kernel
theorem dX5_setting_24 : decode cX5_setting 24 = .ok (.iconst 0, 1) := by decide +kernel
theorem dX5_setting_25 : decode cX5_setting 25 = .ok (.ireturn, 1) := by decide +kernel
theorem dX5_setting_26 : decode cX5_setting 26 = .ok (.aload_n 0, 1) := by decide +kernel
theorem dX5_setting_27 : decode cX5_setting 27 = .ok (.getfield 13, 3) := by decide +kernel
theorem dX5_setting_30 : decode cX5_setting 30 = .ok (.bipush 8, 2) := by decide +kernel
theorem dX5_setting_32 : decode cX5_setting 32 = .ok (.iload_n 1, 1) := by decide +kernel
theorem dX5_setting_33 : decode cX5_setting 33 = .ok (.iadd, 1) := by decide +kernel
theorem dX5_setting_34 : decode cX5_setting 34 = .ok (.iaload, 1) := by decide +kernel
theorem dX5_setting_35 : decode cX5_setting 35 = .ok (.ireturn, 1) := by decide +kernel
theorem dX5_remember_0 : decode cX5_remember 0 = .ok (.aload_n 0, 1) := by decide +kernel
theorem dX5_remember_1 : decode cX5_remember 1 = .ok (.getfield 152, 3) := by decide +kernel
theorem dX5_remember_4 : decode cX5_remember 4 = .ok (.bipush 14, 2) := by decide +kernel
theorem dX5_remember_6 : decode cX5_remember 6 = .ok (.if_icmp .ne 43, 3) := by decide +kernel
theorem dX5_remember_9 : decode cX5_remember 9 = .ok (.iconst 0, 1) := by decide +kernel
theorem dX5_remember_10 : decode cX5_remember 10 = .ok (.istore_n 1, 1) := by decide +kernel
theorem dX5_remember_11 : decode cX5_remember 11 = .ok (.iload_n 1, 1) := by decide +kernel
theorem dX5_remember_12 : decode cX5_remember 12 = .ok (.sipush 845, 3) := by decide +kernel
theorem dX5_remember_15 : decode cX5_remember 15 = .ok (.if_icmp .ge 24, 3) := by decide +kernel
theorem dX5_remember_18 : decode cX5_remember 18 = .ok (.aload_n 0, 1) := by decide +kernel
theorem dX5_remember_19 : decode cX5_remember 19 = .ok (.getfield 19, 3) := by decide +kernel
theorem dX5_remember_22 : decode cX5_remember 22 = .ok (.iload_n 1, 1) := by decide +kernel
theorem dX5_remember_23 : decode cX5_remember 23 = .ok (.aload_n 0, 1) := by decide +kernel
theorem dX5_remember_24 : decode cX5_remember 24 = .ok (.getfield 19, 3) := by decide +kernel
theorem dX5_remember_27 : decode cX5_remember 27 = .ok (.iload_n 1, 1) := by decide +kernel
theorem dX5_remember_28 : decode cX5_remember 28 = .ok (.bipush 65, 2) := by decide +kernel
theorem dX5_remember_30 : decode cX5_remember 30 = .ok (.iadd, 1) := by decide +kernel
theorem dX5_remember_31 : decode cX5_remember 31 = .ok (.iaload, 1) := by decide +kernel
theorem dX5_remember_32 : decode cX5_remember 32 = .ok (.iastore, 1) := by decide +kernel
theorem dX5_remember_33 : decode cX5_remember 33 = .ok (.iinc 1 1, 3) := by decide +kernel
theorem dX5_remember_36 : decode cX5_remember 36 = .ok (.goto (-25), 3) := by decide +kernel
theorem dX5_remember_39 : decode cX5_remember 39 = .ok (.aload_n 0, 1) := by decide +kernel
theorem dX5_remember_40 : decode cX5_remember 40 = .ok (.dup, 1) := by decide +kernel
theorem dX5_remember_41 : decode cX5_remember 41 = .ok (.getfield 152, 3) := by decide +kernel
theorem dX5_remember_44 : decode cX5_remember 44 = .ok (.iconst 1, 1) := by decide +kernel
theorem dX5_remember_45 : decode cX5_remember 45 = .ok (.isub, 1) := by decide +kernel
theorem dX5_remember_46 : decode cX5_remember 46 = .ok (.putfield 152, 3) := by decide +kernel
theorem dX5_remember_49 : decode cX5_remember 49 = .ok (.aload_n 0, 1) := by decide +kernel
theorem dX5_remember_50 : decode cX5_remember 50 = .ok (.getfield 13, 3) := by decide +kernel
theorem dX5_remember_53 : decode cX5_remember 53 = .ok (.iconst 0, 1) := by decide +kernel
theorem dX5_remember_54 : decode cX5_remember 54 = .ok (.aload_n 0, 1) := by decide +kernel
theorem dX5_remember_55 : decode cX5_remember 55 = .ok (.getfield 19, 3) := by decide +kernel
theorem dX5_remember_58 : decode cX5_remember 58 = .ok (.bipush 65, 2) := by decide +kernel
theorem dX5_remember_60 : decode cX5_remember 60 = .ok (.aload_n 0, 1) := by decide +kernel
theorem dX5_remember_61 : decode cX5_remember 61 = .ok (.getfield 152, 3) := by decide +kernel
theorem dX5_remember_64 : decode cX5_remember 64 = .ok (.imul, 1) := by decide +kernel
theorem dX5_remember_65 : decode cX5_remember 65 = .ok (.invokestatic 148, 3) := by decide +kernel
theorem dX5_remember_68 : decode cX5_remember 68 = .ok (.aload_n 0, 1) := by decide +kernel
theorem dX5_remember_69 : decode cX5_remember 69 = .ok (.dup, 1) := by decide +kernel
theorem dX5_remember_70 : decode cX5_remember 70 = .ok (.getfield 152, 3) := by decide +kernel
theorem dX5_remember_73 : decode cX5_remember 73 = .ok (.iconst 1, 1) := by decide +kernel
theorem dX5_remember_74 : decode cX5_remember 74 = .ok (.iadd, 1) := by decide +kernel
theorem dX5_remember_75 : decode cX5_remember 75 = .ok (.putfield 152, 3) := by decide +kernel
theorem dX5_remember_78 : decode cX5_remember 78 = .ok (.return_, 1) := by decide +kernel
theorem dX5_add_0 : decode cX5_add 0 = .ok (.aload_n 0, 1) := by decide +kernel
theorem dX5_add_1 : decode cX5_add 1 = .ok (.iload_n 1, 1) := by decide +kernel
theorem dX5_add_2 : decode cX5_add 2 = .ok (.i2l, 1) := by decide +kernel
theorem dX5_add_3 : decode cX5_add 3 = .ok (.lconst 1, 1) := by decide +kernel
theorem dX5_add_4 : decode cX5_add 4 = .ok (.ldc2_w 167, 3) := by decide +kernel
theorem dX5_add_7 : decode cX5_add 7 = .ok (.invokestatic 37, 3) := by decide +kernel
theorem dX5_add_10 : decode cX5_add 10 = .ok (.ifCond .eq 15, 3) := by decide +kernel
theorem dX5_add_13 : decode cX5_add 13 = .ok (.iload_n 2, 1) := by decide +kernel
theorem dX5_add_14 : decode cX5_add 14 = .ok (.i2l, 1) := by decide +kernel
theorem dX5_add_15 : decode cX5_add 15 = .ok (.lconst 0, 1) := by decide +kernel
theorem dX5_add_16 : decode cX5_add 16 = .ok (.ldc2_w 169, 3) := by decide +kernel
theorem dX5_add_19 : decode cX5_add 19 = .ok (.invokestatic 37, 3) := by decide +kernel
theorem dX5_add_22 : decode cX5_add 22 = .ok (.ifCond .ne 7, 3) := by decide +kernel
theorem dX5_add_25 : decode cX5_add 25 = .ok (.iconst 1, 1) := by decide +kernel
theorem dX5_add_26 : decode cX5_add 26 = .ok (.goto 19, 3) := by decide +kernel
theorem dX5_add_29 : decode cX5_add 29 = .ok (.aload_n 0, 1) := by decide +kernel
theorem dX5_add_30 : decode cX5_add 30 = .ok (.getfield 13, 3) := by decide +kernel
theorem dX5_add_33 : decode cX5_add 33 = .ok (.iconst 0, 1) := by decide +kernel
theorem dX5_add_34 : decode cX5_add 34 = .ok (.iaload, 1) := by decide +kernel
theorem dX5_add_35 : decode cX5_add 35 = .ok (.bipush 6, 2) := by decide +kernel
theorem dX5_add_37 : decode cX5_add 37 = .ok (.if_icmp .ge 7, 3) := by decide +kernel
theorem dX5_add_40 : decode cX5_add 40 = .ok (.iconst 0, 1) := by decide +kernel
theorem dX5_add_41 : decode cX5_add 41 = .ok (.goto 4, 3) := by decide +kernel
theorem dX5_add_44 : decode cX5_add 44 = .ok (.iconst 2, 1) := by decide +kernel
theorem dX5_add_45 : decode cX5_add 45 = .ok (.invokevirtual 99, 3) := by decide +kernel
theorem dX5_add_48 : decode cX5_add 48 = .ok (.ifCond .eq 5, 3) := by decide +kernel
theorem dX5_add_51 : decode cX5_add 51 = .ok (.iconst 0, 1) := by decide +kernel
theorem dX5_add_52 : decode cX5_add 52 = .ok (.ireturn, 1) := by decide +kernel
theorem dX5_add_53 : decode cX5_add 53 = .ok (.aload_n 0, 1) := by decide +kernel
theorem dX5_add_54 : decode cX5_add 54 = .ok (.invokevirtual 171, 3) := by decide +kernel
theorem dX5_add_57 : decode cX5_add 57 = .ok (.aload_n 0, 1) := by decide +kernel
theorem dX5_add_58 : decode cX5_add 58 = .ok (.getfield 13, 3) := by decide +kernel
theorem dX5_add_61 : decode cX5_add 61 = .ok (.iload_n 1, 1) := by decide +kernel
theorem dX5_add_62 : decode cX5_add 62 = .ok (.iload_n 2, 1) := by decide +kernel
theorem dX5_add_63 : decode cX5_add 63 = .ok (.invokestatic 112, 3) := by decide +kernel
theorem dX5_add_66 : decode cX5_add 66 = .ok (.ireturn, 1) := by decide +kernel
theorem dX5_bring_0 : decode cX5_bring 0 = .ok (.aload_n 0, 1) := by decide +kernel
theorem dX5_bring_1 : decode cX5_bring 1 = .ok (.aload_n 0, 1) := by decide +kernel
theorem dX5_bring_2 : decode cX5_bring 2 = .ok (.getfield 13, 3) := by decide +kernel
theorem dX5_bring_5 : decode cX5_bring 5 = .ok (.iload_n 1, 1) := by decide +kernel
theorem dX5_bring_6 : decode cX5_bring 6 = .ok (.invokestatic 62, 3) := by decide +kernel
theorem dX5_bring_9 : decode cX5_bring 9 = .ok (.ifCond .eq 10, 3) := by decide +kernel
theorem dX5_bring_12 : decode cX5_bring 12 = .ok (.iload_n 2, 1) := by decide +kernel
theorem dX5_bring_13 : decode cX5_bring 13 = .ok (.invokestatic 65, 3) := by decide +kernel
theorem dX5_bring_16 : decode cX5_bring 16 = .ok (.ifCond .ne 7, 3) := by decide +kernel
theorem dX5_bring_19 : decode cX5_bring 19 = .ok (.iconst 1, 1) := by decide +kernel
theorem dX5_bring_20 : decode cX5_bring 20 = .ok (.goto 20, 3) := by decide +kernel
theorem dX5_bring_23 : decode cX5_bring 23 = .ok (.aload_n 0, 1) := by decide +kernel
theorem dX5_bring_24 : decode cX5_bring 24 = .ok (.getfield 13, 3) := by decide +kernel
theorem dX5_bring_27 : decode cX5_bring 27 = .ok (.iload_n 1, 1) := by decide +kernel
theorem dX5_bring_28 : decode cX5_bring 28 = .ok (.iload_n 2, 1) := by decide +kernel
theorem dX5_bring_29 : decode cX5_bring 29 = .ok (.invokestatic 119, 3) := by decide +kernel
theorem dX5_bring_32 : decode cX5_bring 32 = .ok (.ifCond .eq 7, 3) := by decide +kernel
theorem dX5_bring_35 : decode cX5_bring 35 = .ok (.iconst 0, 1) := by decide +kernel
theorem dX5_bring_36 : decode cX5_bring 36 = .ok (.goto 4, 3) := by decide +kernel
theorem dX5_bring_39 : decode cX5_bring 39 = .ok (.iconst 2, 1) := by decide +kernel
theorem dX5_bring_40 : decode cX5_bring 40 = .ok (.invokevirtual 99, 3) := by decide +kernel
theorem dX5_bring_43 : decode cX5_bring 43 = .ok (.ifCond .eq 5, 3) := by decide +kernel
theorem dX5_bring_46 : decode cX5_bring 46 = .ok (.iconst 0, 1) := by decide +kernel
theorem dX5_bring_47 : decode cX5_bring 47 = .ok (.ireturn, 1) := by decide +kernel
theorem dX5_bring_48 : decode cX5_bring 48 = .ok (.aload_n 0, 1) := by decide +kernel
theorem dX5_bring_49 : decode cX5_bring 49 = .ok (.invokevirtual 171, 3) := by decide +kernel
theorem dX5_bring_52 : decode cX5_bring 52 = .ok (.aload_n 0, 1) := by decide +kernel
theorem dX5_bring_53 : decode cX5_bring 53 = .ok (.getfield 13, 3) := by decide +kernel
theorem dX5_bring_56 : decode cX5_bring 56 = .ok (.iload_n 1, 1) := by decide +kernel
theorem dX5_bring_57 : decode cX5_bring 57 = .ok (.iload_n 2, 1) := by decide +kernel
theorem dX5_bring_58 : decode cX5_bring 58 = .ok (.invokestatic 123, 3) := by decide +kernel
theorem dX5_bring_61 : decode cX5_bring 61 = .ok (.ireturn, 1) := by decide +kernel
theorem dX5_stop_0 : decode cX5_stop 0 = .ok (.aload_n 0, 1) := by decide +kernel
theorem dX5_stop_1 : decode cX5_stop 1 = .ok (.aload_n 0, 1) := by decide +kernel
theorem dX5_stop_2 : decode cX5_stop 2 = .ok (.getfield 13, 3) := by decide +kernel
theorem dX5_stop_5 : decode cX5_stop 5 = .ok (.iload_n 1, 1) := by decide +kernel
theorem dX5_stop_6 : decode cX5_stop 6 = .ok (.invokestatic 62, 3) := by decide +kernel
theorem dX5_stop_9 : decode cX5_stop 9 = .ok (.ifCond .ne 7, 3) := by decide +kernel
theorem dX5_stop_12 : decode cX5_stop 12 = .ok (.iconst 1, 1) := by decide +kernel
theorem dX5_stop_13 : decode cX5_stop 13 = .ok (.goto 19, 3) := by decide +kernel
theorem dX5_stop_16 : decode cX5_stop 16 = .ok (.aload_n 0, 1) := by decide +kernel
theorem dX5_stop_17 : decode cX5_stop 17 = .ok (.getfield 13, 3) := by decide +kernel
theorem dX5_stop_20 : decode cX5_stop 20 = .ok (.iload_n 1, 1) := by decide +kernel
theorem dX5_stop_21 : decode cX5_stop 21 = .ok (.invokestatic 132, 3) := by decide +kernel
theorem dX5_stop_24 : decode cX5_stop 24 = .ok (.ifCond .eq 7, 3) := by decide +kernel
theorem dX5_stop_27 : decode cX5_stop 27 = .ok (.iconst 0, 1) := by decide +kernel
theorem dX5_stop_28 : decode cX5_stop 28 = .ok (.goto 4, 3) := by decide +kernel
theorem dX5_stop_31 : decode cX5_stop 31 = .ok (.iconst 2, 1) := by decide +kernel
theorem dX5_stop_32 : decode cX5_stop 32 = .ok (.invokevirtual 99, 3) := by decide +kernel
theorem dX5_stop_35 : decode cX5_stop 35 = .ok (.ifCond .eq 5, 3) := by decide +kernel
theorem dX5_stop_38 : decode cX5_stop 38 = .ok (.iconst 0, 1) := by decide +kernel
theorem dX5_stop_39 : decode cX5_stop 39 = .ok (.ireturn, 1) := by decide +kernel
theorem dX5_stop_40 : decode cX5_stop 40 = .ok (.aload_n 0, 1) := by decide +kernel
theorem dX5_stop_41 : decode cX5_stop 41 = .ok (.invokevirtual 171, 3) := by decide +kernel
theorem dX5_stop_44 : decode cX5_stop 44 = .ok (.aload_n 0, 1) := by decide +kernel
theorem dX5_stop_45 : decode cX5_stop 45 = .ok (.getfield 13, 3) := by decide +kernel
theorem dX5_stop_48 : decode cX5_stop 48 = .ok (.iload_n 1, 1) := by decide +kernel
theorem dX5_stop_49 : decode cX5_stop 49 = .ok (.invokestatic 135, 3) := by decide +kernel
theorem dX5_stop_52 : decode cX5_stop 52 = .ok (.ireturn, 1) := by decide +kernel
theorem dX5_turnBad_0 : decode cX5_turnBad 0 = .ok (.aload_n 0, 1) := by decide +kernel
theorem dX5_turnBad_1 : decode cX5_turnBad 1 = .ok (.iload_n 1, 1) := by decide +kernel
theorem dX5_turnBad_2 : decode cX5_turnBad 2 = .ok (.invokestatic 65, 3) := by decide +kernel
theorem dX5_turnBad_5 : decode cX5_turnBad 5 = .ok (.ifCond .eq 7, 3) := by decide +kernel
theorem dX5_turnBad_8 : decode cX5_turnBad 8 = .ok (.iconst 0, 1) := by decide +kernel
theorem dX5_turnBad_9 : decode cX5_turnBad 9 = .ok (.goto 4, 3) := by decide +kernel
theorem dX5_turnBad_12 : decode cX5_turnBad 12 = .ok (.iconst 1, 1) := by decide +kernel
theorem dX5_turnBad_13 : decode cX5_turnBad 13 = .ok (.invokevirtual 99, 3) := by decide +kernel
theorem dX5_turnBad_16 : decode cX5_turnBad 16 = .ok (.ifCond .eq 5, 3) := by decide +kernel
theorem dX5_turnBad_19 : decode cX5_turnBad 19 = .ok (.iconst 0, 1) := by decide +kernel
theorem dX5_turnBad_20 : decode cX5_turnBad 20 = .ok (.ireturn, 1) := by decide +kernel
theorem dX5_turnBad_21 : decode cX5_turnBad 21 = .ok (.aload_n 0, 1) := by decide +kernel
theorem dX5_turnBad_22 : decode cX5_turnBad 22 = .ok (.invokevirtual 171, 3) := by decide +kernel
theorem dX5_turnBad_25 : decode cX5_turnBad 25 = .ok (.aload_n 0, 1) := by decide +kernel
theorem dX5_turnBad_26 : decode cX5_turnBad 26 = .ok (.getfield 13, 3) := by decide +kernel
theorem dX5_turnBad_29 : decode cX5_turnBad 29 = .ok (.iload_n 1, 1) := by decide +kernel
theorem dX5_turnBad_30 : decode cX5_turnBad 30 = .ok (.invokestatic 126, 3) := by decide +kernel
theorem dX5_turnBad_33 : decode cX5_turnBad 33 = .ok (.ireturn, 1) := by decide +kernel
theorem dX5_mend_0 : decode cX5_mend 0 = .ok (.aload_n 0, 1) := by decide +kernel
theorem dX5_mend_1 : decode cX5_mend 1 = .ok (.iload_n 1, 1) := by decide +kernel
theorem dX5_mend_2 : decode cX5_mend 2 = .ok (.invokestatic 65, 3) := by decide +kernel
theorem dX5_mend_5 : decode cX5_mend 5 = .ok (.ifCond .eq 7, 3) := by decide +kernel
theorem dX5_mend_8 : decode cX5_mend 8 = .ok (.iconst 0, 1) := by decide +kernel
theorem dX5_mend_9 : decode cX5_mend 9 = .ok (.goto 4, 3) := by decide +kernel
theorem dX5_mend_12 : decode cX5_mend 12 = .ok (.iconst 1, 1) := by decide +kernel
theorem dX5_mend_13 : decode cX5_mend 13 = .ok (.invokevirtual 99, 3) := by decide +kernel
theorem dX5_mend_16 : decode cX5_mend 16 = .ok (.ifCond .eq 5, 3) := by decide +kernel
theorem dX5_mend_19 : decode cX5_mend 19 = .ok (.iconst 0, 1) := by decide +kernel
theorem dX5_mend_20 : decode cX5_mend 20 = .ok (.ireturn, 1) := by decide +kernel
theorem dX5_mend_21 : decode cX5_mend 21 = .ok (.aload_n 0, 1) := by decide +kernel
theorem dX5_mend_22 : decode cX5_mend 22 = .ok (.invokevirtual 171, 3) := by decide +kernel
theorem dX5_mend_25 : decode cX5_mend 25 = .ok (.aload_n 0, 1) := by decide +kernel
theorem dX5_mend_26 : decode cX5_mend 26 = .ok (.getfield 13, 3) := by decide +kernel
theorem dX5_mend_29 : decode cX5_mend 29 = .ok (.iload_n 1, 1) := by decide +kernel
theorem dX5_mend_30 : decode cX5_mend 30 = .ok (.invokestatic 129, 3) := by decide +kernel
theorem dX5_mend_33 : decode cX5_mend 33 = .ok (.ireturn, 1) := by decide +kernel
theorem dX5_run_0 : decode cX5_run 0 = .ok (.aload_n 0, 1) := by decide +kernel
theorem dX5_run_1 : decode cX5_run 1 = .ok (.iload_n 1, 1) := by decide +kernel
theorem dX5_run_2 : decode cX5_run 2 = .ok (.i2l, 1) := by decide +kernel
theorem dX5_run_3 : decode cX5_run 3 = .ok (.lconst 1, 1) := by decide +kernel
theorem dX5_run_4 : decode cX5_run 4 = .ok (.ldc2_w 174, 3) := by decide +kernel
theorem dX5_run_7 : decode cX5_run 7 = .ok (.invokestatic 37, 3) := by decide +kernel
theorem dX5_run_10 : decode cX5_run 10 = .ok (.ifCond .eq 7, 3) := by decide +kernel
theorem dX5_run_13 : decode cX5_run 13 = .ok (.iconst 0, 1) := by decide +kernel
theorem dX5_run_14 : decode cX5_run 14 = .ok (.goto 4, 3) := by decide +kernel
theorem dX5_run_17 : decode cX5_run 17 = .ok (.iconst 1, 1) := by decide +kernel
theorem dX5_run_18 : decode cX5_run 18 = .ok (.invokevirtual 99, 3) := by decide +kernel
theorem dX5_run_21 : decode cX5_run 21 = .ok (.ifCond .eq 5, 3) := by decide +kernel
theorem dX5_run_24 : decode cX5_run 24 = .ok (.iconst 0, 1) := by decide +kernel
theorem dX5_run_25 : decode cX5_run 25 = .ok (.ireturn, 1) := by decide +kernel
theorem dX5_run_26 : decode cX5_run 26 = .ok (.aload_n 0, 1) := by decide +kernel
theorem dX5_run_27 : decode cX5_run 27 = .ok (.invokevirtual 171, 3) := by decide +kernel
theorem dX5_run_30 : decode cX5_run 30 = .ok (.aload_n 0, 1) := by decide +kernel
theorem dX5_run_31 : decode cX5_run 31 = .ok (.getfield 13, 3) := by decide +kernel
theorem dX5_run_34 : decode cX5_run 34 = .ok (.iload_n 1, 1) := by decide +kernel
theorem dX5_run_35 : decode cX5_run 35 = .ok (.invokestatic 138, 3) := by decide +kernel
theorem dX5_run_38 : decode cX5_run 38 = .ok (.ireturn, 1) := by decide +kernel
theorem dX5_set_0 : decode cX5_set 0 = .ok (.aload_n 0, 1) := by decide +kernel
theorem dX5_set_1 : decode cX5_set 1 = .ok (.iload_n 1, 1) := by decide +kernel
theorem dX5_set_2 : decode cX5_set 2 = .ok (.iload_n 2, 1) := by decide +kernel
theorem dX5_set_3 : decode cX5_set 3 = .ok (.invokestatic 176, 3) := by decide +kernel
theorem dX5_set_6 : decode cX5_set 6 = .ok (.ifCond .eq 7, 3) := by decide +kernel
theorem dX5_set_9 : decode cX5_set 9 = .ok (.iconst 0, 1) := by decide +kernel
theorem dX5_set_10 : decode cX5_set 10 = .ok (.goto 4, 3) := by decide +kernel
theorem dX5_set_13 : decode cX5_set 13 = .ok (.iconst 1, 1) := by decide +kernel
theorem dX5_set_14 : decode cX5_set 14 = .ok (.invokevirtual 99, 3) := by decide +kernel
theorem dX5_set_17 : decode cX5_set 17 = .ok (.ifCond .eq 5, 3) := by decide +kernel
theorem dX5_set_20 : decode cX5_set 20 = .ok (.iconst 0, 1) := by decide +kernel
theorem dX5_set_21 : decode cX5_set 21 = .ok (.ireturn, 1) := by decide +kernel
theorem dX5_set_22 : decode cX5_set 22 = .ok (.aload_n 0, 1) := by decide +kernel
theorem dX5_set_23 : decode cX5_set 23 = .ok (.invokevirtual 171, 3) := by decide +kernel
theorem dX5_set_26 : decode cX5_set 26 = .ok (.aload_n 0, 1) := by decide +kernel
theorem dX5_set_27 : decode cX5_set 27 = .ok (.getfield 13, 3) := by decide +kernel
theorem dX5_set_30 : decode cX5_set 30 = .ok (.bipush 8, 2) := by decide +kernel
theorem dX5_set_32 : decode cX5_set 32 = .ok (.iload_n 1, 1) := by decide +kernel
theorem dX5_set_33 : decode cX5_set 33 = .ok (.iadd, 1) := by decide +kernel
theorem dX5_set_34 : decode cX5_set 34 = .ok (.iaload, 1) := by decide +kernel
theorem dX5_set_35 : decode cX5_set 35 = .ok (.istore_n 3, 1) := by decide +kernel
theorem dX5_set_36 : decode cX5_set 36 = .ok (.aload_n 0, 1) := by decide +kernel
theorem dX5_set_37 : decode cX5_set 37 = .ok (.getfield 13, 3) := by decide +kernel
theorem dX5_set_40 : decode cX5_set 40 = .ok (.bipush 8, 2) := by decide +kernel
theorem dX5_set_42 : decode cX5_set 42 = .ok (.iload_n 1, 1) := by decide +kernel
theorem dX5_set_43 : decode cX5_set 43 = .ok (.iadd, 1) := by decide +kernel
theorem dX5_set_44 : decode cX5_set 44 = .ok (.iload_n 2, 1) := by decide +kernel
theorem dX5_set_45 : decode cX5_set 45 = .ok (.iastore, 1) := by decide +kernel
theorem dX5_set_46 : decode cX5_set 46 = .ok (.iload_n 3, 1) := by decide +kernel
theorem dX5_set_47 : decode cX5_set 47 = .ok (.ireturn, 1) := by decide +kernel
theorem dX5_undo_0 : decode cX5_undo 0 = .ok (.aload_n 0, 1) := by decide +kernel
theorem dX5_undo_1 : decode cX5_undo 1 = .ok (.aload_n 0, 1) := by decide +kernel
theorem dX5_undo_2 : decode cX5_undo 2 = .ok (.getfield 152, 3) := by decide +kernel
theorem dX5_undo_5 : decode cX5_undo 5 = .ok (.ifCond .ne 7, 3) := by decide +kernel
theorem dX5_undo_8 : decode cX5_undo 8 = .ok (.iconst 1, 1) := by decide +kernel
theorem dX5_undo_9 : decode cX5_undo 9 = .ok (.goto 4, 3) := by decide +kernel
theorem dX5_undo_12 : decode cX5_undo 12 = .ok (.iconst 0, 1) := by decide +kernel
theorem dX5_undo_13 : decode cX5_undo 13 = .ok (.invokevirtual 99, 3) := by decide +kernel
theorem dX5_undo_16 : decode cX5_undo 16 = .ok (.ifCond .eq 5, 3) := by decide +kernel
theorem dX5_undo_19 : decode cX5_undo 19 = .ok (.iconst 0, 1) := by decide +kernel
theorem dX5_undo_20 : decode cX5_undo 20 = .ok (.ireturn, 1) := by decide +kernel
theorem dX5_undo_21 : decode cX5_undo 21 = .ok (.aload_n 0, 1) := by decide +kernel
theorem dX5_undo_22 : decode cX5_undo 22 = .ok (.dup, 1) := by decide +kernel
theorem dX5_undo_23 : decode cX5_undo 23 = .ok (.getfield 152, 3) := by decide +kernel
theorem dX5_undo_26 : decode cX5_undo 26 = .ok (.iconst 1, 1) := by decide +kernel
theorem dX5_undo_27 : decode cX5_undo 27 = .ok (.isub, 1) := by decide +kernel
theorem dX5_undo_28 : decode cX5_undo 28 = .ok (.putfield 152, 3) := by decide +kernel
theorem dX5_undo_31 : decode cX5_undo 31 = .ok (.aload_n 0, 1) := by decide +kernel
theorem dX5_undo_32 : decode cX5_undo 32 = .ok (.getfield 19, 3) := by decide +kernel
theorem dX5_undo_35 : decode cX5_undo 35 = .ok (.bipush 65, 2) := by decide +kernel
theorem dX5_undo_37 : decode cX5_undo 37 = .ok (.aload_n 0, 1) := by decide +kernel
theorem dX5_undo_38 : decode cX5_undo 38 = .ok (.getfield 152, 3) := by decide +kernel
theorem dX5_undo_41 : decode cX5_undo 41 = .ok (.imul, 1) := by decide +kernel
theorem dX5_undo_42 : decode cX5_undo 42 = .ok (.aload_n 0, 1) := by decide +kernel
theorem dX5_undo_43 : decode cX5_undo 43 = .ok (.getfield 13, 3) := by decide +kernel
theorem dX5_undo_46 : decode cX5_undo 46 = .ok (.iconst 0, 1) := by decide +kernel
theorem dX5_undo_47 : decode cX5_undo 47 = .ok (.invokestatic 148, 3) := by decide +kernel
theorem dX5_undo_50 : decode cX5_undo 50 = .ok (.aload_n 0, 1) := by decide +kernel
theorem dX5_undo_51 : decode cX5_undo 51 = .ok (.getfield 152, 3) := by decide +kernel
theorem dX5_undo_54 : decode cX5_undo 54 = .ok (.ireturn, 1) := by decide +kernel
theorem dX5_bestGap_0 : decode cX5_bestGap 0 = .ok (.aload_n 0, 1) := by decide +kernel
theorem dX5_bestGap_1 : decode cX5_bestGap 1 = .ok (.iload_n 1, 1) := by decide +kernel
theorem dX5_bestGap_2 : decode cX5_bestGap 2 = .ok (.i2l, 1) := by decide +kernel
theorem dX5_bestGap_3 : decode cX5_bestGap 3 = .ok (.lconst 1, 1) := by decide +kernel
theorem dX5_bestGap_4 : decode cX5_bestGap 4 = .ok (.ldc2_w 167, 3) := by decide +kernel
theorem dX5_bestGap_7 : decode cX5_bestGap 7 = .ok (.invokestatic 37, 3) := by decide +kernel
theorem dX5_bestGap_10 : decode cX5_bestGap 10 = .ok (.ifCond .eq 7, 3) := by decide +kernel
theorem dX5_bestGap_13 : decode cX5_bestGap 13 = .ok (.iconst 0, 1) := by decide +kernel
theorem dX5_bestGap_14 : decode cX5_bestGap 14 = .ok (.goto 4, 3) := by decide +kernel
theorem dX5_bestGap_17 : decode cX5_bestGap 17 = .ok (.iconst 1, 1) := by decide +kernel
theorem dX5_bestGap_18 : decode cX5_bestGap 18 = .ok (.invokevirtual 99, 3) := by decide +kernel
theorem dX5_bestGap_21 : decode cX5_bestGap 21 = .ok (.ifCond .eq 5, 3) := by decide +kernel
theorem dX5_bestGap_24 : decode cX5_bestGap 24 = .ok (.iconst 0, 1) := by decide +kernel
theorem dX5_bestGap_25 : decode cX5_bestGap 25 = .ok (.ireturn, 1) := by decide +kernel
theorem dX5_bestGap_26 : decode cX5_bestGap 26 = .ok (.iconst (-1), 1) := by decide +kernel
theorem dX5_bestGap_27 : decode cX5_bestGap 27 = .ok (.istore_n 2, 1) := by decide +kernel
theorem dX5_bestGap_28 : decode cX5_bestGap 28 = .ok (.bipush 13, 2) := by decide +kernel
theorem dX5_bestGap_30 : decode cX5_bestGap 30 = .ok (.istore_n 3, 1) := by decide +kernel
theorem dX5_bestGap_31 : decode cX5_bestGap 31 = .ok (.iconst 0, 1) := by decide +kernel
theorem dX5_bestGap_32 : decode cX5_bestGap 32 = .ok (.istore 4, 2) := by decide +kernel
theorem dX5_bestGap_34 : decode cX5_bestGap 34 = .ok (.iload 4, 2) := by decide +kernel
theorem dX5_bestGap_36 : decode cX5_bestGap 36 = .ok (.bipush 12, 2) := by decide +kernel
theorem dX5_bestGap_38 : decode cX5_bestGap 38 = .ok (.if_icmp .ge 69, 3) := by decide +kernel
theorem dX5_bestGap_41 : decode cX5_bestGap 41 = .ok (.aload_n 0, 1) := by decide +kernel
theorem dX5_bestGap_42 : decode cX5_bestGap 42 = .ok (.getfield 13, 3) := by decide +kernel
theorem dX5_bestGap_45 : decode cX5_bestGap 45 = .ok (.iload 4, 2) := by decide +kernel
theorem dX5_bestGap_47 : decode cX5_bestGap 47 = .ok (.invokestatic 157, 3) := by decide +kernel
theorem dX5_bestGap_50 : decode cX5_bestGap 50 = .ok (.istore 5, 2) := by decide +kernel
theorem dX5_bestGap_52 : decode cX5_bestGap 52 = .ok (.iload 5, 2) := by decide +kernel
theorem dX5_bestGap_54 : decode cX5_bestGap 54 = .ok (.iload_n 1, 1) := by decide +kernel
theorem dX5_bestGap_55 : decode cX5_bestGap 55 = .ok (.if_icmp .lt 13, 3) := by decide +kernel
theorem dX5_bestGap_58 : decode cX5_bestGap 58 = .ok (.iload 5, 2) := by decide +kernel
theorem dX5_bestGap_60 : decode cX5_bestGap 60 = .ok (.iload_n 3, 1) := by decide +kernel
theorem dX5_bestGap_61 : decode cX5_bestGap 61 = .ok (.if_icmp .ge 7, 3) := by decide +kernel
theorem dX5_bestGap_64 : decode cX5_bestGap 64 = .ok (.iconst 1, 1) := by decide +kernel
theorem dX5_bestGap_65 : decode cX5_bestGap 65 = .ok (.goto 4, 3) := by decide +kernel
theorem dX5_bestGap_68 : decode cX5_bestGap 68 = .ok (.iconst 0, 1) := by decide +kernel
theorem dX5_bestGap_69 : decode cX5_bestGap 69 = .ok (.istore 6, 2) := by decide +kernel
theorem dX5_bestGap_71 : decode cX5_bestGap 71 = .ok (.iload 6, 2) := by decide +kernel
theorem dX5_bestGap_73 : decode cX5_bestGap 73 = .ok (.ifCond .eq 8, 3) := by decide +kernel
theorem dX5_bestGap_76 : decode cX5_bestGap 76 = .ok (.iload 4, 2) := by decide +kernel
theorem dX5_bestGap_78 : decode cX5_bestGap 78 = .ok (.goto 4, 3) := by decide +kernel
theorem dX5_bestGap_81 : decode cX5_bestGap 81 = .ok (.iload_n 2, 1) := by decide +kernel
theorem dX5_bestGap_82 : decode cX5_bestGap 82 = .ok (.istore_n 2, 1) := by decide +kernel
theorem dX5_bestGap_83 : decode cX5_bestGap 83 = .ok (.iload 6, 2) := by decide +kernel
theorem dX5_bestGap_85 : decode cX5_bestGap 85 = .ok (.ifCond .eq 8, 3) := by decide +kernel
theorem dX5_bestGap_88 : decode cX5_bestGap 88 = .ok (.iload 5, 2) := by decide +kernel
theorem dX5_bestGap_90 : decode cX5_bestGap 90 = .ok (.goto 4, 3) := by decide +kernel
theorem dX5_bestGap_93 : decode cX5_bestGap 93 = .ok (.iload_n 3, 1) := by decide +kernel
theorem dX5_bestGap_94 : decode cX5_bestGap 94 = .ok (.istore_n 3, 1) := by decide +kernel
theorem dX5_bestGap_95 : decode cX5_bestGap 95 = .ok (.iload 4, 2) := by decide +kernel
theorem dX5_bestGap_97 : decode cX5_bestGap 97 = .ok (.iload 5, 2) := by decide +kernel
theorem dX5_bestGap_99 : decode cX5_bestGap 99 = .ok (.iconst 1, 1) := by decide +kernel
theorem dX5_bestGap_100 : decode cX5_bestGap 100 = .ok (.iadd, 1) := by decide +kernel
theorem dX5_bestGap_101 : decode cX5_bestGap 101 = .ok (.iadd, 1) := by decide +kernel
theorem dX5_bestGap_102 : decode cX5_bestGap 102 = .ok (.istore 4, 2) := by decide +kernel
theorem dX5_bestGap_104 : decode cX5_bestGap 104 = .ok (.goto (-70), 3) := by decide +kernel
theorem dX5_bestGap_107 : decode cX5_bestGap 107 = .ok (.iload_n 2, 1) := by decide +kernel
theorem dX5_bestGap_108 : decode cX5_bestGap 108 = .ok (.ireturn, 1) := by decide +kernel
theorem dX5_inWay_0 : decode cX5_inWay 0 = .ok (.iconst 0, 1) := by decide +kernel
theorem dX5_inWay_1 : decode cX5_inWay 1 = .ok (.istore_n 3, 1) := by decide +kernel
theorem dX5_inWay_2 : decode cX5_inWay 2 = .ok (.iconst 0, 1) := by decide +kernel
theorem dX5_inWay_3 : decode cX5_inWay 3 = .ok (.istore 4, 2) := by decide +kernel
theorem dX5_inWay_5 : decode cX5_inWay 5 = .ok (.iload_n 1, 1) := by decide +kernel
theorem dX5_inWay_6 : decode cX5_inWay 6 = .ok (.istore 5, 2) := by decide +kernel
theorem dX5_inWay_8 : decode cX5_inWay 8 = .ok (.iload 5, 2) := by decide +kernel
theorem dX5_inWay_10 : decode cX5_inWay 10 = .ok (.iload_n 1, 1) := by decide +kernel
theorem dX5_inWay_11 : decode cX5_inWay 11 = .ok (.iload_n 2, 1) := by decide +kernel
theorem dX5_inWay_12 : decode cX5_inWay 12 = .ok (.iadd, 1) := by decide +kernel
theorem dX5_inWay_13 : decode cX5_inWay 13 = .ok (.if_icmp .ge 74, 3) := by decide +kernel
theorem dX5_inWay_16 : decode cX5_inWay 16 = .ok (.aload_n 0, 1) := by decide +kernel
theorem dX5_inWay_17 : decode cX5_inWay 17 = .ok (.bipush 11, 2) := by decide +kernel
theorem dX5_inWay_19 : decode cX5_inWay 19 = .ok (.iload 5, 2) := by decide +kernel
theorem dX5_inWay_21 : decode cX5_inWay 21 = .ok (.iadd, 1) := by decide +kernel
theorem dX5_inWay_22 : decode cX5_inWay 22 = .ok (.iaload, 1) := by decide +kernel
theorem dX5_inWay_23 : decode cX5_inWay 23 = .ok (.iconst 1, 1) := by decide +kernel
theorem dX5_inWay_24 : decode cX5_inWay 24 = .ok (.if_icmp .eq 13, 3) := by decide +kernel
theorem dX5_inWay_27 : decode cX5_inWay 27 = .ok (.aload_n 0, 1) := by decide +kernel
theorem dX5_inWay_28 : decode cX5_inWay 28 = .ok (.iload 5, 2) := by decide +kernel
theorem dX5_inWay_30 : decode cX5_inWay 30 = .ok (.invokestatic 55, 3) := by decide +kernel
theorem dX5_inWay_33 : decode cX5_inWay 33 = .ok (.iconst (-1), 1) := by decide +kernel
theorem dX5_inWay_34 : decode cX5_inWay 34 = .ok (.if_icmp .eq 5, 3) := by decide +kernel
theorem dX5_inWay_37 : decode cX5_inWay 37 = .ok (.iconst (-1), 1) := by decide +kernel
theorem dX5_inWay_38 : decode cX5_inWay 38 = .ok (.ireturn, 1) := by decide +kernel
theorem dX5_inWay_39 : decode cX5_inWay 39 = .ok (.aload_n 0, 1) := by decide +kernel
theorem dX5_inWay_40 : decode cX5_inWay 40 = .ok (.iload 5, 2) := by decide +kernel
theorem dX5_inWay_42 : decode cX5_inWay 42 = .ok (.invokestatic 51, 3) := by decide +kernel
theorem dX5_inWay_45 : decode cX5_inWay 45 = .ok (.istore 6, 2) := by decide +kernel
theorem dX5_inWay_47 : decode cX5_inWay 47 = .ok (.iload 6, 2) := by decide +kernel
theorem dX5_inWay_49 : decode cX5_inWay 49 = .ok (.iconst (-1), 1) := by decide +kernel
theorem dX5_inWay_50 : decode cX5_inWay 50 = .ok (.if_icmp .eq 31, 3) := by decide +kernel
theorem dX5_inWay_53 : decode cX5_inWay 53 = .ok (.iload_n 3, 1) := by decide +kernel
theorem dX5_inWay_54 : decode cX5_inWay 54 = .ok (.iload 6, 2) := by decide +kernel
theorem dX5_inWay_56 : decode cX5_inWay 56 = .ok (.ishr, 1) := by decide +kernel
theorem dX5_inWay_57 : decode cX5_inWay 57 = .ok (.iconst 1, 1) := by decide +kernel
theorem dX5_inWay_58 : decode cX5_inWay 58 = .ok (.iand, 1) := by decide +kernel
theorem dX5_inWay_59 : decode cX5_inWay 59 = .ok (.ifCond .ne 22, 3) := by decide +kernel
theorem dX5_inWay_62 : decode cX5_inWay 62 = .ok (.iload_n 3, 1) := by decide +kernel
theorem dX5_inWay_63 : decode cX5_inWay 63 = .ok (.iconst 1, 1) := by decide +kernel
theorem dX5_inWay_64 : decode cX5_inWay 64 = .ok (.iload 6, 2) := by decide +kernel
theorem dX5_inWay_66 : decode cX5_inWay 66 = .ok (.ishl, 1) := by decide +kernel
theorem dX5_inWay_67 : decode cX5_inWay 67 = .ok (.ior, 1) := by decide +kernel
theorem dX5_inWay_68 : decode cX5_inWay 68 = .ok (.istore_n 3, 1) := by decide +kernel
theorem dX5_inWay_69 : decode cX5_inWay 69 = .ok (.iload 4, 2) := by decide +kernel
theorem dX5_inWay_71 : decode cX5_inWay 71 = .ok (.aload_n 0, 1) := by decide +kernel
theorem dX5_inWay_72 : decode cX5_inWay 72 = .ok (.iload 6, 2) := by decide +kernel
theorem dX5_inWay_74 : decode cX5_inWay 74 = .ok (.iconst 0, 1) := by decide +kernel
theorem dX5_inWay_75 : decode cX5_inWay 75 = .ok (.invokestatic 43, 3) := by decide +kernel
theorem dX5_inWay_78 : decode cX5_inWay 78 = .ok (.iadd, 1) := by decide +kernel
theorem dX5_inWay_79 : decode cX5_inWay 79 = .ok (.istore 4, 2) := by decide +kernel
theorem dX5_inWay_81 : decode cX5_inWay 81 = .ok (.iinc 5 1, 3) := by decide +kernel
theorem dX5_inWay_84 : decode cX5_inWay 84 = .ok (.goto (-76), 3) := by decide +kernel
theorem dX5_inWay_87 : decode cX5_inWay 87 = .ok (.iload 4, 2) := by decide +kernel
theorem dX5_inWay_89 : decode cX5_inWay 89 = .ok (.ireturn, 1) := by decide +kernel
theorem dX5_window_0 : decode cX5_window 0 = .ok (.aload_n 0, 1) := by decide +kernel
theorem dX5_window_1 : decode cX5_window 1 = .ok (.iload_n 1, 1) := by decide +kernel
theorem dX5_window_2 : decode cX5_window 2 = .ok (.i2l, 1) := by decide +kernel
theorem dX5_window_3 : decode cX5_window 3 = .ok (.lconst 1, 1) := by decide +kernel
theorem dX5_window_4 : decode cX5_window 4 = .ok (.ldc2_w 180, 3) := by decide +kernel
theorem dX5_window_7 : decode cX5_window 7 = .ok (.invokestatic 37, 3) := by decide +kernel
theorem dX5_window_10 : decode cX5_window 10 = .ok (.ifCond .eq 17, 3) := by decide +kernel
theorem dX5_window_13 : decode cX5_window 13 = .ok (.iload_n 2, 1) := by decide +kernel
theorem dX5_window_14 : decode cX5_window 14 = .ok (.i2l, 1) := by decide +kernel
theorem dX5_window_15 : decode cX5_window 15 = .ok (.lconst 0, 1) := by decide +kernel
theorem dX5_window_16 : decode cX5_window 16 = .ok (.lconst 1, 1) := by decide +kernel
theorem dX5_window_17 : decode cX5_window 17 = .ok (.invokestatic 37, 3) := by decide +kernel
theorem dX5_window_20 : decode cX5_window 20 = .ok (.ifCond .eq 7, 3) := by decide +kernel
theorem dX5_window_23 : decode cX5_window 23 = .ok (.iconst 0, 1) := by decide +kernel
theorem dX5_window_24 : decode cX5_window 24 = .ok (.goto 4, 3) := by decide +kernel
theorem dX5_window_27 : decode cX5_window 27 = .ok (.iconst 1, 1) := by decide +kernel
theorem dX5_window_28 : decode cX5_window 28 = .ok (.invokevirtual 99, 3) := by decide +kernel
theorem dX5_window_31 : decode cX5_window 31 = .ok (.ifCond .eq 5, 3) := by decide +kernel
theorem dX5_window_34 : decode cX5_window 34 = .ok (.iconst 0, 1) := by decide +kernel
theorem dX5_window_35 : decode cX5_window 35 = .ok (.ireturn, 1) := by decide +kernel
theorem dX5_window_36 : decode cX5_window 36 = .ok (.iconst (-1), 1) := by decide +kernel
theorem dX5_window_37 : decode cX5_window 37 = .ok (.istore_n 3, 1) := by decide +kernel
theorem dX5_window_38 : decode cX5_window 38 = .ok (.iconst (-1), 1) := by decide +kernel
theorem dX5_window_39 : decode cX5_window 39 = .ok (.istore 4, 2) := by decide +kernel
theorem dX5_window_41 : decode cX5_window 41 = .ok (.iconst 0, 1) := by decide +kernel
theorem dX5_window_42 : decode cX5_window 42 = .ok (.istore 5, 2) := by decide +kernel
theorem dX5_window_44 : decode cX5_window 44 = .ok (.iload 5, 2) := by decide +kernel
theorem dX5_window_46 : decode cX5_window 46 = .ok (.iload_n 1, 1) := by decide +kernel
theorem dX5_window_47 : decode cX5_window 47 = .ok (.iadd, 1) := by decide +kernel
theorem dX5_window_48 : decode cX5_window 48 = .ok (.bipush 12, 2) := by decide +kernel
theorem dX5_window_50 : decode cX5_window 50 = .ok (.if_icmp .gt 72, 3) := by decide +kernel
theorem dX5_window_53 : decode cX5_window 53 = .ok (.aload_n 0, 1) := by decide +kernel
theorem dX5_window_54 : decode cX5_window 54 = .ok (.getfield 13, 3) := by decide +kernel
theorem dX5_window_57 : decode cX5_window 57 = .ok (.iload 5, 2) := by decide +kernel
theorem dX5_window_59 : decode cX5_window 59 = .ok (.iload_n 1, 1) := by decide +kernel
theorem dX5_window_60 : decode cX5_window 60 = .ok (.invokestatic 182, 3) := by decide +kernel
theorem dX5_window_63 : decode cX5_window 63 = .ok (.istore 6, 2) := by decide +kernel
theorem dX5_window_65 : decode cX5_window 65 = .ok (.iload 6, 2) := by decide +kernel
theorem dX5_window_67 : decode cX5_window 67 = .ok (.iconst (-1), 1) := by decide +kernel
theorem dX5_window_68 : decode cX5_window 68 = .ok (.if_icmp .eq 19, 3) := by decide +kernel
theorem dX5_window_71 : decode cX5_window 71 = .ok (.iload_n 3, 1) := by decide +kernel
theorem dX5_window_72 : decode cX5_window 72 = .ok (.iconst (-1), 1) := by decide +kernel
theorem dX5_window_73 : decode cX5_window 73 = .ok (.if_icmp .eq 10, 3) := by decide +kernel
theorem dX5_window_76 : decode cX5_window 76 = .ok (.iload 6, 2) := by decide +kernel
theorem dX5_window_78 : decode cX5_window 78 = .ok (.iload 4, 2) := by decide +kernel
theorem dX5_window_80 : decode cX5_window 80 = .ok (.if_icmp .ge 7, 3) := by decide +kernel
theorem dX5_window_83 : decode cX5_window 83 = .ok (.iconst 1, 1) := by decide +kernel
theorem dX5_window_84 : decode cX5_window 84 = .ok (.goto 4, 3) := by decide +kernel
theorem dX5_window_87 : decode cX5_window 87 = .ok (.iconst 0, 1) := by decide +kernel
theorem dX5_window_88 : decode cX5_window 88 = .ok (.istore 7, 2) := by decide +kernel
theorem dX5_window_90 : decode cX5_window 90 = .ok (.iload 7, 2) := by decide +kernel
theorem dX5_window_92 : decode cX5_window 92 = .ok (.ifCond .eq 8, 3) := by decide +kernel
theorem dX5_window_95 : decode cX5_window 95 = .ok (.iload 5, 2) := by decide +kernel
theorem dX5_window_97 : decode cX5_window 97 = .ok (.goto 4, 3) := by decide +kernel
theorem dX5_window_100 : decode cX5_window 100 = .ok (.iload_n 3, 1) := by decide +kernel
theorem dX5_window_101 : decode cX5_window 101 = .ok (.istore_n 3, 1) := by decide +kernel
theorem dX5_window_102 : decode cX5_window 102 = .ok (.iload 7, 2) := by decide +kernel
theorem dX5_window_104 : decode cX5_window 104 = .ok (.ifCond .eq 8, 3) := by decide +kernel
theorem dX5_window_107 : decode cX5_window 107 = .ok (.iload 6, 2) := by decide +kernel
theorem dX5_window_109 : decode cX5_window 109 = .ok (.goto 5, 3) := by decide +kernel
theorem dX5_window_112 : decode cX5_window 112 = .ok (.iload 4, 2) := by decide +kernel
theorem dX5_window_114 : decode cX5_window 114 = .ok (.istore 4, 2) := by decide +kernel
theorem dX5_window_116 : decode cX5_window 116 = .ok (.iinc 5 1, 3) := by decide +kernel
theorem dX5_window_119 : decode cX5_window 119 = .ok (.goto (-75), 3) := by decide +kernel
theorem dX5_window_122 : decode cX5_window 122 = .ok (.iload_n 2, 1) := by decide +kernel
theorem dX5_window_123 : decode cX5_window 123 = .ok (.ifCond .ne 7, 3) := by decide +kernel
theorem dX5_window_126 : decode cX5_window 126 = .ok (.iload_n 3, 1) := by decide +kernel
theorem dX5_window_127 : decode cX5_window 127 = .ok (.goto 5, 3) := by decide +kernel
theorem dX5_window_130 : decode cX5_window 130 = .ok (.iload 4, 2) := by decide +kernel
theorem dX5_window_132 : decode cX5_window 132 = .ok (.ireturn, 1) := by decide +kernel
theorem dX5_idleIn_0 : decode cX5_idleIn 0 = .ok (.aload_n 0, 1) := by decide +kernel
theorem dX5_idleIn_1 : decode cX5_idleIn 1 = .ok (.iconst 0, 1) := by decide +kernel
theorem dX5_idleIn_2 : decode cX5_idleIn 2 = .ok (.putfield 33, 3) := by decide +kernel
theorem dX5_idleIn_5 : decode cX5_idleIn 5 = .ok (.aload_n 0, 1) := by decide +kernel
theorem dX5_idleIn_6 : decode cX5_idleIn 6 = .ok (.getfield 13, 3) := by decide +kernel
theorem dX5_idleIn_9 : decode cX5_idleIn 9 = .ok (.invokestatic 185, 3) := by decide +kernel
theorem dX5_idleIn_12 : decode cX5_idleIn 12 = .ok (.ireturn, 1) := by decide +kernel
theorem dX5_coming_0 : decode cX5_coming 0 = .ok (.aload_n 0, 1) := by decide +kernel
theorem dX5_coming_1 : decode cX5_coming 1 = .ok (.aload_n 0, 1) := by decide +kernel
theorem dX5_coming_2 : decode cX5_coming 2 = .ok (.getfield 13, 3) := by decide +kernel
theorem dX5_coming_5 : decode cX5_coming 5 = .ok (.iload_n 1, 1) := by decide +kernel
theorem dX5_coming_6 : decode cX5_coming 6 = .ok (.invokestatic 62, 3) := by decide +kernel
theorem dX5_coming_9 : decode cX5_coming 9 = .ok (.ifCond .ne 7, 3) := by decide +kernel
theorem dX5_coming_12 : decode cX5_coming 12 = .ok (.iconst 1, 1) := by decide +kernel
theorem dX5_coming_13 : decode cX5_coming 13 = .ok (.goto 32, 3) := by decide +kernel
theorem dX5_coming_16 : decode cX5_coming 16 = .ok (.iload_n 2, 1) := by decide +kernel
theorem dX5_coming_17 : decode cX5_coming 17 = .ok (.i2l, 1) := by decide +kernel
theorem dX5_coming_18 : decode cX5_coming 18 = .ok (.lconst 1, 1) := by decide +kernel
theorem dX5_coming_19 : decode cX5_coming 19 = .ok (.ldc2_w 188, 3) := by decide +kernel
theorem dX5_coming_22 : decode cX5_coming 22 = .ok (.invokestatic 37, 3) := by decide +kernel
theorem dX5_coming_25 : decode cX5_coming 25 = .ok (.ifCond .eq 19, 3) := by decide +kernel
theorem dX5_coming_28 : decode cX5_coming 28 = .ok (.iload_n 3, 1) := by decide +kernel
theorem dX5_coming_29 : decode cX5_coming 29 = .ok (.i2l, 1) := by decide +kernel
theorem dX5_coming_30 : decode cX5_coming 30 = .ok (.lconst 0, 1) := by decide +kernel
theorem dX5_coming_31 : decode cX5_coming 31 = .ok (.ldc2_w 165, 3) := by decide +kernel
theorem dX5_coming_34 : decode cX5_coming 34 = .ok (.invokestatic 37, 3) := by decide +kernel
theorem dX5_coming_37 : decode cX5_coming 37 = .ok (.ifCond .eq 7, 3) := by decide +kernel
theorem dX5_coming_40 : decode cX5_coming 40 = .ok (.iconst 0, 1) := by decide +kernel
theorem dX5_coming_41 : decode cX5_coming 41 = .ok (.goto 4, 3) := by decide +kernel
theorem dX5_coming_44 : decode cX5_coming 44 = .ok (.iconst 2, 1) := by decide +kernel
theorem dX5_coming_45 : decode cX5_coming 45 = .ok (.invokevirtual 99, 3) := by decide +kernel
theorem dX5_coming_48 : decode cX5_coming 48 = .ok (.ifCond .eq 5, 3) := by decide +kernel
theorem dX5_coming_51 : decode cX5_coming 51 = .ok (.iconst 0, 1) := by decide +kernel
theorem dX5_coming_52 : decode cX5_coming 52 = .ok (.ireturn, 1) := by decide +kernel
theorem dX5_coming_53 : decode cX5_coming 53 = .ok (.aload_n 0, 1) := by decide +kernel
theorem dX5_coming_54 : decode cX5_coming 54 = .ok (.getfield 13, 3) := by decide +kernel
theorem dX5_coming_57 : decode cX5_coming 57 = .ok (.iconst 0, 1) := by decide +kernel
theorem dX5_coming_58 : decode cX5_coming 58 = .ok (.aload_n 0, 1) := by decide +kernel
theorem dX5_coming_59 : decode cX5_coming 59 = .ok (.getfield 16, 3) := by decide +kernel
theorem dX5_coming_62 : decode cX5_coming 62 = .ok (.iconst 0, 1) := by decide +kernel
theorem dX5_coming_63 : decode cX5_coming 63 = .ok (.invokestatic 148, 3) := by decide +kernel
theorem dX5_coming_66 : decode cX5_coming 66 = .ok (.aload_n 0, 1) := by decide +kernel
theorem dX5_coming_67 : decode cX5_coming 67 = .ok (.getfield 16, 3) := by decide +kernel
theorem dX5_coming_70 : decode cX5_coming 70 = .ok (.iload_n 2, 1) := by decide +kernel
theorem dX5_coming_71 : decode cX5_coming 71 = .ok (.invokestatic 138, 3) := by decide +kernel
theorem dX5_coming_74 : decode cX5_coming 74 = .ok (.pop, 1) := by decide +kernel
theorem dX5_coming_75 : decode cX5_coming 75 = .ok (.iload_n 3, 1) := by decide +kernel
theorem dX5_coming_76 : decode cX5_coming 76 = .ok (.iconst 2, 1) := by decide +kernel
theorem dX5_coming_77 : decode cX5_coming 77 = .ok (.if_icmp .ne 25, 3) := by decide +kernel
theorem dX5_coming_80 : decode cX5_coming 80 = .ok (.aload_n 0, 1) := by decide +kernel
theorem dX5_coming_81 : decode cX5_coming 81 = .ok (.getfield 16, 3) := by decide +kernel
theorem dX5_coming_84 : decode cX5_coming 84 = .ok (.iload_n 1, 1) := by decide +kernel
theorem dX5_coming_85 : decode cX5_coming 85 = .ok (.iconst 3, 1) := by decide +kernel
theorem dX5_coming_86 : decode cX5_coming 86 = .ok (.invokestatic 43, 3) := by decide +kernel
theorem dX5_coming_89 : decode cX5_coming 89 = .ok (.aload_n 0, 1) := by decide +kernel
theorem dX5_coming_90 : decode cX5_coming 90 = .ok (.getfield 13, 3) := by decide +kernel
theorem dX5_coming_93 : decode cX5_coming 93 = .ok (.iload_n 1, 1) := by decide +kernel
theorem dX5_coming_94 : decode cX5_coming 94 = .ok (.iconst 3, 1) := by decide +kernel
theorem dX5_coming_95 : decode cX5_coming 95 = .ok (.invokestatic 43, 3) := by decide +kernel
theorem dX5_coming_98 : decode cX5_coming 98 = .ok (.isub, 1) := by decide +kernel
theorem dX5_coming_99 : decode cX5_coming 99 = .ok (.goto 20, 3) := by decide +kernel
theorem dX5_coming_102 : decode cX5_coming 102 = .ok (.aload_n 0, 1) := by decide +kernel
theorem dX5_coming_103 : decode cX5_coming 103 = .ok (.getfield 16, 3) := by decide +kernel
theorem dX5_coming_106 : decode cX5_coming 106 = .ok (.iload_n 1, 1) := by decide +kernel
theorem dX5_coming_107 : decode cX5_coming 107 = .ok (.iload_n 3, 1) := by decide +kernel
theorem dX5_coming_108 : decode cX5_coming 108 = .ok (.ifCond .ne 7, 3) := by decide +kernel
theorem dX5_coming_111 : decode cX5_coming 111 = .ok (.iconst 1, 1) := by decide +kernel
theorem dX5_coming_112 : decode cX5_coming 112 = .ok (.goto 4, 3) := by decide +kernel
theorem dX5_coming_115 : decode cX5_coming 115 = .ok (.iconst 2, 1) := by decide +kernel
theorem dX5_coming_116 : decode cX5_coming 116 = .ok (.invokestatic 43, 3) := by decide +kernel
theorem dX5_coming_119 : decode cX5_coming 119 = .ok (.ireturn, 1) := by decide +kernel
theorem dX5_lost_0 : decode cX5_lost 0 = .ok (.aload_n 0, 1) := by decide +kernel
theorem dX5_lost_1 : decode cX5_lost 1 = .ok (.iload_n 1, 1) := by decide +kernel
theorem dX5_lost_2 : decode cX5_lost 2 = .ok (.invokestatic 65, 3) := by decide +kernel
theorem dX5_lost_5 : decode cX5_lost 5 = .ok (.ifCond .eq 7, 3) := by decide +kernel
theorem dX5_lost_8 : decode cX5_lost 8 = .ok (.iconst 0, 1) := by decide +kernel
theorem dX5_lost_9 : decode cX5_lost 9 = .ok (.goto 4, 3) := by decide +kernel
theorem dX5_lost_12 : decode cX5_lost 12 = .ok (.iconst 1, 1) := by decide +kernel
theorem dX5_lost_13 : decode cX5_lost 13 = .ok (.invokevirtual 99, 3) := by decide +kernel
theorem dX5_lost_16 : decode cX5_lost 16 = .ok (.ifCond .eq 5, 3) := by decide +kernel
theorem dX5_lost_19 : decode cX5_lost 19 = .ok (.iconst 0, 1) := by decide +kernel
theorem dX5_lost_20 : decode cX5_lost 20 = .ok (.ireturn, 1) := by decide +kernel
theorem dX5_lost_21 : decode cX5_lost 21 = .ok (.aload_n 0, 1) := by decide +kernel
theorem dX5_lost_22 : decode cX5_lost 22 = .ok (.getfield 13, 3) := by decide +kernel
theorem dX5_lost_25 : decode cX5_lost 25 = .ok (.iload_n 1, 1) := by decide +kernel
theorem dX5_lost_26 : decode cX5_lost 26 = .ok (.invokestatic 82, 3) := by decide +kernel
theorem dX5_lost_29 : decode cX5_lost 29 = .ok (.istore_n 2, 1) := by decide +kernel
theorem dX5_lost_30 : decode cX5_lost 30 = .ok (.iload_n 2, 1) := by decide +kernel
theorem dX5_lost_31 : decode cX5_lost 31 = .ok (.iconst (-1), 1) := by decide +kernel
theorem dX5_lost_32 : decode cX5_lost 32 = .ok (.if_icmp .ne 7, 3) := by decide +kernel
theorem dX5_lost_35 : decode cX5_lost 35 = .ok (.iconst 0, 1) := by decide +kernel
theorem dX5_lost_36 : decode cX5_lost 36 = .ok (.goto 13, 3) := by decide +kernel
theorem dX5_lost_39 : decode cX5_lost 39 = .ok (.aload_n 0, 1) := by decide +kernel
theorem dX5_lost_40 : decode cX5_lost 40 = .ok (.getfield 13, 3) := by decide +kernel
theorem dX5_lost_43 : decode cX5_lost 43 = .ok (.iload_n 2, 1) := by decide +kernel
theorem dX5_lost_44 : decode cX5_lost 44 = .ok (.bipush 6, 2) := by decide +kernel
theorem dX5_lost_46 : decode cX5_lost 46 = .ok (.invokestatic 43, 3) := by decide +kernel
theorem dX5_lost_49 : decode cX5_lost 49 = .ok (.ireturn, 1) := by decide +kernel
theorem dX5_command_0 : decode cX5_command 0 = .ok (.iload_n 2, 1) := by decide +kernel
theorem dX5_command_1 : decode cX5_command 1 = .ok (.sipush 1000, 3) := by decide +kernel
theorem dX5_command_4 : decode cX5_command 4 = .ok (.idiv, 1) := by decide +kernel
theorem dX5_command_5 : decode cX5_command 5 = .ok (.istore_n 3, 1) := by decide +kernel
theorem dX5_command_6 : decode cX5_command 6 = .ok (.iload_n 2, 1) := by decide +kernel
theorem dX5_command_7 : decode cX5_command 7 = .ok (.bipush 100, 2) := by decide +kernel
theorem dX5_command_9 : decode cX5_command 9 = .ok (.idiv, 1) := by decide +kernel
theorem dX5_command_10 : decode cX5_command 10 = .ok (.istore 4, 2) := by decide +kernel
theorem dX5_command_12 : decode cX5_command 12 = .ok (.iload_n 2, 1) := by decide +kernel
theorem dX5_command_13 : decode cX5_command 13 = .ok (.bipush 10, 2) := by decide +kernel
theorem dX5_command_15 : decode cX5_command 15 = .ok (.idiv, 1) := by decide +kernel
theorem dX5_command_16 : decode cX5_command 16 = .ok (.bipush 100, 2) := by decide +kernel
theorem dX5_command_18 : decode cX5_command 18 = .ok (.irem, 1) := by decide +kernel
theorem dX5_command_19 : decode cX5_command 19 = .ok (.istore 5, 2) := by decide +kernel
theorem dX5_command_21 : decode cX5_command 21 = .ok (.iload_n 2, 1) := by decide +kernel
theorem dX5_command_22 : decode cX5_command 22 = .ok (.sipush 1000, 3) := by decide +kernel
theorem dX5_command_25 : decode cX5_command 25 = .ok (.irem, 1) := by decide +kernel
theorem dX5_command_26 : decode cX5_command 26 = .ok (.istore 6, 2) := by decide +kernel
theorem dX5_command_28 : decode cX5_command 28 = .ok (.iload_n 2, 1) := by decide +kernel
theorem dX5_command_29 : decode cX5_command 29 = .ok (.bipush 10, 2) := by decide +kernel
theorem dX5_command_31 : decode cX5_command 31 = .ok (.irem, 1) := by decide +kernel
theorem dX5_command_32 : decode cX5_command 32 = .ok (.ifCond .ne 7, 3) := by decide +kernel
theorem dX5_command_35 : decode cX5_command 35 = .ok (.iconst 1, 1) := by decide +kernel
theorem dX5_command_36 : decode cX5_command 36 = .ok (.goto 4, 3) := by decide +kernel
theorem dX5_command_39 : decode cX5_command 39 = .ok (.iconst 0, 1) := by decide +kernel
theorem dX5_command_40 : decode cX5_command 40 = .ok (.istore 7, 2) := by decide +kernel
theorem dX5_command_42 : decode cX5_command 42 = .ok (.iload_n 2, 1) := by decide +kernel
theorem dX5_command_43 : decode cX5_command 43 = .ok (.bipush 100, 2) := by decide +kernel
theorem dX5_command_45 : decode cX5_command 45 = .ok (.irem, 1) := by decide +kernel
theorem dX5_command_46 : decode cX5_command 46 = .ok (.ifCond .ne 7, 3) := by decide +kernel
theorem dX5_command_49 : decode cX5_command 49 = .ok (.iconst 1, 1) := by decide +kernel
theorem dX5_command_50 : decode cX5_command 50 = .ok (.goto 4, 3) := by decide +kernel
theorem dX5_command_53 : decode cX5_command 53 = .ok (.iconst 0, 1) := by decide +kernel
theorem dX5_command_54 : decode cX5_command 54 = .ok (.istore 8, 2) := by decide +kernel
theorem dX5_command_56 : decode cX5_command 56 = .ok (.iload_n 1, 1) := by decide +kernel
theorem dX5_command_57 : decode cX5_command 57 = .ok (.tableswitch 361 1 9 #[51, 88, 117, 149, 180, 213, 251, 282, 338], 51) := by decide +kernel
theorem dX5_command_108 : decode cX5_command 108 = .ok (.iload 7, 2) := by decide +kernel
theorem dX5_command_110 : decode cX5_command 110 = .ok (.ifCond .eq 33, 3) := by decide +kernel
theorem dX5_command_113 : decode cX5_command 113 = .ok (.aload_n 0, 1) := by decide +kernel
theorem dX5_command_114 : decode cX5_command 114 = .ok (.getfield 16, 3) := by decide +kernel
theorem dX5_command_117 : decode cX5_command 117 = .ok (.iload_n 3, 1) := by decide +kernel
theorem dX5_command_118 : decode cX5_command 118 = .ok (.iload 5, 2) := by decide +kernel
theorem dX5_command_120 : decode cX5_command 120 = .ok (.invokestatic 119, 3) := by decide +kernel
theorem dX5_command_123 : decode cX5_command 123 = .ok (.ifCond .eq 20, 3) := by decide +kernel
theorem dX5_command_126 : decode cX5_command 126 = .ok (.aload_n 0, 1) := by decide +kernel
theorem dX5_command_127 : decode cX5_command 127 = .ok (.getfield 16, 3) := by decide +kernel
theorem dX5_command_130 : decode cX5_command 130 = .ok (.iload_n 3, 1) := by decide +kernel
theorem dX5_command_131 : decode cX5_command 131 = .ok (.iload 5, 2) := by decide +kernel
theorem dX5_command_133 : decode cX5_command 133 = .ok (.invokestatic 123, 3) := by decide +kernel
theorem dX5_command_136 : decode cX5_command 136 = .ok (.ifCond .le 7, 3) := by decide +kernel
theorem dX5_command_139 : decode cX5_command 139 = .ok (.iconst 1, 1) := by decide +kernel
theorem dX5_command_140 : decode cX5_command 140 = .ok (.goto 4, 3) := by decide +kernel
theorem dX5_command_143 : decode cX5_command 143 = .ok (.iconst 0, 1) := by decide +kernel
theorem dX5_command_144 : decode cX5_command 144 = .ok (.ireturn, 1) := by decide +kernel
theorem dX5_command_145 : decode cX5_command 145 = .ok (.iload_n 2, 1) := by decide +kernel
theorem dX5_command_146 : decode cX5_command 146 = .ok (.i2l, 1) := by decide +kernel
theorem dX5_command_147 : decode cX5_command 147 = .ok (.lconst 1, 1) := by decide +kernel
theorem dX5_command_148 : decode cX5_command 148 = .ok (.ldc2_w 174, 3) := by decide +kernel
theorem dX5_command_151 : decode cX5_command 151 = .ok (.invokestatic 37, 3) := by decide +kernel
theorem dX5_command_154 : decode cX5_command 154 = .ok (.ifCond .eq 18, 3) := by decide +kernel
theorem dX5_command_157 : decode cX5_command 157 = .ok (.aload_n 0, 1) := by decide +kernel
theorem dX5_command_158 : decode cX5_command 158 = .ok (.getfield 16, 3) := by decide +kernel
theorem dX5_command_161 : decode cX5_command 161 = .ok (.iload_n 2, 1) := by decide +kernel
theorem dX5_command_162 : decode cX5_command 162 = .ok (.invokestatic 138, 3) := by decide +kernel
theorem dX5_command_165 : decode cX5_command 165 = .ok (.ifCond .lt 7, 3) := by decide +kernel
theorem dX5_command_168 : decode cX5_command 168 = .ok (.iconst 1, 1) := by decide +kernel
theorem dX5_command_169 : decode cX5_command 169 = .ok (.goto 4, 3) := by decide +kernel
theorem dX5_command_172 : decode cX5_command 172 = .ok (.iconst 0, 1) := by decide +kernel
theorem dX5_command_173 : decode cX5_command 173 = .ok (.ireturn, 1) := by decide +kernel
theorem dX5_command_174 : decode cX5_command 174 = .ok (.iload 8, 2) := by decide +kernel
theorem dX5_command_176 : decode cX5_command 176 = .ok (.ifCond .eq 28, 3) := by decide +kernel
theorem dX5_command_179 : decode cX5_command 179 = .ok (.iload 4, 2) := by decide +kernel
theorem dX5_command_181 : decode cX5_command 181 = .ok (.invokestatic 65, 3) := by decide +kernel
theorem dX5_command_184 : decode cX5_command 184 = .ok (.ifCond .eq 20, 3) := by decide +kernel
theorem dX5_command_187 : decode cX5_command 187 = .ok (.aload_n 0, 1) := by decide +kernel
theorem dX5_command_188 : decode cX5_command 188 = .ok (.getfield 16, 3) := by decide +kernel
theorem dX5_command_191 : decode cX5_command 191 = .ok (.iload 4, 2) := by decide +kernel
theorem dX5_command_193 : decode cX5_command 193 = .ok (.invokestatic 126, 3) := by decide +kernel
theorem dX5_command_196 : decode cX5_command 196 = .ok (.iconst (-1), 1) := by decide +kernel
theorem dX5_command_197 : decode cX5_command 197 = .ok (.if_icmp .lt 7, 3) := by decide +kernel
theorem dX5_command_200 : decode cX5_command 200 = .ok (.iconst 1, 1) := by decide +kernel
theorem dX5_command_201 : decode cX5_command 201 = .ok (.goto 4, 3) := by decide +kernel
theorem dX5_command_204 : decode cX5_command 204 = .ok (.iconst 0, 1) := by decide +kernel
theorem dX5_command_205 : decode cX5_command 205 = .ok (.ireturn, 1) := by decide +kernel
theorem dX5_command_206 : decode cX5_command 206 = .ok (.iload 8, 2) := by decide +kernel
theorem dX5_command_208 : decode cX5_command 208 = .ok (.ifCond .eq 27, 3) := by decide +kernel
theorem dX5_command_211 : decode cX5_command 211 = .ok (.iload 4, 2) := by decide +kernel
theorem dX5_command_213 : decode cX5_command 213 = .ok (.invokestatic 65, 3) := by decide +kernel
theorem dX5_command_216 : decode cX5_command 216 = .ok (.ifCond .eq 19, 3) := by decide +kernel
theorem dX5_command_219 : decode cX5_command 219 = .ok (.aload_n 0, 1) := by decide +kernel
theorem dX5_command_220 : decode cX5_command 220 = .ok (.getfield 16, 3) := by decide +kernel
theorem dX5_command_223 : decode cX5_command 223 = .ok (.iload 4, 2) := by decide +kernel
theorem dX5_command_225 : decode cX5_command 225 = .ok (.invokestatic 129, 3) := by decide +kernel
theorem dX5_command_228 : decode cX5_command 228 = .ok (.ifCond .lt 7, 3) := by decide +kernel
theorem dX5_command_231 : decode cX5_command 231 = .ok (.iconst 1, 1) := by decide +kernel
theorem dX5_command_232 : decode cX5_command 232 = .ok (.goto 4, 3) := by decide +kernel
theorem dX5_command_235 : decode cX5_command 235 = .ok (.iconst 0, 1) := by decide +kernel
theorem dX5_command_236 : decode cX5_command 236 = .ok (.ireturn, 1) := by decide +kernel
theorem dX5_command_237 : decode cX5_command 237 = .ok (.iload 6, 2) := by decide +kernel
theorem dX5_command_239 : decode cX5_command 239 = .ok (.ifCond .ne 29, 3) := by decide +kernel
theorem dX5_command_242 : decode cX5_command 242 = .ok (.aload_n 0, 1) := by decide +kernel
theorem dX5_command_243 : decode cX5_command 243 = .ok (.getfield 16, 3) := by decide +kernel
theorem dX5_command_246 : decode cX5_command 246 = .ok (.iload_n 3, 1) := by decide +kernel
theorem dX5_command_247 : decode cX5_command 247 = .ok (.invokestatic 132, 3) := by decide +kernel
theorem dX5_command_250 : decode cX5_command 250 = .ok (.ifCond .eq 18, 3) := by decide +kernel
theorem dX5_command_253 : decode cX5_command 253 = .ok (.aload_n 0, 1) := by decide +kernel
theorem dX5_command_254 : decode cX5_command 254 = .ok (.getfield 16, 3) := by decide +kernel
theorem dX5_command_257 : decode cX5_command 257 = .ok (.iload_n 3, 1) := by decide +kernel
theorem dX5_command_258 : decode cX5_command 258 = .ok (.invokestatic 135, 3) := by decide +kernel
theorem dX5_command_261 : decode cX5_command 261 = .ok (.ifCond .lt 7, 3) := by decide +kernel
theorem dX5_command_264 : decode cX5_command 264 = .ok (.iconst 1, 1) := by decide +kernel
theorem dX5_command_265 : decode cX5_command 265 = .ok (.goto 4, 3) := by decide +kernel
theorem dX5_command_268 : decode cX5_command 268 = .ok (.iconst 0, 1) := by decide +kernel
theorem dX5_command_269 : decode cX5_command 269 = .ok (.ireturn, 1) := by decide +kernel
theorem dX5_command_270 : decode cX5_command 270 = .ok (.iload 6, 2) := by decide +kernel
theorem dX5_command_272 : decode cX5_command 272 = .ok (.bipush 10, 2) := by decide +kernel
theorem dX5_command_274 : decode cX5_command 274 = .ok (.if_icmp .ge 32, 3) := by decide +kernel
theorem dX5_command_277 : decode cX5_command 277 = .ok (.aload_n 0, 1) := by decide +kernel
theorem dX5_command_278 : decode cX5_command 278 = .ok (.getfield 16, 3) := by decide +kernel
theorem dX5_command_281 : decode cX5_command 281 = .ok (.iload_n 3, 1) := by decide +kernel
theorem dX5_command_282 : decode cX5_command 282 = .ok (.invokestatic 62, 3) := by decide +kernel
theorem dX5_command_285 : decode cX5_command 285 = .ok (.ifCond .eq 21, 3) := by decide +kernel
theorem dX5_command_288 : decode cX5_command 288 = .ok (.aload_n 0, 1) := by decide +kernel
theorem dX5_command_289 : decode cX5_command 289 = .ok (.getfield 16, 3) := by decide +kernel
theorem dX5_command_292 : decode cX5_command 292 = .ok (.iload_n 3, 1) := by decide +kernel
theorem dX5_command_293 : decode cX5_command 293 = .ok (.iconst 4, 1) := by decide +kernel
theorem dX5_command_294 : decode cX5_command 294 = .ok (.invokestatic 43, 3) := by decide +kernel
theorem dX5_command_297 : decode cX5_command 297 = .ok (.iload 6, 2) := by decide +kernel
theorem dX5_command_299 : decode cX5_command 299 = .ok (.if_icmp .ne 7, 3) := by decide +kernel
theorem dX5_command_302 : decode cX5_command 302 = .ok (.iconst 1, 1) := by decide +kernel
theorem dX5_command_303 : decode cX5_command 303 = .ok (.goto 4, 3) := by decide +kernel
theorem dX5_command_306 : decode cX5_command 306 = .ok (.iconst 0, 1) := by decide +kernel
theorem dX5_command_307 : decode cX5_command 307 = .ok (.ireturn, 1) := by decide +kernel
theorem dX5_command_308 : decode cX5_command 308 = .ok (.aload_n 0, 1) := by decide +kernel
theorem dX5_command_309 : decode cX5_command 309 = .ok (.getfield 16, 3) := by decide +kernel
theorem dX5_command_312 : decode cX5_command 312 = .ok (.iload_n 3, 1) := by decide +kernel
theorem dX5_command_313 : decode cX5_command 313 = .ok (.invokestatic 62, 3) := by decide +kernel
theorem dX5_command_316 : decode cX5_command 316 = .ok (.ifCond .eq 21, 3) := by decide +kernel
theorem dX5_command_319 : decode cX5_command 319 = .ok (.aload_n 0, 1) := by decide +kernel
theorem dX5_command_320 : decode cX5_command 320 = .ok (.getfield 16, 3) := by decide +kernel
theorem dX5_command_323 : decode cX5_command 323 = .ok (.iload_n 3, 1) := by decide +kernel
theorem dX5_command_324 : decode cX5_command 324 = .ok (.iconst 1, 1) := by decide +kernel
theorem dX5_command_325 : decode cX5_command 325 = .ok (.invokestatic 43, 3) := by decide +kernel
theorem dX5_command_328 : decode cX5_command 328 = .ok (.iload 6, 2) := by decide +kernel
theorem dX5_command_330 : decode cX5_command 330 = .ok (.if_icmp .ne 7, 3) := by decide +kernel
theorem dX5_command_333 : decode cX5_command 333 = .ok (.iconst 1, 1) := by decide +kernel
theorem dX5_command_334 : decode cX5_command 334 = .ok (.goto 4, 3) := by decide +kernel
theorem dX5_command_337 : decode cX5_command 337 = .ok (.iconst 0, 1) := by decide +kernel
theorem dX5_command_338 : decode cX5_command 338 = .ok (.ireturn, 1) := by decide +kernel
theorem dX5_command_339 : decode cX5_command 339 = .ok (.iload_n 2, 1) := by decide +kernel
theorem dX5_command_340 : decode cX5_command 340 = .ok (.bipush 100, 2) := by decide +kernel
theorem dX5_command_342 : decode cX5_command 342 = .ok (.irem, 1) := by decide +kernel
theorem dX5_command_343 : decode cX5_command 343 = .ok (.bipush 9, 2) := by decide +kernel
theorem dX5_command_345 : decode cX5_command 345 = .ok (.if_icmp .gt 11, 3) := by decide +kernel
theorem dX5_command_348 : decode cX5_command 348 = .ok (.iload 4, 2) := by decide +kernel
theorem dX5_command_350 : decode cX5_command 350 = .ok (.invokestatic 65, 3) := by decide +kernel
theorem dX5_command_353 : decode cX5_command 353 = .ok (.ifCond .ne 5, 3) := by decide +kernel
theorem dX5_command_356 : decode cX5_command 356 = .ok (.iconst 0, 1) := by decide +kernel
theorem dX5_command_357 : decode cX5_command 357 = .ok (.ireturn, 1) := by decide +kernel
theorem dX5_command_358 : decode cX5_command 358 = .ok (.aload_n 0, 1) := by decide +kernel
theorem dX5_command_359 : decode cX5_command 359 = .ok (.getfield 16, 3) := by decide +kernel
theorem dX5_command_362 : decode cX5_command 362 = .ok (.iload 4, 2) := by decide +kernel
theorem dX5_command_364 : decode cX5_command 364 = .ok (.invokestatic 51, 3) := by decide +kernel
theorem dX5_command_367 : decode cX5_command 367 = .ok (.istore 9, 2) := by decide +kernel
theorem dX5_command_369 : decode cX5_command 369 = .ok (.iload 9, 2) := by decide +kernel
theorem dX5_command_371 : decode cX5_command 371 = .ok (.iconst (-1), 1) := by decide +kernel
theorem dX5_command_372 : decode cX5_command 372 = .ok (.if_icmp .ne 8, 3) := by decide +kernel
theorem dX5_command_375 : decode cX5_command 375 = .ok (.bipush 9, 2) := by decide +kernel
theorem dX5_command_377 : decode cX5_command 377 = .ok (.goto 5, 3) := by decide +kernel
theorem dX5_command_380 : decode cX5_command 380 = .ok (.iload 9, 2) := by decide +kernel
theorem dX5_command_382 : decode cX5_command 382 = .ok (.iload_n 2, 1) := by decide +kernel
theorem dX5_command_383 : decode cX5_command 383 = .ok (.bipush 10, 2) := by decide +kernel
theorem dX5_command_385 : decode cX5_command 385 = .ok (.irem, 1) := by decide +kernel
theorem dX5_command_386 : decode cX5_command 386 = .ok (.if_icmp .ne 7, 3) := by decide +kernel
theorem dX5_command_389 : decode cX5_command 389 = .ok (.iconst 1, 1) := by decide +kernel
theorem dX5_command_390 : decode cX5_command 390 = .ok (.goto 4, 3) := by decide +kernel
theorem dX5_command_393 : decode cX5_command 393 = .ok (.iconst 0, 1) := by decide +kernel
theorem dX5_command_394 : decode cX5_command 394 = .ok (.ireturn, 1) := by decide +kernel
theorem dX5_command_395 : decode cX5_command 395 = .ok (.iload_n 2, 1) := by decide +kernel
theorem dX5_command_396 : decode cX5_command 396 = .ok (.bipush 100, 2) := by decide +kernel
theorem dX5_command_398 : decode cX5_command 398 = .ok (.if_icmp .ge 18, 3) := by decide +kernel
theorem dX5_command_401 : decode cX5_command 401 = .ok (.aload_n 0, 1) := by decide +kernel
theorem dX5_command_402 : decode cX5_command 402 = .ok (.getfield 16, 3) := by decide +kernel
theorem dX5_command_405 : decode cX5_command 405 = .ok (.invokestatic 185, 3) := by decide +kernel
theorem dX5_command_408 : decode cX5_command 408 = .ok (.iload_n 2, 1) := by decide +kernel
theorem dX5_command_409 : decode cX5_command 409 = .ok (.if_icmp .gt 7, 3) := by decide +kernel
theorem dX5_command_412 : decode cX5_command 412 = .ok (.iconst 1, 1) := by decide +kernel
theorem dX5_command_413 : decode cX5_command 413 = .ok (.goto 4, 3) := by decide +kernel
theorem dX5_command_416 : decode cX5_command 416 = .ok (.iconst 0, 1) := by decide +kernel
theorem dX5_command_417 : decode cX5_command 417 = .ok (.ireturn, 1) := by decide +kernel
theorem dX5_command_418 : decode cX5_command 418 = .ok (.iconst 0, 1) := by decide +kernel
theorem dX5_command_419 : decode cX5_command 419 = .ok (.ireturn, 1) := by decide +kernel
theorem dX5_runScript_0 : decode cX5_runScript 0 = .ok (.lconst 1, 1) := by decide +kernel
theorem dX5_runScript_1 : decode cX5_runScript 1 = .ok (.lstore 4, 2) := by decide +kernel
theorem dX5_runScript_3 : decode cX5_runScript 3 = .ok (.iconst 0, 1) := by decide +kernel
theorem dX5_runScript_4 : decode cX5_runScript 4 = .ok (.istore 6, 2) := by decide +kernel
theorem dX5_runScript_6 : decode cX5_runScript 6 = .ok (.iload 6, 2) := by decide +kernel
theorem dX5_runScript_8 : decode cX5_runScript 8 = .ok (.iload_n 1, 1) := by decide +kernel
theorem dX5_runScript_9 : decode cX5_runScript 9 = .ok (.if_icmp .ge 23, 3) := by decide +kernel
theorem dX5_runScript_12 : decode cX5_runScript 12 = .ok (.iload 6, 2) := by decide +kernel
theorem dX5_runScript_14 : decode cX5_runScript 14 = .ok (.iconst 3, 1) := by decide +kernel
theorem dX5_runScript_15 : decode cX5_runScript 15 = .ok (.if_icmp .ge 17, 3) := by decide +kernel
theorem dX5_runScript_18 : decode cX5_runScript 18 = .ok (.lload 4, 2) := by decide +kernel
theorem dX5_runScript_20 : decode cX5_runScript 20 = .ok (.ldc2_w 190, 3) := by decide +kernel
theorem dX5_runScript_23 : decode cX5_runScript 23 = .ok (.lmul, 1) := by decide +kernel
theorem dX5_runScript_24 : decode cX5_runScript 24 = .ok (.lstore 4, 2) := by decide +kernel
theorem dX5_runScript_26 : decode cX5_runScript 26 = .ok (.iinc 6 1, 3) := by decide +kernel
theorem dX5_runScript_29 : decode cX5_runScript 29 = .ok (.goto (-23), 3) := by decide +kernel
theorem dX5_runScript_32 : decode cX5_runScript 32 = .ok (.aload_n 0, 1) := by decide +kernel
theorem dX5_runScript_33 : decode cX5_runScript 33 = .ok (.iload_n 1, 1) := by decide +kernel
theorem dX5_runScript_34 : decode cX5_runScript 34 = .ok (.i2l, 1) := by decide +kernel
theorem dX5_runScript_35 : decode cX5_runScript 35 = .ok (.lconst 1, 1) := by decide +kernel
theorem dX5_runScript_36 : decode cX5_runScript 36 = .ok (.ldc2_w 192, 3) := by decide +kernel
theorem dX5_runScript_39 : decode cX5_runScript 39 = .ok (.invokestatic 37, 3) := by decide +kernel
theorem dX5_runScript_42 : decode cX5_runScript 42 = .ok (.ifCond .eq 19, 3) := by decide +kernel
theorem dX5_runScript_45 : decode cX5_runScript 45 = .ok (.lload_n 2, 1) := by decide +kernel
theorem dX5_runScript_46 : decode cX5_runScript 46 = .ok (.lconst 0, 1) := by decide +kernel
theorem dX5_runScript_47 : decode cX5_runScript 47 = .ok (.lload 4, 2) := by decide +kernel
theorem dX5_runScript_49 : decode cX5_runScript 49 = .ok (.lconst 1, 1) := by decide +kernel
theorem dX5_runScript_50 : decode cX5_runScript 50 = .ok (.lsub, 1) := by decide +kernel
theorem dX5_runScript_51 : decode cX5_runScript 51 = .ok (.invokestatic 37, 3) := by decide +kernel
theorem dX5_runScript_54 : decode cX5_runScript 54 = .ok (.ifCond .eq 7, 3) := by decide +kernel
theorem dX5_runScript_57 : decode cX5_runScript 57 = .ok (.iconst 0, 1) := by decide +kernel
theorem dX5_runScript_58 : decode cX5_runScript 58 = .ok (.goto 4, 3) := by decide +kernel
theorem dX5_runScript_61 : decode cX5_runScript 61 = .ok (.iconst 1, 1) := by decide +kernel
theorem dX5_runScript_62 : decode cX5_runScript 62 = .ok (.invokevirtual 99, 3) := by decide +kernel
theorem dX5_runScript_65 : decode cX5_runScript 65 = .ok (.ifCond .eq 5, 3) := by decide +kernel
theorem dX5_runScript_68 : decode cX5_runScript 68 = .ok (.iconst 0, 1) := by decide +kernel
theorem dX5_runScript_69 : decode cX5_runScript 69 = .ok (.ireturn, 1) := by decide +kernel
theorem dX5_runScript_70 : decode cX5_runScript 70 = .ok (.aload_n 0, 1) := by decide +kernel
theorem dX5_runScript_71 : decode cX5_runScript 71 = .ok (.getfield 13, 3) := by decide +kernel
theorem dX5_runScript_74 : decode cX5_runScript 74 = .ok (.iconst 0, 1) := by decide +kernel
theorem dX5_runScript_75 : decode cX5_runScript 75 = .ok (.aload_n 0, 1) := by decide +kernel
theorem dX5_runScript_76 : decode cX5_runScript 76 = .ok (.getfield 16, 3) := by decide +kernel
theorem dX5_runScript_79 : decode cX5_runScript 79 = .ok (.iconst 0, 1) := by decide +kernel
theorem dX5_runScript_80 : decode cX5_runScript 80 = .ok (.invokestatic 148, 3) := by decide +kernel
theorem dX5_runScript_83 : decode cX5_runScript 83 = .ok (.iconst 0, 1) := by decide +kernel
theorem dX5_runScript_84 : decode cX5_runScript 84 = .ok (.istore 6, 2) := by decide +kernel
theorem dX5_runScript_86 : decode cX5_runScript 86 = .ok (.iload 6, 2) := by decide +kernel
theorem dX5_runScript_88 : decode cX5_runScript 88 = .ok (.iload_n 1, 1) := by decide +kernel
theorem dX5_runScript_89 : decode cX5_runScript 89 = .ok (.if_icmp .ge 50, 3) := by decide +kernel
theorem dX5_runScript_92 : decode cX5_runScript 92 = .ok (.lload 4, 2) := by decide +kernel
theorem dX5_runScript_94 : decode cX5_runScript 94 = .ok (.ldc2_w 190, 3) := by decide +kernel
theorem dX5_runScript_97 : decode cX5_runScript 97 = .ok (.ldiv, 1) := by decide +kernel
theorem dX5_runScript_98 : decode cX5_runScript 98 = .ok (.lstore 4, 2) := by decide +kernel
theorem dX5_runScript_100 : decode cX5_runScript 100 = .ok (.lload_n 2, 1) := by decide +kernel
theorem dX5_runScript_101 : decode cX5_runScript 101 = .ok (.lload 4, 2) := by decide +kernel
theorem dX5_runScript_103 : decode cX5_runScript 103 = .ok (.ldiv, 1) := by decide +kernel
theorem dX5_runScript_104 : decode cX5_runScript 104 = .ok (.ldc2_w 190, 3) := by decide +kernel
theorem dX5_runScript_107 : decode cX5_runScript 107 = .ok (.lrem, 1) := by decide +kernel
theorem dX5_runScript_108 : decode cX5_runScript 108 = .ok (.l2i, 1) := by decide +kernel
theorem dX5_runScript_109 : decode cX5_runScript 109 = .ok (.istore 7, 2) := by decide +kernel
theorem dX5_runScript_111 : decode cX5_runScript 111 = .ok (.aload_n 0, 1) := by decide +kernel
theorem dX5_runScript_112 : decode cX5_runScript 112 = .ok (.iload 7, 2) := by decide +kernel
theorem dX5_runScript_114 : decode cX5_runScript 114 = .ok (.sipush 10000, 3) := by decide +kernel
theorem dX5_runScript_117 : decode cX5_runScript 117 = .ok (.idiv, 1) := by decide +kernel
theorem dX5_runScript_118 : decode cX5_runScript 118 = .ok (.iload 7, 2) := by decide +kernel
theorem dX5_runScript_120 : decode cX5_runScript 120 = .ok (.sipush 10000, 3) := by decide +kernel
theorem dX5_runScript_123 : decode cX5_runScript 123 = .ok (.irem, 1) := by decide +kernel
theorem dX5_runScript_124 : decode cX5_runScript 124 = .ok (.invokevirtual 194, 3) := by decide +kernel
theorem dX5_runScript_127 : decode cX5_runScript 127 = .ok (.ifCond .ne 6, 3) := by decide +kernel
theorem dX5_runScript_130 : decode cX5_runScript 130 = .ok (.iload 6, 2) := by decide +kernel
theorem dX5_runScript_132 : decode cX5_runScript 132 = .ok (.ireturn, 1) := by decide +kernel
theorem dX5_runScript_133 : decode cX5_runScript 133 = .ok (.iinc 6 1, 3) := by decide +kernel
theorem dX5_runScript_136 : decode cX5_runScript 136 = .ok (.goto (-50), 3) := by decide +kernel
theorem dX5_runScript_139 : decode cX5_runScript 139 = .ok (.iconst (-1), 1) := by decide +kernel
theorem dX5_runScript_140 : decode cX5_runScript 140 = .ok (.ireturn, 1) := by decide +kernel
theorem dX5_turn_0 : decode cX5_turn 0 = .ok (.iload_n 1, 1) := by decide +kernel
theorem dX5_turn_1 : decode cX5_turn 1 = .ok (.bipush 8, 2) := by decide +kernel
theorem dX5_turn_3 : decode cX5_turn 3 = .ok (.idiv, 1) := by decide +kernel
theorem dX5_turn_4 : decode cX5_turn 4 = .ok (.istore_n 2, 1) := by decide +kernel
theorem dX5_turn_5 : decode cX5_turn 5 = .ok (.iload_n 1, 1) := by decide +kernel
theorem dX5_turn_6 : decode cX5_turn 6 = .ok (.bipush 8, 2) := by decide +kernel
theorem dX5_turn_8 : decode cX5_turn 8 = .ok (.irem, 1) := by decide +kernel
theorem dX5_turn_9 : decode cX5_turn 9 = .ok (.tableswitch 158 0 4 #[35, 65, 65, 102, 135], 35) := by decide +kernel
theorem dX5_turn_44 : decode cX5_turn 44 = .ok (.aload_n 0, 1) := by decide +kernel
theorem dX5_turn_45 : decode cX5_turn 45 = .ok (.iconst 0, 1) := by decide +kernel
theorem dX5_turn_46 : decode cX5_turn 46 = .ok (.iaload, 1) := by decide +kernel
theorem dX5_turn_47 : decode cX5_turn 47 = .ok (.bipush 6, 2) := by decide +kernel
theorem dX5_turn_49 : decode cX5_turn 49 = .ok (.if_icmp .ge 129, 3) := by decide +kernel
theorem dX5_turn_52 : decode cX5_turn 52 = .ok (.aload_n 0, 1) := by decide +kernel
theorem dX5_turn_53 : decode cX5_turn 53 = .ok (.iconst 1, 1) := by decide +kernel
theorem dX5_turn_54 : decode cX5_turn 54 = .ok (.iload_n 2, 1) := by decide +kernel
theorem dX5_turn_55 : decode cX5_turn 55 = .ok (.bipush 6, 2) := by decide +kernel
theorem dX5_turn_57 : decode cX5_turn 57 = .ok (.irem, 1) := by decide +kernel
theorem dX5_turn_58 : decode cX5_turn 58 = .ok (.iadd, 1) := by decide +kernel
theorem dX5_turn_59 : decode cX5_turn 59 = .ok (.iload_n 2, 1) := by decide +kernel
theorem dX5_turn_60 : decode cX5_turn 60 = .ok (.bipush 8, 2) := by decide +kernel
theorem dX5_turn_62 : decode cX5_turn 62 = .ok (.idiv, 1) := by decide +kernel
theorem dX5_turn_63 : decode cX5_turn 63 = .ok (.sipush 997, 3) := by decide +kernel
theorem dX5_turn_66 : decode cX5_turn 66 = .ok (.irem, 1) := by decide +kernel
theorem dX5_turn_67 : decode cX5_turn 67 = .ok (.invokestatic 112, 3) := by decide +kernel
theorem dX5_turn_70 : decode cX5_turn 70 = .ok (.pop, 1) := by decide +kernel
theorem dX5_turn_71 : decode cX5_turn 71 = .ok (.goto 107, 3) := by decide +kernel
theorem dX5_turn_74 : decode cX5_turn 74 = .ok (.aload_n 0, 1) := by decide +kernel
theorem dX5_turn_75 : decode cX5_turn 75 = .ok (.iload_n 2, 1) := by decide +kernel
theorem dX5_turn_76 : decode cX5_turn 76 = .ok (.bipush 6, 2) := by decide +kernel
theorem dX5_turn_78 : decode cX5_turn 78 = .ok (.irem, 1) := by decide +kernel
theorem dX5_turn_79 : decode cX5_turn 79 = .ok (.iload_n 2, 1) := by decide +kernel
theorem dX5_turn_80 : decode cX5_turn 80 = .ok (.bipush 8, 2) := by decide +kernel
theorem dX5_turn_82 : decode cX5_turn 82 = .ok (.idiv, 1) := by decide +kernel
theorem dX5_turn_83 : decode cX5_turn 83 = .ok (.bipush 12, 2) := by decide +kernel
theorem dX5_turn_85 : decode cX5_turn 85 = .ok (.irem, 1) := by decide +kernel
theorem dX5_turn_86 : decode cX5_turn 86 = .ok (.invokestatic 119, 3) := by decide +kernel
theorem dX5_turn_89 : decode cX5_turn 89 = .ok (.ifCond .eq 89, 3) := by decide +kernel
theorem dX5_turn_92 : decode cX5_turn 92 = .ok (.aload_n 0, 1) := by decide +kernel
theorem dX5_turn_93 : decode cX5_turn 93 = .ok (.iload_n 2, 1) := by decide +kernel
theorem dX5_turn_94 : decode cX5_turn 94 = .ok (.bipush 6, 2) := by decide +kernel
theorem dX5_turn_96 : decode cX5_turn 96 = .ok (.irem, 1) := by decide +kernel
theorem dX5_turn_97 : decode cX5_turn 97 = .ok (.iload_n 2, 1) := by decide +kernel
theorem dX5_turn_98 : decode cX5_turn 98 = .ok (.bipush 8, 2) := by decide +kernel
theorem dX5_turn_100 : decode cX5_turn 100 = .ok (.idiv, 1) := by decide +kernel
theorem dX5_turn_101 : decode cX5_turn 101 = .ok (.bipush 12, 2) := by decide +kernel
theorem dX5_turn_103 : decode cX5_turn 103 = .ok (.irem, 1) := by decide +kernel
theorem dX5_turn_104 : decode cX5_turn 104 = .ok (.invokestatic 123, 3) := by decide +kernel
theorem dX5_turn_107 : decode cX5_turn 107 = .ok (.pop, 1) := by decide +kernel
theorem dX5_turn_108 : decode cX5_turn 108 = .ok (.goto 70, 3) := by decide +kernel
theorem dX5_turn_111 : decode cX5_turn 111 = .ok (.iload_n 2, 1) := by decide +kernel
theorem dX5_turn_112 : decode cX5_turn 112 = .ok (.bipush 16, 2) := by decide +kernel
theorem dX5_turn_114 : decode cX5_turn 114 = .ok (.idiv, 1) := by decide +kernel
theorem dX5_turn_115 : decode cX5_turn 115 = .ok (.iconst 4, 1) := by decide +kernel
theorem dX5_turn_116 : decode cX5_turn 116 = .ok (.irem, 1) := by decide +kernel
theorem dX5_turn_117 : decode cX5_turn 117 = .ok (.ifCond .ne 15, 3) := by decide +kernel
theorem dX5_turn_120 : decode cX5_turn 120 = .ok (.aload_n 0, 1) := by decide +kernel
theorem dX5_turn_121 : decode cX5_turn 121 = .ok (.iload_n 2, 1) := by decide +kernel
theorem dX5_turn_122 : decode cX5_turn 122 = .ok (.bipush 12, 2) := by decide +kernel
theorem dX5_turn_124 : decode cX5_turn 124 = .ok (.irem, 1) := by decide +kernel
theorem dX5_turn_125 : decode cX5_turn 125 = .ok (.invokestatic 126, 3) := by decide +kernel
theorem dX5_turn_128 : decode cX5_turn 128 = .ok (.pop, 1) := by decide +kernel
theorem dX5_turn_129 : decode cX5_turn 129 = .ok (.goto 49, 3) := by decide +kernel
theorem dX5_turn_132 : decode cX5_turn 132 = .ok (.aload_n 0, 1) := by decide +kernel
theorem dX5_turn_133 : decode cX5_turn 133 = .ok (.iload_n 2, 1) := by decide +kernel
theorem dX5_turn_134 : decode cX5_turn 134 = .ok (.bipush 12, 2) := by decide +kernel
theorem dX5_turn_136 : decode cX5_turn 136 = .ok (.irem, 1) := by decide +kernel
theorem dX5_turn_137 : decode cX5_turn 137 = .ok (.invokestatic 129, 3) := by decide +kernel
theorem dX5_turn_140 : decode cX5_turn 140 = .ok (.pop, 1) := by decide +kernel
theorem dX5_turn_141 : decode cX5_turn 141 = .ok (.goto 37, 3) := by decide +kernel
theorem dX5_turn_144 : decode cX5_turn 144 = .ok (.aload_n 0, 1) := by decide +kernel
theorem dX5_turn_145 : decode cX5_turn 145 = .ok (.iload_n 2, 1) := by decide +kernel
theorem dX5_turn_146 : decode cX5_turn 146 = .ok (.bipush 6, 2) := by decide +kernel
theorem dX5_turn_148 : decode cX5_turn 148 = .ok (.irem, 1) := by decide +kernel
theorem dX5_turn_149 : decode cX5_turn 149 = .ok (.invokestatic 132, 3) := by decide +kernel
theorem dX5_turn_152 : decode cX5_turn 152 = .ok (.ifCond .eq 26, 3) := by decide +kernel
theorem dX5_turn_155 : decode cX5_turn 155 = .ok (.aload_n 0, 1) := by decide +kernel
theorem dX5_turn_156 : decode cX5_turn 156 = .ok (.iload_n 2, 1) := by decide +kernel
theorem dX5_turn_157 : decode cX5_turn 157 = .ok (.bipush 6, 2) := by decide +kernel
theorem dX5_turn_159 : decode cX5_turn 159 = .ok (.irem, 1) := by decide +kernel
theorem dX5_turn_160 : decode cX5_turn 160 = .ok (.invokestatic 135, 3) := by decide +kernel
theorem dX5_turn_163 : decode cX5_turn 163 = .ok (.pop, 1) := by decide +kernel
theorem dX5_turn_164 : decode cX5_turn 164 = .ok (.goto 14, 3) := by decide +kernel
theorem dX5_turn_167 : decode cX5_turn 167 = .ok (.aload_n 0, 1) := by decide +kernel
theorem dX5_turn_168 : decode cX5_turn 168 = .ok (.iconst 1, 1) := by decide +kernel
theorem dX5_turn_169 : decode cX5_turn 169 = .ok (.iload_n 2, 1) := by decide +kernel
theorem dX5_turn_170 : decode cX5_turn 170 = .ok (.bipush 20, 2) := by decide +kernel
theorem dX5_turn_172 : decode cX5_turn 172 = .ok (.irem, 1) := by decide +kernel
theorem dX5_turn_173 : decode cX5_turn 173 = .ok (.iadd, 1) := by decide +kernel
theorem dX5_turn_174 : decode cX5_turn 174 = .ok (.invokestatic 138, 3) := by decide +kernel
theorem dX5_turn_177 : decode cX5_turn 177 = .ok (.pop, 1) := by decide +kernel
theorem dX5_turn_178 : decode cX5_turn 178 = .ok (.return_, 1) := by decide +kernel
theorem dX5_simulate_0 : decode cX5_simulate 0 = .ok (.aload_n 0, 1) := by decide +kernel
theorem dX5_simulate_1 : decode cX5_simulate 1 = .ok (.iload_n 3, 1) := by decide +kernel
theorem dX5_simulate_2 : decode cX5_simulate 2 = .ok (.i2l, 1) := by decide +kernel
theorem dX5_simulate_3 : decode cX5_simulate 3 = .ok (.lconst 1, 1) := by decide +kernel
theorem dX5_simulate_4 : decode cX5_simulate 4 = .ok (.ldc2_w 174, 3) := by decide +kernel
theorem dX5_simulate_7 : decode cX5_simulate 7 = .ok (.invokestatic 37, 3) := by decide +kernel
theorem dX5_simulate_10 : decode cX5_simulate 10 = .ok (.ifCond .eq 7, 3) := by decide +kernel
theorem dX5_simulate_13 : decode cX5_simulate 13 = .ok (.iconst 0, 1) := by decide +kernel
theorem dX5_simulate_14 : decode cX5_simulate 14 = .ok (.goto 4, 3) := by decide +kernel
theorem dX5_simulate_17 : decode cX5_simulate 17 = .ok (.iconst 1, 1) := by decide +kernel
theorem dX5_simulate_18 : decode cX5_simulate 18 = .ok (.invokevirtual 99, 3) := by decide +kernel
theorem dX5_simulate_21 : decode cX5_simulate 21 = .ok (.ifCond .eq 5, 3) := by decide +kernel
theorem dX5_simulate_24 : decode cX5_simulate 24 = .ok (.iconst 0, 1) := by decide +kernel
theorem dX5_simulate_25 : decode cX5_simulate 25 = .ok (.ireturn, 1) := by decide +kernel
theorem dX5_simulate_26 : decode cX5_simulate 26 = .ok (.aload_n 0, 1) := by decide +kernel
theorem dX5_simulate_27 : decode cX5_simulate 27 = .ok (.getfield 13, 3) := by decide +kernel
theorem dX5_simulate_30 : decode cX5_simulate 30 = .ok (.iconst 0, 1) := by decide +kernel
theorem dX5_simulate_31 : decode cX5_simulate 31 = .ok (.aload_n 0, 1) := by decide +kernel
theorem dX5_simulate_32 : decode cX5_simulate 32 = .ok (.getfield 16, 3) := by decide +kernel
theorem dX5_simulate_35 : decode cX5_simulate 35 = .ok (.iconst 0, 1) := by decide +kernel
theorem dX5_simulate_36 : decode cX5_simulate 36 = .ok (.invokestatic 148, 3) := by decide +kernel
theorem dX5_simulate_39 : decode cX5_simulate 39 = .ok (.lload_n 1, 1) := by decide +kernel
theorem dX5_simulate_40 : decode cX5_simulate 40 = .ok (.lstore 4, 2) := by decide +kernel
theorem dX5_simulate_42 : decode cX5_simulate 42 = .ok (.iconst 0, 1) := by decide +kernel
theorem dX5_simulate_43 : decode cX5_simulate 43 = .ok (.istore 6, 2) := by decide +kernel
theorem dX5_simulate_45 : decode cX5_simulate 45 = .ok (.iload 6, 2) := by decide +kernel
theorem dX5_simulate_47 : decode cX5_simulate 47 = .ok (.iload_n 3, 1) := by decide +kernel
theorem dX5_simulate_48 : decode cX5_simulate 48 = .ok (.if_icmp .ge 34, 3) := by decide +kernel
theorem dX5_simulate_51 : decode cX5_simulate 51 = .ok (.lload 4, 2) := by decide +kernel
theorem dX5_simulate_53 : decode cX5_simulate 53 = .ok (.ldc2_w 197, 3) := by decide +kernel
theorem dX5_simulate_56 : decode cX5_simulate 56 = .ok (.lmul, 1) := by decide +kernel
theorem dX5_simulate_57 : decode cX5_simulate 57 = .ok (.ldc2_w 199, 3) := by decide +kernel
theorem dX5_simulate_60 : decode cX5_simulate 60 = .ok (.ladd, 1) := by decide +kernel
theorem dX5_simulate_61 : decode cX5_simulate 61 = .ok (.lstore 4, 2) := by decide +kernel
theorem dX5_simulate_63 : decode cX5_simulate 63 = .ok (.aload_n 0, 1) := by decide +kernel
theorem dX5_simulate_64 : decode cX5_simulate 64 = .ok (.getfield 16, 3) := by decide +kernel
theorem dX5_simulate_67 : decode cX5_simulate 67 = .ok (.lload 4, 2) := by decide +kernel
theorem dX5_simulate_69 : decode cX5_simulate 69 = .ok (.bipush 33, 2) := by decide +kernel
theorem dX5_simulate_71 : decode cX5_simulate 71 = .ok (.lushr, 1) := by decide +kernel
theorem dX5_simulate_72 : decode cX5_simulate 72 = .ok (.l2i, 1) := by decide +kernel
theorem dX5_simulate_73 : decode cX5_simulate 73 = .ok (.invokestatic 201, 3) := by decide +kernel
theorem dX5_simulate_76 : decode cX5_simulate 76 = .ok (.iinc 6 1, 3) := by decide +kernel
theorem dX5_simulate_79 : decode cX5_simulate 79 = .ok (.goto (-34), 3) := by decide +kernel
theorem dX5_simulate_82 : decode cX5_simulate 82 = .ok (.aload_n 0, 1) := by decide +kernel
theorem dX5_simulate_83 : decode cX5_simulate 83 = .ok (.getfield 16, 3) := by decide +kernel
theorem dX5_simulate_86 : decode cX5_simulate 86 = .ok (.iconst 4, 1) := by decide +kernel
theorem dX5_simulate_87 : decode cX5_simulate 87 = .ok (.iaload, 1) := by decide +kernel
theorem dX5_simulate_88 : decode cX5_simulate 88 = .ok (.aload_n 0, 1) := by decide +kernel
theorem dX5_simulate_89 : decode cX5_simulate 89 = .ok (.getfield 13, 3) := by decide +kernel
theorem dX5_simulate_92 : decode cX5_simulate 92 = .ok (.iconst 4, 1) := by decide +kernel
theorem dX5_simulate_93 : decode cX5_simulate 93 = .ok (.iaload, 1) := by decide +kernel
theorem dX5_simulate_94 : decode cX5_simulate 94 = .ok (.isub, 1) := by decide +kernel
theorem dX5_simulate_95 : decode cX5_simulate 95 = .ok (.istore 6, 2) := by decide +kernel
theorem dX5_simulate_97 : decode cX5_simulate 97 = .ok (.sipush 10000, 3) := by decide +kernel
theorem dX5_simulate_100 : decode cX5_simulate 100 = .ok (.aload_n 0, 1) := by decide +kernel
theorem dX5_simulate_101 : decode cX5_simulate 101 = .ok (.getfield 16, 3) := by decide +kernel
theorem dX5_simulate_104 : decode cX5_simulate 104 = .ok (.invokestatic 160, 3) := by decide +kernel
theorem dX5_simulate_107 : decode cX5_simulate 107 = .ok (.imul, 1) := by decide +kernel
theorem dX5_simulate_108 : decode cX5_simulate 108 = .ok (.iload 6, 2) := by decide +kernel
theorem dX5_simulate_110 : decode cX5_simulate 110 = .ok (.sipush 9999, 3) := by decide +kernel
theorem dX5_simulate_113 : decode cX5_simulate 113 = .ok (.if_icmp .le 9, 3) := by decide +kernel
theorem dX5_simulate_116 : decode cX5_simulate 116 = .ok (.sipush 9999, 3) := by decide +kernel
theorem dX5_simulate_119 : decode cX5_simulate 119 = .ok (.goto 5, 3) := by decide +kernel
theorem dX5_simulate_122 : decode cX5_simulate 122 = .ok (.iload 6, 2) := by decide +kernel
theorem dX5_simulate_124 : decode cX5_simulate 124 = .ok (.iadd, 1) := by decide +kernel
theorem dX5_simulate_125 : decode cX5_simulate 125 = .ok (.ireturn, 1) := by decide +kernel
theorem dX5_save_0 : decode cX5_save 0 = .ok (.aload_n 0, 1) := by decide +kernel
theorem dX5_save_1 : decode cX5_save 1 = .ok (.iload_n 1, 1) := by decide +kernel
theorem dX5_save_2 : decode cX5_save 2 = .ok (.i2l, 1) := by decide +kernel
theorem dX5_save_3 : decode cX5_save 3 = .ok (.lconst 0, 1) := by decide +kernel
theorem dX5_save_4 : decode cX5_save 4 = .ok (.lconst 1, 1) := by decide +kernel
theorem dX5_save_5 : decode cX5_save 5 = .ok (.invokestatic 37, 3) := by decide +kernel
theorem dX5_save_8 : decode cX5_save 8 = .ok (.ifCond .eq 7, 3) := by decide +kernel
theorem dX5_save_11 : decode cX5_save 11 = .ok (.iconst 0, 1) := by decide +kernel
theorem dX5_save_12 : decode cX5_save 12 = .ok (.goto 4, 3) := by decide +kernel
theorem dX5_save_15 : decode cX5_save 15 = .ok (.iconst 1, 1) := by decide +kernel
theorem dX5_save_16 : decode cX5_save 16 = .ok (.invokevirtual 99, 3) := by decide +kernel
theorem dX5_save_19 : decode cX5_save 19 = .ok (.ifCond .eq 5, 3) := by decide +kernel
theorem dX5_save_22 : decode cX5_save 22 = .ok (.iconst 0, 1) := by decide +kernel
theorem dX5_save_23 : decode cX5_save 23 = .ok (.ireturn, 1) := by decide +kernel
theorem dX5_save_24 : decode cX5_save 24 = .ok (.aload_n 0, 1) := by decide +kernel
theorem dX5_save_25 : decode cX5_save 25 = .ok (.getfield 13, 3) := by decide +kernel
theorem dX5_save_28 : decode cX5_save 28 = .ok (.iconst 0, 1) := by decide +kernel
theorem dX5_save_29 : decode cX5_save 29 = .ok (.aload_n 0, 1) := by decide +kernel
theorem dX5_save_30 : decode cX5_save 30 = .ok (.getfield 22, 3) := by decide +kernel
theorem dX5_save_33 : decode cX5_save 33 = .ok (.bipush 65, 2) := by decide +kernel
theorem dX5_save_35 : decode cX5_save 35 = .ok (.iload_n 1, 1) := by decide +kernel
theorem dX5_save_36 : decode cX5_save 36 = .ok (.imul, 1) := by decide +kernel
theorem dX5_save_37 : decode cX5_save 37 = .ok (.invokestatic 148, 3) := by decide +kernel
theorem dX5_save_40 : decode cX5_save 40 = .ok (.aload_n 0, 1) := by decide +kernel
theorem dX5_save_41 : decode cX5_save 41 = .ok (.getfield 25, 3) := by decide +kernel
theorem dX5_save_44 : decode cX5_save 44 = .ok (.iload_n 1, 1) := by decide +kernel
theorem dX5_save_45 : decode cX5_save 45 = .ok (.iconst 1, 1) := by decide +kernel
theorem dX5_save_46 : decode cX5_save 46 = .ok (.bastore, 1) := by decide +kernel
theorem dX5_save_47 : decode cX5_save 47 = .ok (.aload_n 0, 1) := by decide +kernel
theorem dX5_save_48 : decode cX5_save 48 = .ok (.getfield 13, 3) := by decide +kernel
theorem dX5_save_51 : decode cX5_save 51 = .ok (.iconst 1, 1) := by decide +kernel
theorem dX5_save_52 : decode cX5_save 52 = .ok (.iaload, 1) := by decide +kernel
theorem dX5_save_53 : decode cX5_save 53 = .ok (.ireturn, 1) := by decide +kernel
theorem dX5_restore_0 : decode cX5_restore 0 = .ok (.aload_n 0, 1) := by decide +kernel
theorem dX5_restore_1 : decode cX5_restore 1 = .ok (.iload_n 1, 1) := by decide +kernel
theorem dX5_restore_2 : decode cX5_restore 2 = .ok (.i2l, 1) := by decide +kernel
theorem dX5_restore_3 : decode cX5_restore 3 = .ok (.lconst 0, 1) := by decide +kernel
theorem dX5_restore_4 : decode cX5_restore 4 = .ok (.lconst 1, 1) := by decide +kernel
theorem dX5_restore_5 : decode cX5_restore 5 = .ok (.invokestatic 37, 3) := by decide +kernel
theorem dX5_restore_8 : decode cX5_restore 8 = .ok (.ifCond .ne 7, 3) := by decide +kernel
theorem dX5_restore_11 : decode cX5_restore 11 = .ok (.iconst 1, 1) := by decide +kernel
theorem dX5_restore_12 : decode cX5_restore 12 = .ok (.goto 17, 3) := by decide +kernel
theorem dX5_restore_15 : decode cX5_restore 15 = .ok (.aload_n 0, 1) := by decide +kernel
theorem dX5_restore_16 : decode cX5_restore 16 = .ok (.getfield 25, 3) := by decide +kernel
theorem dX5_restore_19 : decode cX5_restore 19 = .ok (.iload_n 1, 1) := by decide +kernel
theorem dX5_restore_20 : decode cX5_restore 20 = .ok (.baload, 1) := by decide +kernel
theorem dX5_restore_21 : decode cX5_restore 21 = .ok (.ifCond .ne 7, 3) := by decide +kernel
theorem dX5_restore_24 : decode cX5_restore 24 = .ok (.iconst 2, 1) := by decide +kernel
theorem dX5_restore_25 : decode cX5_restore 25 = .ok (.goto 4, 3) := by decide +kernel
theorem dX5_restore_28 : decode cX5_restore 28 = .ok (.iconst 0, 1) := by decide +kernel
theorem dX5_restore_29 : decode cX5_restore 29 = .ok (.invokevirtual 99, 3) := by decide +kernel
theorem dX5_restore_32 : decode cX5_restore 32 = .ok (.ifCond .eq 5, 3) := by decide +kernel
theorem dX5_restore_35 : decode cX5_restore 35 = .ok (.iconst 0, 1) := by decide +kernel
theorem dX5_restore_36 : decode cX5_restore 36 = .ok (.ireturn, 1) := by decide +kernel
theorem dX5_restore_37 : decode cX5_restore 37 = .ok (.aload_n 0, 1) := by decide +kernel
theorem dX5_restore_38 : decode cX5_restore 38 = .ok (.getfield 22, 3) := by decide +kernel
theorem dX5_restore_41 : decode cX5_restore 41 = .ok (.bipush 65, 2) := by decide +kernel
theorem dX5_restore_43 : decode cX5_restore 43 = .ok (.iload_n 1, 1) := by decide +kernel
theorem dX5_restore_44 : decode cX5_restore 44 = .ok (.imul, 1) := by decide +kernel
theorem dX5_restore_45 : decode cX5_restore 45 = .ok (.aload_n 0, 1) := by decide +kernel
theorem dX5_restore_46 : decode cX5_restore 46 = .ok (.getfield 13, 3) := by decide +kernel
theorem dX5_restore_49 : decode cX5_restore 49 = .ok (.iconst 0, 1) := by decide +kernel
theorem dX5_restore_50 : decode cX5_restore 50 = .ok (.invokestatic 148, 3) := by decide +kernel
theorem dX5_restore_53 : decode cX5_restore 53 = .ok (.aload_n 0, 1) := by decide +kernel
theorem dX5_restore_54 : decode cX5_restore 54 = .ok (.iconst 0, 1) := by decide +kernel
theorem dX5_restore_55 : decode cX5_restore 55 = .ok (.putfield 152, 3) := by decide +kernel
theorem dX5_restore_58 : decode cX5_restore 58 = .ok (.aload_n 0, 1) := by decide +kernel
theorem dX5_restore_59 : decode cX5_restore 59 = .ok (.getfield 13, 3) := by decide +kernel
theorem dX5_restore_62 : decode cX5_restore 62 = .ok (.iconst 1, 1) := by decide +kernel
theorem dX5_restore_63 : decode cX5_restore 63 = .ok (.iaload, 1) := by decide +kernel
theorem dX5_restore_64 : decode cX5_restore 64 = .ok (.ireturn, 1) := by decide +kernel
