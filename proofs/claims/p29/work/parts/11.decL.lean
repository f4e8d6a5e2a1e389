theorem dL_doScript_0 : decode cL_doScript 0 = .ok (.aload_n 0, 1) := by decide +kernel
theorem dL_doScript_1 : decode cL_doScript 1 = .ok (.iload_n 1, 1) := by decide +kernel
theorem dL_doScript_2 : decode cL_doScript 2 = .ok (.lload_n 2, 1) := by decide +kernel
theorem dL_doScript_3 : decode cL_doScript 3 = .ok (.invokevirtual 7, 3) := by decide +kernel
theorem dL_doScript_6 : decode cL_doScript 6 = .ok (.ireturn, 1) := by decide +kernel
theorem dL_doScript_7 : decode cL_doScript 7 = .ok (.astore 4, 2) := by decide +kernel
theorem dL_doScript_9 : decode cL_doScript 9 = .ok (.ldc 15, 2) := by decide +kernel
theorem dL_doScript_11 : decode cL_doScript 11 = .ok (.ireturn, 1) := by decide +kernel
theorem dL_doSimulate_0 : decode cL_doSimulate 0 = .ok (.aload_n 0, 1) := by decide +kernel
theorem dL_doSimulate_1 : decode cL_doSimulate 1 = .ok (.lload_n 1, 1) := by decide +kernel
theorem dL_doSimulate_2 : decode cL_doSimulate 2 = .ok (.iload_n 3, 1) := by decide +kernel
theorem dL_doSimulate_3 : decode cL_doSimulate 3 = .ok (.invokevirtual 16, 3) := by decide +kernel
theorem dL_doSimulate_6 : decode cL_doSimulate 6 = .ok (.ireturn, 1) := by decide +kernel
theorem dL_doSimulate_7 : decode cL_doSimulate 7 = .ok (.astore 4, 2) := by decide +kernel
theorem dL_doSimulate_9 : decode cL_doSimulate 9 = .ok (.ldc 15, 2) := by decide +kernel
theorem dL_doSimulate_11 : decode cL_doSimulate 11 = .ok (.ireturn, 1) := by decide +kernel
theorem dL_tryAppend_0 : decode cL_tryAppend 0 = .ok (.aload_n 0, 1) := by decide +kernel
theorem dL_tryAppend_1 : decode cL_tryAppend 1 = .ok (.iload_n 1, 1) := by decide +kernel
theorem dL_tryAppend_2 : decode cL_tryAppend 2 = .ok (.invokevirtual 20, 3) := by decide +kernel
theorem dL_tryAppend_5 : decode cL_tryAppend 5 = .ok (.ireturn, 1) := by decide +kernel
theorem dL_tryAppend_6 : decode cL_tryAppend 6 = .ok (.astore_n 2, 1) := by decide +kernel
theorem dL_tryAppend_7 : decode cL_tryAppend 7 = .ok (.ldc 15, 2) := by decide +kernel
theorem dL_tryAppend_9 : decode cL_tryAppend 9 = .ok (.ireturn, 1) := by decide +kernel
theorem dL_tryAppend_10 : decode cL_tryAppend 10 = .ok (.astore_n 2, 1) := by decide +kernel
theorem dL_tryAppend_11 : decode cL_tryAppend 11 = .ok (.ldc 26, 2) := by decide +kernel
theorem dL_tryAppend_13 : decode cL_tryAppend 13 = .ok (.ireturn, 1) := by decide +kernel
theorem dL_tryLoad_0 : decode cL_tryLoad 0 = .ok (.aload_n 0, 1) := by decide +kernel
theorem dL_tryLoad_1 : decode cL_tryLoad 1 = .ok (.invokevirtual 27, 3) := by decide +kernel
theorem dL_tryLoad_4 : decode cL_tryLoad 4 = .ok (.ireturn, 1) := by decide +kernel
theorem dL_tryLoad_5 : decode cL_tryLoad 5 = .ok (.astore_n 1, 1) := by decide +kernel
theorem dL_tryLoad_6 : decode cL_tryLoad 6 = .ok (.ldc 26, 2) := by decide +kernel
theorem dL_tryLoad_8 : decode cL_tryLoad 8 = .ok (.ireturn, 1) := by decide +kernel
theorem dL_tryAbout_0 : decode cL_tryAbout 0 = .ok (.aload_n 0, 1) := by decide +kernel
theorem dL_tryAbout_1 : decode cL_tryAbout 1 = .ok (.iload_n 1, 1) := by decide +kernel
theorem dL_tryAbout_2 : decode cL_tryAbout 2 = .ok (.invokevirtual 31, 3) := by decide +kernel
theorem dL_tryAbout_5 : decode cL_tryAbout 5 = .ok (.ireturn, 1) := by decide +kernel
theorem dL_tryAbout_6 : decode cL_tryAbout 6 = .ok (.astore_n 2, 1) := by decide +kernel
theorem dL_tryAbout_7 : decode cL_tryAbout 7 = .ok (.ldc 15, 2) := by decide +kernel
theorem dL_tryAbout_9 : decode cL_tryAbout 9 = .ok (.ireturn, 1) := by decide +kernel
theorem dL_tryTask_0 : decode cL_tryTask 0 = .ok (.aload_n 0, 1) := by decide +kernel
theorem dL_tryTask_1 : decode cL_tryTask 1 = .ok (.iload_n 1, 1) := by decide +kernel
theorem dL_tryTask_2 : decode cL_tryTask 2 = .ok (.iload_n 2, 1) := by decide +kernel
theorem dL_tryTask_3 : decode cL_tryTask 3 = .ok (.invokevirtual 34, 3) := by decide +kernel
theorem dL_tryTask_6 : decode cL_tryTask 6 = .ok (.ireturn, 1) := by decide +kernel
theorem dL_tryTask_7 : decode cL_tryTask 7 = .ok (.astore_n 3, 1) := by decide +kernel
theorem dL_tryTask_8 : decode cL_tryTask 8 = .ok (.ldc 40, 2) := by decide +kernel
theorem dL_tryTask_10 : decode cL_tryTask 10 = .ok (.ireturn, 1) := by decide +kernel
theorem dL_tryTask_11 : decode cL_tryTask 11 = .ok (.astore_n 3, 1) := by decide +kernel
theorem dL_tryTask_12 : decode cL_tryTask 12 = .ok (.ldc 15, 2) := by decide +kernel
theorem dL_tryTask_14 : decode cL_tryTask 14 = .ok (.ireturn, 1) := by decide +kernel
theorem dL_tryStripe_0 : decode cL_tryStripe 0 = .ok (.aload_n 0, 1) := by decide +kernel
theorem dL_tryStripe_1 : decode cL_tryStripe 1 = .ok (.iload_n 1, 1) := by decide +kernel
theorem dL_tryStripe_2 : decode cL_tryStripe 2 = .ok (.iload_n 2, 1) := by decide +kernel
theorem dL_tryStripe_3 : decode cL_tryStripe 3 = .ok (.invokevirtual 41, 3) := by decide +kernel
theorem dL_tryStripe_6 : decode cL_tryStripe 6 = .ok (.ireturn, 1) := by decide +kernel
theorem dL_tryStripe_7 : decode cL_tryStripe 7 = .ok (.astore_n 3, 1) := by decide +kernel
theorem dL_tryStripe_8 : decode cL_tryStripe 8 = .ok (.ldc 40, 2) := by decide +kernel
theorem dL_tryStripe_10 : decode cL_tryStripe 10 = .ok (.ireturn, 1) := by decide +kernel
theorem dL_tryStripe_11 : decode cL_tryStripe 11 = .ok (.astore_n 3, 1) := by decide +kernel
theorem dL_tryStripe_12 : decode cL_tryStripe 12 = .ok (.ldc 15, 2) := by decide +kernel
theorem dL_tryStripe_14 : decode cL_tryStripe 14 = .ok (.ireturn, 1) := by decide +kernel
theorem dL_tryJob_0 : decode cL_tryJob 0 = .ok (.aload_n 0, 1) := by decide +kernel
theorem dL_tryJob_1 : decode cL_tryJob 1 = .ok (.iload_n 1, 1) := by decide +kernel
theorem dL_tryJob_2 : decode cL_tryJob 2 = .ok (.invokevirtual 44, 3) := by decide +kernel
theorem dL_tryJob_5 : decode cL_tryJob 5 = .ok (.ireturn, 1) := by decide +kernel
theorem dL_tryJob_6 : decode cL_tryJob 6 = .ok (.astore_n 2, 1) := by decide +kernel
theorem dL_tryJob_7 : decode cL_tryJob 7 = .ok (.ldc 15, 2) := by decide +kernel
theorem dL_tryJob_9 : decode cL_tryJob 9 = .ok (.ireturn, 1) := by decide +kernel
theorem dL_trySetting_0 : decode cL_trySetting 0 = .ok (.aload_n 0, 1) := by decide +kernel
theorem dL_trySetting_1 : decode cL_trySetting 1 = .ok (.iload_n 1, 1) := by decide +kernel
theorem dL_trySetting_2 : decode cL_trySetting 2 = .ok (.invokevirtual 47, 3) := by decide +kernel
theorem dL_trySetting_5 : decode cL_trySetting 5 = .ok (.ireturn, 1) := by decide +kernel
theorem dL_trySetting_6 : decode cL_trySetting 6 = .ok (.astore_n 2, 1) := by decide +kernel
theorem dL_trySetting_7 : decode cL_trySetting 7 = .ok (.ldc 15, 2) := by decide +kernel
theorem dL_trySetting_9 : decode cL_trySetting 9 = .ok (.ireturn, 1) := by decide +kernel
theorem dL_tryAdd_0 : decode cL_tryAdd 0 = .ok (.aload_n 0, 1) := by decide +kernel
theorem dL_tryAdd_1 : decode cL_tryAdd 1 = .ok (.iload_n 1, 1) := by decide +kernel
theorem dL_tryAdd_2 : decode cL_tryAdd 2 = .ok (.iload_n 2, 1) := by decide +kernel
theorem dL_tryAdd_3 : decode cL_tryAdd 3 = .ok (.invokevirtual 50, 3) := by decide +kernel
theorem dL_tryAdd_6 : decode cL_tryAdd 6 = .ok (.ireturn, 1) := by decide +kernel
theorem dL_tryAdd_7 : decode cL_tryAdd 7 = .ok (.astore_n 3, 1) := by decide +kernel
theorem dL_tryAdd_8 : decode cL_tryAdd 8 = .ok (.ldc 15, 2) := by decide +kernel
theorem dL_tryAdd_10 : decode cL_tryAdd 10 = .ok (.ireturn, 1) := by decide +kernel
theorem dL_tryAdd_11 : decode cL_tryAdd 11 = .ok (.astore_n 3, 1) := by decide +kernel
theorem dL_tryAdd_12 : decode cL_tryAdd 12 = .ok (.ldc 26, 2) := by decide +kernel
theorem dL_tryAdd_14 : decode cL_tryAdd 14 = .ok (.ireturn, 1) := by decide +kernel
theorem dL_tryBring_0 : decode cL_tryBring 0 = .ok (.aload_n 0, 1) := by decide +kernel
theorem dL_tryBring_1 : decode cL_tryBring 1 = .ok (.iload_n 1, 1) := by decide +kernel
theorem dL_tryBring_2 : decode cL_tryBring 2 = .ok (.iload_n 2, 1) := by decide +kernel
theorem dL_tryBring_3 : decode cL_tryBring 3 = .ok (.invokevirtual 53, 3) := by decide +kernel
theorem dL_tryBring_6 : decode cL_tryBring 6 = .ok (.ireturn, 1) := by decide +kernel
theorem dL_tryBring_7 : decode cL_tryBring 7 = .ok (.astore_n 3, 1) := by decide +kernel
theorem dL_tryBring_8 : decode cL_tryBring 8 = .ok (.ldc 40, 2) := by decide +kernel
theorem dL_tryBring_10 : decode cL_tryBring 10 = .ok (.ireturn, 1) := by decide +kernel
theorem dL_tryBring_11 : decode cL_tryBring 11 = .ok (.astore_n 3, 1) := by decide +kernel
theorem dL_tryBring_12 : decode cL_tryBring 12 = .ok (.ldc 26, 2) := by decide +kernel
theorem dL_tryBring_14 : decode cL_tryBring 14 = .ok (.ireturn, 1) := by decide +kernel
theorem dL_tryStop_0 : decode cL_tryStop 0 = .ok (.aload_n 0, 1) := by decide +kernel
theorem dL_tryStop_1 : decode cL_tryStop 1 = .ok (.iload_n 1, 1) := by decide +kernel
theorem dL_tryStop_2 : decode cL_tryStop 2 = .ok (.invokevirtual 56, 3) := by decide +kernel
theorem dL_tryStop_5 : decode cL_tryStop 5 = .ok (.ireturn, 1) := by decide +kernel
theorem dL_tryStop_6 : decode cL_tryStop 6 = .ok (.astore_n 2, 1) := by decide +kernel
theorem dL_tryStop_7 : decode cL_tryStop 7 = .ok (.ldc 40, 2) := by decide +kernel
theorem dL_tryStop_9 : decode cL_tryStop 9 = .ok (.ireturn, 1) := by decide +kernel
theorem dL_tryStop_10 : decode cL_tryStop 10 = .ok (.astore_n 2, 1) := by decide +kernel
theorem dL_tryStop_11 : decode cL_tryStop 11 = .ok (.ldc 26, 2) := by decide +kernel
theorem dL_tryStop_13 : decode cL_tryStop 13 = .ok (.ireturn, 1) := by decide +kernel
theorem dL_tryBad_0 : decode cL_tryBad 0 = .ok (.aload_n 0, 1) := by decide +kernel
theorem dL_tryBad_1 : decode cL_tryBad 1 = .ok (.iload_n 1, 1) := by decide +kernel
theorem dL_tryBad_2 : decode cL_tryBad 2 = .ok (.invokevirtual 59, 3) := by decide +kernel
theorem dL_tryBad_5 : decode cL_tryBad 5 = .ok (.ireturn, 1) := by decide +kernel
theorem dL_tryBad_6 : decode cL_tryBad 6 = .ok (.astore_n 2, 1) := by decide +kernel
theorem dL_tryBad_7 : decode cL_tryBad 7 = .ok (.ldc 40, 2) := by decide +kernel
theorem dL_tryBad_9 : decode cL_tryBad 9 = .ok (.ireturn, 1) := by decide +kernel
theorem dL_tryMend_0 : decode cL_tryMend 0 = .ok (.aload_n 0, 1) := by decide +kernel
theorem dL_tryMend_1 : decode cL_tryMend 1 = .ok (.iload_n 1, 1) := by decide +kernel
theorem dL_tryMend_2 : decode cL_tryMend 2 = .ok (.invokevirtual 62, 3) := by decide +kernel
theorem dL_tryMend_5 : decode cL_tryMend 5 = .ok (.ireturn, 1) := by decide +kernel
theorem dL_tryMend_6 : decode cL_tryMend 6 = .ok (.astore_n 2, 1) := by decide +kernel
theorem dL_tryMend_7 : decode cL_tryMend 7 = .ok (.ldc 40, 2) := by decide +kernel
theorem dL_tryMend_9 : decode cL_tryMend 9 = .ok (.ireturn, 1) := by decide +kernel
theorem dL_tryRun_0 : decode cL_tryRun 0 = .ok (.aload_n 0, 1) := by decide +kernel
theorem dL_tryRun_1 : decode cL_tryRun 1 = .ok (.iload_n 1, 1) := by decide +kernel
theorem dL_tryRun_2 : decode cL_tryRun 2 = .ok (.invokevirtual 65, 3) := by decide +kernel
theorem dL_tryRun_5 : decode cL_tryRun 5 = .ok (.ireturn, 1) := by decide +kernel
theorem dL_tryRun_6 : decode cL_tryRun 6 = .ok (.astore_n 2, 1) := by decide +kernel
theorem dL_tryRun_7 : decode cL_tryRun 7 = .ok (.ldc 15, 2) := by decide +kernel
theorem dL_tryRun_9 : decode cL_tryRun 9 = .ok (.ireturn, 1) := by decide +kernel
theorem dL_tryLay_0 : decode cL_tryLay 0 = .ok (.aload_n 0, 1) := by decide +kernel
theorem dL_tryLay_1 : decode cL_tryLay 1 = .ok (.iload_n 1, 1) := by decide +kernel
theorem dL_tryLay_2 : decode cL_tryLay 2 = .ok (.iload_n 2, 1) := by decide +kernel
theorem dL_tryLay_3 : decode cL_tryLay 3 = .ok (.invokevirtual 68, 3) := by decide +kernel
theorem dL_tryLay_6 : decode cL_tryLay 6 = .ok (.ireturn, 1) := by decide +kernel
theorem dL_tryLay_7 : decode cL_tryLay 7 = .ok (.astore_n 3, 1) := by decide +kernel
theorem dL_tryLay_8 : decode cL_tryLay 8 = .ok (.ldc 15, 2) := by decide +kernel
theorem dL_tryLay_10 : decode cL_tryLay 10 = .ok (.ireturn, 1) := by decide +kernel
theorem dL_tryUndo_0 : decode cL_tryUndo 0 = .ok (.aload_n 0, 1) := by decide +kernel
theorem dL_tryUndo_1 : decode cL_tryUndo 1 = .ok (.invokevirtual 71, 3) := by decide +kernel
theorem dL_tryUndo_4 : decode cL_tryUndo 4 = .ok (.ireturn, 1) := by decide +kernel
theorem dL_tryUndo_5 : decode cL_tryUndo 5 = .ok (.astore_n 1, 1) := by decide +kernel
theorem dL_tryUndo_6 : decode cL_tryUndo 6 = .ok (.ldc 26, 2) := by decide +kernel
theorem dL_tryUndo_8 : decode cL_tryUndo 8 = .ok (.ireturn, 1) := by decide +kernel
theorem dL_tryGap_0 : decode cL_tryGap 0 = .ok (.aload_n 0, 1) := by decide +kernel
theorem dL_tryGap_1 : decode cL_tryGap 1 = .ok (.iload_n 1, 1) := by decide +kernel
theorem dL_tryGap_2 : decode cL_tryGap 2 = .ok (.invokevirtual 74, 3) := by decide +kernel
theorem dL_tryGap_5 : decode cL_tryGap 5 = .ok (.ireturn, 1) := by decide +kernel
theorem dL_tryGap_6 : decode cL_tryGap 6 = .ok (.astore_n 2, 1) := by decide +kernel
theorem dL_tryGap_7 : decode cL_tryGap 7 = .ok (.ldc 15, 2) := by decide +kernel
theorem dL_tryGap_9 : decode cL_tryGap 9 = .ok (.ireturn, 1) := by decide +kernel
theorem dL_tryWindow_0 : decode cL_tryWindow 0 = .ok (.aload_n 0, 1) := by decide +kernel
theorem dL_tryWindow_1 : decode cL_tryWindow 1 = .ok (.iload_n 1, 1) := by decide +kernel
theorem dL_tryWindow_2 : decode cL_tryWindow 2 = .ok (.iload_n 2, 1) := by decide +kernel
theorem dL_tryWindow_3 : decode cL_tryWindow 3 = .ok (.invokevirtual 77, 3) := by decide +kernel
theorem dL_tryWindow_6 : decode cL_tryWindow 6 = .ok (.ireturn, 1) := by decide +kernel
theorem dL_tryWindow_7 : decode cL_tryWindow 7 = .ok (.astore_n 3, 1) := by decide +kernel
theorem dL_tryWindow_8 : decode cL_tryWindow 8 = .ok (.ldc 15, 2) := by decide +kernel
theorem dL_tryWindow_10 : decode cL_tryWindow 10 = .ok (.ireturn, 1) := by decide +kernel
theorem dL_tryComing_0 : decode cL_tryComing 0 = .ok (.aload_n 0, 1) := by decide +kernel
theorem dL_tryComing_1 : decode cL_tryComing 1 = .ok (.iload_n 1, 1) := by decide +kernel
theorem dL_tryComing_2 : decode cL_tryComing 2 = .ok (.iload_n 2, 1) := by decide +kernel
theorem dL_tryComing_3 : decode cL_tryComing 3 = .ok (.iload_n 3, 1) := by decide +kernel
theorem dL_tryComing_4 : decode cL_tryComing 4 = .ok (.invokevirtual 80, 3) := by decide +kernel
theorem dL_tryComing_7 : decode cL_tryComing 7 = .ok (.ireturn, 1) := by decide +kernel
theorem dL_tryComing_8 : decode cL_tryComing 8 = .ok (.astore 4, 2) := by decide +kernel
theorem dL_tryComing_10 : decode cL_tryComing 10 = .ok (.ldc 40, 2) := by decide +kernel
theorem dL_tryComing_12 : decode cL_tryComing 12 = .ok (.ireturn, 1) := by decide +kernel
theorem dL_tryComing_13 : decode cL_tryComing 13 = .ok (.astore 4, 2) := by decide +kernel
theorem dL_tryComing_15 : decode cL_tryComing 15 = .ok (.ldc 15, 2) := by decide +kernel
theorem dL_tryComing_17 : decode cL_tryComing 17 = .ok (.ireturn, 1) := by decide +kernel
theorem dL_tryLost_0 : decode cL_tryLost 0 = .ok (.aload_n 0, 1) := by decide +kernel
theorem dL_tryLost_1 : decode cL_tryLost 1 = .ok (.iload_n 1, 1) := by decide +kernel
theorem dL_tryLost_2 : decode cL_tryLost 2 = .ok (.invokevirtual 84, 3) := by decide +kernel
theorem dL_tryLost_5 : decode cL_tryLost 5 = .ok (.ireturn, 1) := by decide +kernel
theorem dL_tryLost_6 : decode cL_tryLost 6 = .ok (.astore_n 2, 1) := by decide +kernel
theorem dL_tryLost_7 : decode cL_tryLost 7 = .ok (.ldc 40, 2) := by decide +kernel
theorem dL_tryLost_9 : decode cL_tryLost 9 = .ok (.ireturn, 1) := by decide +kernel
theorem dL_tryKeep_0 : decode cL_tryKeep 0 = .ok (.aload_n 0, 1) := by decide +kernel
theorem dL_tryKeep_1 : decode cL_tryKeep 1 = .ok (.iload_n 1, 1) := by decide +kernel
theorem dL_tryKeep_2 : decode cL_tryKeep 2 = .ok (.invokevirtual 87, 3) := by decide +kernel
theorem dL_tryKeep_5 : decode cL_tryKeep 5 = .ok (.ireturn, 1) := by decide +kernel
theorem dL_tryKeep_6 : decode cL_tryKeep 6 = .ok (.astore_n 2, 1) := by decide +kernel
theorem dL_tryKeep_7 : decode cL_tryKeep 7 = .ok (.ldc 40, 2) := by decide +kernel
theorem dL_tryKeep_9 : decode cL_tryKeep 9 = .ok (.ireturn, 1) := by decide +kernel
theorem dL_tryBack_0 : decode cL_tryBack 0 = .ok (.aload_n 0, 1) := by decide +kernel
theorem dL_tryBack_1 : decode cL_tryBack 1 = .ok (.iload_n 1, 1) := by decide +kernel
theorem dL_tryBack_2 : decode cL_tryBack 2 = .ok (.invokevirtual 90, 3) := by decide +kernel
theorem dL_tryBack_5 : decode cL_tryBack 5 = .ok (.ireturn, 1) := by decide +kernel
theorem dL_tryBack_6 : decode cL_tryBack 6 = .ok (.astore_n 2, 1) := by decide +kernel
theorem dL_tryBack_7 : decode cL_tryBack 7 = .ok (.ldc 40, 2) := by decide +kernel
theorem dL_tryBack_9 : decode cL_tryBack 9 = .ok (.ireturn, 1) := by decide +kernel
theorem dL_tryBack_10 : decode cL_tryBack 10 = .ok (.astore_n 2, 1) := by decide +kernel
theorem dL_tryBack_11 : decode cL_tryBack 11 = .ok (.ldc 26, 2) := by decide +kernel
theorem dL_tryBack_13 : decode cL_tryBack 13 = .ok (.ireturn, 1) := by decide +kernel
theorem dL_call_0 : decode cL_call 0 = .ok (.iload_n 1, 1) := by decide +kernel
theorem dL_call_1 : decode cL_call 1 = .ok (.tableswitch 222 0 19 #[95, 101, 106, 112, 119, 126, 132, 138, 145, 152, 158, 164, 170, 176, 183, 188, 194, 201, 210, 216], 95) := by decide +kernel
theorem dL_call_96 : decode cL_call 96 = .ok (.aload_n 0, 1) := by decide +kernel
theorem dL_call_97 : decode cL_call 97 = .ok (.iload_n 2, 1) := by decide +kernel
theorem dL_call_98 : decode cL_call 98 = .ok (.invokestatic 93, 3) := by decide +kernel
theorem dL_call_101 : decode cL_call 101 = .ok (.ireturn, 1) := by decide +kernel
theorem dL_call_102 : decode cL_call 102 = .ok (.aload_n 0, 1) := by decide +kernel
theorem dL_call_103 : decode cL_call 103 = .ok (.invokestatic 99, 3) := by decide +kernel
theorem dL_call_106 : decode cL_call 106 = .ok (.ireturn, 1) := by decide +kernel
theorem dL_call_107 : decode cL_call 107 = .ok (.aload_n 0, 1) := by decide +kernel
theorem dL_call_108 : decode cL_call 108 = .ok (.iload_n 2, 1) := by decide +kernel
theorem dL_call_109 : decode cL_call 109 = .ok (.invokestatic 103, 3) := by decide +kernel
theorem dL_call_112 : decode cL_call 112 = .ok (.ireturn, 1) := by decide +kernel
theorem dL_call_113 : decode cL_call 113 = .ok (.aload_n 0, 1) := by decide +kernel
theorem dL_call_114 : decode cL_call 114 = .ok (.iload_n 2, 1) := by decide +kernel
theorem dL_call_115 : decode cL_call 115 = .ok (.iload_n 3, 1) := by decide +kernel
theorem dL_call_116 : decode cL_call 116 = .ok (.invokestatic 106, 3) := by decide +kernel
theorem dL_call_119 : decode cL_call 119 = .ok (.ireturn, 1) := by decide +kernel
theorem dL_call_120 : decode cL_call 120 = .ok (.aload_n 0, 1) := by decide +kernel
theorem dL_call_121 : decode cL_call 121 = .ok (.iload_n 2, 1) := by decide +kernel
theorem dL_call_122 : decode cL_call 122 = .ok (.iload_n 3, 1) := by decide +kernel
theorem dL_call_123 : decode cL_call 123 = .ok (.invokestatic 110, 3) := by decide +kernel
theorem dL_call_126 : decode cL_call 126 = .ok (.ireturn, 1) := by decide +kernel
theorem dL_call_127 : decode cL_call 127 = .ok (.aload_n 0, 1) := by decide +kernel
theorem dL_call_128 : decode cL_call 128 = .ok (.iload_n 2, 1) := by decide +kernel
theorem dL_call_129 : decode cL_call 129 = .ok (.invokestatic 113, 3) := by decide +kernel
theorem dL_call_132 : decode cL_call 132 = .ok (.ireturn, 1) := by decide +kernel
theorem dL_call_133 : decode cL_call 133 = .ok (.aload_n 0, 1) := by decide +kernel
theorem dL_call_134 : decode cL_call 134 = .ok (.iload_n 2, 1) := by decide +kernel
theorem dL_call_135 : decode cL_call 135 = .ok (.invokestatic 116, 3) := by decide +kernel
theorem dL_call_138 : decode cL_call 138 = .ok (.ireturn, 1) := by decide +kernel
theorem dL_call_139 : decode cL_call 139 = .ok (.aload_n 0, 1) := by decide +kernel
theorem dL_call_140 : decode cL_call 140 = .ok (.iload_n 2, 1) := by decide +kernel
theorem dL_call_141 : decode cL_call 141 = .ok (.iload_n 3, 1) := by decide +kernel
theorem dL_call_142 : decode cL_call 142 = .ok (.invokestatic 119, 3) := by decide +kernel
theorem dL_call_145 : decode cL_call 145 = .ok (.ireturn, 1) := by decide +kernel
theorem dL_call_146 : decode cL_call 146 = .ok (.aload_n 0, 1) := by decide +kernel
theorem dL_call_147 : decode cL_call 147 = .ok (.iload_n 2, 1) := by decide +kernel
theorem dL_call_148 : decode cL_call 148 = .ok (.iload_n 3, 1) := by decide +kernel
theorem dL_call_149 : decode cL_call 149 = .ok (.invokestatic 122, 3) := by decide +kernel
theorem dL_call_152 : decode cL_call 152 = .ok (.ireturn, 1) := by decide +kernel
theorem dL_call_153 : decode cL_call 153 = .ok (.aload_n 0, 1) := by decide +kernel
theorem dL_call_154 : decode cL_call 154 = .ok (.iload_n 2, 1) := by decide +kernel
theorem dL_call_155 : decode cL_call 155 = .ok (.invokestatic 125, 3) := by decide +kernel
theorem dL_call_158 : decode cL_call 158 = .ok (.ireturn, 1) := by decide +kernel
theorem dL_call_159 : decode cL_call 159 = .ok (.aload_n 0, 1) := by decide +kernel
theorem dL_call_160 : decode cL_call 160 = .ok (.iload_n 2, 1) := by decide +kernel
theorem dL_call_161 : decode cL_call 161 = .ok (.invokestatic 128, 3) := by decide +kernel
theorem dL_call_164 : decode cL_call 164 = .ok (.ireturn, 1) := by decide +kernel
theorem dL_call_165 : decode cL_call 165 = .ok (.aload_n 0, 1) := by decide +kernel
theorem dL_call_166 : decode cL_call 166 = .ok (.iload_n 2, 1) := by decide +kernel
theorem dL_call_167 : decode cL_call 167 = .ok (.invokestatic 131, 3) := by decide +kernel
theorem dL_call_170 : decode cL_call 170 = .ok (.ireturn, 1) := by decide +kernel
theorem dL_call_171 : decode cL_call 171 = .ok (.aload_n 0, 1) := by decide +kernel
theorem dL_call_172 : decode cL_call 172 = .ok (.iload_n 2, 1) := by decide +kernel
theorem dL_call_173 : decode cL_call 173 = .ok (.invokestatic 134, 3) := by decide +kernel
theorem dL_call_176 : decode cL_call 176 = .ok (.ireturn, 1) := by decide +kernel
theorem dL_call_177 : decode cL_call 177 = .ok (.aload_n 0, 1) := by decide +kernel
theorem dL_call_178 : decode cL_call 178 = .ok (.iload_n 2, 1) := by decide +kernel
theorem dL_call_179 : decode cL_call 179 = .ok (.iload_n 3, 1) := by decide +kernel
theorem dL_call_180 : decode cL_call 180 = .ok (.invokestatic 137, 3) := by decide +kernel
theorem dL_call_183 : decode cL_call 183 = .ok (.ireturn, 1) := by decide +kernel
theorem dL_call_184 : decode cL_call 184 = .ok (.aload_n 0, 1) := by decide +kernel
theorem dL_call_185 : decode cL_call 185 = .ok (.invokestatic 140, 3) := by decide +kernel
theorem dL_call_188 : decode cL_call 188 = .ok (.ireturn, 1) := by decide +kernel
theorem dL_call_189 : decode cL_call 189 = .ok (.aload_n 0, 1) := by decide +kernel
theorem dL_call_190 : decode cL_call 190 = .ok (.iload_n 2, 1) := by decide +kernel
theorem dL_call_191 : decode cL_call 191 = .ok (.invokestatic 143, 3) := by decide +kernel
theorem dL_call_194 : decode cL_call 194 = .ok (.ireturn, 1) := by decide +kernel
theorem dL_call_195 : decode cL_call 195 = .ok (.aload_n 0, 1) := by decide +kernel
theorem dL_call_196 : decode cL_call 196 = .ok (.iload_n 2, 1) := by decide +kernel
theorem dL_call_197 : decode cL_call 197 = .ok (.iload_n 3, 1) := by decide +kernel
theorem dL_call_198 : decode cL_call 198 = .ok (.invokestatic 146, 3) := by decide +kernel
theorem dL_call_201 : decode cL_call 201 = .ok (.ireturn, 1) := by decide +kernel
theorem dL_call_202 : decode cL_call 202 = .ok (.aload_n 0, 1) := by decide +kernel
theorem dL_call_203 : decode cL_call 203 = .ok (.iload_n 2, 1) := by decide +kernel
theorem dL_call_204 : decode cL_call 204 = .ok (.iload_n 3, 1) := by decide +kernel
theorem dL_call_205 : decode cL_call 205 = .ok (.iload 4, 2) := by decide +kernel
theorem dL_call_207 : decode cL_call 207 = .ok (.invokestatic 149, 3) := by decide +kernel
theorem dL_call_210 : decode cL_call 210 = .ok (.ireturn, 1) := by decide +kernel
theorem dL_call_211 : decode cL_call 211 = .ok (.aload_n 0, 1) := by decide +kernel
theorem dL_call_212 : decode cL_call 212 = .ok (.iload_n 2, 1) := by decide +kernel
theorem dL_call_213 : decode cL_call 213 = .ok (.invokestatic 153, 3) := by decide +kernel
theorem dL_call_216 : decode cL_call 216 = .ok (.ireturn, 1) := by decide +kernel
theorem dL_call_217 : decode cL_call 217 = .ok (.aload_n 0, 1) := by decide +kernel
theorem dL_call_218 : decode cL_call 218 = .ok (.iload_n 2, 1) := by decide +kernel
theorem dL_call_219 : decode cL_call 219 = .ok (.invokestatic 156, 3) := by decide +kernel
theorem dL_call_222 : decode cL_call 222 = .ok (.ireturn, 1) := by decide +kernel
theorem dL_call_223 : decode cL_call 223 = .ok (.aload_n 0, 1) := by decide +kernel
theorem dL_call_224 : decode cL_call 224 = .ok (.iload_n 2, 1) := by decide +kernel
theorem dL_call_225 : decode cL_call 225 = .ok (.invokestatic 159, 3) := by decide +kernel
theorem dL_call_228 : decode cL_call 228 = .ok (.ireturn, 1) := by decide +kernel
theorem dL_cell_0 : decode cL_cell 0 = .ok (.iload_n 1, 1) := by decide +kernel
theorem dL_cell_1 : decode cL_cell 1 = .ok (.aload_n 0, 1) := by decide +kernel
theorem dL_cell_2 : decode cL_cell 2 = .ok (.arraylength, 1) := by decide +kernel
theorem dL_cell_3 : decode cL_cell 3 = .ok (.if_icmp .ge 9, 3) := by decide +kernel
theorem dL_cell_6 : decode cL_cell 6 = .ok (.aload_n 0, 1) := by decide +kernel
theorem dL_cell_7 : decode cL_cell 7 = .ok (.iload_n 1, 1) := by decide +kernel
theorem dL_cell_8 : decode cL_cell 8 = .ok (.iaload, 1) := by decide +kernel
theorem dL_cell_9 : decode cL_cell 9 = .ok (.goto 13, 3) := by decide +kernel
theorem dL_cell_12 : decode cL_cell 12 = .ok (.ldc 162, 2) := by decide +kernel
theorem dL_cell_14 : decode cL_cell 14 = .ok (.iload_n 1, 1) := by decide +kernel
theorem dL_cell_15 : decode cL_cell 15 = .ok (.iconst 3, 1) := by decide +kernel
theorem dL_cell_16 : decode cL_cell 16 = .ok (.iadd, 1) := by decide +kernel
theorem dL_cell_17 : decode cL_cell 17 = .ok (.imul, 1) := by decide +kernel
theorem dL_cell_18 : decode cL_cell 18 = .ok (.sipush 11287, 3) := by decide +kernel
theorem dL_cell_21 : decode cL_cell 21 = .ok (.iadd, 1) := by decide +kernel
theorem dL_cell_22 : decode cL_cell 22 = .ok (.ldc 163, 2) := by decide +kernel
theorem dL_cell_24 : decode cL_cell 24 = .ok (.iand, 1) := by decide +kernel
theorem dL_cell_25 : decode cL_cell 25 = .ok (.ireturn, 1) := by decide +kernel
theorem dL_thrown_0 : decode cL_thrown 0 = .ok (.iload_n 0, 1) := by decide +kernel
theorem dL_thrown_1 : decode cL_thrown 1 = .ok (.ldc 40, 2) := by decide +kernel
theorem dL_thrown_3 : decode cL_thrown 3 = .ok (.if_icmp .eq 15, 3) := by decide +kernel
theorem dL_thrown_6 : decode cL_thrown 6 = .ok (.iload_n 0, 1) := by decide +kernel
theorem dL_thrown_7 : decode cL_thrown 7 = .ok (.ldc 15, 2) := by decide +kernel
theorem dL_thrown_9 : decode cL_thrown 9 = .ok (.if_icmp .eq 9, 3) := by decide +kernel
theorem dL_thrown_12 : decode cL_thrown 12 = .ok (.iload_n 0, 1) := by decide +kernel
theorem dL_thrown_13 : decode cL_thrown 13 = .ok (.ldc 26, 2) := by decide +kernel
theorem dL_thrown_15 : decode cL_thrown 15 = .ok (.if_icmp .ne 7, 3) := by decide +kernel
theorem dL_thrown_18 : decode cL_thrown 18 = .ok (.iconst 1, 1) := by decide +kernel
theorem dL_thrown_19 : decode cL_thrown 19 = .ok (.goto 4, 3) := by decide +kernel
theorem dL_thrown_22 : decode cL_thrown 22 = .ok (.iconst 0, 1) := by decide +kernel
theorem dL_thrown_23 : decode cL_thrown 23 = .ok (.ireturn, 1) := by decide +kernel
theorem dL_refuses_0 : decode cL_refuses 0 = .ok (.aload_n 0, 1) := by decide +kernel
theorem dL_refuses_1 : decode cL_refuses 1 = .ok (.iconst 2, 1) := by decide +kernel
theorem dL_refuses_2 : decode cL_refuses 2 = .ok (.iconst 0, 1) := by decide +kernel
theorem dL_refuses_3 : decode cL_refuses 3 = .ok (.iconst 0, 1) := by decide +kernel
theorem dL_refuses_4 : decode cL_refuses 4 = .ok (.iconst 0, 1) := by decide +kernel
theorem dL_refuses_5 : decode cL_refuses 5 = .ok (.invokestatic 164, 3) := by decide +kernel
theorem dL_refuses_8 : decode cL_refuses 8 = .ok (.iload_n 1, 1) := by decide +kernel
theorem dL_refuses_9 : decode cL_refuses 9 = .ok (.bipush 50, 2) := by decide +kernel
theorem dL_refuses_11 : decode cL_refuses 11 = .ok (.irem, 1) := by decide +kernel
theorem dL_refuses_12 : decode cL_refuses 12 = .ok (.iadd, 1) := by decide +kernel
theorem dL_refuses_13 : decode cL_refuses 13 = .ok (.istore_n 2, 1) := by decide +kernel
theorem dL_refuses_14 : decode cL_refuses 14 = .ok (.iload_n 1, 1) := by decide +kernel
theorem dL_refuses_15 : decode cL_refuses 15 = .ok (.iconst 2, 1) := by decide +kernel
theorem dL_refuses_16 : decode cL_refuses 16 = .ok (.irem, 1) := by decide +kernel
theorem dL_refuses_17 : decode cL_refuses 17 = .ok (.ifCond .ne 12, 3) := by decide +kernel
theorem dL_refuses_20 : decode cL_refuses 20 = .ok (.iconst (-1), 1) := by decide +kernel
theorem dL_refuses_21 : decode cL_refuses 21 = .ok (.iload_n 1, 1) := by decide +kernel
theorem dL_refuses_22 : decode cL_refuses 22 = .ok (.bipush 99, 2) := by decide +kernel
theorem dL_refuses_24 : decode cL_refuses 24 = .ok (.irem, 1) := by decide +kernel
theorem dL_refuses_25 : decode cL_refuses 25 = .ok (.isub, 1) := by decide +kernel
theorem dL_refuses_26 : decode cL_refuses 26 = .ok (.goto 10, 3) := by decide +kernel
theorem dL_refuses_29 : decode cL_refuses 29 = .ok (.bipush 12, 2) := by decide +kernel
theorem dL_refuses_31 : decode cL_refuses 31 = .ok (.iload_n 1, 1) := by decide +kernel
theorem dL_refuses_32 : decode cL_refuses 32 = .ok (.bipush 99, 2) := by decide +kernel
theorem dL_refuses_34 : decode cL_refuses 34 = .ok (.irem, 1) := by decide +kernel
theorem dL_refuses_35 : decode cL_refuses 35 = .ok (.iadd, 1) := by decide +kernel
theorem dL_refuses_36 : decode cL_refuses 36 = .ok (.istore_n 3, 1) := by decide +kernel
theorem dL_refuses_37 : decode cL_refuses 37 = .ok (.aload_n 0, 1) := by decide +kernel
theorem dL_refuses_38 : decode cL_refuses 38 = .ok (.iconst 0, 1) := by decide +kernel
theorem dL_refuses_39 : decode cL_refuses 39 = .ok (.iload_n 1, 1) := by decide +kernel
theorem dL_refuses_40 : decode cL_refuses 40 = .ok (.iconst 2, 1) := by decide +kernel
theorem dL_refuses_41 : decode cL_refuses 41 = .ok (.irem, 1) := by decide +kernel
theorem dL_refuses_42 : decode cL_refuses 42 = .ok (.ifCond .ne 12, 3) := by decide +kernel
theorem dL_refuses_45 : decode cL_refuses 45 = .ok (.iconst (-1), 1) := by decide +kernel
theorem dL_refuses_46 : decode cL_refuses 46 = .ok (.iload_n 1, 1) := by decide +kernel
theorem dL_refuses_47 : decode cL_refuses 47 = .ok (.bipush 9, 2) := by decide +kernel
theorem dL_refuses_49 : decode cL_refuses 49 = .ok (.irem, 1) := by decide +kernel
theorem dL_refuses_50 : decode cL_refuses 50 = .ok (.isub, 1) := by decide +kernel
theorem dL_refuses_51 : decode cL_refuses 51 = .ok (.goto 11, 3) := by decide +kernel
theorem dL_refuses_54 : decode cL_refuses 54 = .ok (.sipush 256, 3) := by decide +kernel
theorem dL_refuses_57 : decode cL_refuses 57 = .ok (.iload_n 1, 1) := by decide +kernel
theorem dL_refuses_58 : decode cL_refuses 58 = .ok (.bipush 9, 2) := by decide +kernel
theorem dL_refuses_60 : decode cL_refuses 60 = .ok (.irem, 1) := by decide +kernel
theorem dL_refuses_61 : decode cL_refuses 61 = .ok (.iadd, 1) := by decide +kernel
theorem dL_refuses_62 : decode cL_refuses 62 = .ok (.iconst 0, 1) := by decide +kernel
theorem dL_refuses_63 : decode cL_refuses 63 = .ok (.iconst 0, 1) := by decide +kernel
theorem dL_refuses_64 : decode cL_refuses 64 = .ok (.invokestatic 164, 3) := by decide +kernel
theorem dL_refuses_67 : decode cL_refuses 67 = .ok (.ldc 15, 2) := by decide +kernel
theorem dL_refuses_69 : decode cL_refuses 69 = .ok (.if_icmp .ne 601, 3) := by decide +kernel
theorem dL_refuses_72 : decode cL_refuses 72 = .ok (.aload_n 0, 1) := by decide +kernel
theorem dL_refuses_73 : decode cL_refuses 73 = .ok (.iconst 2, 1) := by decide +kernel
theorem dL_refuses_74 : decode cL_refuses 74 = .ok (.bipush 9, 2) := by decide +kernel
theorem dL_refuses_76 : decode cL_refuses 76 = .ok (.iload_n 1, 1) := by decide +kernel
theorem dL_refuses_77 : decode cL_refuses 77 = .ok (.bipush 50, 2) := by decide +kernel
theorem dL_refuses_79 : decode cL_refuses 79 = .ok (.irem, 1) := by decide +kernel
theorem dL_refuses_80 : decode cL_refuses 80 = .ok (.iadd, 1) := by decide +kernel
theorem dL_refuses_81 : decode cL_refuses 81 = .ok (.iconst 0, 1) := by decide +kernel
theorem dL_refuses_82 : decode cL_refuses 82 = .ok (.iconst 0, 1) := by decide +kernel
theorem dL_refuses_83 : decode cL_refuses 83 = .ok (.invokestatic 164, 3) := by decide +kernel
theorem dL_refuses_86 : decode cL_refuses 86 = .ok (.ldc 15, 2) := by decide +kernel
theorem dL_refuses_88 : decode cL_refuses 88 = .ok (.if_icmp .ne 582, 3) := by decide +kernel
theorem dL_refuses_91 : decode cL_refuses 91 = .ok (.aload_n 0, 1) := by decide +kernel
theorem dL_refuses_92 : decode cL_refuses 92 = .ok (.iconst 3, 1) := by decide +kernel
theorem dL_refuses_93 : decode cL_refuses 93 = .ok (.iload_n 2, 1) := by decide +kernel
theorem dL_refuses_94 : decode cL_refuses 94 = .ok (.bipush 9, 2) := by decide +kernel
theorem dL_refuses_96 : decode cL_refuses 96 = .ok (.iconst 0, 1) := by decide +kernel
theorem dL_refuses_97 : decode cL_refuses 97 = .ok (.invokestatic 164, 3) := by decide +kernel
theorem dL_refuses_100 : decode cL_refuses 100 = .ok (.ldc 40, 2) := by decide +kernel
theorem dL_refuses_102 : decode cL_refuses 102 = .ok (.if_icmp .ne 568, 3) := by decide +kernel
theorem dL_refuses_105 : decode cL_refuses 105 = .ok (.aload_n 0, 1) := by decide +kernel
theorem dL_refuses_106 : decode cL_refuses 106 = .ok (.iconst 3, 1) := by decide +kernel
theorem dL_refuses_107 : decode cL_refuses 107 = .ok (.iconst 0, 1) := by decide +kernel
theorem dL_refuses_108 : decode cL_refuses 108 = .ok (.bipush 6, 2) := by decide +kernel
theorem dL_refuses_110 : decode cL_refuses 110 = .ok (.iload_n 1, 1) := by decide +kernel
theorem dL_refuses_111 : decode cL_refuses 111 = .ok (.bipush 9, 2) := by decide +kernel
theorem dL_refuses_113 : decode cL_refuses 113 = .ok (.irem, 1) := by decide +kernel
theorem dL_refuses_114 : decode cL_refuses 114 = .ok (.iadd, 1) := by decide +kernel
theorem dL_refuses_115 : decode cL_refuses 115 = .ok (.iconst 0, 1) := by decide +kernel
theorem dL_refuses_116 : decode cL_refuses 116 = .ok (.invokestatic 164, 3) := by decide +kernel
theorem dL_refuses_119 : decode cL_refuses 119 = .ok (.ldc 15, 2) := by decide +kernel
theorem dL_refuses_121 : decode cL_refuses 121 = .ok (.if_icmp .ne 549, 3) := by decide +kernel
theorem dL_refuses_124 : decode cL_refuses 124 = .ok (.aload_n 0, 1) := by decide +kernel
theorem dL_refuses_125 : decode cL_refuses 125 = .ok (.iconst 4, 1) := by decide +kernel
theorem dL_refuses_126 : decode cL_refuses 126 = .ok (.iload_n 3, 1) := by decide +kernel
theorem dL_refuses_127 : decode cL_refuses 127 = .ok (.bipush 9, 2) := by decide +kernel
theorem dL_refuses_129 : decode cL_refuses 129 = .ok (.iconst 0, 1) := by decide +kernel
theorem dL_refuses_130 : decode cL_refuses 130 = .ok (.invokestatic 164, 3) := by decide +kernel
theorem dL_refuses_133 : decode cL_refuses 133 = .ok (.ldc 40, 2) := by decide +kernel
theorem dL_refuses_135 : decode cL_refuses 135 = .ok (.if_icmp .ne 535, 3) := by decide +kernel
theorem dL_refuses_138 : decode cL_refuses 138 = .ok (.aload_n 0, 1) := by decide +kernel
theorem dL_refuses_139 : decode cL_refuses 139 = .ok (.iconst 4, 1) := by decide +kernel
theorem dL_refuses_140 : decode cL_refuses 140 = .ok (.iload_n 1, 1) := by decide +kernel
theorem dL_refuses_141 : decode cL_refuses 141 = .ok (.bipush 12, 2) := by decide +kernel
theorem dL_refuses_143 : decode cL_refuses 143 = .ok (.irem, 1) := by decide +kernel
theorem dL_refuses_144 : decode cL_refuses 144 = .ok (.iconst 3, 1) := by decide +kernel
theorem dL_refuses_145 : decode cL_refuses 145 = .ok (.iload_n 1, 1) := by decide +kernel
theorem dL_refuses_146 : decode cL_refuses 146 = .ok (.bipush 9, 2) := by decide +kernel
theorem dL_refuses_148 : decode cL_refuses 148 = .ok (.irem, 1) := by decide +kernel
theorem dL_refuses_149 : decode cL_refuses 149 = .ok (.iadd, 1) := by decide +kernel
theorem dL_refuses_150 : decode cL_refuses 150 = .ok (.iconst 0, 1) := by decide +kernel
theorem dL_refuses_151 : decode cL_refuses 151 = .ok (.invokestatic 164, 3) := by decide +kernel
theorem dL_refuses_154 : decode cL_refuses 154 = .ok (.ldc 15, 2) := by decide +kernel
theorem dL_refuses_156 : decode cL_refuses 156 = .ok (.if_icmp .ne 514, 3) := by decide +kernel
theorem dL_refuses_159 : decode cL_refuses 159 = .ok (.aload_n 0, 1) := by decide +kernel
theorem dL_refuses_160 : decode cL_refuses 160 = .ok (.iconst 5, 1) := by decide +kernel
theorem dL_refuses_161 : decode cL_refuses 161 = .ok (.iconst 3, 1) := by decide +kernel
theorem dL_refuses_162 : decode cL_refuses 162 = .ok (.iload_n 1, 1) := by decide +kernel
theorem dL_refuses_163 : decode cL_refuses 163 = .ok (.bipush 9, 2) := by decide +kernel
theorem dL_refuses_165 : decode cL_refuses 165 = .ok (.irem, 1) := by decide +kernel
theorem dL_refuses_166 : decode cL_refuses 166 = .ok (.iadd, 1) := by decide +kernel
theorem dL_refuses_167 : decode cL_refuses 167 = .ok (.iconst 0, 1) := by decide +kernel
theorem dL_refuses_168 : decode cL_refuses 168 = .ok (.iconst 0, 1) := by decide +kernel
theorem dL_refuses_169 : decode cL_refuses 169 = .ok (.invokestatic 164, 3) := by decide +kernel
theorem dL_refuses_172 : decode cL_refuses 172 = .ok (.ldc 15, 2) := by decide +kernel
theorem dL_refuses_174 : decode cL_refuses 174 = .ok (.if_icmp .ne 496, 3) := by decide +kernel
theorem dL_refuses_177 : decode cL_refuses 177 = .ok (.aload_n 0, 1) := by decide +kernel
theorem dL_refuses_178 : decode cL_refuses 178 = .ok (.bipush 6, 2) := by decide +kernel
theorem dL_refuses_180 : decode cL_refuses 180 = .ok (.iconst 3, 1) := by decide +kernel
theorem dL_refuses_181 : decode cL_refuses 181 = .ok (.iload_n 1, 1) := by decide +kernel
theorem dL_refuses_182 : decode cL_refuses 182 = .ok (.bipush 9, 2) := by decide +kernel
theorem dL_refuses_184 : decode cL_refuses 184 = .ok (.irem, 1) := by decide +kernel
theorem dL_refuses_185 : decode cL_refuses 185 = .ok (.iadd, 1) := by decide +kernel
theorem dL_refuses_186 : decode cL_refuses 186 = .ok (.iconst 0, 1) := by decide +kernel
theorem dL_refuses_187 : decode cL_refuses 187 = .ok (.iconst 0, 1) := by decide +kernel
theorem dL_refuses_188 : decode cL_refuses 188 = .ok (.invokestatic 164, 3) := by decide +kernel
theorem dL_refuses_191 : decode cL_refuses 191 = .ok (.ldc 15, 2) := by decide +kernel
theorem dL_refuses_193 : decode cL_refuses 193 = .ok (.if_icmp .ne 477, 3) := by decide +kernel
theorem dL_refuses_196 : decode cL_refuses 196 = .ok (.aload_n 0, 1) := by decide +kernel
theorem dL_refuses_197 : decode cL_refuses 197 = .ok (.bipush 7, 2) := by decide +kernel
theorem dL_refuses_199 : decode cL_refuses 199 = .ok (.iload_n 1, 1) := by decide +kernel
theorem dL_refuses_200 : decode cL_refuses 200 = .ok (.iconst 2, 1) := by decide +kernel
theorem dL_refuses_201 : decode cL_refuses 201 = .ok (.irem, 1) := by decide +kernel
theorem dL_refuses_202 : decode cL_refuses 202 = .ok (.ifCond .ne 7, 3) := by decide +kernel
theorem dL_refuses_205 : decode cL_refuses 205 = .ok (.iconst 0, 1) := by decide +kernel
theorem dL_refuses_206 : decode cL_refuses 206 = .ok (.goto 10, 3) := by decide +kernel
theorem dL_refuses_209 : decode cL_refuses 209 = .ok (.bipush 7, 2) := by decide +kernel
theorem dL_refuses_211 : decode cL_refuses 211 = .ok (.iload_n 1, 1) := by decide +kernel
theorem dL_refuses_212 : decode cL_refuses 212 = .ok (.bipush 9, 2) := by decide +kernel
theorem dL_refuses_214 : decode cL_refuses 214 = .ok (.irem, 1) := by decide +kernel
theorem dL_refuses_215 : decode cL_refuses 215 = .ok (.iadd, 1) := by decide +kernel
theorem dL_refuses_216 : decode cL_refuses 216 = .ok (.iconst 5, 1) := by decide +kernel
theorem dL_refuses_217 : decode cL_refuses 217 = .ok (.iconst 0, 1) := by decide +kernel
theorem dL_refuses_218 : decode cL_refuses 218 = .ok (.invokestatic 164, 3) := by decide +kernel
theorem dL_refuses_221 : decode cL_refuses 221 = .ok (.ldc 15, 2) := by decide +kernel
theorem dL_refuses_223 : decode cL_refuses 223 = .ok (.if_icmp .ne 447, 3) := by decide +kernel
theorem dL_refuses_226 : decode cL_refuses 226 = .ok (.aload_n 0, 1) := by decide +kernel
theorem dL_refuses_227 : decode cL_refuses 227 = .ok (.bipush 7, 2) := by decide +kernel
theorem dL_refuses_229 : decode cL_refuses 229 = .ok (.iconst 1, 1) := by decide +kernel
theorem dL_refuses_230 : decode cL_refuses 230 = .ok (.iload_n 1, 1) := by decide +kernel
theorem dL_refuses_231 : decode cL_refuses 231 = .ok (.bipush 6, 2) := by decide +kernel
theorem dL_refuses_233 : decode cL_refuses 233 = .ok (.irem, 1) := by decide +kernel
theorem dL_refuses_234 : decode cL_refuses 234 = .ok (.iadd, 1) := by decide +kernel
theorem dL_refuses_235 : decode cL_refuses 235 = .ok (.sipush 997, 3) := by decide +kernel
theorem dL_refuses_238 : decode cL_refuses 238 = .ok (.iload_n 1, 1) := by decide +kernel
theorem dL_refuses_239 : decode cL_refuses 239 = .ok (.bipush 9, 2) := by decide +kernel
theorem dL_refuses_241 : decode cL_refuses 241 = .ok (.irem, 1) := by decide +kernel
theorem dL_refuses_242 : decode cL_refuses 242 = .ok (.iadd, 1) := by decide +kernel
theorem dL_refuses_243 : decode cL_refuses 243 = .ok (.iconst 0, 1) := by decide +kernel
theorem dL_refuses_244 : decode cL_refuses 244 = .ok (.invokestatic 164, 3) := by decide +kernel
theorem dL_refuses_247 : decode cL_refuses 247 = .ok (.ldc 15, 2) := by decide +kernel
theorem dL_refuses_249 : decode cL_refuses 249 = .ok (.if_icmp .ne 421, 3) := by decide +kernel
theorem dL_refuses_252 : decode cL_refuses 252 = .ok (.aload_n 0, 1) := by decide +kernel
theorem dL_refuses_253 : decode cL_refuses 253 = .ok (.bipush 7, 2) := by decide +kernel
theorem dL_refuses_255 : decode cL_refuses 255 = .ok (.iconst 1, 1) := by decide +kernel
theorem dL_refuses_256 : decode cL_refuses 256 = .ok (.iload_n 1, 1) := by decide +kernel
theorem dL_refuses_257 : decode cL_refuses 257 = .ok (.bipush 6, 2) := by decide +kernel
theorem dL_refuses_259 : decode cL_refuses 259 = .ok (.irem, 1) := by decide +kernel
theorem dL_refuses_260 : decode cL_refuses 260 = .ok (.iadd, 1) := by decide +kernel
theorem dL_refuses_261 : decode cL_refuses 261 = .ok (.iconst (-1), 1) := by decide +kernel
theorem dL_refuses_262 : decode cL_refuses 262 = .ok (.iload_n 1, 1) := by decide +kernel
theorem dL_refuses_263 : decode cL_refuses 263 = .ok (.bipush 9, 2) := by decide +kernel
theorem dL_refuses_265 : decode cL_refuses 265 = .ok (.irem, 1) := by decide +kernel
theorem dL_refuses_266 : decode cL_refuses 266 = .ok (.isub, 1) := by decide +kernel
theorem dL_refuses_267 : decode cL_refuses 267 = .ok (.iconst 0, 1) := by decide +kernel
theorem dL_refuses_268 : decode cL_refuses 268 = .ok (.invokestatic 164, 3) := by decide +kernel
theorem dL_refuses_271 : decode cL_refuses 271 = .ok (.ldc 15, 2) := by decide +kernel
theorem dL_refuses_273 : decode cL_refuses 273 = .ok (.if_icmp .ne 397, 3) := by decide +kernel
theorem dL_refuses_276 : decode cL_refuses 276 = .ok (.aload_n 0, 1) := by decide +kernel
theorem dL_refuses_277 : decode cL_refuses 277 = .ok (.bipush 8, 2) := by decide +kernel
theorem dL_refuses_279 : decode cL_refuses 279 = .ok (.iload_n 2, 1) := by decide +kernel
theorem dL_refuses_280 : decode cL_refuses 280 = .ok (.iconst 0, 1) := by decide +kernel
theorem dL_refuses_281 : decode cL_refuses 281 = .ok (.iconst 0, 1) := by decide +kernel
theorem dL_refuses_282 : decode cL_refuses 282 = .ok (.invokestatic 164, 3) := by decide +kernel
theorem dL_refuses_285 : decode cL_refuses 285 = .ok (.ldc 40, 2) := by decide +kernel
theorem dL_refuses_287 : decode cL_refuses 287 = .ok (.if_icmp .ne 383, 3) := by decide +kernel
theorem dL_refuses_290 : decode cL_refuses 290 = .ok (.aload_n 0, 1) := by decide +kernel
theorem dL_refuses_291 : decode cL_refuses 291 = .ok (.bipush 8, 2) := by decide +kernel
theorem dL_refuses_293 : decode cL_refuses 293 = .ok (.iconst 0, 1) := by decide +kernel
theorem dL_refuses_294 : decode cL_refuses 294 = .ok (.iload_n 3, 1) := by decide +kernel
theorem dL_refuses_295 : decode cL_refuses 295 = .ok (.iconst 0, 1) := by decide +kernel
theorem dL_refuses_296 : decode cL_refuses 296 = .ok (.invokestatic 164, 3) := by decide +kernel
theorem dL_refuses_299 : decode cL_refuses 299 = .ok (.ldc 40, 2) := by decide +kernel
theorem dL_refuses_301 : decode cL_refuses 301 = .ok (.if_icmp .ne 369, 3) := by decide +kernel
theorem dL_refuses_304 : decode cL_refuses 304 = .ok (.aload_n 0, 1) := by decide +kernel
theorem dL_refuses_305 : decode cL_refuses 305 = .ok (.bipush 9, 2) := by decide +kernel
theorem dL_refuses_307 : decode cL_refuses 307 = .ok (.iload_n 2, 1) := by decide +kernel
theorem dL_refuses_308 : decode cL_refuses 308 = .ok (.iconst 0, 1) := by decide +kernel
theorem dL_refuses_309 : decode cL_refuses 309 = .ok (.iconst 0, 1) := by decide +kernel
theorem dL_refuses_310 : decode cL_refuses 310 = .ok (.invokestatic 164, 3) := by decide +kernel
theorem dL_refuses_313 : decode cL_refuses 313 = .ok (.ldc 40, 2) := by decide +kernel
theorem dL_refuses_315 : decode cL_refuses 315 = .ok (.if_icmp .ne 355, 3) := by decide +kernel
theorem dL_refuses_318 : decode cL_refuses 318 = .ok (.aload_n 0, 1) := by decide +kernel
theorem dL_refuses_319 : decode cL_refuses 319 = .ok (.bipush 10, 2) := by decide +kernel
theorem dL_refuses_321 : decode cL_refuses 321 = .ok (.iload_n 3, 1) := by decide +kernel
theorem dL_refuses_322 : decode cL_refuses 322 = .ok (.iconst 0, 1) := by decide +kernel
theorem dL_refuses_323 : decode cL_refuses 323 = .ok (.iconst 0, 1) := by decide +kernel
theorem dL_refuses_324 : decode cL_refuses 324 = .ok (.invokestatic 164, 3) := by decide +kernel
theorem dL_refuses_327 : decode cL_refuses 327 = .ok (.ldc 40, 2) := by decide +kernel
theorem dL_refuses_329 : decode cL_refuses 329 = .ok (.if_icmp .ne 341, 3) := by decide +kernel
theorem dL_refuses_332 : decode cL_refuses 332 = .ok (.aload_n 0, 1) := by decide +kernel
theorem dL_refuses_333 : decode cL_refuses 333 = .ok (.bipush 11, 2) := by decide +kernel
theorem dL_refuses_335 : decode cL_refuses 335 = .ok (.iload_n 3, 1) := by decide +kernel
theorem dL_refuses_336 : decode cL_refuses 336 = .ok (.iconst 0, 1) := by decide +kernel
theorem dL_refuses_337 : decode cL_refuses 337 = .ok (.iconst 0, 1) := by decide +kernel
theorem dL_refuses_338 : decode cL_refuses 338 = .ok (.invokestatic 164, 3) := by decide +kernel
theorem dL_refuses_341 : decode cL_refuses 341 = .ok (.ldc 40, 2) := by decide +kernel
theorem dL_refuses_343 : decode cL_refuses 343 = .ok (.if_icmp .ne 327, 3) := by decide +kernel
theorem dL_refuses_346 : decode cL_refuses 346 = .ok (.aload_n 0, 1) := by decide +kernel
theorem dL_refuses_347 : decode cL_refuses 347 = .ok (.bipush 12, 2) := by decide +kernel
theorem dL_refuses_349 : decode cL_refuses 349 = .ok (.bipush 61, 2) := by decide +kernel
theorem dL_refuses_351 : decode cL_refuses 351 = .ok (.iload_n 1, 1) := by decide +kernel
theorem dL_refuses_352 : decode cL_refuses 352 = .ok (.bipush 9, 2) := by decide +kernel
theorem dL_refuses_354 : decode cL_refuses 354 = .ok (.irem, 1) := by decide +kernel
theorem dL_refuses_355 : decode cL_refuses 355 = .ok (.iadd, 1) := by decide +kernel
theorem dL_refuses_356 : decode cL_refuses 356 = .ok (.iconst 0, 1) := by decide +kernel
theorem dL_refuses_357 : decode cL_refuses 357 = .ok (.iconst 0, 1) := by decide +kernel
theorem dL_refuses_358 : decode cL_refuses 358 = .ok (.invokestatic 164, 3) := by decide +kernel
theorem dL_refuses_361 : decode cL_refuses 361 = .ok (.ldc 15, 2) := by decide +kernel
theorem dL_refuses_363 : decode cL_refuses 363 = .ok (.if_icmp .ne 307, 3) := by decide +kernel
theorem dL_refuses_366 : decode cL_refuses 366 = .ok (.aload_n 0, 1) := by decide +kernel
theorem dL_refuses_367 : decode cL_refuses 367 = .ok (.bipush 13, 2) := by decide +kernel
theorem dL_refuses_369 : decode cL_refuses 369 = .ok (.iload_n 1, 1) := by decide +kernel
theorem dL_refuses_370 : decode cL_refuses 370 = .ok (.iconst 3, 1) := by decide +kernel
theorem dL_refuses_371 : decode cL_refuses 371 = .ok (.irem, 1) := by decide +kernel
theorem dL_refuses_372 : decode cL_refuses 372 = .ok (.bipush 100, 2) := by decide +kernel
theorem dL_refuses_374 : decode cL_refuses 374 = .ok (.iload_n 1, 1) := by decide +kernel
theorem dL_refuses_375 : decode cL_refuses 375 = .ok (.bipush 9, 2) := by decide +kernel
theorem dL_refuses_377 : decode cL_refuses 377 = .ok (.irem, 1) := by decide +kernel
theorem dL_refuses_378 : decode cL_refuses 378 = .ok (.iadd, 1) := by decide +kernel
theorem dL_refuses_379 : decode cL_refuses 379 = .ok (.iconst 0, 1) := by decide +kernel
theorem dL_refuses_380 : decode cL_refuses 380 = .ok (.invokestatic 164, 3) := by decide +kernel
theorem dL_refuses_383 : decode cL_refuses 383 = .ok (.ldc 15, 2) := by decide +kernel
theorem dL_refuses_385 : decode cL_refuses 385 = .ok (.if_icmp .ne 285, 3) := by decide +kernel
theorem dL_refuses_388 : decode cL_refuses 388 = .ok (.aload_n 0, 1) := by decide +kernel
theorem dL_refuses_389 : decode cL_refuses 389 = .ok (.bipush 13, 2) := by decide +kernel
theorem dL_refuses_391 : decode cL_refuses 391 = .ok (.iload_n 1, 1) := by decide +kernel
theorem dL_refuses_392 : decode cL_refuses 392 = .ok (.iconst 3, 1) := by decide +kernel
theorem dL_refuses_393 : decode cL_refuses 393 = .ok (.irem, 1) := by decide +kernel
theorem dL_refuses_394 : decode cL_refuses 394 = .ok (.iconst (-1), 1) := by decide +kernel
theorem dL_refuses_395 : decode cL_refuses 395 = .ok (.iload_n 1, 1) := by decide +kernel
theorem dL_refuses_396 : decode cL_refuses 396 = .ok (.bipush 9, 2) := by decide +kernel
theorem dL_refuses_398 : decode cL_refuses 398 = .ok (.irem, 1) := by decide +kernel
theorem dL_refuses_399 : decode cL_refuses 399 = .ok (.isub, 1) := by decide +kernel
theorem dL_refuses_400 : decode cL_refuses 400 = .ok (.iconst 0, 1) := by decide +kernel
theorem dL_refuses_401 : decode cL_refuses 401 = .ok (.invokestatic 164, 3) := by decide +kernel
theorem dL_refuses_404 : decode cL_refuses 404 = .ok (.ldc 15, 2) := by decide +kernel
theorem dL_refuses_406 : decode cL_refuses 406 = .ok (.if_icmp .ne 264, 3) := by decide +kernel
theorem dL_refuses_409 : decode cL_refuses 409 = .ok (.aload_n 0, 1) := by decide +kernel
theorem dL_refuses_410 : decode cL_refuses 410 = .ok (.bipush 13, 2) := by decide +kernel
theorem dL_refuses_412 : decode cL_refuses 412 = .ok (.iconst 2, 1) := by decide +kernel
theorem dL_refuses_413 : decode cL_refuses 413 = .ok (.iload_n 1, 1) := by decide +kernel
theorem dL_refuses_414 : decode cL_refuses 414 = .ok (.iconst 2, 1) := by decide +kernel
theorem dL_refuses_415 : decode cL_refuses 415 = .ok (.irem, 1) := by decide +kernel
theorem dL_refuses_416 : decode cL_refuses 416 = .ok (.imul, 1) := by decide +kernel
theorem dL_refuses_417 : decode cL_refuses 417 = .ok (.iconst 0, 1) := by decide +kernel
theorem dL_refuses_418 : decode cL_refuses 418 = .ok (.iconst 0, 1) := by decide +kernel
theorem dL_refuses_419 : decode cL_refuses 419 = .ok (.invokestatic 164, 3) := by decide +kernel
theorem dL_refuses_422 : decode cL_refuses 422 = .ok (.ldc 15, 2) := by decide +kernel
theorem dL_refuses_424 : decode cL_refuses 424 = .ok (.if_icmp .ne 246, 3) := by decide +kernel
theorem dL_refuses_427 : decode cL_refuses 427 = .ok (.aload_n 0, 1) := by decide +kernel
theorem dL_refuses_428 : decode cL_refuses 428 = .ok (.bipush 13, 2) := by decide +kernel
theorem dL_refuses_430 : decode cL_refuses 430 = .ok (.iconst 3, 1) := by decide +kernel
theorem dL_refuses_431 : decode cL_refuses 431 = .ok (.iload_n 1, 1) := by decide +kernel
theorem dL_refuses_432 : decode cL_refuses 432 = .ok (.bipush 9, 2) := by decide +kernel
theorem dL_refuses_434 : decode cL_refuses 434 = .ok (.irem, 1) := by decide +kernel
theorem dL_refuses_435 : decode cL_refuses 435 = .ok (.iadd, 1) := by decide +kernel
theorem dL_refuses_436 : decode cL_refuses 436 = .ok (.iconst 5, 1) := by decide +kernel
theorem dL_refuses_437 : decode cL_refuses 437 = .ok (.iconst 0, 1) := by decide +kernel
theorem dL_refuses_438 : decode cL_refuses 438 = .ok (.invokestatic 164, 3) := by decide +kernel
theorem dL_refuses_441 : decode cL_refuses 441 = .ok (.ldc 15, 2) := by decide +kernel
theorem dL_refuses_443 : decode cL_refuses 443 = .ok (.if_icmp .ne 227, 3) := by decide +kernel
theorem dL_refuses_446 : decode cL_refuses 446 = .ok (.aload_n 0, 1) := by decide +kernel
theorem dL_refuses_447 : decode cL_refuses 447 = .ok (.bipush 15, 2) := by decide +kernel
theorem dL_refuses_449 : decode cL_refuses 449 = .ok (.iload_n 1, 1) := by decide +kernel
theorem dL_refuses_450 : decode cL_refuses 450 = .ok (.iconst 2, 1) := by decide +kernel
theorem dL_refuses_451 : decode cL_refuses 451 = .ok (.irem, 1) := by decide +kernel
theorem dL_refuses_452 : decode cL_refuses 452 = .ok (.ifCond .ne 7, 3) := by decide +kernel
theorem dL_refuses_455 : decode cL_refuses 455 = .ok (.iconst 0, 1) := by decide +kernel
theorem dL_refuses_456 : decode cL_refuses 456 = .ok (.goto 10, 3) := by decide +kernel
theorem dL_refuses_459 : decode cL_refuses 459 = .ok (.bipush 7, 2) := by decide +kernel
theorem dL_refuses_461 : decode cL_refuses 461 = .ok (.iload_n 1, 1) := by decide +kernel
theorem dL_refuses_462 : decode cL_refuses 462 = .ok (.bipush 9, 2) := by decide +kernel
theorem dL_refuses_464 : decode cL_refuses 464 = .ok (.irem, 1) := by decide +kernel
theorem dL_refuses_465 : decode cL_refuses 465 = .ok (.iadd, 1) := by decide +kernel
theorem dL_refuses_466 : decode cL_refuses 466 = .ok (.iconst 0, 1) := by decide +kernel
theorem dL_refuses_467 : decode cL_refuses 467 = .ok (.iconst 0, 1) := by decide +kernel
theorem dL_refuses_468 : decode cL_refuses 468 = .ok (.invokestatic 164, 3) := by decide +kernel
theorem dL_refuses_471 : decode cL_refuses 471 = .ok (.ldc 15, 2) := by decide +kernel
theorem dL_refuses_473 : decode cL_refuses 473 = .ok (.if_icmp .ne 197, 3) := by decide +kernel
theorem dL_refuses_476 : decode cL_refuses 476 = .ok (.aload_n 0, 1) := by decide +kernel
theorem dL_refuses_477 : decode cL_refuses 477 = .ok (.bipush 16, 2) := by decide +kernel
theorem dL_refuses_479 : decode cL_refuses 479 = .ok (.bipush 13, 2) := by decide +kernel
theorem dL_refuses_481 : decode cL_refuses 481 = .ok (.iload_n 1, 1) := by decide +kernel
theorem dL_refuses_482 : decode cL_refuses 482 = .ok (.bipush 9, 2) := by decide +kernel
theorem dL_refuses_484 : decode cL_refuses 484 = .ok (.irem, 1) := by decide +kernel
theorem dL_refuses_485 : decode cL_refuses 485 = .ok (.iadd, 1) := by decide +kernel
theorem dL_refuses_486 : decode cL_refuses 486 = .ok (.iconst 0, 1) := by decide +kernel
theorem dL_refuses_487 : decode cL_refuses 487 = .ok (.iconst 0, 1) := by decide +kernel
theorem dL_refuses_488 : decode cL_refuses 488 = .ok (.invokestatic 164, 3) := by decide +kernel
theorem dL_refuses_491 : decode cL_refuses 491 = .ok (.ldc 15, 2) := by decide +kernel
theorem dL_refuses_493 : decode cL_refuses 493 = .ok (.if_icmp .ne 177, 3) := by decide +kernel
theorem dL_refuses_496 : decode cL_refuses 496 = .ok (.aload_n 0, 1) := by decide +kernel
theorem dL_refuses_497 : decode cL_refuses 497 = .ok (.bipush 16, 2) := by decide +kernel
theorem dL_refuses_499 : decode cL_refuses 499 = .ok (.iconst 1, 1) := by decide +kernel
theorem dL_refuses_500 : decode cL_refuses 500 = .ok (.iconst 2, 1) := by decide +kernel
theorem dL_refuses_501 : decode cL_refuses 501 = .ok (.iload_n 1, 1) := by decide +kernel
theorem dL_refuses_502 : decode cL_refuses 502 = .ok (.bipush 9, 2) := by decide +kernel
theorem dL_refuses_504 : decode cL_refuses 504 = .ok (.irem, 1) := by decide +kernel
theorem dL_refuses_505 : decode cL_refuses 505 = .ok (.iadd, 1) := by decide +kernel
theorem dL_refuses_506 : decode cL_refuses 506 = .ok (.iconst 0, 1) := by decide +kernel
theorem dL_refuses_507 : decode cL_refuses 507 = .ok (.invokestatic 164, 3) := by decide +kernel
theorem dL_refuses_510 : decode cL_refuses 510 = .ok (.ldc 15, 2) := by decide +kernel
theorem dL_refuses_512 : decode cL_refuses 512 = .ok (.if_icmp .ne 158, 3) := by decide +kernel
theorem dL_refuses_515 : decode cL_refuses 515 = .ok (.aload_n 0, 1) := by decide +kernel
theorem dL_refuses_516 : decode cL_refuses 516 = .ok (.bipush 17, 2) := by decide +kernel
theorem dL_refuses_518 : decode cL_refuses 518 = .ok (.iload_n 2, 1) := by decide +kernel
theorem dL_refuses_519 : decode cL_refuses 519 = .ok (.iconst 0, 1) := by decide +kernel
theorem dL_refuses_520 : decode cL_refuses 520 = .ok (.iconst 0, 1) := by decide +kernel
theorem dL_refuses_521 : decode cL_refuses 521 = .ok (.invokestatic 164, 3) := by decide +kernel
theorem dL_refuses_524 : decode cL_refuses 524 = .ok (.ldc 40, 2) := by decide +kernel
theorem dL_refuses_526 : decode cL_refuses 526 = .ok (.if_icmp .ne 144, 3) := by decide +kernel
theorem dL_refuses_529 : decode cL_refuses 529 = .ok (.aload_n 0, 1) := by decide +kernel
theorem dL_refuses_530 : decode cL_refuses 530 = .ok (.bipush 17, 2) := by decide +kernel
theorem dL_refuses_532 : decode cL_refuses 532 = .ok (.iconst 0, 1) := by decide +kernel
theorem dL_refuses_533 : decode cL_refuses 533 = .ok (.sipush 201, 3) := by decide +kernel
theorem dL_refuses_536 : decode cL_refuses 536 = .ok (.iload_n 1, 1) := by decide +kernel
theorem dL_refuses_537 : decode cL_refuses 537 = .ok (.bipush 9, 2) := by decide +kernel
theorem dL_refuses_539 : decode cL_refuses 539 = .ok (.irem, 1) := by decide +kernel
theorem dL_refuses_540 : decode cL_refuses 540 = .ok (.iadd, 1) := by decide +kernel
theorem dL_refuses_541 : decode cL_refuses 541 = .ok (.iconst 0, 1) := by decide +kernel
theorem dL_refuses_542 : decode cL_refuses 542 = .ok (.invokestatic 164, 3) := by decide +kernel
theorem dL_refuses_545 : decode cL_refuses 545 = .ok (.ldc 15, 2) := by decide +kernel
theorem dL_refuses_547 : decode cL_refuses 547 = .ok (.if_icmp .ne 123, 3) := by decide +kernel
theorem dL_refuses_550 : decode cL_refuses 550 = .ok (.aload_n 0, 1) := by decide +kernel
theorem dL_refuses_551 : decode cL_refuses 551 = .ok (.bipush 17, 2) := by decide +kernel
theorem dL_refuses_553 : decode cL_refuses 553 = .ok (.iconst 0, 1) := by decide +kernel
theorem dL_refuses_554 : decode cL_refuses 554 = .ok (.iconst 1, 1) := by decide +kernel
theorem dL_refuses_555 : decode cL_refuses 555 = .ok (.iconst 3, 1) := by decide +kernel
theorem dL_refuses_556 : decode cL_refuses 556 = .ok (.iload_n 1, 1) := by decide +kernel
theorem dL_refuses_557 : decode cL_refuses 557 = .ok (.bipush 9, 2) := by decide +kernel
theorem dL_refuses_559 : decode cL_refuses 559 = .ok (.irem, 1) := by decide +kernel
theorem dL_refuses_560 : decode cL_refuses 560 = .ok (.iadd, 1) := by decide +kernel
theorem dL_refuses_561 : decode cL_refuses 561 = .ok (.invokestatic 164, 3) := by decide +kernel
theorem dL_refuses_564 : decode cL_refuses 564 = .ok (.ldc 15, 2) := by decide +kernel
theorem dL_refuses_566 : decode cL_refuses 566 = .ok (.if_icmp .ne 104, 3) := by decide +kernel
theorem dL_refuses_569 : decode cL_refuses 569 = .ok (.aload_n 0, 1) := by decide +kernel
theorem dL_refuses_570 : decode cL_refuses 570 = .ok (.bipush 18, 2) := by decide +kernel
theorem dL_refuses_572 : decode cL_refuses 572 = .ok (.iload_n 3, 1) := by decide +kernel
theorem dL_refuses_573 : decode cL_refuses 573 = .ok (.iconst 0, 1) := by decide +kernel
theorem dL_refuses_574 : decode cL_refuses 574 = .ok (.iconst 0, 1) := by decide +kernel
theorem dL_refuses_575 : decode cL_refuses 575 = .ok (.invokestatic 164, 3) := by decide +kernel
theorem dL_refuses_578 : decode cL_refuses 578 = .ok (.ldc 40, 2) := by decide +kernel
theorem dL_refuses_580 : decode cL_refuses 580 = .ok (.if_icmp .ne 90, 3) := by decide +kernel
theorem dL_refuses_583 : decode cL_refuses 583 = .ok (.aload_n 0, 1) := by decide +kernel
theorem dL_refuses_584 : decode cL_refuses 584 = .ok (.bipush 19, 2) := by decide +kernel
theorem dL_refuses_586 : decode cL_refuses 586 = .ok (.iconst 2, 1) := by decide +kernel
theorem dL_refuses_587 : decode cL_refuses 587 = .ok (.iload_n 1, 1) := by decide +kernel
theorem dL_refuses_588 : decode cL_refuses 588 = .ok (.bipush 50, 2) := by decide +kernel
theorem dL_refuses_590 : decode cL_refuses 590 = .ok (.irem, 1) := by decide +kernel
theorem dL_refuses_591 : decode cL_refuses 591 = .ok (.iadd, 1) := by decide +kernel
theorem dL_refuses_592 : decode cL_refuses 592 = .ok (.iconst 0, 1) := by decide +kernel
theorem dL_refuses_593 : decode cL_refuses 593 = .ok (.iconst 0, 1) := by decide +kernel
theorem dL_refuses_594 : decode cL_refuses 594 = .ok (.invokestatic 164, 3) := by decide +kernel
theorem dL_refuses_597 : decode cL_refuses 597 = .ok (.ldc 40, 2) := by decide +kernel
theorem dL_refuses_599 : decode cL_refuses 599 = .ok (.if_icmp .ne 71, 3) := by decide +kernel
theorem dL_refuses_602 : decode cL_refuses 602 = .ok (.aload_n 0, 1) := by decide +kernel
theorem dL_refuses_603 : decode cL_refuses 603 = .ok (.bipush 20, 2) := by decide +kernel
theorem dL_refuses_605 : decode cL_refuses 605 = .ok (.iconst (-1), 1) := by decide +kernel
theorem dL_refuses_606 : decode cL_refuses 606 = .ok (.iload_n 1, 1) := by decide +kernel
theorem dL_refuses_607 : decode cL_refuses 607 = .ok (.bipush 9, 2) := by decide +kernel
theorem dL_refuses_609 : decode cL_refuses 609 = .ok (.irem, 1) := by decide +kernel
theorem dL_refuses_610 : decode cL_refuses 610 = .ok (.isub, 1) := by decide +kernel
theorem dL_refuses_611 : decode cL_refuses 611 = .ok (.iconst 0, 1) := by decide +kernel
theorem dL_refuses_612 : decode cL_refuses 612 = .ok (.iconst 0, 1) := by decide +kernel
theorem dL_refuses_613 : decode cL_refuses 613 = .ok (.invokestatic 164, 3) := by decide +kernel
theorem dL_refuses_616 : decode cL_refuses 616 = .ok (.ldc 40, 2) := by decide +kernel
theorem dL_refuses_618 : decode cL_refuses 618 = .ok (.if_icmp .ne 52, 3) := by decide +kernel
theorem dL_refuses_621 : decode cL_refuses 621 = .ok (.aload_n 0, 1) := by decide +kernel
theorem dL_refuses_622 : decode cL_refuses 622 = .ok (.iconst 0, 1) := by decide +kernel
theorem dL_refuses_623 : decode cL_refuses 623 = .ok (.lconst 0, 1) := by decide +kernel
theorem dL_refuses_624 : decode cL_refuses 624 = .ok (.invokestatic 168, 3) := by decide +kernel
theorem dL_refuses_627 : decode cL_refuses 627 = .ok (.ldc 15, 2) := by decide +kernel
theorem dL_refuses_629 : decode cL_refuses 629 = .ok (.if_icmp .ne 41, 3) := by decide +kernel
theorem dL_refuses_632 : decode cL_refuses 632 = .ok (.aload_n 0, 1) := by decide +kernel
theorem dL_refuses_633 : decode cL_refuses 633 = .ok (.iconst 1, 1) := by decide +kernel
theorem dL_refuses_634 : decode cL_refuses 634 = .ok (.ldc2_w 172, 3) := by decide +kernel
theorem dL_refuses_637 : decode cL_refuses 637 = .ok (.iload_n 1, 1) := by decide +kernel
theorem dL_refuses_638 : decode cL_refuses 638 = .ok (.i2l, 1) := by decide +kernel
theorem dL_refuses_639 : decode cL_refuses 639 = .ok (.ladd, 1) := by decide +kernel
theorem dL_refuses_640 : decode cL_refuses 640 = .ok (.invokestatic 168, 3) := by decide +kernel
theorem dL_refuses_643 : decode cL_refuses 643 = .ok (.ldc 15, 2) := by decide +kernel
theorem dL_refuses_645 : decode cL_refuses 645 = .ok (.if_icmp .ne 25, 3) := by decide +kernel
theorem dL_refuses_648 : decode cL_refuses 648 = .ok (.aload_n 0, 1) := by decide +kernel
theorem dL_refuses_649 : decode cL_refuses 649 = .ok (.iload_n 1, 1) := by decide +kernel
theorem dL_refuses_650 : decode cL_refuses 650 = .ok (.i2l, 1) := by decide +kernel
theorem dL_refuses_651 : decode cL_refuses 651 = .ok (.bipush 61, 2) := by decide +kernel
theorem dL_refuses_653 : decode cL_refuses 653 = .ok (.iload_n 1, 1) := by decide +kernel
theorem dL_refuses_654 : decode cL_refuses 654 = .ok (.bipush 9, 2) := by decide +kernel
theorem dL_refuses_656 : decode cL_refuses 656 = .ok (.irem, 1) := by decide +kernel
theorem dL_refuses_657 : decode cL_refuses 657 = .ok (.iadd, 1) := by decide +kernel
theorem dL_refuses_658 : decode cL_refuses 658 = .ok (.invokestatic 174, 3) := by decide +kernel
theorem dL_refuses_661 : decode cL_refuses 661 = .ok (.ldc 15, 2) := by decide +kernel
theorem dL_refuses_663 : decode cL_refuses 663 = .ok (.if_icmp .ne 7, 3) := by decide +kernel
theorem dL_refuses_666 : decode cL_refuses 666 = .ok (.iconst 1, 1) := by decide +kernel
theorem dL_refuses_667 : decode cL_refuses 667 = .ok (.goto 4, 3) := by decide +kernel
theorem dL_refuses_670 : decode cL_refuses 670 = .ok (.iconst 0, 1) := by decide +kernel
theorem dL_refuses_671 : decode cL_refuses 671 = .ok (.ireturn, 1) := by decide +kernel
theorem dL_holds_0 : decode cL_holds 0 = .ok (.aload_n 0, 1) := by decide +kernel
theorem dL_holds_1 : decode cL_holds 1 = .ok (.iconst 2, 1) := by decide +kernel
theorem dL_holds_2 : decode cL_holds 2 = .ok (.iconst 0, 1) := by decide +kernel
theorem dL_holds_3 : decode cL_holds 3 = .ok (.iconst 0, 1) := by decide +kernel
theorem dL_holds_4 : decode cL_holds 4 = .ok (.iconst 0, 1) := by decide +kernel
theorem dL_holds_5 : decode cL_holds 5 = .ok (.invokestatic 164, 3) := by decide +kernel
theorem dL_holds_8 : decode cL_holds 8 = .ok (.istore_n 2, 1) := by decide +kernel
theorem dL_holds_9 : decode cL_holds 9 = .ok (.aload_n 0, 1) := by decide +kernel
theorem dL_holds_10 : decode cL_holds 10 = .ok (.iconst 5, 1) := by decide +kernel
theorem dL_holds_11 : decode cL_holds 11 = .ok (.iconst 0, 1) := by decide +kernel
theorem dL_holds_12 : decode cL_holds 12 = .ok (.iconst 0, 1) := by decide +kernel
theorem dL_holds_13 : decode cL_holds 13 = .ok (.iconst 0, 1) := by decide +kernel
theorem dL_holds_14 : decode cL_holds 14 = .ok (.invokestatic 164, 3) := by decide +kernel
theorem dL_holds_17 : decode cL_holds 17 = .ok (.istore_n 3, 1) := by decide +kernel
theorem dL_holds_18 : decode cL_holds 18 = .ok (.iconst 0, 1) := by decide +kernel
theorem dL_holds_19 : decode cL_holds 19 = .ok (.istore 4, 2) := by decide +kernel
theorem dL_holds_21 : decode cL_holds 21 = .ok (.iconst 0, 1) := by decide +kernel
theorem dL_holds_22 : decode cL_holds 22 = .ok (.istore 5, 2) := by decide +kernel
theorem dL_holds_24 : decode cL_holds 24 = .ok (.iconst 0, 1) := by decide +kernel
theorem dL_holds_25 : decode cL_holds 25 = .ok (.istore 6, 2) := by decide +kernel
theorem dL_holds_27 : decode cL_holds 27 = .ok (.iconst 0, 1) := by decide +kernel
theorem dL_holds_28 : decode cL_holds 28 = .ok (.istore 7, 2) := by decide +kernel
theorem dL_holds_30 : decode cL_holds 30 = .ok (.iconst 0, 1) := by decide +kernel
theorem dL_holds_31 : decode cL_holds 31 = .ok (.istore 8, 2) := by decide +kernel
theorem dL_holds_33 : decode cL_holds 33 = .ok (.iload_n 2, 1) := by decide +kernel
theorem dL_holds_34 : decode cL_holds 34 = .ok (.bipush 6, 2) := by decide +kernel
theorem dL_holds_36 : decode cL_holds 36 = .ok (.if_icmp .gt 32, 3) := by decide +kernel
theorem dL_holds_39 : decode cL_holds 39 = .ok (.iload_n 3, 1) := by decide +kernel
theorem dL_holds_40 : decode cL_holds 40 = .ok (.iconst (-1), 1) := by decide +kernel
theorem dL_holds_41 : decode cL_holds 41 = .ok (.if_icmp .ne 7, 3) := by decide +kernel
theorem dL_holds_44 : decode cL_holds 44 = .ok (.iconst 1, 1) := by decide +kernel
theorem dL_holds_45 : decode cL_holds 45 = .ok (.goto 4, 3) := by decide +kernel
theorem dL_holds_48 : decode cL_holds 48 = .ok (.iconst 0, 1) := by decide +kernel
theorem dL_holds_49 : decode cL_holds 49 = .ok (.aload_n 0, 1) := by decide +kernel
theorem dL_holds_50 : decode cL_holds 50 = .ok (.invokevirtual 178, 3) := by decide +kernel
theorem dL_holds_53 : decode cL_holds 53 = .ok (.ifCond .ne 7, 3) := by decide +kernel
theorem dL_holds_56 : decode cL_holds 56 = .ok (.iconst 1, 1) := by decide +kernel
theorem dL_holds_57 : decode cL_holds 57 = .ok (.goto 4, 3) := by decide +kernel
theorem dL_holds_60 : decode cL_holds 60 = .ok (.iconst 0, 1) := by decide +kernel
theorem dL_holds_61 : decode cL_holds 61 = .ok (.if_icmp .ne 7, 3) := by decide +kernel
theorem dL_holds_64 : decode cL_holds 64 = .ok (.iconst 1, 1) := by decide +kernel
theorem dL_holds_65 : decode cL_holds 65 = .ok (.goto 4, 3) := by decide +kernel
theorem dL_holds_68 : decode cL_holds 68 = .ok (.iconst 0, 1) := by decide +kernel
theorem dL_holds_69 : decode cL_holds 69 = .ok (.istore 9, 2) := by decide +kernel
theorem dL_holds_71 : decode cL_holds 71 = .ok (.iconst 0, 1) := by decide +kernel
theorem dL_holds_72 : decode cL_holds 72 = .ok (.istore 10, 2) := by decide +kernel
theorem dL_holds_74 : decode cL_holds 74 = .ok (.iload 10, 2) := by decide +kernel
theorem dL_holds_76 : decode cL_holds 76 = .ok (.iload_n 2, 1) := by decide +kernel
theorem dL_holds_77 : decode cL_holds 77 = .ok (.if_icmp .ge 230, 3) := by decide +kernel
theorem dL_holds_80 : decode cL_holds 80 = .ok (.iload 9, 2) := by decide +kernel
theorem dL_holds_82 : decode cL_holds 82 = .ok (.ifCond .eq 225, 3) := by decide +kernel
theorem dL_holds_85 : decode cL_holds 85 = .ok (.aload_n 0, 1) := by decide +kernel
theorem dL_holds_86 : decode cL_holds 86 = .ok (.iconst 3, 1) := by decide +kernel
theorem dL_holds_87 : decode cL_holds 87 = .ok (.iload 10, 2) := by decide +kernel
theorem dL_holds_89 : decode cL_holds 89 = .ok (.iconst 4, 1) := by decide +kernel
theorem dL_holds_90 : decode cL_holds 90 = .ok (.iconst 0, 1) := by decide +kernel
theorem dL_holds_91 : decode cL_holds 91 = .ok (.invokestatic 164, 3) := by decide +kernel
theorem dL_holds_94 : decode cL_holds 94 = .ok (.istore 11, 2) := by decide +kernel
theorem dL_holds_96 : decode cL_holds 96 = .ok (.aload_n 0, 1) := by decide +kernel
theorem dL_holds_97 : decode cL_holds 97 = .ok (.iconst 3, 1) := by decide +kernel
theorem dL_holds_98 : decode cL_holds 98 = .ok (.iload 10, 2) := by decide +kernel
theorem dL_holds_100 : decode cL_holds 100 = .ok (.iconst 5, 1) := by decide +kernel
theorem dL_holds_101 : decode cL_holds 101 = .ok (.iconst 0, 1) := by decide +kernel
theorem dL_holds_102 : decode cL_holds 102 = .ok (.invokestatic 164, 3) := by decide +kernel
theorem dL_holds_105 : decode cL_holds 105 = .ok (.istore 12, 2) := by decide +kernel
theorem dL_holds_107 : decode cL_holds 107 = .ok (.aload_n 0, 1) := by decide +kernel
theorem dL_holds_108 : decode cL_holds 108 = .ok (.iconst 3, 1) := by decide +kernel
theorem dL_holds_109 : decode cL_holds 109 = .ok (.iload 10, 2) := by decide +kernel
theorem dL_holds_111 : decode cL_holds 111 = .ok (.iconst 0, 1) := by decide +kernel
theorem dL_holds_112 : decode cL_holds 112 = .ok (.iconst 0, 1) := by decide +kernel
theorem dL_holds_113 : decode cL_holds 113 = .ok (.invokestatic 164, 3) := by decide +kernel
theorem dL_holds_116 : decode cL_holds 116 = .ok (.istore 13, 2) := by decide +kernel
theorem dL_holds_118 : decode cL_holds 118 = .ok (.iload 6, 2) := by decide +kernel
theorem dL_holds_120 : decode cL_holds 120 = .ok (.iload 11, 2) := by decide +kernel
theorem dL_holds_122 : decode cL_holds 122 = .ok (.iconst 2, 1) := by decide +kernel
theorem dL_holds_123 : decode cL_holds 123 = .ok (.if_icmp .ne 7, 3) := by decide +kernel
theorem dL_holds_126 : decode cL_holds 126 = .ok (.iconst 1, 1) := by decide +kernel
theorem dL_holds_127 : decode cL_holds 127 = .ok (.goto 4, 3) := by decide +kernel
theorem dL_holds_130 : decode cL_holds 130 = .ok (.iconst 0, 1) := by decide +kernel
theorem dL_holds_131 : decode cL_holds 131 = .ok (.iadd, 1) := by decide +kernel
theorem dL_holds_132 : decode cL_holds 132 = .ok (.istore 6, 2) := by decide +kernel
theorem dL_holds_134 : decode cL_holds 134 = .ok (.iload 7, 2) := by decide +kernel
theorem dL_holds_136 : decode cL_holds 136 = .ok (.aload_n 0, 1) := by decide +kernel
theorem dL_holds_137 : decode cL_holds 137 = .ok (.iconst 3, 1) := by decide +kernel
theorem dL_holds_138 : decode cL_holds 138 = .ok (.iload 10, 2) := by decide +kernel
theorem dL_holds_140 : decode cL_holds 140 = .ok (.iconst 3, 1) := by decide +kernel
theorem dL_holds_141 : decode cL_holds 141 = .ok (.iconst 0, 1) := by decide +kernel
theorem dL_holds_142 : decode cL_holds 142 = .ok (.invokestatic 164, 3) := by decide +kernel
theorem dL_holds_145 : decode cL_holds 145 = .ok (.iadd, 1) := by decide +kernel
theorem dL_holds_146 : decode cL_holds 146 = .ok (.istore 7, 2) := by decide +kernel
theorem dL_holds_148 : decode cL_holds 148 = .ok (.iload 5, 2) := by decide +kernel
theorem dL_holds_150 : decode cL_holds 150 = .ok (.iload 12, 2) := by decide +kernel
theorem dL_holds_152 : decode cL_holds 152 = .ok (.iconst (-1), 1) := by decide +kernel
theorem dL_holds_153 : decode cL_holds 153 = .ok (.if_icmp .ne 7, 3) := by decide +kernel
theorem dL_holds_156 : decode cL_holds 156 = .ok (.iconst 0, 1) := by decide +kernel
theorem dL_holds_157 : decode cL_holds 157 = .ok (.goto 5, 3) := by decide +kernel
theorem dL_holds_160 : decode cL_holds 160 = .ok (.iload 13, 2) := by decide +kernel
theorem dL_holds_162 : decode cL_holds 162 = .ok (.iadd, 1) := by decide +kernel
theorem dL_holds_163 : decode cL_holds 163 = .ok (.istore 5, 2) := by decide +kernel
theorem dL_holds_165 : decode cL_holds 165 = .ok (.iload 11, 2) := by decide +kernel
theorem dL_holds_167 : decode cL_holds 167 = .ok (.ifCond .lt 131, 3) := by decide +kernel
theorem dL_holds_170 : decode cL_holds 170 = .ok (.iload 11, 2) := by decide +kernel
theorem dL_holds_172 : decode cL_holds 172 = .ok (.iconst 3, 1) := by decide +kernel
theorem dL_holds_173 : decode cL_holds 173 = .ok (.if_icmp .gt 125, 3) := by decide +kernel
theorem dL_holds_176 : decode cL_holds 176 = .ok (.iload 12, 2) := by decide +kernel
theorem dL_holds_178 : decode cL_holds 178 = .ok (.iconst (-1), 1) := by decide +kernel
theorem dL_holds_179 : decode cL_holds 179 = .ok (.if_icmp .ne 7, 3) := by decide +kernel
theorem dL_holds_182 : decode cL_holds 182 = .ok (.iconst 1, 1) := by decide +kernel
theorem dL_holds_183 : decode cL_holds 183 = .ok (.goto 4, 3) := by decide +kernel
theorem dL_holds_186 : decode cL_holds 186 = .ok (.iconst 0, 1) := by decide +kernel
theorem dL_holds_187 : decode cL_holds 187 = .ok (.iload 11, 2) := by decide +kernel
theorem dL_holds_189 : decode cL_holds 189 = .ok (.ifCond .ne 7, 3) := by decide +kernel
theorem dL_holds_192 : decode cL_holds 192 = .ok (.iconst 1, 1) := by decide +kernel
theorem dL_holds_193 : decode cL_holds 193 = .ok (.goto 4, 3) := by decide +kernel
theorem dL_holds_196 : decode cL_holds 196 = .ok (.iconst 0, 1) := by decide +kernel
theorem dL_holds_197 : decode cL_holds 197 = .ok (.if_icmp .ne 101, 3) := by decide +kernel
theorem dL_holds_200 : decode cL_holds 200 = .ok (.aload_n 0, 1) := by decide +kernel
theorem dL_holds_201 : decode cL_holds 201 = .ok (.iconst 3, 1) := by decide +kernel
theorem dL_holds_202 : decode cL_holds 202 = .ok (.iload 10, 2) := by decide +kernel
theorem dL_holds_204 : decode cL_holds 204 = .ok (.iconst 1, 1) := by decide +kernel
theorem dL_holds_205 : decode cL_holds 205 = .ok (.iconst 0, 1) := by decide +kernel
theorem dL_holds_206 : decode cL_holds 206 = .ok (.invokestatic 164, 3) := by decide +kernel
theorem dL_holds_209 : decode cL_holds 209 = .ok (.ifCond .lt 89, 3) := by decide +kernel
theorem dL_holds_212 : decode cL_holds 212 = .ok (.aload_n 0, 1) := by decide +kernel
theorem dL_holds_213 : decode cL_holds 213 = .ok (.iconst 3, 1) := by decide +kernel
theorem dL_holds_214 : decode cL_holds 214 = .ok (.iload 10, 2) := by decide +kernel
theorem dL_holds_216 : decode cL_holds 216 = .ok (.iconst 1, 1) := by decide +kernel
theorem dL_holds_217 : decode cL_holds 217 = .ok (.iconst 0, 1) := by decide +kernel
theorem dL_holds_218 : decode cL_holds 218 = .ok (.invokestatic 164, 3) := by decide +kernel
theorem dL_holds_221 : decode cL_holds 221 = .ok (.sipush 997, 3) := by decide +kernel
theorem dL_holds_224 : decode cL_holds 224 = .ok (.if_icmp .ge 74, 3) := by decide +kernel
theorem dL_holds_227 : decode cL_holds 227 = .ok (.iload 11, 2) := by decide +kernel
theorem dL_holds_229 : decode cL_holds 229 = .ok (.iconst 1, 1) := by decide +kernel
theorem dL_holds_230 : decode cL_holds 230 = .ok (.if_icmp .eq 9, 3) := by decide +kernel
theorem dL_holds_233 : decode cL_holds 233 = .ok (.iload 11, 2) := by decide +kernel
theorem dL_holds_235 : decode cL_holds 235 = .ok (.iconst 3, 1) := by decide +kernel
theorem dL_holds_236 : decode cL_holds 236 = .ok (.if_icmp .ne 9, 3) := by decide +kernel
theorem dL_holds_239 : decode cL_holds 239 = .ok (.iload_n 3, 1) := by decide +kernel
theorem dL_holds_240 : decode cL_holds 240 = .ok (.iload 10, 2) := by decide +kernel
theorem dL_holds_242 : decode cL_holds 242 = .ok (.if_icmp .ne 56, 3) := by decide +kernel
theorem dL_holds_245 : decode cL_holds 245 = .ok (.iload 12, 2) := by decide +kernel
theorem dL_holds_247 : decode cL_holds 247 = .ok (.iconst (-1), 1) := by decide +kernel
theorem dL_holds_248 : decode cL_holds 248 = .ok (.if_icmp .eq 46, 3) := by decide +kernel
theorem dL_holds_251 : decode cL_holds 251 = .ok (.iload 12, 2) := by decide +kernel
theorem dL_holds_253 : decode cL_holds 253 = .ok (.iload 13, 2) := by decide +kernel
theorem dL_holds_255 : decode cL_holds 255 = .ok (.iadd, 1) := by decide +kernel
theorem dL_holds_256 : decode cL_holds 256 = .ok (.bipush 12, 2) := by decide +kernel
theorem dL_holds_258 : decode cL_holds 258 = .ok (.if_icmp .gt 40, 3) := by decide +kernel
theorem dL_holds_261 : decode cL_holds 261 = .ok (.aload_n 0, 1) := by decide +kernel
theorem dL_holds_262 : decode cL_holds 262 = .ok (.iconst 4, 1) := by decide +kernel
theorem dL_holds_263 : decode cL_holds 263 = .ok (.iload 12, 2) := by decide +kernel
theorem dL_holds_265 : decode cL_holds 265 = .ok (.iconst 0, 1) := by decide +kernel
theorem dL_holds_266 : decode cL_holds 266 = .ok (.iconst 0, 1) := by decide +kernel
theorem dL_holds_267 : decode cL_holds 267 = .ok (.invokestatic 164, 3) := by decide +kernel
theorem dL_holds_270 : decode cL_holds 270 = .ok (.iload 10, 2) := by decide +kernel
theorem dL_holds_272 : decode cL_holds 272 = .ok (.if_icmp .ne 26, 3) := by decide +kernel
theorem dL_holds_275 : decode cL_holds 275 = .ok (.aload_n 0, 1) := by decide +kernel
theorem dL_holds_276 : decode cL_holds 276 = .ok (.iconst 4, 1) := by decide +kernel
theorem dL_holds_277 : decode cL_holds 277 = .ok (.iload 12, 2) := by decide +kernel
theorem dL_holds_279 : decode cL_holds 279 = .ok (.iload 13, 2) := by decide +kernel
theorem dL_holds_281 : decode cL_holds 281 = .ok (.iadd, 1) := by decide +kernel
theorem dL_holds_282 : decode cL_holds 282 = .ok (.iconst 1, 1) := by decide +kernel
theorem dL_holds_283 : decode cL_holds 283 = .ok (.isub, 1) := by decide +kernel
theorem dL_holds_284 : decode cL_holds 284 = .ok (.iconst 0, 1) := by decide +kernel
theorem dL_holds_285 : decode cL_holds 285 = .ok (.iconst 0, 1) := by decide +kernel
theorem dL_holds_286 : decode cL_holds 286 = .ok (.invokestatic 164, 3) := by decide +kernel
theorem dL_holds_289 : decode cL_holds 289 = .ok (.iload 10, 2) := by decide +kernel
theorem dL_holds_291 : decode cL_holds 291 = .ok (.if_icmp .ne 7, 3) := by decide +kernel
theorem dL_holds_294 : decode cL_holds 294 = .ok (.iconst 1, 1) := by decide +kernel
theorem dL_holds_295 : decode cL_holds 295 = .ok (.goto 4, 3) := by decide +kernel
theorem dL_holds_298 : decode cL_holds 298 = .ok (.iconst 0, 1) := by decide +kernel
theorem dL_holds_299 : decode cL_holds 299 = .ok (.istore 9, 2) := by decide +kernel
theorem dL_holds_301 : decode cL_holds 301 = .ok (.iinc 10 1, 3) := by decide +kernel
theorem dL_holds_304 : decode cL_holds 304 = .ok (.goto (-230), 3) := by decide +kernel
theorem dL_holds_307 : decode cL_holds 307 = .ok (.iconst 0, 1) := by decide +kernel
theorem dL_holds_308 : decode cL_holds 308 = .ok (.istore 10, 2) := by decide +kernel
theorem dL_holds_310 : decode cL_holds 310 = .ok (.iload 10, 2) := by decide +kernel
theorem dL_holds_312 : decode cL_holds 312 = .ok (.bipush 12, 2) := by decide +kernel
theorem dL_holds_314 : decode cL_holds 314 = .ok (.if_icmp .ge 164, 3) := by decide +kernel
theorem dL_holds_317 : decode cL_holds 317 = .ok (.iload 9, 2) := by decide +kernel
theorem dL_holds_319 : decode cL_holds 319 = .ok (.ifCond .eq 159, 3) := by decide +kernel
theorem dL_holds_322 : decode cL_holds 322 = .ok (.aload_n 0, 1) := by decide +kernel
theorem dL_holds_323 : decode cL_holds 323 = .ok (.iconst 4, 1) := by decide +kernel
theorem dL_holds_324 : decode cL_holds 324 = .ok (.iload 10, 2) := by decide +kernel
theorem dL_holds_326 : decode cL_holds 326 = .ok (.iconst 0, 1) := by decide +kernel
theorem dL_holds_327 : decode cL_holds 327 = .ok (.iconst 0, 1) := by decide +kernel
theorem dL_holds_328 : decode cL_holds 328 = .ok (.invokestatic 164, 3) := by decide +kernel
theorem dL_holds_331 : decode cL_holds 331 = .ok (.istore 11, 2) := by decide +kernel
theorem dL_holds_333 : decode cL_holds 333 = .ok (.aload_n 0, 1) := by decide +kernel
theorem dL_holds_334 : decode cL_holds 334 = .ok (.iconst 4, 1) := by decide +kernel
theorem dL_holds_335 : decode cL_holds 335 = .ok (.iload 10, 2) := by decide +kernel
theorem dL_holds_337 : decode cL_holds 337 = .ok (.iconst 1, 1) := by decide +kernel
theorem dL_holds_338 : decode cL_holds 338 = .ok (.iconst 0, 1) := by decide +kernel
theorem dL_holds_339 : decode cL_holds 339 = .ok (.invokestatic 164, 3) := by decide +kernel
theorem dL_holds_342 : decode cL_holds 342 = .ok (.istore 12, 2) := by decide +kernel
theorem dL_holds_344 : decode cL_holds 344 = .ok (.aload_n 0, 1) := by decide +kernel
theorem dL_holds_345 : decode cL_holds 345 = .ok (.iconst 4, 1) := by decide +kernel
theorem dL_holds_346 : decode cL_holds 346 = .ok (.iload 10, 2) := by decide +kernel
theorem dL_holds_348 : decode cL_holds 348 = .ok (.iconst 2, 1) := by decide +kernel
theorem dL_holds_349 : decode cL_holds 349 = .ok (.iconst 0, 1) := by decide +kernel
theorem dL_holds_350 : decode cL_holds 350 = .ok (.invokestatic 164, 3) := by decide +kernel
theorem dL_holds_353 : decode cL_holds 353 = .ok (.istore 13, 2) := by decide +kernel
theorem dL_holds_355 : decode cL_holds 355 = .ok (.iload 4, 2) := by decide +kernel
theorem dL_holds_357 : decode cL_holds 357 = .ok (.iload 11, 2) := by decide +kernel
theorem dL_holds_359 : decode cL_holds 359 = .ok (.iconst (-1), 1) := by decide +kernel
theorem dL_holds_360 : decode cL_holds 360 = .ok (.if_icmp .ne 7, 3) := by decide +kernel
theorem dL_holds_363 : decode cL_holds 363 = .ok (.iconst 0, 1) := by decide +kernel
theorem dL_holds_364 : decode cL_holds 364 = .ok (.goto 4, 3) := by decide +kernel
theorem dL_holds_367 : decode cL_holds 367 = .ok (.iconst 1, 1) := by decide +kernel
theorem dL_holds_368 : decode cL_holds 368 = .ok (.iadd, 1) := by decide +kernel
theorem dL_holds_369 : decode cL_holds 369 = .ok (.istore 4, 2) := by decide +kernel
theorem dL_holds_371 : decode cL_holds 371 = .ok (.iload 8, 2) := by decide +kernel
theorem dL_holds_373 : decode cL_holds 373 = .ok (.iload 11, 2) := by decide +kernel
theorem dL_holds_375 : decode cL_holds 375 = .ok (.iconst (-1), 1) := by decide +kernel
theorem dL_holds_376 : decode cL_holds 376 = .ok (.if_icmp .ne 18, 3) := by decide +kernel
theorem dL_holds_379 : decode cL_holds 379 = .ok (.iload 12, 2) := by decide +kernel
theorem dL_holds_381 : decode cL_holds 381 = .ok (.iconst (-1), 1) := by decide +kernel
theorem dL_holds_382 : decode cL_holds 382 = .ok (.if_icmp .ne 12, 3) := by decide +kernel
theorem dL_holds_385 : decode cL_holds 385 = .ok (.iload 13, 2) := by decide +kernel
theorem dL_holds_387 : decode cL_holds 387 = .ok (.ifCond .ne 7, 3) := by decide +kernel
theorem dL_holds_390 : decode cL_holds 390 = .ok (.iconst 1, 1) := by decide +kernel
theorem dL_holds_391 : decode cL_holds 391 = .ok (.goto 4, 3) := by decide +kernel
theorem dL_holds_394 : decode cL_holds 394 = .ok (.iconst 0, 1) := by decide +kernel
theorem dL_holds_395 : decode cL_holds 395 = .ok (.iadd, 1) := by decide +kernel
theorem dL_holds_396 : decode cL_holds 396 = .ok (.istore 8, 2) := by decide +kernel
theorem dL_holds_398 : decode cL_holds 398 = .ok (.iload 13, 2) := by decide +kernel
theorem dL_holds_400 : decode cL_holds 400 = .ok (.ifCond .eq 15, 3) := by decide +kernel
theorem dL_holds_403 : decode cL_holds 403 = .ok (.iload 11, 2) := by decide +kernel
theorem dL_holds_405 : decode cL_holds 405 = .ok (.iconst (-1), 1) := by decide +kernel
theorem dL_holds_406 : decode cL_holds 406 = .ok (.if_icmp .ne 63, 3) := by decide +kernel
theorem dL_holds_409 : decode cL_holds 409 = .ok (.iload 12, 2) := by decide +kernel
theorem dL_holds_411 : decode cL_holds 411 = .ok (.iconst (-1), 1) := by decide +kernel
theorem dL_holds_412 : decode cL_holds 412 = .ok (.if_icmp .ne 57, 3) := by decide +kernel
theorem dL_holds_415 : decode cL_holds 415 = .ok (.iload 12, 2) := by decide +kernel
theorem dL_holds_417 : decode cL_holds 417 = .ok (.iconst (-1), 1) := by decide +kernel
theorem dL_holds_418 : decode cL_holds 418 = .ok (.if_icmp .eq 22, 3) := by decide +kernel
theorem dL_holds_421 : decode cL_holds 421 = .ok (.iload 12, 2) := by decide +kernel
theorem dL_holds_423 : decode cL_holds 423 = .ok (.iload_n 3, 1) := by decide +kernel
theorem dL_holds_424 : decode cL_holds 424 = .ok (.if_icmp .ne 45, 3) := by decide +kernel
theorem dL_holds_427 : decode cL_holds 427 = .ok (.iload 11, 2) := by decide +kernel
theorem dL_holds_429 : decode cL_holds 429 = .ok (.iconst (-1), 1) := by decide +kernel
theorem dL_holds_430 : decode cL_holds 430 = .ok (.if_icmp .eq 10, 3) := by decide +kernel
theorem dL_holds_433 : decode cL_holds 433 = .ok (.iload 11, 2) := by decide +kernel
theorem dL_holds_435 : decode cL_holds 435 = .ok (.iload 12, 2) := by decide +kernel
theorem dL_holds_437 : decode cL_holds 437 = .ok (.if_icmp .ne 32, 3) := by decide +kernel
theorem dL_holds_440 : decode cL_holds 440 = .ok (.aload_n 0, 1) := by decide +kernel
theorem dL_holds_441 : decode cL_holds 441 = .ok (.bipush 18, 2) := by decide +kernel
theorem dL_holds_443 : decode cL_holds 443 = .ok (.iload 10, 2) := by decide +kernel
theorem dL_holds_445 : decode cL_holds 445 = .ok (.iconst 0, 1) := by decide +kernel
theorem dL_holds_446 : decode cL_holds 446 = .ok (.iconst 0, 1) := by decide +kernel
theorem dL_holds_447 : decode cL_holds 447 = .ok (.invokestatic 164, 3) := by decide +kernel
theorem dL_holds_450 : decode cL_holds 450 = .ok (.ifCond .eq 15, 3) := by decide +kernel
theorem dL_holds_453 : decode cL_holds 453 = .ok (.iload 11, 2) := by decide +kernel
theorem dL_holds_455 : decode cL_holds 455 = .ok (.iconst (-1), 1) := by decide +kernel
theorem dL_holds_456 : decode cL_holds 456 = .ok (.if_icmp .ne 9, 3) := by decide +kernel
theorem dL_holds_459 : decode cL_holds 459 = .ok (.iload 12, 2) := by decide +kernel
theorem dL_holds_461 : decode cL_holds 461 = .ok (.iconst (-1), 1) := by decide +kernel
theorem dL_holds_462 : decode cL_holds 462 = .ok (.if_icmp .eq 7, 3) := by decide +kernel
theorem dL_holds_465 : decode cL_holds 465 = .ok (.iconst 1, 1) := by decide +kernel
theorem dL_holds_466 : decode cL_holds 466 = .ok (.goto 4, 3) := by decide +kernel
theorem dL_holds_469 : decode cL_holds 469 = .ok (.iconst 0, 1) := by decide +kernel
theorem dL_holds_470 : decode cL_holds 470 = .ok (.istore 9, 2) := by decide +kernel
theorem dL_holds_472 : decode cL_holds 472 = .ok (.iinc 10 1, 3) := by decide +kernel
theorem dL_holds_475 : decode cL_holds 475 = .ok (.goto (-165), 3) := by decide +kernel
theorem dL_holds_478 : decode cL_holds 478 = .ok (.iconst 1, 1) := by decide +kernel
theorem dL_holds_479 : decode cL_holds 479 = .ok (.iload_n 1, 1) := by decide +kernel
theorem dL_holds_480 : decode cL_holds 480 = .ok (.bipush 6, 2) := by decide +kernel
theorem dL_holds_482 : decode cL_holds 482 = .ok (.irem, 1) := by decide +kernel
theorem dL_holds_483 : decode cL_holds 483 = .ok (.iadd, 1) := by decide +kernel
theorem dL_holds_484 : decode cL_holds 484 = .ok (.istore 10, 2) := by decide +kernel
theorem dL_holds_486 : decode cL_holds 486 = .ok (.aload_n 0, 1) := by decide +kernel
theorem dL_holds_487 : decode cL_holds 487 = .ok (.bipush 15, 2) := by decide +kernel
theorem dL_holds_489 : decode cL_holds 489 = .ok (.iload 10, 2) := by decide +kernel
theorem dL_holds_491 : decode cL_holds 491 = .ok (.iconst 0, 1) := by decide +kernel
theorem dL_holds_492 : decode cL_holds 492 = .ok (.iconst 0, 1) := by decide +kernel
theorem dL_holds_493 : decode cL_holds 493 = .ok (.invokestatic 164, 3) := by decide +kernel
theorem dL_holds_496 : decode cL_holds 496 = .ok (.istore 11, 2) := by decide +kernel
theorem dL_holds_498 : decode cL_holds 498 = .ok (.aload_n 0, 1) := by decide +kernel
theorem dL_holds_499 : decode cL_holds 499 = .ok (.iconst 2, 1) := by decide +kernel
theorem dL_holds_500 : decode cL_holds 500 = .ok (.iconst 4, 1) := by decide +kernel
theorem dL_holds_501 : decode cL_holds 501 = .ok (.iconst 0, 1) := by decide +kernel
theorem dL_holds_502 : decode cL_holds 502 = .ok (.iconst 0, 1) := by decide +kernel
theorem dL_holds_503 : decode cL_holds 503 = .ok (.invokestatic 164, 3) := by decide +kernel
theorem dL_holds_506 : decode cL_holds 506 = .ok (.iload 10, 2) := by decide +kernel
theorem dL_holds_508 : decode cL_holds 508 = .ok (.if_icmp .lt 7, 3) := by decide +kernel
theorem dL_holds_511 : decode cL_holds 511 = .ok (.iconst 1, 1) := by decide +kernel
theorem dL_holds_512 : decode cL_holds 512 = .ok (.goto 4, 3) := by decide +kernel
theorem dL_holds_515 : decode cL_holds 515 = .ok (.iconst 0, 1) := by decide +kernel
theorem dL_holds_516 : decode cL_holds 516 = .ok (.istore 12, 2) := by decide +kernel
theorem dL_holds_518 : decode cL_holds 518 = .ok (.iload 9, 2) := by decide +kernel
theorem dL_holds_520 : decode cL_holds 520 = .ok (.ifCond .eq 106, 3) := by decide +kernel
theorem dL_holds_523 : decode cL_holds 523 = .ok (.iload 4, 2) := by decide +kernel
theorem dL_holds_525 : decode cL_holds 525 = .ok (.iload 5, 2) := by decide +kernel
theorem dL_holds_527 : decode cL_holds 527 = .ok (.if_icmp .ne 99, 3) := by decide +kernel
theorem dL_holds_530 : decode cL_holds 530 = .ok (.aload_n 0, 1) := by decide +kernel
theorem dL_holds_531 : decode cL_holds 531 = .ok (.iconst 2, 1) := by decide +kernel
theorem dL_holds_532 : decode cL_holds 532 = .ok (.iconst 2, 1) := by decide +kernel
theorem dL_holds_533 : decode cL_holds 533 = .ok (.iconst 0, 1) := by decide +kernel
theorem dL_holds_534 : decode cL_holds 534 = .ok (.iconst 0, 1) := by decide +kernel
theorem dL_holds_535 : decode cL_holds 535 = .ok (.invokestatic 164, 3) := by decide +kernel
theorem dL_holds_538 : decode cL_holds 538 = .ok (.iload 6, 2) := by decide +kernel
theorem dL_holds_540 : decode cL_holds 540 = .ok (.if_icmp .ne 86, 3) := by decide +kernel
theorem dL_holds_543 : decode cL_holds 543 = .ok (.aload_n 0, 1) := by decide +kernel
theorem dL_holds_544 : decode cL_holds 544 = .ok (.iconst 2, 1) := by decide +kernel
theorem dL_holds_545 : decode cL_holds 545 = .ok (.iconst 3, 1) := by decide +kernel
theorem dL_holds_546 : decode cL_holds 546 = .ok (.iconst 0, 1) := by decide +kernel
theorem dL_holds_547 : decode cL_holds 547 = .ok (.iconst 0, 1) := by decide +kernel
theorem dL_holds_548 : decode cL_holds 548 = .ok (.invokestatic 164, 3) := by decide +kernel
theorem dL_holds_551 : decode cL_holds 551 = .ok (.iload 8, 2) := by decide +kernel
theorem dL_holds_553 : decode cL_holds 553 = .ok (.if_icmp .ne 73, 3) := by decide +kernel
theorem dL_holds_556 : decode cL_holds 556 = .ok (.aload_n 0, 1) := by decide +kernel
theorem dL_holds_557 : decode cL_holds 557 = .ok (.iconst 2, 1) := by decide +kernel
theorem dL_holds_558 : decode cL_holds 558 = .ok (.bipush 8, 2) := by decide +kernel
theorem dL_holds_560 : decode cL_holds 560 = .ok (.iconst 0, 1) := by decide +kernel
theorem dL_holds_561 : decode cL_holds 561 = .ok (.iconst 0, 1) := by decide +kernel
theorem dL_holds_562 : decode cL_holds 562 = .ok (.invokestatic 164, 3) := by decide +kernel
theorem dL_holds_565 : decode cL_holds 565 = .ok (.iload 7, 2) := by decide +kernel
theorem dL_holds_567 : decode cL_holds 567 = .ok (.if_icmp .ne 59, 3) := by decide +kernel
theorem dL_holds_570 : decode cL_holds 570 = .ok (.iload 11, 2) := by decide +kernel
theorem dL_holds_572 : decode cL_holds 572 = .ok (.iconst (-1), 1) := by decide +kernel
theorem dL_holds_573 : decode cL_holds 573 = .ok (.if_icmp .eq 7, 3) := by decide +kernel
theorem dL_holds_576 : decode cL_holds 576 = .ok (.iconst 1, 1) := by decide +kernel
theorem dL_holds_577 : decode cL_holds 577 = .ok (.goto 4, 3) := by decide +kernel
theorem dL_holds_580 : decode cL_holds 580 = .ok (.iconst 0, 1) := by decide +kernel
theorem dL_holds_581 : decode cL_holds 581 = .ok (.iload 12, 2) := by decide +kernel
theorem dL_holds_583 : decode cL_holds 583 = .ok (.if_icmp .ne 43, 3) := by decide +kernel
theorem dL_holds_586 : decode cL_holds 586 = .ok (.aload_n 0, 1) := by decide +kernel
theorem dL_holds_587 : decode cL_holds 587 = .ok (.bipush 16, 2) := by decide +kernel
theorem dL_holds_589 : decode cL_holds 589 = .ok (.iload 10, 2) := by decide +kernel
theorem dL_holds_591 : decode cL_holds 591 = .ok (.iconst 1, 1) := by decide +kernel
theorem dL_holds_592 : decode cL_holds 592 = .ok (.iconst 0, 1) := by decide +kernel
theorem dL_holds_593 : decode cL_holds 593 = .ok (.invokestatic 164, 3) := by decide +kernel
theorem dL_holds_596 : decode cL_holds 596 = .ok (.ifCond .ne 7, 3) := by decide +kernel
theorem dL_holds_599 : decode cL_holds 599 = .ok (.iconst 1, 1) := by decide +kernel
theorem dL_holds_600 : decode cL_holds 600 = .ok (.goto 4, 3) := by decide +kernel
theorem dL_holds_603 : decode cL_holds 603 = .ok (.iconst 0, 1) := by decide +kernel
theorem dL_holds_604 : decode cL_holds 604 = .ok (.iload 12, 2) := by decide +kernel
theorem dL_holds_606 : decode cL_holds 606 = .ok (.if_icmp .ne 20, 3) := by decide +kernel
theorem dL_holds_609 : decode cL_holds 609 = .ok (.aload_n 0, 1) := by decide +kernel
theorem dL_holds_610 : decode cL_holds 610 = .ok (.iconst 2, 1) := by decide +kernel
theorem dL_holds_611 : decode cL_holds 611 = .ok (.iconst 4, 1) := by decide +kernel
theorem dL_holds_612 : decode cL_holds 612 = .ok (.iconst 0, 1) := by decide +kernel
theorem dL_holds_613 : decode cL_holds 613 = .ok (.iconst 0, 1) := by decide +kernel
theorem dL_holds_614 : decode cL_holds 614 = .ok (.invokestatic 164, 3) := by decide +kernel
theorem dL_holds_617 : decode cL_holds 617 = .ok (.iload 8, 2) := by decide +kernel
theorem dL_holds_619 : decode cL_holds 619 = .ok (.if_icmp .gt 7, 3) := by decide +kernel
theorem dL_holds_622 : decode cL_holds 622 = .ok (.iconst 1, 1) := by decide +kernel
theorem dL_holds_623 : decode cL_holds 623 = .ok (.goto 4, 3) := by decide +kernel
theorem dL_holds_626 : decode cL_holds 626 = .ok (.iconst 0, 1) := by decide +kernel
theorem dL_holds_627 : decode cL_holds 627 = .ok (.istore 9, 2) := by decide +kernel
theorem dL_holds_629 : decode cL_holds 629 = .ok (.iload 11, 2) := by decide +kernel
theorem dL_holds_631 : decode cL_holds 631 = .ok (.istore 13, 2) := by decide +kernel
theorem dL_holds_633 : decode cL_holds 633 = .ok (.iload 13, 2) := by decide +kernel
theorem dL_holds_635 : decode cL_holds 635 = .ok (.iload 11, 2) := by decide +kernel
theorem dL_holds_637 : decode cL_holds 637 = .ok (.iload 10, 2) := by decide +kernel
theorem dL_holds_639 : decode cL_holds 639 = .ok (.iadd, 1) := by decide +kernel
theorem dL_holds_640 : decode cL_holds 640 = .ok (.if_icmp .ge 65, 3) := by decide +kernel
theorem dL_holds_643 : decode cL_holds 643 = .ok (.iload 11, 2) := by decide +kernel
theorem dL_holds_645 : decode cL_holds 645 = .ok (.iconst (-1), 1) := by decide +kernel
theorem dL_holds_646 : decode cL_holds 646 = .ok (.if_icmp .eq 59, 3) := by decide +kernel
theorem dL_holds_649 : decode cL_holds 649 = .ok (.iload 9, 2) := by decide +kernel
theorem dL_holds_651 : decode cL_holds 651 = .ok (.ifCond .eq 54, 3) := by decide +kernel
theorem dL_holds_654 : decode cL_holds 654 = .ok (.aload_n 0, 1) := by decide +kernel
theorem dL_holds_655 : decode cL_holds 655 = .ok (.iconst 4, 1) := by decide +kernel
theorem dL_holds_656 : decode cL_holds 656 = .ok (.iload 13, 2) := by decide +kernel
theorem dL_holds_658 : decode cL_holds 658 = .ok (.iconst 0, 1) := by decide +kernel
theorem dL_holds_659 : decode cL_holds 659 = .ok (.iconst 0, 1) := by decide +kernel
theorem dL_holds_660 : decode cL_holds 660 = .ok (.invokestatic 164, 3) := by decide +kernel
theorem dL_holds_663 : decode cL_holds 663 = .ok (.iconst (-1), 1) := by decide +kernel
theorem dL_holds_664 : decode cL_holds 664 = .ok (.if_icmp .ne 32, 3) := by decide +kernel
theorem dL_holds_667 : decode cL_holds 667 = .ok (.aload_n 0, 1) := by decide +kernel
theorem dL_holds_668 : decode cL_holds 668 = .ok (.iconst 4, 1) := by decide +kernel
theorem dL_holds_669 : decode cL_holds 669 = .ok (.iload 13, 2) := by decide +kernel
theorem dL_holds_671 : decode cL_holds 671 = .ok (.iconst 1, 1) := by decide +kernel
theorem dL_holds_672 : decode cL_holds 672 = .ok (.iconst 0, 1) := by decide +kernel
theorem dL_holds_673 : decode cL_holds 673 = .ok (.invokestatic 164, 3) := by decide +kernel
theorem dL_holds_676 : decode cL_holds 676 = .ok (.iconst (-1), 1) := by decide +kernel
theorem dL_holds_677 : decode cL_holds 677 = .ok (.if_icmp .ne 19, 3) := by decide +kernel
theorem dL_holds_680 : decode cL_holds 680 = .ok (.aload_n 0, 1) := by decide +kernel
theorem dL_holds_681 : decode cL_holds 681 = .ok (.iconst 4, 1) := by decide +kernel
theorem dL_holds_682 : decode cL_holds 682 = .ok (.iload 13, 2) := by decide +kernel
theorem dL_holds_684 : decode cL_holds 684 = .ok (.iconst 2, 1) := by decide +kernel
theorem dL_holds_685 : decode cL_holds 685 = .ok (.iconst 0, 1) := by decide +kernel
theorem dL_holds_686 : decode cL_holds 686 = .ok (.invokestatic 164, 3) := by decide +kernel
theorem dL_holds_689 : decode cL_holds 689 = .ok (.ifCond .ne 7, 3) := by decide +kernel
theorem dL_holds_692 : decode cL_holds 692 = .ok (.iconst 1, 1) := by decide +kernel
theorem dL_holds_693 : decode cL_holds 693 = .ok (.goto 4, 3) := by decide +kernel
theorem dL_holds_696 : decode cL_holds 696 = .ok (.iconst 0, 1) := by decide +kernel
theorem dL_holds_697 : decode cL_holds 697 = .ok (.istore 9, 2) := by decide +kernel
theorem dL_holds_699 : decode cL_holds 699 = .ok (.iinc 13 1, 3) := by decide +kernel
theorem dL_holds_702 : decode cL_holds 702 = .ok (.goto (-69), 3) := by decide +kernel
theorem dL_holds_705 : decode cL_holds 705 = .ok (.iload 9, 2) := by decide +kernel
theorem dL_holds_707 : decode cL_holds 707 = .ok (.ifCond .eq 58, 3) := by decide +kernel
theorem dL_holds_710 : decode cL_holds 710 = .ok (.iload 11, 2) := by decide +kernel
theorem dL_holds_712 : decode cL_holds 712 = .ok (.iconst 1, 1) := by decide +kernel
theorem dL_holds_713 : decode cL_holds 713 = .ok (.if_icmp .lt 48, 3) := by decide +kernel
theorem dL_holds_716 : decode cL_holds 716 = .ok (.aload_n 0, 1) := by decide +kernel
theorem dL_holds_717 : decode cL_holds 717 = .ok (.iconst 4, 1) := by decide +kernel
theorem dL_holds_718 : decode cL_holds 718 = .ok (.iload 11, 2) := by decide +kernel
theorem dL_holds_720 : decode cL_holds 720 = .ok (.iconst 1, 1) := by decide +kernel
theorem dL_holds_721 : decode cL_holds 721 = .ok (.isub, 1) := by decide +kernel
theorem dL_holds_722 : decode cL_holds 722 = .ok (.iconst 0, 1) := by decide +kernel
theorem dL_holds_723 : decode cL_holds 723 = .ok (.iconst 0, 1) := by decide +kernel
theorem dL_holds_724 : decode cL_holds 724 = .ok (.invokestatic 164, 3) := by decide +kernel
theorem dL_holds_727 : decode cL_holds 727 = .ok (.iconst (-1), 1) := by decide +kernel
theorem dL_holds_728 : decode cL_holds 728 = .ok (.if_icmp .ne 33, 3) := by decide +kernel
theorem dL_holds_731 : decode cL_holds 731 = .ok (.aload_n 0, 1) := by decide +kernel
theorem dL_holds_732 : decode cL_holds 732 = .ok (.iconst 4, 1) := by decide +kernel
theorem dL_holds_733 : decode cL_holds 733 = .ok (.iload 11, 2) := by decide +kernel
theorem dL_holds_735 : decode cL_holds 735 = .ok (.iconst 1, 1) := by decide +kernel
theorem dL_holds_736 : decode cL_holds 736 = .ok (.isub, 1) := by decide +kernel
theorem dL_holds_737 : decode cL_holds 737 = .ok (.iconst 1, 1) := by decide +kernel
theorem dL_holds_738 : decode cL_holds 738 = .ok (.iconst 0, 1) := by decide +kernel
theorem dL_holds_739 : decode cL_holds 739 = .ok (.invokestatic 164, 3) := by decide +kernel
theorem dL_holds_742 : decode cL_holds 742 = .ok (.iconst (-1), 1) := by decide +kernel
theorem dL_holds_743 : decode cL_holds 743 = .ok (.if_icmp .ne 18, 3) := by decide +kernel
theorem dL_holds_746 : decode cL_holds 746 = .ok (.aload_n 0, 1) := by decide +kernel
theorem dL_holds_747 : decode cL_holds 747 = .ok (.iconst 4, 1) := by decide +kernel
theorem dL_holds_748 : decode cL_holds 748 = .ok (.iload 11, 2) := by decide +kernel
theorem dL_holds_750 : decode cL_holds 750 = .ok (.iconst 1, 1) := by decide +kernel
theorem dL_holds_751 : decode cL_holds 751 = .ok (.isub, 1) := by decide +kernel
theorem dL_holds_752 : decode cL_holds 752 = .ok (.iconst 2, 1) := by decide +kernel
theorem dL_holds_753 : decode cL_holds 753 = .ok (.iconst 0, 1) := by decide +kernel
theorem dL_holds_754 : decode cL_holds 754 = .ok (.invokestatic 164, 3) := by decide +kernel
theorem dL_holds_757 : decode cL_holds 757 = .ok (.iconst 1, 1) := by decide +kernel
theorem dL_holds_758 : decode cL_holds 758 = .ok (.if_icmp .ne 7, 3) := by decide +kernel
theorem dL_holds_761 : decode cL_holds 761 = .ok (.iconst 1, 1) := by decide +kernel
theorem dL_holds_762 : decode cL_holds 762 = .ok (.goto 4, 3) := by decide +kernel
theorem dL_holds_765 : decode cL_holds 765 = .ok (.iconst 0, 1) := by decide +kernel
theorem dL_holds_766 : decode cL_holds 766 = .ok (.ireturn, 1) := by decide +kernel
theorem dL_act_0 : decode cL_act 0 = .ok (.aload_n 0, 1) := by decide +kernel
theorem dL_act_1 : decode cL_act 1 = .ok (.iconst 2, 1) := by decide +kernel
theorem dL_act_2 : decode cL_act 2 = .ok (.iconst 0, 1) := by decide +kernel
theorem dL_act_3 : decode cL_act 3 = .ok (.iconst 0, 1) := by decide +kernel
theorem dL_act_4 : decode cL_act 4 = .ok (.iconst 0, 1) := by decide +kernel
theorem dL_act_5 : decode cL_act 5 = .ok (.invokestatic 164, 3) := by decide +kernel
theorem dL_act_8 : decode cL_act 8 = .ok (.istore_n 2, 1) := by decide +kernel
theorem dL_act_9 : decode cL_act 9 = .ok (.iload_n 1, 1) := by decide +kernel
theorem dL_act_10 : decode cL_act 10 = .ok (.bipush 16, 2) := by decide +kernel
theorem dL_act_12 : decode cL_act 12 = .ok (.idiv, 1) := by decide +kernel
theorem dL_act_13 : decode cL_act 13 = .ok (.iload_n 2, 1) := by decide +kernel
theorem dL_act_14 : decode cL_act 14 = .ok (.irem, 1) := by decide +kernel
theorem dL_act_15 : decode cL_act 15 = .ok (.istore_n 3, 1) := by decide +kernel
theorem dL_act_16 : decode cL_act 16 = .ok (.iload_n 1, 1) := by decide +kernel
theorem dL_act_17 : decode cL_act 17 = .ok (.bipush 96, 2) := by decide +kernel
theorem dL_act_19 : decode cL_act 19 = .ok (.idiv, 1) := by decide +kernel
theorem dL_act_20 : decode cL_act 20 = .ok (.bipush 12, 2) := by decide +kernel
theorem dL_act_22 : decode cL_act 22 = .ok (.irem, 1) := by decide +kernel
theorem dL_act_23 : decode cL_act 23 = .ok (.istore 4, 2) := by decide +kernel
theorem dL_act_25 : decode cL_act 25 = .ok (.iload_n 1, 1) := by decide +kernel
theorem dL_act_26 : decode cL_act 26 = .ok (.bipush 16, 2) := by decide +kernel
theorem dL_act_28 : decode cL_act 28 = .ok (.irem, 1) := by decide +kernel
theorem dL_act_29 : decode cL_act 29 = .ok (.tableswitch 215 0 12 #[67, 91, 91, 91, 91, 91, 102, 113, 113, 124, 134, 155, 174], 67) := by decide +kernel
theorem dL_act_96 : decode cL_act 96 = .ok (.aload_n 0, 1) := by decide +kernel
theorem dL_act_97 : decode cL_act 97 = .ok (.bipush 7, 2) := by decide +kernel
theorem dL_act_99 : decode cL_act 99 = .ok (.iconst 1, 1) := by decide +kernel
theorem dL_act_100 : decode cL_act 100 = .ok (.iload_n 1, 1) := by decide +kernel
theorem dL_act_101 : decode cL_act 101 = .ok (.bipush 16, 2) := by decide +kernel
theorem dL_act_103 : decode cL_act 103 = .ok (.idiv, 1) := by decide +kernel
theorem dL_act_104 : decode cL_act 104 = .ok (.iconst 5, 1) := by decide +kernel
theorem dL_act_105 : decode cL_act 105 = .ok (.irem, 1) := by decide +kernel
theorem dL_act_106 : decode cL_act 106 = .ok (.iadd, 1) := by decide +kernel
theorem dL_act_107 : decode cL_act 107 = .ok (.iload_n 1, 1) := by decide +kernel
theorem dL_act_108 : decode cL_act 108 = .ok (.bipush 80, 2) := by decide +kernel
theorem dL_act_110 : decode cL_act 110 = .ok (.idiv, 1) := by decide +kernel
theorem dL_act_111 : decode cL_act 111 = .ok (.sipush 997, 3) := by decide +kernel
theorem dL_act_114 : decode cL_act 114 = .ok (.irem, 1) := by decide +kernel
theorem dL_act_115 : decode cL_act 115 = .ok (.iconst 0, 1) := by decide +kernel
theorem dL_act_116 : decode cL_act 116 = .ok (.invokestatic 164, 3) := by decide +kernel
theorem dL_act_119 : decode cL_act 119 = .ok (.ireturn, 1) := by decide +kernel
theorem dL_act_120 : decode cL_act 120 = .ok (.aload_n 0, 1) := by decide +kernel
theorem dL_act_121 : decode cL_act 121 = .ok (.bipush 8, 2) := by decide +kernel
theorem dL_act_123 : decode cL_act 123 = .ok (.iload_n 3, 1) := by decide +kernel
theorem dL_act_124 : decode cL_act 124 = .ok (.iload 4, 2) := by decide +kernel
theorem dL_act_126 : decode cL_act 126 = .ok (.iconst 0, 1) := by decide +kernel
theorem dL_act_127 : decode cL_act 127 = .ok (.invokestatic 164, 3) := by decide +kernel
theorem dL_act_130 : decode cL_act 130 = .ok (.ireturn, 1) := by decide +kernel
theorem dL_act_131 : decode cL_act 131 = .ok (.aload_n 0, 1) := by decide +kernel
theorem dL_act_132 : decode cL_act 132 = .ok (.bipush 10, 2) := by decide +kernel
theorem dL_act_134 : decode cL_act 134 = .ok (.iload 4, 2) := by decide +kernel
theorem dL_act_136 : decode cL_act 136 = .ok (.iconst 0, 1) := by decide +kernel
theorem dL_act_137 : decode cL_act 137 = .ok (.iconst 0, 1) := by decide +kernel
theorem dL_act_138 : decode cL_act 138 = .ok (.invokestatic 164, 3) := by decide +kernel
theorem dL_act_141 : decode cL_act 141 = .ok (.ireturn, 1) := by decide +kernel
theorem dL_act_142 : decode cL_act 142 = .ok (.aload_n 0, 1) := by decide +kernel
theorem dL_act_143 : decode cL_act 143 = .ok (.bipush 11, 2) := by decide +kernel
theorem dL_act_145 : decode cL_act 145 = .ok (.iload 4, 2) := by decide +kernel
theorem dL_act_147 : decode cL_act 147 = .ok (.iconst 0, 1) := by decide +kernel
theorem dL_act_148 : decode cL_act 148 = .ok (.iconst 0, 1) := by decide +kernel
theorem dL_act_149 : decode cL_act 149 = .ok (.invokestatic 164, 3) := by decide +kernel
theorem dL_act_152 : decode cL_act 152 = .ok (.ireturn, 1) := by decide +kernel
theorem dL_act_153 : decode cL_act 153 = .ok (.aload_n 0, 1) := by decide +kernel
theorem dL_act_154 : decode cL_act 154 = .ok (.bipush 9, 2) := by decide +kernel
theorem dL_act_156 : decode cL_act 156 = .ok (.iload_n 3, 1) := by decide +kernel
theorem dL_act_157 : decode cL_act 157 = .ok (.iconst 0, 1) := by decide +kernel
theorem dL_act_158 : decode cL_act 158 = .ok (.iconst 0, 1) := by decide +kernel
theorem dL_act_159 : decode cL_act 159 = .ok (.invokestatic 164, 3) := by decide +kernel
theorem dL_act_162 : decode cL_act 162 = .ok (.ireturn, 1) := by decide +kernel
theorem dL_act_163 : decode cL_act 163 = .ok (.aload_n 0, 1) := by decide +kernel
theorem dL_act_164 : decode cL_act 164 = .ok (.bipush 13, 2) := by decide +kernel
theorem dL_act_166 : decode cL_act 166 = .ok (.iload_n 1, 1) := by decide +kernel
theorem dL_act_167 : decode cL_act 167 = .ok (.bipush 16, 2) := by decide +kernel
theorem dL_act_169 : decode cL_act 169 = .ok (.idiv, 1) := by decide +kernel
theorem dL_act_170 : decode cL_act 170 = .ok (.iconst 3, 1) := by decide +kernel
theorem dL_act_171 : decode cL_act 171 = .ok (.irem, 1) := by decide +kernel
theorem dL_act_172 : decode cL_act 172 = .ok (.iload_n 1, 1) := by decide +kernel
theorem dL_act_173 : decode cL_act 173 = .ok (.bipush 48, 2) := by decide +kernel
theorem dL_act_175 : decode cL_act 175 = .ok (.idiv, 1) := by decide +kernel
theorem dL_act_176 : decode cL_act 176 = .ok (.bipush 12, 2) := by decide +kernel
theorem dL_act_178 : decode cL_act 178 = .ok (.irem, 1) := by decide +kernel
theorem dL_act_179 : decode cL_act 179 = .ok (.iconst 0, 1) := by decide +kernel
theorem dL_act_180 : decode cL_act 180 = .ok (.invokestatic 164, 3) := by decide +kernel
theorem dL_act_183 : decode cL_act 183 = .ok (.ireturn, 1) := by decide +kernel
theorem dL_act_184 : decode cL_act 184 = .ok (.iload_n 2, 1) := by decide +kernel
theorem dL_act_185 : decode cL_act 185 = .ok (.iconst 3, 1) := by decide +kernel
theorem dL_act_186 : decode cL_act 186 = .ok (.if_icmp .ge 7, 3) := by decide +kernel
theorem dL_act_189 : decode cL_act 189 = .ok (.iconst (-1), 1) := by decide +kernel
theorem dL_act_190 : decode cL_act 190 = .ok (.goto 12, 3) := by decide +kernel
theorem dL_act_193 : decode cL_act 193 = .ok (.aload_n 0, 1) := by decide +kernel
theorem dL_act_194 : decode cL_act 194 = .ok (.bipush 14, 2) := by decide +kernel
theorem dL_act_196 : decode cL_act 196 = .ok (.iconst 0, 1) := by decide +kernel
theorem dL_act_197 : decode cL_act 197 = .ok (.iconst 0, 1) := by decide +kernel
theorem dL_act_198 : decode cL_act 198 = .ok (.iconst 0, 1) := by decide +kernel
theorem dL_act_199 : decode cL_act 199 = .ok (.invokestatic 164, 3) := by decide +kernel
theorem dL_act_202 : decode cL_act 202 = .ok (.ireturn, 1) := by decide +kernel
theorem dL_act_203 : decode cL_act 203 = .ok (.iload_n 1, 1) := by decide +kernel
theorem dL_act_204 : decode cL_act 204 = .ok (.bipush 16, 2) := by decide +kernel
theorem dL_act_206 : decode cL_act 206 = .ok (.idiv, 1) := by decide +kernel
theorem dL_act_207 : decode cL_act 207 = .ok (.iconst 2, 1) := by decide +kernel
theorem dL_act_208 : decode cL_act 208 = .ok (.irem, 1) := by decide +kernel
theorem dL_act_209 : decode cL_act 209 = .ok (.ifCond .ne 20, 3) := by decide +kernel
theorem dL_act_212 : decode cL_act 212 = .ok (.aload_n 0, 1) := by decide +kernel
theorem dL_act_213 : decode cL_act 213 = .ok (.bipush 19, 2) := by decide +kernel
theorem dL_act_215 : decode cL_act 215 = .ok (.iload_n 1, 1) := by decide +kernel
theorem dL_act_216 : decode cL_act 216 = .ok (.bipush 32, 2) := by decide +kernel
theorem dL_act_218 : decode cL_act 218 = .ok (.idiv, 1) := by decide +kernel
theorem dL_act_219 : decode cL_act 219 = .ok (.iconst 2, 1) := by decide +kernel
theorem dL_act_220 : decode cL_act 220 = .ok (.irem, 1) := by decide +kernel
theorem dL_act_221 : decode cL_act 221 = .ok (.iconst 0, 1) := by decide +kernel
theorem dL_act_222 : decode cL_act 222 = .ok (.iconst 0, 1) := by decide +kernel
theorem dL_act_223 : decode cL_act 223 = .ok (.invokestatic 164, 3) := by decide +kernel
theorem dL_act_226 : decode cL_act 226 = .ok (.goto 17, 3) := by decide +kernel
theorem dL_act_229 : decode cL_act 229 = .ok (.aload_n 0, 1) := by decide +kernel
theorem dL_act_230 : decode cL_act 230 = .ok (.bipush 20, 2) := by decide +kernel
theorem dL_act_232 : decode cL_act 232 = .ok (.iload_n 1, 1) := by decide +kernel
theorem dL_act_233 : decode cL_act 233 = .ok (.bipush 32, 2) := by decide +kernel
theorem dL_act_235 : decode cL_act 235 = .ok (.idiv, 1) := by decide +kernel
theorem dL_act_236 : decode cL_act 236 = .ok (.iconst 2, 1) := by decide +kernel
theorem dL_act_237 : decode cL_act 237 = .ok (.irem, 1) := by decide +kernel
theorem dL_act_238 : decode cL_act 238 = .ok (.iconst 0, 1) := by decide +kernel
theorem dL_act_239 : decode cL_act 239 = .ok (.iconst 0, 1) := by decide +kernel
theorem dL_act_240 : decode cL_act 240 = .ok (.invokestatic 164, 3) := by decide +kernel
theorem dL_act_243 : decode cL_act 243 = .ok (.ireturn, 1) := by decide +kernel
theorem dL_act_244 : decode cL_act 244 = .ok (.aload_n 0, 1) := by decide +kernel
theorem dL_act_245 : decode cL_act 245 = .ok (.bipush 12, 2) := by decide +kernel
theorem dL_act_247 : decode cL_act 247 = .ok (.iconst 1, 1) := by decide +kernel
theorem dL_act_248 : decode cL_act 248 = .ok (.iload_n 1, 1) := by decide +kernel
theorem dL_act_249 : decode cL_act 249 = .ok (.bipush 16, 2) := by decide +kernel
theorem dL_act_251 : decode cL_act 251 = .ok (.idiv, 1) := by decide +kernel
theorem dL_act_252 : decode cL_act 252 = .ok (.bipush 20, 2) := by decide +kernel
theorem dL_act_254 : decode cL_act 254 = .ok (.irem, 1) := by decide +kernel
theorem dL_act_255 : decode cL_act 255 = .ok (.iadd, 1) := by decide +kernel
theorem dL_act_256 : decode cL_act 256 = .ok (.iconst 0, 1) := by decide +kernel
theorem dL_act_257 : decode cL_act 257 = .ok (.iconst 0, 1) := by decide +kernel
theorem dL_act_258 : decode cL_act 258 = .ok (.invokestatic 164, 3) := by decide +kernel
theorem dL_act_261 : decode cL_act 261 = .ok (.ireturn, 1) := by decide +kernel
theorem dL_alike_0 : decode cL_alike 0 = .ok (.aload_n 0, 1) := by decide +kernel
theorem dL_alike_1 : decode cL_alike 1 = .ok (.iload_n 2, 1) := by decide +kernel
theorem dL_alike_2 : decode cL_alike 2 = .ok (.i2l, 1) := by decide +kernel
theorem dL_alike_3 : decode cL_alike 3 = .ok (.iconst 1, 1) := by decide +kernel
theorem dL_alike_4 : decode cL_alike 4 = .ok (.iload_n 2, 1) := by decide +kernel
theorem dL_alike_5 : decode cL_alike 5 = .ok (.bipush 20, 2) := by decide +kernel
theorem dL_alike_7 : decode cL_alike 7 = .ok (.irem, 1) := by decide +kernel
theorem dL_alike_8 : decode cL_alike 8 = .ok (.iadd, 1) := by decide +kernel
theorem dL_alike_9 : decode cL_alike 9 = .ok (.invokestatic 174, 3) := by decide +kernel
theorem dL_alike_12 : decode cL_alike 12 = .ok (.aload_n 1, 1) := by decide +kernel
theorem dL_alike_13 : decode cL_alike 13 = .ok (.iload_n 2, 1) := by decide +kernel
theorem dL_alike_14 : decode cL_alike 14 = .ok (.i2l, 1) := by decide +kernel
theorem dL_alike_15 : decode cL_alike 15 = .ok (.iconst 1, 1) := by decide +kernel
theorem dL_alike_16 : decode cL_alike 16 = .ok (.iload_n 2, 1) := by decide +kernel
theorem dL_alike_17 : decode cL_alike 17 = .ok (.bipush 20, 2) := by decide +kernel
theorem dL_alike_19 : decode cL_alike 19 = .ok (.irem, 1) := by decide +kernel
theorem dL_alike_20 : decode cL_alike 20 = .ok (.iadd, 1) := by decide +kernel
theorem dL_alike_21 : decode cL_alike 21 = .ok (.invokestatic 174, 3) := by decide +kernel
theorem dL_alike_24 : decode cL_alike 24 = .ok (.if_icmp .ne 18, 3) := by decide +kernel
theorem dL_alike_27 : decode cL_alike 27 = .ok (.aload_n 0, 1) := by decide +kernel
theorem dL_alike_28 : decode cL_alike 28 = .ok (.invokevirtual 178, 3) := by decide +kernel
theorem dL_alike_31 : decode cL_alike 31 = .ok (.aload_n 1, 1) := by decide +kernel
theorem dL_alike_32 : decode cL_alike 32 = .ok (.invokevirtual 178, 3) := by decide +kernel
theorem dL_alike_35 : decode cL_alike 35 = .ok (.if_icmp .ne 7, 3) := by decide +kernel
theorem dL_alike_38 : decode cL_alike 38 = .ok (.iconst 1, 1) := by decide +kernel
theorem dL_alike_39 : decode cL_alike 39 = .ok (.goto 4, 3) := by decide +kernel
theorem dL_alike_42 : decode cL_alike 42 = .ok (.iconst 0, 1) := by decide +kernel
theorem dL_alike_43 : decode cL_alike 43 = .ok (.istore_n 3, 1) := by decide +kernel
theorem dL_alike_44 : decode cL_alike 44 = .ok (.iconst 0, 1) := by decide +kernel
theorem dL_alike_45 : decode cL_alike 45 = .ok (.istore 4, 2) := by decide +kernel
theorem dL_alike_47 : decode cL_alike 47 = .ok (.iload 4, 2) := by decide +kernel
theorem dL_alike_49 : decode cL_alike 49 = .ok (.bipush 12, 2) := by decide +kernel
theorem dL_alike_51 : decode cL_alike 51 = .ok (.if_icmp .ge 180, 3) := by decide +kernel
theorem dL_alike_54 : decode cL_alike 54 = .ok (.iload_n 3, 1) := by decide +kernel
theorem dL_alike_55 : decode cL_alike 55 = .ok (.ifCond .eq 176, 3) := by decide +kernel
theorem dL_alike_58 : decode cL_alike 58 = .ok (.aload_n 0, 1) := by decide +kernel
theorem dL_alike_59 : decode cL_alike 59 = .ok (.iconst 2, 1) := by decide +kernel
theorem dL_alike_60 : decode cL_alike 60 = .ok (.iload 4, 2) := by decide +kernel
theorem dL_alike_62 : decode cL_alike 62 = .ok (.iconst 0, 1) := by decide +kernel
theorem dL_alike_63 : decode cL_alike 63 = .ok (.iconst 0, 1) := by decide +kernel
theorem dL_alike_64 : decode cL_alike 64 = .ok (.invokestatic 164, 3) := by decide +kernel
theorem dL_alike_67 : decode cL_alike 67 = .ok (.aload_n 1, 1) := by decide +kernel
theorem dL_alike_68 : decode cL_alike 68 = .ok (.iconst 2, 1) := by decide +kernel
theorem dL_alike_69 : decode cL_alike 69 = .ok (.iload 4, 2) := by decide +kernel
theorem dL_alike_71 : decode cL_alike 71 = .ok (.iconst 0, 1) := by decide +kernel
theorem dL_alike_72 : decode cL_alike 72 = .ok (.iconst 0, 1) := by decide +kernel
theorem dL_alike_73 : decode cL_alike 73 = .ok (.invokestatic 164, 3) := by decide +kernel
theorem dL_alike_76 : decode cL_alike 76 = .ok (.if_icmp .ne 147, 3) := by decide +kernel
theorem dL_alike_79 : decode cL_alike 79 = .ok (.aload_n 0, 1) := by decide +kernel
theorem dL_alike_80 : decode cL_alike 80 = .ok (.bipush 6, 2) := by decide +kernel
theorem dL_alike_82 : decode cL_alike 82 = .ok (.iload 4, 2) := by decide +kernel
theorem dL_alike_84 : decode cL_alike 84 = .ok (.iconst 0, 1) := by decide +kernel
theorem dL_alike_85 : decode cL_alike 85 = .ok (.iconst 0, 1) := by decide +kernel
theorem dL_alike_86 : decode cL_alike 86 = .ok (.invokestatic 164, 3) := by decide +kernel
theorem dL_alike_89 : decode cL_alike 89 = .ok (.aload_n 1, 1) := by decide +kernel
theorem dL_alike_90 : decode cL_alike 90 = .ok (.bipush 6, 2) := by decide +kernel
theorem dL_alike_92 : decode cL_alike 92 = .ok (.iload 4, 2) := by decide +kernel
theorem dL_alike_94 : decode cL_alike 94 = .ok (.iconst 0, 1) := by decide +kernel
theorem dL_alike_95 : decode cL_alike 95 = .ok (.iconst 0, 1) := by decide +kernel
theorem dL_alike_96 : decode cL_alike 96 = .ok (.invokestatic 164, 3) := by decide +kernel
theorem dL_alike_99 : decode cL_alike 99 = .ok (.if_icmp .ne 124, 3) := by decide +kernel
theorem dL_alike_102 : decode cL_alike 102 = .ok (.aload_n 0, 1) := by decide +kernel
theorem dL_alike_103 : decode cL_alike 103 = .ok (.iconst 5, 1) := by decide +kernel
theorem dL_alike_104 : decode cL_alike 104 = .ok (.iload 4, 2) := by decide +kernel
theorem dL_alike_106 : decode cL_alike 106 = .ok (.iconst 0, 1) := by decide +kernel
theorem dL_alike_107 : decode cL_alike 107 = .ok (.iconst 0, 1) := by decide +kernel
theorem dL_alike_108 : decode cL_alike 108 = .ok (.invokestatic 164, 3) := by decide +kernel
theorem dL_alike_111 : decode cL_alike 111 = .ok (.aload_n 1, 1) := by decide +kernel
theorem dL_alike_112 : decode cL_alike 112 = .ok (.iconst 5, 1) := by decide +kernel
theorem dL_alike_113 : decode cL_alike 113 = .ok (.iload 4, 2) := by decide +kernel
theorem dL_alike_115 : decode cL_alike 115 = .ok (.iconst 0, 1) := by decide +kernel
theorem dL_alike_116 : decode cL_alike 116 = .ok (.iconst 0, 1) := by decide +kernel
theorem dL_alike_117 : decode cL_alike 117 = .ok (.invokestatic 164, 3) := by decide +kernel
theorem dL_alike_120 : decode cL_alike 120 = .ok (.if_icmp .ne 103, 3) := by decide +kernel
theorem dL_alike_123 : decode cL_alike 123 = .ok (.aload_n 0, 1) := by decide +kernel
theorem dL_alike_124 : decode cL_alike 124 = .ok (.iconst 3, 1) := by decide +kernel
theorem dL_alike_125 : decode cL_alike 125 = .ok (.iload 4, 2) := by decide +kernel
theorem dL_alike_127 : decode cL_alike 127 = .ok (.iconst 1, 1) := by decide +kernel
theorem dL_alike_128 : decode cL_alike 128 = .ok (.iconst 0, 1) := by decide +kernel
theorem dL_alike_129 : decode cL_alike 129 = .ok (.invokestatic 164, 3) := by decide +kernel
theorem dL_alike_132 : decode cL_alike 132 = .ok (.aload_n 1, 1) := by decide +kernel
theorem dL_alike_133 : decode cL_alike 133 = .ok (.iconst 3, 1) := by decide +kernel
theorem dL_alike_134 : decode cL_alike 134 = .ok (.iload 4, 2) := by decide +kernel
theorem dL_alike_136 : decode cL_alike 136 = .ok (.iconst 1, 1) := by decide +kernel
theorem dL_alike_137 : decode cL_alike 137 = .ok (.iconst 0, 1) := by decide +kernel
theorem dL_alike_138 : decode cL_alike 138 = .ok (.invokestatic 164, 3) := by decide +kernel
theorem dL_alike_141 : decode cL_alike 141 = .ok (.if_icmp .ne 82, 3) := by decide +kernel
theorem dL_alike_144 : decode cL_alike 144 = .ok (.aload_n 0, 1) := by decide +kernel
theorem dL_alike_145 : decode cL_alike 145 = .ok (.iconst 3, 1) := by decide +kernel
theorem dL_alike_146 : decode cL_alike 146 = .ok (.iload 4, 2) := by decide +kernel
theorem dL_alike_148 : decode cL_alike 148 = .ok (.iload_n 2, 1) := by decide +kernel
theorem dL_alike_149 : decode cL_alike 149 = .ok (.bipush 6, 2) := by decide +kernel
theorem dL_alike_151 : decode cL_alike 151 = .ok (.irem, 1) := by decide +kernel
theorem dL_alike_152 : decode cL_alike 152 = .ok (.iconst 0, 1) := by decide +kernel
theorem dL_alike_153 : decode cL_alike 153 = .ok (.invokestatic 164, 3) := by decide +kernel
theorem dL_alike_156 : decode cL_alike 156 = .ok (.aload_n 1, 1) := by decide +kernel
theorem dL_alike_157 : decode cL_alike 157 = .ok (.iconst 3, 1) := by decide +kernel
theorem dL_alike_158 : decode cL_alike 158 = .ok (.iload 4, 2) := by decide +kernel
theorem dL_alike_160 : decode cL_alike 160 = .ok (.iload_n 2, 1) := by decide +kernel
theorem dL_alike_161 : decode cL_alike 161 = .ok (.bipush 6, 2) := by decide +kernel
theorem dL_alike_163 : decode cL_alike 163 = .ok (.irem, 1) := by decide +kernel
theorem dL_alike_164 : decode cL_alike 164 = .ok (.iconst 0, 1) := by decide +kernel
theorem dL_alike_165 : decode cL_alike 165 = .ok (.invokestatic 164, 3) := by decide +kernel
theorem dL_alike_168 : decode cL_alike 168 = .ok (.if_icmp .ne 55, 3) := by decide +kernel
theorem dL_alike_171 : decode cL_alike 171 = .ok (.aload_n 0, 1) := by decide +kernel
theorem dL_alike_172 : decode cL_alike 172 = .ok (.iconst 4, 1) := by decide +kernel
theorem dL_alike_173 : decode cL_alike 173 = .ok (.iload 4, 2) := by decide +kernel
theorem dL_alike_175 : decode cL_alike 175 = .ok (.iload_n 2, 1) := by decide +kernel
theorem dL_alike_176 : decode cL_alike 176 = .ok (.iconst 3, 1) := by decide +kernel
theorem dL_alike_177 : decode cL_alike 177 = .ok (.irem, 1) := by decide +kernel
theorem dL_alike_178 : decode cL_alike 178 = .ok (.iconst 0, 1) := by decide +kernel
theorem dL_alike_179 : decode cL_alike 179 = .ok (.invokestatic 164, 3) := by decide +kernel
theorem dL_alike_182 : decode cL_alike 182 = .ok (.aload_n 1, 1) := by decide +kernel
theorem dL_alike_183 : decode cL_alike 183 = .ok (.iconst 4, 1) := by decide +kernel
theorem dL_alike_184 : decode cL_alike 184 = .ok (.iload 4, 2) := by decide +kernel
theorem dL_alike_186 : decode cL_alike 186 = .ok (.iload_n 2, 1) := by decide +kernel
theorem dL_alike_187 : decode cL_alike 187 = .ok (.iconst 3, 1) := by decide +kernel
theorem dL_alike_188 : decode cL_alike 188 = .ok (.irem, 1) := by decide +kernel
theorem dL_alike_189 : decode cL_alike 189 = .ok (.iconst 0, 1) := by decide +kernel
theorem dL_alike_190 : decode cL_alike 190 = .ok (.invokestatic 164, 3) := by decide +kernel
theorem dL_alike_193 : decode cL_alike 193 = .ok (.if_icmp .ne 30, 3) := by decide +kernel
theorem dL_alike_196 : decode cL_alike 196 = .ok (.aload_n 0, 1) := by decide +kernel
theorem dL_alike_197 : decode cL_alike 197 = .ok (.bipush 18, 2) := by decide +kernel
theorem dL_alike_199 : decode cL_alike 199 = .ok (.iload 4, 2) := by decide +kernel
theorem dL_alike_201 : decode cL_alike 201 = .ok (.iconst 0, 1) := by decide +kernel
theorem dL_alike_202 : decode cL_alike 202 = .ok (.iconst 0, 1) := by decide +kernel
theorem dL_alike_203 : decode cL_alike 203 = .ok (.invokestatic 164, 3) := by decide +kernel
theorem dL_alike_206 : decode cL_alike 206 = .ok (.aload_n 1, 1) := by decide +kernel
theorem dL_alike_207 : decode cL_alike 207 = .ok (.bipush 18, 2) := by decide +kernel
theorem dL_alike_209 : decode cL_alike 209 = .ok (.iload 4, 2) := by decide +kernel
theorem dL_alike_211 : decode cL_alike 211 = .ok (.iconst 0, 1) := by decide +kernel
theorem dL_alike_212 : decode cL_alike 212 = .ok (.iconst 0, 1) := by decide +kernel
theorem dL_alike_213 : decode cL_alike 213 = .ok (.invokestatic 164, 3) := by decide +kernel
theorem dL_alike_216 : decode cL_alike 216 = .ok (.if_icmp .ne 7, 3) := by decide +kernel
theorem dL_alike_219 : decode cL_alike 219 = .ok (.iconst 1, 1) := by decide +kernel
theorem dL_alike_220 : decode cL_alike 220 = .ok (.goto 4, 3) := by decide +kernel
theorem dL_alike_223 : decode cL_alike 223 = .ok (.iconst 0, 1) := by decide +kernel
theorem dL_alike_224 : decode cL_alike 224 = .ok (.istore_n 3, 1) := by decide +kernel
theorem dL_alike_225 : decode cL_alike 225 = .ok (.iinc 4 1, 3) := by decide +kernel
theorem dL_alike_228 : decode cL_alike 228 = .ok (.goto (-181), 3) := by decide +kernel
theorem dL_alike_231 : decode cL_alike 231 = .ok (.iload_n 3, 1) := by decide +kernel
theorem dL_alike_232 : decode cL_alike 232 = .ok (.ireturn, 1) := by decide +kernel
theorem dL_law_0 : decode cL_law 0 = .ok (.new 8, 3) := by decide +kernel
theorem dL_law_3 : decode cL_law 3 = .ok (.dup, 1) := by decide +kernel
theorem dL_law_4 : decode cL_law 4 = .ok (.invokespecial 181, 3) := by decide +kernel
theorem dL_law_7 : decode cL_law 7 = .ok (.astore_n 1, 1) := by decide +kernel
theorem dL_law_8 : decode cL_law 8 = .ok (.new 8, 3) := by decide +kernel
theorem dL_law_11 : decode cL_law 11 = .ok (.dup, 1) := by decide +kernel
theorem dL_law_12 : decode cL_law 12 = .ok (.invokespecial 181, 3) := by decide +kernel
theorem dL_law_15 : decode cL_law 15 = .ok (.astore_n 2, 1) := by decide +kernel
theorem dL_law_16 : decode cL_law 16 = .ok (.aload_n 0, 1) := by decide +kernel
theorem dL_law_17 : decode cL_law 17 = .ok (.iconst 0, 1) := by decide +kernel
theorem dL_law_18 : decode cL_law 18 = .ok (.invokestatic 182, 3) := by decide +kernel
theorem dL_law_21 : decode cL_law 21 = .ok (.istore_n 3, 1) := by decide +kernel
theorem dL_law_22 : decode cL_law 22 = .ok (.aload_n 1, 1) := by decide +kernel
theorem dL_law_23 : decode cL_law 23 = .ok (.bipush 7, 2) := by decide +kernel
theorem dL_law_25 : decode cL_law 25 = .ok (.iconst 1, 1) := by decide +kernel
theorem dL_law_26 : decode cL_law 26 = .ok (.iload_n 3, 1) := by decide +kernel
theorem dL_law_27 : decode cL_law 27 = .ok (.iconst 4, 1) := by decide +kernel
theorem dL_law_28 : decode cL_law 28 = .ok (.irem, 1) := by decide +kernel
theorem dL_law_29 : decode cL_law 29 = .ok (.iadd, 1) := by decide +kernel
theorem dL_law_30 : decode cL_law 30 = .ok (.iload_n 3, 1) := by decide +kernel
theorem dL_law_31 : decode cL_law 31 = .ok (.sipush 997, 3) := by decide +kernel
theorem dL_law_34 : decode cL_law 34 = .ok (.irem, 1) := by decide +kernel
theorem dL_law_35 : decode cL_law 35 = .ok (.iconst 0, 1) := by decide +kernel
theorem dL_law_36 : decode cL_law 36 = .ok (.invokestatic 164, 3) := by decide +kernel
theorem dL_law_39 : decode cL_law 39 = .ok (.ifCond .ne 53, 3) := by decide +kernel
theorem dL_law_42 : decode cL_law 42 = .ok (.aload_n 2, 1) := by decide +kernel
theorem dL_law_43 : decode cL_law 43 = .ok (.bipush 7, 2) := by decide +kernel
theorem dL_law_45 : decode cL_law 45 = .ok (.iconst 1, 1) := by decide +kernel
theorem dL_law_46 : decode cL_law 46 = .ok (.iload_n 3, 1) := by decide +kernel
theorem dL_law_47 : decode cL_law 47 = .ok (.iconst 4, 1) := by decide +kernel
theorem dL_law_48 : decode cL_law 48 = .ok (.irem, 1) := by decide +kernel
theorem dL_law_49 : decode cL_law 49 = .ok (.iadd, 1) := by decide +kernel
theorem dL_law_50 : decode cL_law 50 = .ok (.iload_n 3, 1) := by decide +kernel
theorem dL_law_51 : decode cL_law 51 = .ok (.sipush 997, 3) := by decide +kernel
theorem dL_law_54 : decode cL_law 54 = .ok (.irem, 1) := by decide +kernel
theorem dL_law_55 : decode cL_law 55 = .ok (.iconst 0, 1) := by decide +kernel
theorem dL_law_56 : decode cL_law 56 = .ok (.invokestatic 164, 3) := by decide +kernel
theorem dL_law_59 : decode cL_law 59 = .ok (.ifCond .ne 33, 3) := by decide +kernel
theorem dL_law_62 : decode cL_law 62 = .ok (.aload_n 1, 1) := by decide +kernel
theorem dL_law_63 : decode cL_law 63 = .ok (.bipush 7, 2) := by decide +kernel
theorem dL_law_65 : decode cL_law 65 = .ok (.iconst 2, 1) := by decide +kernel
theorem dL_law_66 : decode cL_law 66 = .ok (.iconst 5, 1) := by decide +kernel
theorem dL_law_67 : decode cL_law 67 = .ok (.iconst 0, 1) := by decide +kernel
theorem dL_law_68 : decode cL_law 68 = .ok (.invokestatic 164, 3) := by decide +kernel
theorem dL_law_71 : decode cL_law 71 = .ok (.iconst 1, 1) := by decide +kernel
theorem dL_law_72 : decode cL_law 72 = .ok (.if_icmp .ne 20, 3) := by decide +kernel
theorem dL_law_75 : decode cL_law 75 = .ok (.aload_n 2, 1) := by decide +kernel
theorem dL_law_76 : decode cL_law 76 = .ok (.bipush 7, 2) := by decide +kernel
theorem dL_law_78 : decode cL_law 78 = .ok (.iconst 2, 1) := by decide +kernel
theorem dL_law_79 : decode cL_law 79 = .ok (.iconst 5, 1) := by decide +kernel
theorem dL_law_80 : decode cL_law 80 = .ok (.iconst 0, 1) := by decide +kernel
theorem dL_law_81 : decode cL_law 81 = .ok (.invokestatic 164, 3) := by decide +kernel
theorem dL_law_84 : decode cL_law 84 = .ok (.iconst 1, 1) := by decide +kernel
theorem dL_law_85 : decode cL_law 85 = .ok (.if_icmp .ne 7, 3) := by decide +kernel
theorem dL_law_88 : decode cL_law 88 = .ok (.iconst 1, 1) := by decide +kernel
theorem dL_law_89 : decode cL_law 89 = .ok (.goto 4, 3) := by decide +kernel
theorem dL_law_92 : decode cL_law 92 = .ok (.iconst 0, 1) := by decide +kernel
theorem dL_law_93 : decode cL_law 93 = .ok (.istore 4, 2) := by decide +kernel
theorem dL_law_95 : decode cL_law 95 = .ok (.bipush 8, 2) := by decide +kernel
theorem dL_law_97 : decode cL_law 97 = .ok (.aload_n 0, 1) := by decide +kernel
theorem dL_law_98 : decode cL_law 98 = .ok (.iconst 1, 1) := by decide +kernel
theorem dL_law_99 : decode cL_law 99 = .ok (.invokestatic 182, 3) := by decide +kernel
theorem dL_law_102 : decode cL_law 102 = .ok (.bipush 21, 2) := by decide +kernel
theorem dL_law_104 : decode cL_law 104 = .ok (.irem, 1) := by decide +kernel
theorem dL_law_105 : decode cL_law 105 = .ok (.iadd, 1) := by decide +kernel
theorem dL_law_106 : decode cL_law 106 = .ok (.istore 5, 2) := by decide +kernel
theorem dL_law_108 : decode cL_law 108 = .ok (.iconst 0, 1) := by decide +kernel
theorem dL_law_109 : decode cL_law 109 = .ok (.istore 6, 2) := by decide +kernel
theorem dL_law_111 : decode cL_law 111 = .ok (.iload 6, 2) := by decide +kernel
theorem dL_law_113 : decode cL_law 113 = .ok (.iload 5, 2) := by decide +kernel
theorem dL_law_115 : decode cL_law 115 = .ok (.if_icmp .ge 150, 3) := by decide +kernel
theorem dL_law_118 : decode cL_law 118 = .ok (.iload 4, 2) := by decide +kernel
theorem dL_law_120 : decode cL_law 120 = .ok (.ifCond .eq 145, 3) := by decide +kernel
theorem dL_law_123 : decode cL_law 123 = .ok (.aload_n 0, 1) := by decide +kernel
theorem dL_law_124 : decode cL_law 124 = .ok (.iconst 2, 1) := by decide +kernel
theorem dL_law_125 : decode cL_law 125 = .ok (.iload 6, 2) := by decide +kernel
theorem dL_law_127 : decode cL_law 127 = .ok (.iadd, 1) := by decide +kernel
theorem dL_law_128 : decode cL_law 128 = .ok (.invokestatic 182, 3) := by decide +kernel
theorem dL_law_131 : decode cL_law 131 = .ok (.istore 7, 2) := by decide +kernel
theorem dL_law_133 : decode cL_law 133 = .ok (.aload_n 1, 1) := by decide +kernel
theorem dL_law_134 : decode cL_law 134 = .ok (.iload 7, 2) := by decide +kernel
theorem dL_law_136 : decode cL_law 136 = .ok (.invokestatic 186, 3) := by decide +kernel
theorem dL_law_139 : decode cL_law 139 = .ok (.istore 8, 2) := by decide +kernel
theorem dL_law_141 : decode cL_law 141 = .ok (.aload_n 2, 1) := by decide +kernel
theorem dL_law_142 : decode cL_law 142 = .ok (.iload 7, 2) := by decide +kernel
theorem dL_law_144 : decode cL_law 144 = .ok (.ldc 189, 2) := by decide +kernel
theorem dL_law_146 : decode cL_law 146 = .ok (.irem, 1) := by decide +kernel
theorem dL_law_147 : decode cL_law 147 = .ok (.invokestatic 190, 3) := by decide +kernel
theorem dL_law_150 : decode cL_law 150 = .ok (.ifCond .eq 106, 3) := by decide +kernel
theorem dL_law_153 : decode cL_law 153 = .ok (.aload_n 2, 1) := by decide +kernel
theorem dL_law_154 : decode cL_law 154 = .ok (.iload 7, 2) := by decide +kernel
theorem dL_law_156 : decode cL_law 156 = .ok (.invokestatic 186, 3) := by decide +kernel
theorem dL_law_159 : decode cL_law 159 = .ok (.iload 8, 2) := by decide +kernel
theorem dL_law_161 : decode cL_law 161 = .ok (.if_icmp .ne 95, 3) := by decide +kernel
theorem dL_law_164 : decode cL_law 164 = .ok (.aload_n 2, 1) := by decide +kernel
theorem dL_law_165 : decode cL_law 165 = .ok (.iload 7, 2) := by decide +kernel
theorem dL_law_167 : decode cL_law 167 = .ok (.sipush 1000, 3) := by decide +kernel
theorem dL_law_170 : decode cL_law 170 = .ok (.irem, 1) := by decide +kernel
theorem dL_law_171 : decode cL_law 171 = .ok (.invokestatic 190, 3) := by decide +kernel
theorem dL_law_174 : decode cL_law 174 = .ok (.ifCond .eq 82, 3) := by decide +kernel
theorem dL_law_177 : decode cL_law 177 = .ok (.aload_n 1, 1) := by decide +kernel
theorem dL_law_178 : decode cL_law 178 = .ok (.aload_n 2, 1) := by decide +kernel
theorem dL_law_179 : decode cL_law 179 = .ok (.iload 7, 2) := by decide +kernel
theorem dL_law_181 : decode cL_law 181 = .ok (.sipush 5000, 3) := by decide +kernel
theorem dL_law_184 : decode cL_law 184 = .ok (.irem, 1) := by decide +kernel
theorem dL_law_185 : decode cL_law 185 = .ok (.invokestatic 194, 3) := by decide +kernel
theorem dL_law_188 : decode cL_law 188 = .ok (.ifCond .eq 68, 3) := by decide +kernel
theorem dL_law_191 : decode cL_law 191 = .ok (.iload 6, 2) := by decide +kernel
theorem dL_law_193 : decode cL_law 193 = .ok (.iconst 2, 1) := by decide +kernel
theorem dL_law_194 : decode cL_law 194 = .ok (.irem, 1) := by decide +kernel
theorem dL_law_195 : decode cL_law 195 = .ok (.ifCond .ne 17, 3) := by decide +kernel
theorem dL_law_198 : decode cL_law 198 = .ok (.aload_n 1, 1) := by decide +kernel
theorem dL_law_199 : decode cL_law 199 = .ok (.iload 7, 2) := by decide +kernel
theorem dL_law_201 : decode cL_law 201 = .ok (.iconst 3, 1) := by decide +kernel
theorem dL_law_202 : decode cL_law 202 = .ok (.idiv, 1) := by decide +kernel
theorem dL_law_203 : decode cL_law 203 = .ok (.invokestatic 198, 3) := by decide +kernel
theorem dL_law_206 : decode cL_law 206 = .ok (.ifCond .eq 50, 3) := by decide +kernel
theorem dL_law_209 : decode cL_law 209 = .ok (.goto 14, 3) := by decide +kernel
theorem dL_law_212 : decode cL_law 212 = .ok (.aload_n 2, 1) := by decide +kernel
theorem dL_law_213 : decode cL_law 213 = .ok (.iload 7, 2) := by decide +kernel
theorem dL_law_215 : decode cL_law 215 = .ok (.iconst 5, 1) := by decide +kernel
theorem dL_law_216 : decode cL_law 216 = .ok (.idiv, 1) := by decide +kernel
theorem dL_law_217 : decode cL_law 217 = .ok (.invokestatic 198, 3) := by decide +kernel
theorem dL_law_220 : decode cL_law 220 = .ok (.ifCond .eq 36, 3) := by decide +kernel
theorem dL_law_223 : decode cL_law 223 = .ok (.aload_n 1, 1) := by decide +kernel
theorem dL_law_224 : decode cL_law 224 = .ok (.aload_n 2, 1) := by decide +kernel
theorem dL_law_225 : decode cL_law 225 = .ok (.iload 7, 2) := by decide +kernel
theorem dL_law_227 : decode cL_law 227 = .ok (.bipush 7, 2) := by decide +kernel
theorem dL_law_229 : decode cL_law 229 = .ok (.idiv, 1) := by decide +kernel
theorem dL_law_230 : decode cL_law 230 = .ok (.invokestatic 201, 3) := by decide +kernel
theorem dL_law_233 : decode cL_law 233 = .ok (.ifCond .eq 23, 3) := by decide +kernel
theorem dL_law_236 : decode cL_law 236 = .ok (.aload_n 1, 1) := by decide +kernel
theorem dL_law_237 : decode cL_law 237 = .ok (.aload_n 2, 1) := by decide +kernel
theorem dL_law_238 : decode cL_law 238 = .ok (.iload 7, 2) := by decide +kernel
theorem dL_law_240 : decode cL_law 240 = .ok (.bipush 11, 2) := by decide +kernel
theorem dL_law_242 : decode cL_law 242 = .ok (.idiv, 1) := by decide +kernel
theorem dL_law_243 : decode cL_law 243 = .ok (.bipush 12, 2) := by decide +kernel
theorem dL_law_245 : decode cL_law 245 = .ok (.irem, 1) := by decide +kernel
theorem dL_law_246 : decode cL_law 246 = .ok (.invokestatic 204, 3) := by decide +kernel
theorem dL_law_249 : decode cL_law 249 = .ok (.ifCond .eq 7, 3) := by decide +kernel
theorem dL_law_252 : decode cL_law 252 = .ok (.iconst 1, 1) := by decide +kernel
theorem dL_law_253 : decode cL_law 253 = .ok (.goto 4, 3) := by decide +kernel
theorem dL_law_256 : decode cL_law 256 = .ok (.iconst 0, 1) := by decide +kernel
theorem dL_law_257 : decode cL_law 257 = .ok (.istore 4, 2) := by decide +kernel
theorem dL_law_259 : decode cL_law 259 = .ok (.iinc 6 1, 3) := by decide +kernel
theorem dL_law_262 : decode cL_law 262 = .ok (.goto (-151), 3) := by decide +kernel
theorem dL_law_265 : decode cL_law 265 = .ok (.iload 4, 2) := by decide +kernel
theorem dL_law_267 : decode cL_law 267 = .ok (.ireturn, 1) := by decide +kernel
theorem dL_ticks_0 : decode cL_ticks 0 = .ok (.iload_n 2, 1) := by decide +kernel
theorem dL_ticks_1 : decode cL_ticks 1 = .ok (.aload_n 0, 1) := by decide +kernel
theorem dL_ticks_2 : decode cL_ticks 2 = .ok (.iconst 2, 1) := by decide +kernel
theorem dL_ticks_3 : decode cL_ticks 3 = .ok (.iconst 0, 1) := by decide +kernel
theorem dL_ticks_4 : decode cL_ticks 4 = .ok (.iconst 0, 1) := by decide +kernel
theorem dL_ticks_5 : decode cL_ticks 5 = .ok (.iconst 0, 1) := by decide +kernel
theorem dL_ticks_6 : decode cL_ticks 6 = .ok (.invokestatic 164, 3) := by decide +kernel
theorem dL_ticks_9 : decode cL_ticks 9 = .ok (.irem, 1) := by decide +kernel
theorem dL_ticks_10 : decode cL_ticks 10 = .ok (.istore_n 3, 1) := by decide +kernel
theorem dL_ticks_11 : decode cL_ticks 11 = .ok (.aload_n 0, 1) := by decide +kernel
theorem dL_ticks_12 : decode cL_ticks 12 = .ok (.invokevirtual 178, 3) := by decide +kernel
theorem dL_ticks_15 : decode cL_ticks 15 = .ok (.istore 4, 2) := by decide +kernel
theorem dL_ticks_17 : decode cL_ticks 17 = .ok (.iload 4, 2) := by decide +kernel
theorem dL_ticks_19 : decode cL_ticks 19 = .ok (.iconst 1, 1) := by decide +kernel
theorem dL_ticks_20 : decode cL_ticks 20 = .ok (.if_icmp .le 24, 3) := by decide +kernel
theorem dL_ticks_23 : decode cL_ticks 23 = .ok (.iload 4, 2) := by decide +kernel
theorem dL_ticks_25 : decode cL_ticks 25 = .ok (.bipush 60, 2) := by decide +kernel
theorem dL_ticks_27 : decode cL_ticks 27 = .ok (.if_icmp .gt 17, 3) := by decide +kernel
theorem dL_ticks_30 : decode cL_ticks 30 = .ok (.iload_n 2, 1) := by decide +kernel
theorem dL_ticks_31 : decode cL_ticks 31 = .ok (.bipush 6, 2) := by decide +kernel
theorem dL_ticks_33 : decode cL_ticks 33 = .ok (.idiv, 1) := by decide +kernel
theorem dL_ticks_34 : decode cL_ticks 34 = .ok (.iconst 2, 1) := by decide +kernel
theorem dL_ticks_35 : decode cL_ticks 35 = .ok (.irem, 1) := by decide +kernel
theorem dL_ticks_36 : decode cL_ticks 36 = .ok (.ifCond .ne 8, 3) := by decide +kernel
theorem dL_ticks_39 : decode cL_ticks 39 = .ok (.iload 4, 2) := by decide +kernel
theorem dL_ticks_41 : decode cL_ticks 41 = .ok (.goto 12, 3) := by decide +kernel
theorem dL_ticks_44 : decode cL_ticks 44 = .ok (.iconst 1, 1) := by decide +kernel
theorem dL_ticks_45 : decode cL_ticks 45 = .ok (.iload_n 2, 1) := by decide +kernel
theorem dL_ticks_46 : decode cL_ticks 46 = .ok (.bipush 12, 2) := by decide +kernel
theorem dL_ticks_48 : decode cL_ticks 48 = .ok (.idiv, 1) := by decide +kernel
theorem dL_ticks_49 : decode cL_ticks 49 = .ok (.bipush 60, 2) := by decide +kernel
theorem dL_ticks_51 : decode cL_ticks 51 = .ok (.irem, 1) := by decide +kernel
theorem dL_ticks_52 : decode cL_ticks 52 = .ok (.iadd, 1) := by decide +kernel
theorem dL_ticks_53 : decode cL_ticks 53 = .ok (.istore 5, 2) := by decide +kernel
theorem dL_ticks_55 : decode cL_ticks 55 = .ok (.aload_n 0, 1) := by decide +kernel
theorem dL_ticks_56 : decode cL_ticks 56 = .ok (.bipush 17, 2) := by decide +kernel
theorem dL_ticks_58 : decode cL_ticks 58 = .ok (.iload_n 3, 1) := by decide +kernel
theorem dL_ticks_59 : decode cL_ticks 59 = .ok (.iload 5, 2) := by decide +kernel
theorem dL_ticks_61 : decode cL_ticks 61 = .ok (.iconst 0, 1) := by decide +kernel
theorem dL_ticks_62 : decode cL_ticks 62 = .ok (.invokestatic 164, 3) := by decide +kernel
theorem dL_ticks_65 : decode cL_ticks 65 = .ok (.istore 6, 2) := by decide +kernel
theorem dL_ticks_67 : decode cL_ticks 67 = .ok (.aload_n 0, 1) := by decide +kernel
theorem dL_ticks_68 : decode cL_ticks 68 = .ok (.bipush 17, 2) := by decide +kernel
theorem dL_ticks_70 : decode cL_ticks 70 = .ok (.iload_n 3, 1) := by decide +kernel
theorem dL_ticks_71 : decode cL_ticks 71 = .ok (.iload 5, 2) := by decide +kernel
theorem dL_ticks_73 : decode cL_ticks 73 = .ok (.iconst 1, 1) := by decide +kernel
theorem dL_ticks_74 : decode cL_ticks 74 = .ok (.invokestatic 164, 3) := by decide +kernel
theorem dL_ticks_77 : decode cL_ticks 77 = .ok (.istore 7, 2) := by decide +kernel
theorem dL_ticks_79 : decode cL_ticks 79 = .ok (.aload_n 0, 1) := by decide +kernel
theorem dL_ticks_80 : decode cL_ticks 80 = .ok (.bipush 17, 2) := by decide +kernel
theorem dL_ticks_82 : decode cL_ticks 82 = .ok (.iload_n 3, 1) := by decide +kernel
theorem dL_ticks_83 : decode cL_ticks 83 = .ok (.iload 5, 2) := by decide +kernel
theorem dL_ticks_85 : decode cL_ticks 85 = .ok (.iconst 2, 1) := by decide +kernel
theorem dL_ticks_86 : decode cL_ticks 86 = .ok (.invokestatic 164, 3) := by decide +kernel
theorem dL_ticks_89 : decode cL_ticks 89 = .ok (.istore 8, 2) := by decide +kernel
theorem dL_ticks_91 : decode cL_ticks 91 = .ok (.aload_n 0, 1) := by decide +kernel
theorem dL_ticks_92 : decode cL_ticks 92 = .ok (.iconst 3, 1) := by decide +kernel
theorem dL_ticks_93 : decode cL_ticks 93 = .ok (.iload_n 3, 1) := by decide +kernel
theorem dL_ticks_94 : decode cL_ticks 94 = .ok (.iconst 3, 1) := by decide +kernel
theorem dL_ticks_95 : decode cL_ticks 95 = .ok (.iconst 0, 1) := by decide +kernel
theorem dL_ticks_96 : decode cL_ticks 96 = .ok (.invokestatic 164, 3) := by decide +kernel
theorem dL_ticks_99 : decode cL_ticks 99 = .ok (.istore 9, 2) := by decide +kernel
theorem dL_ticks_101 : decode cL_ticks 101 = .ok (.aload_n 0, 1) := by decide +kernel
theorem dL_ticks_102 : decode cL_ticks 102 = .ok (.iconst 2, 1) := by decide +kernel
theorem dL_ticks_103 : decode cL_ticks 103 = .ok (.bipush 6, 2) := by decide +kernel
theorem dL_ticks_105 : decode cL_ticks 105 = .ok (.iconst 0, 1) := by decide +kernel
theorem dL_ticks_106 : decode cL_ticks 106 = .ok (.iconst 0, 1) := by decide +kernel
theorem dL_ticks_107 : decode cL_ticks 107 = .ok (.invokestatic 164, 3) := by decide +kernel
theorem dL_ticks_110 : decode cL_ticks 110 = .ok (.istore 10, 2) := by decide +kernel
theorem dL_ticks_112 : decode cL_ticks 112 = .ok (.aload_n 0, 1) := by decide +kernel
theorem dL_ticks_113 : decode cL_ticks 113 = .ok (.iconst 3, 1) := by decide +kernel
theorem dL_ticks_114 : decode cL_ticks 114 = .ok (.iload_n 3, 1) := by decide +kernel
theorem dL_ticks_115 : decode cL_ticks 115 = .ok (.iconst 1, 1) := by decide +kernel
theorem dL_ticks_116 : decode cL_ticks 116 = .ok (.iconst 0, 1) := by decide +kernel
theorem dL_ticks_117 : decode cL_ticks 117 = .ok (.invokestatic 164, 3) := by decide +kernel
theorem dL_ticks_120 : decode cL_ticks 120 = .ok (.istore 11, 2) := by decide +kernel
theorem dL_ticks_122 : decode cL_ticks 122 = .ok (.aload_n 0, 1) := by decide +kernel
theorem dL_ticks_123 : decode cL_ticks 123 = .ok (.bipush 12, 2) := by decide +kernel
theorem dL_ticks_125 : decode cL_ticks 125 = .ok (.iload 5, 2) := by decide +kernel
theorem dL_ticks_127 : decode cL_ticks 127 = .ok (.iconst 0, 1) := by decide +kernel
theorem dL_ticks_128 : decode cL_ticks 128 = .ok (.iconst 0, 1) := by decide +kernel
theorem dL_ticks_129 : decode cL_ticks 129 = .ok (.invokestatic 164, 3) := by decide +kernel
theorem dL_ticks_132 : decode cL_ticks 132 = .ok (.istore 12, 2) := by decide +kernel
theorem dL_ticks_134 : decode cL_ticks 134 = .ok (.iload 12, 2) := by decide +kernel
theorem dL_ticks_136 : decode cL_ticks 136 = .ok (.aload_n 1, 1) := by decide +kernel
theorem dL_ticks_137 : decode cL_ticks 137 = .ok (.bipush 12, 2) := by decide +kernel
theorem dL_ticks_139 : decode cL_ticks 139 = .ok (.iload 5, 2) := by decide +kernel
theorem dL_ticks_141 : decode cL_ticks 141 = .ok (.iconst 0, 1) := by decide +kernel
theorem dL_ticks_142 : decode cL_ticks 142 = .ok (.iconst 0, 1) := by decide +kernel
theorem dL_ticks_143 : decode cL_ticks 143 = .ok (.invokestatic 164, 3) := by decide +kernel
theorem dL_ticks_146 : decode cL_ticks 146 = .ok (.if_icmp .ne 115, 3) := by decide +kernel
theorem dL_ticks_149 : decode cL_ticks 149 = .ok (.iload 12, 2) := by decide +kernel
theorem dL_ticks_151 : decode cL_ticks 151 = .ok (.iload 8, 2) := by decide +kernel
theorem dL_ticks_153 : decode cL_ticks 153 = .ok (.if_icmp .lt 108, 3) := by decide +kernel
theorem dL_ticks_156 : decode cL_ticks 156 = .ok (.aload_n 0, 1) := by decide +kernel
theorem dL_ticks_157 : decode cL_ticks 157 = .ok (.iconst 3, 1) := by decide +kernel
theorem dL_ticks_158 : decode cL_ticks 158 = .ok (.iload_n 3, 1) := by decide +kernel
theorem dL_ticks_159 : decode cL_ticks 159 = .ok (.iconst 1, 1) := by decide +kernel
theorem dL_ticks_160 : decode cL_ticks 160 = .ok (.iconst 0, 1) := by decide +kernel
theorem dL_ticks_161 : decode cL_ticks 161 = .ok (.invokestatic 164, 3) := by decide +kernel
theorem dL_ticks_164 : decode cL_ticks 164 = .ok (.iload 6, 2) := by decide +kernel
theorem dL_ticks_166 : decode cL_ticks 166 = .ok (.if_icmp .ne 95, 3) := by decide +kernel
theorem dL_ticks_169 : decode cL_ticks 169 = .ok (.aload_n 0, 1) := by decide +kernel
theorem dL_ticks_170 : decode cL_ticks 170 = .ok (.iconst 3, 1) := by decide +kernel
theorem dL_ticks_171 : decode cL_ticks 171 = .ok (.iload_n 3, 1) := by decide +kernel
theorem dL_ticks_172 : decode cL_ticks 172 = .ok (.iconst 2, 1) := by decide +kernel
theorem dL_ticks_173 : decode cL_ticks 173 = .ok (.iconst 0, 1) := by decide +kernel
theorem dL_ticks_174 : decode cL_ticks 174 = .ok (.invokestatic 164, 3) := by decide +kernel
theorem dL_ticks_177 : decode cL_ticks 177 = .ok (.iload 7, 2) := by decide +kernel
theorem dL_ticks_179 : decode cL_ticks 179 = .ok (.if_icmp .ne 82, 3) := by decide +kernel
theorem dL_ticks_182 : decode cL_ticks 182 = .ok (.aload_n 0, 1) := by decide +kernel
theorem dL_ticks_183 : decode cL_ticks 183 = .ok (.iconst 3, 1) := by decide +kernel
theorem dL_ticks_184 : decode cL_ticks 184 = .ok (.iload_n 3, 1) := by decide +kernel
theorem dL_ticks_185 : decode cL_ticks 185 = .ok (.iconst 3, 1) := by decide +kernel
theorem dL_ticks_186 : decode cL_ticks 186 = .ok (.iconst 0, 1) := by decide +kernel
theorem dL_ticks_187 : decode cL_ticks 187 = .ok (.invokestatic 164, 3) := by decide +kernel
theorem dL_ticks_190 : decode cL_ticks 190 = .ok (.iload 9, 2) := by decide +kernel
theorem dL_ticks_192 : decode cL_ticks 192 = .ok (.iload 8, 2) := by decide +kernel
theorem dL_ticks_194 : decode cL_ticks 194 = .ok (.iadd, 1) := by decide +kernel
theorem dL_ticks_195 : decode cL_ticks 195 = .ok (.if_icmp .ne 66, 3) := by decide +kernel
theorem dL_ticks_198 : decode cL_ticks 198 = .ok (.aload_n 0, 1) := by decide +kernel
theorem dL_ticks_199 : decode cL_ticks 199 = .ok (.invokevirtual 178, 3) := by decide +kernel
theorem dL_ticks_202 : decode cL_ticks 202 = .ok (.ifCond .ne 7, 3) := by decide +kernel
theorem dL_ticks_205 : decode cL_ticks 205 = .ok (.iconst 1, 1) := by decide +kernel
theorem dL_ticks_206 : decode cL_ticks 206 = .ok (.goto 4, 3) := by decide +kernel
theorem dL_ticks_209 : decode cL_ticks 209 = .ok (.iconst 0, 1) := by decide +kernel
theorem dL_ticks_210 : decode cL_ticks 210 = .ok (.iload 4, 2) := by decide +kernel
theorem dL_ticks_212 : decode cL_ticks 212 = .ok (.iload 5, 2) := by decide +kernel
theorem dL_ticks_214 : decode cL_ticks 214 = .ok (.if_icmp .gt 7, 3) := by decide +kernel
theorem dL_ticks_217 : decode cL_ticks 217 = .ok (.iconst 1, 1) := by decide +kernel
theorem dL_ticks_218 : decode cL_ticks 218 = .ok (.goto 4, 3) := by decide +kernel
theorem dL_ticks_221 : decode cL_ticks 221 = .ok (.iconst 0, 1) := by decide +kernel
theorem dL_ticks_222 : decode cL_ticks 222 = .ok (.if_icmp .ne 39, 3) := by decide +kernel
theorem dL_ticks_225 : decode cL_ticks 225 = .ok (.aload_n 0, 1) := by decide +kernel
theorem dL_ticks_226 : decode cL_ticks 226 = .ok (.iconst 2, 1) := by decide +kernel
theorem dL_ticks_227 : decode cL_ticks 227 = .ok (.bipush 6, 2) := by decide +kernel
theorem dL_ticks_229 : decode cL_ticks 229 = .ok (.iconst 0, 1) := by decide +kernel
theorem dL_ticks_230 : decode cL_ticks 230 = .ok (.iconst 0, 1) := by decide +kernel
theorem dL_ticks_231 : decode cL_ticks 231 = .ok (.invokestatic 164, 3) := by decide +kernel
theorem dL_ticks_234 : decode cL_ticks 234 = .ok (.iload 10, 2) := by decide +kernel
theorem dL_ticks_236 : decode cL_ticks 236 = .ok (.iload 4, 2) := by decide +kernel
theorem dL_ticks_238 : decode cL_ticks 238 = .ok (.ifCond .le 14, 3) := by decide +kernel
theorem dL_ticks_241 : decode cL_ticks 241 = .ok (.iload 4, 2) := by decide +kernel
theorem dL_ticks_243 : decode cL_ticks 243 = .ok (.iload 5, 2) := by decide +kernel
theorem dL_ticks_245 : decode cL_ticks 245 = .ok (.if_icmp .gt 7, 3) := by decide +kernel
theorem dL_ticks_248 : decode cL_ticks 248 = .ok (.iconst 1, 1) := by decide +kernel
theorem dL_ticks_249 : decode cL_ticks 249 = .ok (.goto 4, 3) := by decide +kernel
theorem dL_ticks_252 : decode cL_ticks 252 = .ok (.iconst 0, 1) := by decide +kernel
theorem dL_ticks_253 : decode cL_ticks 253 = .ok (.iadd, 1) := by decide +kernel
theorem dL_ticks_254 : decode cL_ticks 254 = .ok (.if_icmp .ne 7, 3) := by decide +kernel
theorem dL_ticks_257 : decode cL_ticks 257 = .ok (.iconst 1, 1) := by decide +kernel
theorem dL_ticks_258 : decode cL_ticks 258 = .ok (.goto 4, 3) := by decide +kernel
theorem dL_ticks_261 : decode cL_ticks 261 = .ok (.iconst 0, 1) := by decide +kernel
theorem dL_ticks_262 : decode cL_ticks 262 = .ok (.istore 13, 2) := by decide +kernel
theorem dL_ticks_264 : decode cL_ticks 264 = .ok (.iload 11, 2) := by decide +kernel
theorem dL_ticks_266 : decode cL_ticks 266 = .ok (.istore 14, 2) := by decide +kernel
theorem dL_ticks_268 : decode cL_ticks 268 = .ok (.iconst 0, 1) := by decide +kernel
theorem dL_ticks_269 : decode cL_ticks 269 = .ok (.istore 15, 2) := by decide +kernel
theorem dL_ticks_271 : decode cL_ticks 271 = .ok (.iload 15, 2) := by decide +kernel
theorem dL_ticks_273 : decode cL_ticks 273 = .ok (.iload 8, 2) := by decide +kernel
theorem dL_ticks_275 : decode cL_ticks 275 = .ok (.if_icmp .ge 34, 3) := by decide +kernel
theorem dL_ticks_278 : decode cL_ticks 278 = .ok (.bipush 31, 2) := by decide +kernel
theorem dL_ticks_280 : decode cL_ticks 280 = .ok (.iload 14, 2) := by decide +kernel
theorem dL_ticks_282 : decode cL_ticks 282 = .ok (.imul, 1) := by decide +kernel
theorem dL_ticks_283 : decode cL_ticks 283 = .ok (.bipush 7, 2) := by decide +kernel
theorem dL_ticks_285 : decode cL_ticks 285 = .ok (.aload_n 0, 1) := by decide +kernel
theorem dL_ticks_286 : decode cL_ticks 286 = .ok (.iconst 3, 1) := by decide +kernel
theorem dL_ticks_287 : decode cL_ticks 287 = .ok (.iload_n 3, 1) := by decide +kernel
theorem dL_ticks_288 : decode cL_ticks 288 = .ok (.iconst 0, 1) := by decide +kernel
theorem dL_ticks_289 : decode cL_ticks 289 = .ok (.iconst 0, 1) := by decide +kernel
theorem dL_ticks_290 : decode cL_ticks 290 = .ok (.invokestatic 164, 3) := by decide +kernel
theorem dL_ticks_293 : decode cL_ticks 293 = .ok (.imul, 1) := by decide +kernel
theorem dL_ticks_294 : decode cL_ticks 294 = .ok (.iadd, 1) := by decide +kernel
theorem dL_ticks_295 : decode cL_ticks 295 = .ok (.iconst 1, 1) := by decide +kernel
theorem dL_ticks_296 : decode cL_ticks 296 = .ok (.iadd, 1) := by decide +kernel
theorem dL_ticks_297 : decode cL_ticks 297 = .ok (.sipush 997, 3) := by decide +kernel
theorem dL_ticks_300 : decode cL_ticks 300 = .ok (.irem, 1) := by decide +kernel
theorem dL_ticks_301 : decode cL_ticks 301 = .ok (.istore 14, 2) := by decide +kernel
theorem dL_ticks_303 : decode cL_ticks 303 = .ok (.iinc 15 1, 3) := by decide +kernel
theorem dL_ticks_306 : decode cL_ticks 306 = .ok (.goto (-35), 3) := by decide +kernel
theorem dL_ticks_309 : decode cL_ticks 309 = .ok (.iload 13, 2) := by decide +kernel
theorem dL_ticks_311 : decode cL_ticks 311 = .ok (.ifCond .eq 66, 3) := by decide +kernel
theorem dL_ticks_314 : decode cL_ticks 314 = .ok (.iload 14, 2) := by decide +kernel
theorem dL_ticks_316 : decode cL_ticks 316 = .ok (.iload 6, 2) := by decide +kernel
theorem dL_ticks_318 : decode cL_ticks 318 = .ok (.if_icmp .ne 59, 3) := by decide +kernel
theorem dL_ticks_321 : decode cL_ticks 321 = .ok (.aload_n 0, 1) := by decide +kernel
theorem dL_ticks_322 : decode cL_ticks 322 = .ok (.bipush 14, 2) := by decide +kernel
theorem dL_ticks_324 : decode cL_ticks 324 = .ok (.iconst 0, 1) := by decide +kernel
theorem dL_ticks_325 : decode cL_ticks 325 = .ok (.iconst 0, 1) := by decide +kernel
theorem dL_ticks_326 : decode cL_ticks 326 = .ok (.iconst 0, 1) := by decide +kernel
theorem dL_ticks_327 : decode cL_ticks 327 = .ok (.invokestatic 164, 3) := by decide +kernel
theorem dL_ticks_330 : decode cL_ticks 330 = .ok (.invokestatic 207, 3) := by decide +kernel
theorem dL_ticks_333 : decode cL_ticks 333 = .ok (.ifCond .ne 44, 3) := by decide +kernel
theorem dL_ticks_336 : decode cL_ticks 336 = .ok (.aload_n 1, 1) := by decide +kernel
theorem dL_ticks_337 : decode cL_ticks 337 = .ok (.bipush 14, 2) := by decide +kernel
theorem dL_ticks_339 : decode cL_ticks 339 = .ok (.iconst 0, 1) := by decide +kernel
theorem dL_ticks_340 : decode cL_ticks 340 = .ok (.iconst 0, 1) := by decide +kernel
theorem dL_ticks_341 : decode cL_ticks 341 = .ok (.iconst 0, 1) := by decide +kernel
theorem dL_ticks_342 : decode cL_ticks 342 = .ok (.invokestatic 164, 3) := by decide +kernel
theorem dL_ticks_345 : decode cL_ticks 345 = .ok (.invokestatic 207, 3) := by decide +kernel
theorem dL_ticks_348 : decode cL_ticks 348 = .ok (.ifCond .ne 29, 3) := by decide +kernel
theorem dL_ticks_351 : decode cL_ticks 351 = .ok (.aload_n 0, 1) := by decide +kernel
theorem dL_ticks_352 : decode cL_ticks 352 = .ok (.iconst 3, 1) := by decide +kernel
theorem dL_ticks_353 : decode cL_ticks 353 = .ok (.iload_n 3, 1) := by decide +kernel
theorem dL_ticks_354 : decode cL_ticks 354 = .ok (.iconst 1, 1) := by decide +kernel
theorem dL_ticks_355 : decode cL_ticks 355 = .ok (.iconst 0, 1) := by decide +kernel
theorem dL_ticks_356 : decode cL_ticks 356 = .ok (.invokestatic 164, 3) := by decide +kernel
theorem dL_ticks_359 : decode cL_ticks 359 = .ok (.iload 11, 2) := by decide +kernel
theorem dL_ticks_361 : decode cL_ticks 361 = .ok (.if_icmp .ne 16, 3) := by decide +kernel
theorem dL_ticks_364 : decode cL_ticks 364 = .ok (.aload_n 0, 1) := by decide +kernel
theorem dL_ticks_365 : decode cL_ticks 365 = .ok (.invokevirtual 178, 3) := by decide +kernel
theorem dL_ticks_368 : decode cL_ticks 368 = .ok (.iload 4, 2) := by decide +kernel
theorem dL_ticks_370 : decode cL_ticks 370 = .ok (.if_icmp .ne 7, 3) := by decide +kernel
theorem dL_ticks_373 : decode cL_ticks 373 = .ok (.iconst 1, 1) := by decide +kernel
theorem dL_ticks_374 : decode cL_ticks 374 = .ok (.goto 4, 3) := by decide +kernel
theorem dL_ticks_377 : decode cL_ticks 377 = .ok (.iconst 0, 1) := by decide +kernel
theorem dL_ticks_378 : decode cL_ticks 378 = .ok (.ireturn, 1) := by decide +kernel
theorem dL_loses_0 : decode cL_loses 0 = .ok (.aload_n 0, 1) := by decide +kernel
theorem dL_loses_1 : decode cL_loses 1 = .ok (.bipush 18, 2) := by decide +kernel
theorem dL_loses_3 : decode cL_loses 3 = .ok (.iload_n 2, 1) := by decide +kernel
theorem dL_loses_4 : decode cL_loses 4 = .ok (.iconst 0, 1) := by decide +kernel
theorem dL_loses_5 : decode cL_loses 5 = .ok (.iconst 0, 1) := by decide +kernel
theorem dL_loses_6 : decode cL_loses 6 = .ok (.invokestatic 164, 3) := by decide +kernel
theorem dL_loses_9 : decode cL_loses 9 = .ok (.istore_n 3, 1) := by decide +kernel
theorem dL_loses_10 : decode cL_loses 10 = .ok (.aload_n 0, 1) := by decide +kernel
theorem dL_loses_11 : decode cL_loses 11 = .ok (.iconst 4, 1) := by decide +kernel
theorem dL_loses_12 : decode cL_loses 12 = .ok (.iload_n 2, 1) := by decide +kernel
theorem dL_loses_13 : decode cL_loses 13 = .ok (.iconst 0, 1) := by decide +kernel
theorem dL_loses_14 : decode cL_loses 14 = .ok (.iconst 0, 1) := by decide +kernel
theorem dL_loses_15 : decode cL_loses 15 = .ok (.invokestatic 164, 3) := by decide +kernel
theorem dL_loses_18 : decode cL_loses 18 = .ok (.istore 4, 2) := by decide +kernel
theorem dL_loses_20 : decode cL_loses 20 = .ok (.aload_n 0, 1) := by decide +kernel
theorem dL_loses_21 : decode cL_loses 21 = .ok (.iconst 2, 1) := by decide +kernel
theorem dL_loses_22 : decode cL_loses 22 = .ok (.bipush 7, 2) := by decide +kernel
theorem dL_loses_24 : decode cL_loses 24 = .ok (.iconst 0, 1) := by decide +kernel
theorem dL_loses_25 : decode cL_loses 25 = .ok (.iconst 0, 1) := by decide +kernel
theorem dL_loses_26 : decode cL_loses 26 = .ok (.invokestatic 164, 3) := by decide +kernel
theorem dL_loses_29 : decode cL_loses 29 = .ok (.istore 5, 2) := by decide +kernel
theorem dL_loses_31 : decode cL_loses 31 = .ok (.aload_n 0, 1) := by decide +kernel
theorem dL_loses_32 : decode cL_loses 32 = .ok (.iconst 5, 1) := by decide +kernel
theorem dL_loses_33 : decode cL_loses 33 = .ok (.iconst 0, 1) := by decide +kernel
theorem dL_loses_34 : decode cL_loses 34 = .ok (.iconst 0, 1) := by decide +kernel
theorem dL_loses_35 : decode cL_loses 35 = .ok (.iconst 0, 1) := by decide +kernel
theorem dL_loses_36 : decode cL_loses 36 = .ok (.invokestatic 164, 3) := by decide +kernel
theorem dL_loses_39 : decode cL_loses 39 = .ok (.istore 6, 2) := by decide +kernel
theorem dL_loses_41 : decode cL_loses 41 = .ok (.aload_n 0, 1) := by decide +kernel
theorem dL_loses_42 : decode cL_loses 42 = .ok (.iconst 4, 1) := by decide +kernel
theorem dL_loses_43 : decode cL_loses 43 = .ok (.iload_n 2, 1) := by decide +kernel
theorem dL_loses_44 : decode cL_loses 44 = .ok (.iconst 1, 1) := by decide +kernel
theorem dL_loses_45 : decode cL_loses 45 = .ok (.iconst 0, 1) := by decide +kernel
theorem dL_loses_46 : decode cL_loses 46 = .ok (.invokestatic 164, 3) := by decide +kernel
theorem dL_loses_49 : decode cL_loses 49 = .ok (.istore 7, 2) := by decide +kernel
theorem dL_loses_51 : decode cL_loses 51 = .ok (.aload_n 0, 1) := by decide +kernel
theorem dL_loses_52 : decode cL_loses 52 = .ok (.bipush 10, 2) := by decide +kernel
theorem dL_loses_54 : decode cL_loses 54 = .ok (.iload_n 2, 1) := by decide +kernel
theorem dL_loses_55 : decode cL_loses 55 = .ok (.iconst 0, 1) := by decide +kernel
theorem dL_loses_56 : decode cL_loses 56 = .ok (.iconst 0, 1) := by decide +kernel
theorem dL_loses_57 : decode cL_loses 57 = .ok (.invokestatic 164, 3) := by decide +kernel
theorem dL_loses_60 : decode cL_loses 60 = .ok (.istore 8, 2) := by decide +kernel
theorem dL_loses_62 : decode cL_loses 62 = .ok (.aload_n 1, 1) := by decide +kernel
theorem dL_loses_63 : decode cL_loses 63 = .ok (.bipush 10, 2) := by decide +kernel
theorem dL_loses_65 : decode cL_loses 65 = .ok (.iload_n 2, 1) := by decide +kernel
theorem dL_loses_66 : decode cL_loses 66 = .ok (.iconst 0, 1) := by decide +kernel
theorem dL_loses_67 : decode cL_loses 67 = .ok (.iconst 0, 1) := by decide +kernel
theorem dL_loses_68 : decode cL_loses 68 = .ok (.invokestatic 164, 3) := by decide +kernel
theorem dL_loses_71 : decode cL_loses 71 = .ok (.iload 8, 2) := by decide +kernel
theorem dL_loses_73 : decode cL_loses 73 = .ok (.if_icmp .ne 86, 3) := by decide +kernel
theorem dL_loses_76 : decode cL_loses 76 = .ok (.iload 4, 2) := by decide +kernel
theorem dL_loses_78 : decode cL_loses 78 = .ok (.iconst (-1), 1) := by decide +kernel
theorem dL_loses_79 : decode cL_loses 79 = .ok (.if_icmp .eq 10, 3) := by decide +kernel
theorem dL_loses_82 : decode cL_loses 82 = .ok (.iload 8, 2) := by decide +kernel
theorem dL_loses_84 : decode cL_loses 84 = .ok (.iload 4, 2) := by decide +kernel
theorem dL_loses_86 : decode cL_loses 86 = .ok (.if_icmp .ne 73, 3) := by decide +kernel
theorem dL_loses_89 : decode cL_loses 89 = .ok (.iload 8, 2) := by decide +kernel
theorem dL_loses_91 : decode cL_loses 91 = .ok (.iconst (-1), 1) := by decide +kernel
theorem dL_loses_92 : decode cL_loses 92 = .ok (.if_icmp .eq 17, 3) := by decide +kernel
theorem dL_loses_95 : decode cL_loses 95 = .ok (.iload 8, 2) := by decide +kernel
theorem dL_loses_97 : decode cL_loses 97 = .ok (.iload 4, 2) := by decide +kernel
theorem dL_loses_99 : decode cL_loses 99 = .ok (.if_icmp .eq 10, 3) := by decide +kernel
theorem dL_loses_102 : decode cL_loses 102 = .ok (.iload 8, 2) := by decide +kernel
theorem dL_loses_104 : decode cL_loses 104 = .ok (.iload 7, 2) := by decide +kernel
theorem dL_loses_106 : decode cL_loses 106 = .ok (.if_icmp .ne 53, 3) := by decide +kernel
theorem dL_loses_109 : decode cL_loses 109 = .ok (.iload 8, 2) := by decide +kernel
theorem dL_loses_111 : decode cL_loses 111 = .ok (.iconst (-1), 1) := by decide +kernel
theorem dL_loses_112 : decode cL_loses 112 = .ok (.if_icmp .ne 7, 3) := by decide +kernel
theorem dL_loses_115 : decode cL_loses 115 = .ok (.iload_n 3, 1) := by decide +kernel
theorem dL_loses_116 : decode cL_loses 116 = .ok (.ifCond .ne 43, 3) := by decide +kernel
theorem dL_loses_119 : decode cL_loses 119 = .ok (.aload_n 0, 1) := by decide +kernel
theorem dL_loses_120 : decode cL_loses 120 = .ok (.iconst 4, 1) := by decide +kernel
theorem dL_loses_121 : decode cL_loses 121 = .ok (.iload_n 2, 1) := by decide +kernel
theorem dL_loses_122 : decode cL_loses 122 = .ok (.iconst 0, 1) := by decide +kernel
theorem dL_loses_123 : decode cL_loses 123 = .ok (.iconst 0, 1) := by decide +kernel
theorem dL_loses_124 : decode cL_loses 124 = .ok (.invokestatic 164, 3) := by decide +kernel
theorem dL_loses_127 : decode cL_loses 127 = .ok (.iconst (-1), 1) := by decide +kernel
theorem dL_loses_128 : decode cL_loses 128 = .ok (.if_icmp .ne 31, 3) := by decide +kernel
theorem dL_loses_131 : decode cL_loses 131 = .ok (.aload_n 0, 1) := by decide +kernel
theorem dL_loses_132 : decode cL_loses 132 = .ok (.iconst 4, 1) := by decide +kernel
theorem dL_loses_133 : decode cL_loses 133 = .ok (.iload_n 2, 1) := by decide +kernel
theorem dL_loses_134 : decode cL_loses 134 = .ok (.iconst 1, 1) := by decide +kernel
theorem dL_loses_135 : decode cL_loses 135 = .ok (.iconst 0, 1) := by decide +kernel
theorem dL_loses_136 : decode cL_loses 136 = .ok (.invokestatic 164, 3) := by decide +kernel
theorem dL_loses_139 : decode cL_loses 139 = .ok (.iconst (-1), 1) := by decide +kernel
theorem dL_loses_140 : decode cL_loses 140 = .ok (.if_icmp .ne 19, 3) := by decide +kernel
theorem dL_loses_143 : decode cL_loses 143 = .ok (.aload_n 0, 1) := by decide +kernel
theorem dL_loses_144 : decode cL_loses 144 = .ok (.iconst 4, 1) := by decide +kernel
theorem dL_loses_145 : decode cL_loses 145 = .ok (.iload_n 2, 1) := by decide +kernel
theorem dL_loses_146 : decode cL_loses 146 = .ok (.iconst 2, 1) := by decide +kernel
theorem dL_loses_147 : decode cL_loses 147 = .ok (.iconst 0, 1) := by decide +kernel
theorem dL_loses_148 : decode cL_loses 148 = .ok (.invokestatic 164, 3) := by decide +kernel
theorem dL_loses_151 : decode cL_loses 151 = .ok (.iconst 1, 1) := by decide +kernel
theorem dL_loses_152 : decode cL_loses 152 = .ok (.if_icmp .ne 7, 3) := by decide +kernel
theorem dL_loses_155 : decode cL_loses 155 = .ok (.iconst 1, 1) := by decide +kernel
theorem dL_loses_156 : decode cL_loses 156 = .ok (.goto 4, 3) := by decide +kernel
theorem dL_loses_159 : decode cL_loses 159 = .ok (.iconst 0, 1) := by decide +kernel
theorem dL_loses_160 : decode cL_loses 160 = .ok (.istore 9, 2) := by decide +kernel
theorem dL_loses_162 : decode cL_loses 162 = .ok (.iload 8, 2) := by decide +kernel
theorem dL_loses_164 : decode cL_loses 164 = .ok (.iconst (-1), 1) := by decide +kernel
theorem dL_loses_165 : decode cL_loses 165 = .ok (.if_icmp .eq 152, 3) := by decide +kernel
theorem dL_loses_168 : decode cL_loses 168 = .ok (.iload 9, 2) := by decide +kernel
theorem dL_loses_170 : decode cL_loses 170 = .ok (.ifCond .eq 147, 3) := by decide +kernel
theorem dL_loses_173 : decode cL_loses 173 = .ok (.aload_n 0, 1) := by decide +kernel
theorem dL_loses_174 : decode cL_loses 174 = .ok (.iconst 3, 1) := by decide +kernel
theorem dL_loses_175 : decode cL_loses 175 = .ok (.iload 8, 2) := by decide +kernel
theorem dL_loses_177 : decode cL_loses 177 = .ok (.iconst 1, 1) := by decide +kernel
theorem dL_loses_178 : decode cL_loses 178 = .ok (.iconst 0, 1) := by decide +kernel
theorem dL_loses_179 : decode cL_loses 179 = .ok (.invokestatic 164, 3) := by decide +kernel
theorem dL_loses_182 : decode cL_loses 182 = .ok (.istore 10, 2) := by decide +kernel
theorem dL_loses_184 : decode cL_loses 184 = .ok (.aload_n 0, 1) := by decide +kernel
theorem dL_loses_185 : decode cL_loses 185 = .ok (.iconst 3, 1) := by decide +kernel
theorem dL_loses_186 : decode cL_loses 186 = .ok (.iload 8, 2) := by decide +kernel
theorem dL_loses_188 : decode cL_loses 188 = .ok (.iconst 4, 1) := by decide +kernel
theorem dL_loses_189 : decode cL_loses 189 = .ok (.iconst 0, 1) := by decide +kernel
theorem dL_loses_190 : decode cL_loses 190 = .ok (.invokestatic 164, 3) := by decide +kernel
theorem dL_loses_193 : decode cL_loses 193 = .ok (.ifCond .ne 21, 3) := by decide +kernel
theorem dL_loses_196 : decode cL_loses 196 = .ok (.aload_n 0, 1) := by decide +kernel
theorem dL_loses_197 : decode cL_loses 197 = .ok (.iconst 3, 1) := by decide +kernel
theorem dL_loses_198 : decode cL_loses 198 = .ok (.iload 8, 2) := by decide +kernel
theorem dL_loses_200 : decode cL_loses 200 = .ok (.iconst 2, 1) := by decide +kernel
theorem dL_loses_201 : decode cL_loses 201 = .ok (.iconst 0, 1) := by decide +kernel
theorem dL_loses_202 : decode cL_loses 202 = .ok (.invokestatic 164, 3) := by decide +kernel
theorem dL_loses_205 : decode cL_loses 205 = .ok (.iload 10, 2) := by decide +kernel
theorem dL_loses_207 : decode cL_loses 207 = .ok (.if_icmp .ne 7, 3) := by decide +kernel
theorem dL_loses_210 : decode cL_loses 210 = .ok (.iconst 1, 1) := by decide +kernel
theorem dL_loses_211 : decode cL_loses 211 = .ok (.goto 4, 3) := by decide +kernel
theorem dL_loses_214 : decode cL_loses 214 = .ok (.iconst 0, 1) := by decide +kernel
theorem dL_loses_215 : decode cL_loses 215 = .ok (.istore 9, 2) := by decide +kernel
theorem dL_loses_217 : decode cL_loses 217 = .ok (.iconst 0, 1) := by decide +kernel
theorem dL_loses_218 : decode cL_loses 218 = .ok (.istore 11, 2) := by decide +kernel
theorem dL_loses_220 : decode cL_loses 220 = .ok (.iload 11, 2) := by decide +kernel
theorem dL_loses_222 : decode cL_loses 222 = .ok (.iload_n 3, 1) := by decide +kernel
theorem dL_loses_223 : decode cL_loses 223 = .ok (.if_icmp .ge 35, 3) := by decide +kernel
theorem dL_loses_226 : decode cL_loses 226 = .ok (.bipush 31, 2) := by decide +kernel
theorem dL_loses_228 : decode cL_loses 228 = .ok (.iload 10, 2) := by decide +kernel
theorem dL_loses_230 : decode cL_loses 230 = .ok (.imul, 1) := by decide +kernel
theorem dL_loses_231 : decode cL_loses 231 = .ok (.bipush 7, 2) := by decide +kernel
theorem dL_loses_233 : decode cL_loses 233 = .ok (.aload_n 0, 1) := by decide +kernel
theorem dL_loses_234 : decode cL_loses 234 = .ok (.iconst 3, 1) := by decide +kernel
theorem dL_loses_235 : decode cL_loses 235 = .ok (.iload 8, 2) := by decide +kernel
theorem dL_loses_237 : decode cL_loses 237 = .ok (.iconst 0, 1) := by decide +kernel
theorem dL_loses_238 : decode cL_loses 238 = .ok (.iconst 0, 1) := by decide +kernel
theorem dL_loses_239 : decode cL_loses 239 = .ok (.invokestatic 164, 3) := by decide +kernel
theorem dL_loses_242 : decode cL_loses 242 = .ok (.imul, 1) := by decide +kernel
theorem dL_loses_243 : decode cL_loses 243 = .ok (.iadd, 1) := by decide +kernel
theorem dL_loses_244 : decode cL_loses 244 = .ok (.iconst 1, 1) := by decide +kernel
theorem dL_loses_245 : decode cL_loses 245 = .ok (.iadd, 1) := by decide +kernel
theorem dL_loses_246 : decode cL_loses 246 = .ok (.sipush 997, 3) := by decide +kernel
theorem dL_loses_249 : decode cL_loses 249 = .ok (.irem, 1) := by decide +kernel
theorem dL_loses_250 : decode cL_loses 250 = .ok (.istore 10, 2) := by decide +kernel
theorem dL_loses_252 : decode cL_loses 252 = .ok (.iinc 11 1, 3) := by decide +kernel
theorem dL_loses_255 : decode cL_loses 255 = .ok (.goto (-35), 3) := by decide +kernel
theorem dL_loses_258 : decode cL_loses 258 = .ok (.iload 9, 2) := by decide +kernel
theorem dL_loses_260 : decode cL_loses 260 = .ok (.ifCond .eq 51, 3) := by decide +kernel
theorem dL_loses_263 : decode cL_loses 263 = .ok (.aload_n 0, 1) := by decide +kernel
theorem dL_loses_264 : decode cL_loses 264 = .ok (.bipush 14, 2) := by decide +kernel
theorem dL_loses_266 : decode cL_loses 266 = .ok (.iconst 0, 1) := by decide +kernel
theorem dL_loses_267 : decode cL_loses 267 = .ok (.iconst 0, 1) := by decide +kernel
theorem dL_loses_268 : decode cL_loses 268 = .ok (.iconst 0, 1) := by decide +kernel
theorem dL_loses_269 : decode cL_loses 269 = .ok (.invokestatic 164, 3) := by decide +kernel
theorem dL_loses_272 : decode cL_loses 272 = .ok (.invokestatic 207, 3) := by decide +kernel
theorem dL_loses_275 : decode cL_loses 275 = .ok (.ifCond .ne 36, 3) := by decide +kernel
theorem dL_loses_278 : decode cL_loses 278 = .ok (.aload_n 1, 1) := by decide +kernel
theorem dL_loses_279 : decode cL_loses 279 = .ok (.bipush 14, 2) := by decide +kernel
theorem dL_loses_281 : decode cL_loses 281 = .ok (.iconst 0, 1) := by decide +kernel
theorem dL_loses_282 : decode cL_loses 282 = .ok (.iconst 0, 1) := by decide +kernel
theorem dL_loses_283 : decode cL_loses 283 = .ok (.iconst 0, 1) := by decide +kernel
theorem dL_loses_284 : decode cL_loses 284 = .ok (.invokestatic 164, 3) := by decide +kernel
theorem dL_loses_287 : decode cL_loses 287 = .ok (.invokestatic 207, 3) := by decide +kernel
theorem dL_loses_290 : decode cL_loses 290 = .ok (.ifCond .ne 21, 3) := by decide +kernel
theorem dL_loses_293 : decode cL_loses 293 = .ok (.aload_n 0, 1) := by decide +kernel
theorem dL_loses_294 : decode cL_loses 294 = .ok (.iconst 3, 1) := by decide +kernel
theorem dL_loses_295 : decode cL_loses 295 = .ok (.iload 8, 2) := by decide +kernel
theorem dL_loses_297 : decode cL_loses 297 = .ok (.iconst 1, 1) := by decide +kernel
theorem dL_loses_298 : decode cL_loses 298 = .ok (.iconst 0, 1) := by decide +kernel
theorem dL_loses_299 : decode cL_loses 299 = .ok (.invokestatic 164, 3) := by decide +kernel
theorem dL_loses_302 : decode cL_loses 302 = .ok (.iload 10, 2) := by decide +kernel
theorem dL_loses_304 : decode cL_loses 304 = .ok (.if_icmp .ne 7, 3) := by decide +kernel
theorem dL_loses_307 : decode cL_loses 307 = .ok (.iconst 1, 1) := by decide +kernel
theorem dL_loses_308 : decode cL_loses 308 = .ok (.goto 4, 3) := by decide +kernel
theorem dL_loses_311 : decode cL_loses 311 = .ok (.iconst 0, 1) := by decide +kernel
theorem dL_loses_312 : decode cL_loses 312 = .ok (.istore 9, 2) := by decide +kernel
theorem dL_loses_314 : decode cL_loses 314 = .ok (.goto 71, 3) := by decide +kernel
theorem dL_loses_317 : decode cL_loses 317 = .ok (.iload 9, 2) := by decide +kernel
theorem dL_loses_319 : decode cL_loses 319 = .ok (.ifCond .eq 63, 3) := by decide +kernel
theorem dL_loses_322 : decode cL_loses 322 = .ok (.aload_n 0, 1) := by decide +kernel
theorem dL_loses_323 : decode cL_loses 323 = .ok (.iconst 2, 1) := by decide +kernel
theorem dL_loses_324 : decode cL_loses 324 = .ok (.bipush 7, 2) := by decide +kernel
theorem dL_loses_326 : decode cL_loses 326 = .ok (.iconst 0, 1) := by decide +kernel
theorem dL_loses_327 : decode cL_loses 327 = .ok (.iconst 0, 1) := by decide +kernel
theorem dL_loses_328 : decode cL_loses 328 = .ok (.invokestatic 164, 3) := by decide +kernel
theorem dL_loses_331 : decode cL_loses 331 = .ok (.iload 5, 2) := by decide +kernel
theorem dL_loses_333 : decode cL_loses 333 = .ok (.iload 7, 2) := by decide +kernel
theorem dL_loses_335 : decode cL_loses 335 = .ok (.iconst (-1), 1) := by decide +kernel
theorem dL_loses_336 : decode cL_loses 336 = .ok (.if_icmp .eq 7, 3) := by decide +kernel
theorem dL_loses_339 : decode cL_loses 339 = .ok (.iconst 1, 1) := by decide +kernel
theorem dL_loses_340 : decode cL_loses 340 = .ok (.goto 4, 3) := by decide +kernel
theorem dL_loses_343 : decode cL_loses 343 = .ok (.iconst 0, 1) := by decide +kernel
theorem dL_loses_344 : decode cL_loses 344 = .ok (.iadd, 1) := by decide +kernel
theorem dL_loses_345 : decode cL_loses 345 = .ok (.if_icmp .ne 37, 3) := by decide +kernel
theorem dL_loses_348 : decode cL_loses 348 = .ok (.aload_n 0, 1) := by decide +kernel
theorem dL_loses_349 : decode cL_loses 349 = .ok (.bipush 14, 2) := by decide +kernel
theorem dL_loses_351 : decode cL_loses 351 = .ok (.iconst 0, 1) := by decide +kernel
theorem dL_loses_352 : decode cL_loses 352 = .ok (.iconst 0, 1) := by decide +kernel
theorem dL_loses_353 : decode cL_loses 353 = .ok (.iconst 0, 1) := by decide +kernel
theorem dL_loses_354 : decode cL_loses 354 = .ok (.invokestatic 164, 3) := by decide +kernel
theorem dL_loses_357 : decode cL_loses 357 = .ok (.invokestatic 207, 3) := by decide +kernel
theorem dL_loses_360 : decode cL_loses 360 = .ok (.ifCond .ne 22, 3) := by decide +kernel
theorem dL_loses_363 : decode cL_loses 363 = .ok (.aload_n 1, 1) := by decide +kernel
theorem dL_loses_364 : decode cL_loses 364 = .ok (.bipush 14, 2) := by decide +kernel
theorem dL_loses_366 : decode cL_loses 366 = .ok (.iconst 0, 1) := by decide +kernel
theorem dL_loses_367 : decode cL_loses 367 = .ok (.iconst 0, 1) := by decide +kernel
theorem dL_loses_368 : decode cL_loses 368 = .ok (.iconst 0, 1) := by decide +kernel
theorem dL_loses_369 : decode cL_loses 369 = .ok (.invokestatic 164, 3) := by decide +kernel
theorem dL_loses_372 : decode cL_loses 372 = .ok (.invokestatic 207, 3) := by decide +kernel
theorem dL_loses_375 : decode cL_loses 375 = .ok (.ifCond .ne 7, 3) := by decide +kernel
theorem dL_loses_378 : decode cL_loses 378 = .ok (.iconst 1, 1) := by decide +kernel
theorem dL_loses_379 : decode cL_loses 379 = .ok (.goto 4, 3) := by decide +kernel
theorem dL_loses_382 : decode cL_loses 382 = .ok (.iconst 0, 1) := by decide +kernel
theorem dL_loses_383 : decode cL_loses 383 = .ok (.istore 9, 2) := by decide +kernel
theorem dL_loses_385 : decode cL_loses 385 = .ok (.iload 9, 2) := by decide +kernel
theorem dL_loses_387 : decode cL_loses 387 = .ok (.ifCond .eq 34, 3) := by decide +kernel
theorem dL_loses_390 : decode cL_loses 390 = .ok (.aload_n 0, 1) := by decide +kernel
theorem dL_loses_391 : decode cL_loses 391 = .ok (.iconst 5, 1) := by decide +kernel
theorem dL_loses_392 : decode cL_loses 392 = .ok (.iconst 0, 1) := by decide +kernel
theorem dL_loses_393 : decode cL_loses 393 = .ok (.iconst 0, 1) := by decide +kernel
theorem dL_loses_394 : decode cL_loses 394 = .ok (.iconst 0, 1) := by decide +kernel
theorem dL_loses_395 : decode cL_loses 395 = .ok (.invokestatic 164, 3) := by decide +kernel
theorem dL_loses_398 : decode cL_loses 398 = .ok (.iload 6, 2) := by decide +kernel
theorem dL_loses_400 : decode cL_loses 400 = .ok (.if_icmp .ne 21, 3) := by decide +kernel
theorem dL_loses_403 : decode cL_loses 403 = .ok (.aload_n 0, 1) := by decide +kernel
theorem dL_loses_404 : decode cL_loses 404 = .ok (.iconst 2, 1) := by decide +kernel
theorem dL_loses_405 : decode cL_loses 405 = .ok (.bipush 7, 2) := by decide +kernel
theorem dL_loses_407 : decode cL_loses 407 = .ok (.iconst 0, 1) := by decide +kernel
theorem dL_loses_408 : decode cL_loses 408 = .ok (.iconst 0, 1) := by decide +kernel
theorem dL_loses_409 : decode cL_loses 409 = .ok (.invokestatic 164, 3) := by decide +kernel
theorem dL_loses_412 : decode cL_loses 412 = .ok (.iload 5, 2) := by decide +kernel
theorem dL_loses_414 : decode cL_loses 414 = .ok (.if_icmp .ne 7, 3) := by decide +kernel
theorem dL_loses_417 : decode cL_loses 417 = .ok (.iconst 1, 1) := by decide +kernel
theorem dL_loses_418 : decode cL_loses 418 = .ok (.goto 4, 3) := by decide +kernel
theorem dL_loses_421 : decode cL_loses 421 = .ok (.iconst 0, 1) := by decide +kernel
theorem dL_loses_422 : decode cL_loses 422 = .ok (.ireturn, 1) := by decide +kernel
