theorem dL_tryAppend_0 : decode cL_tryAppend 0 = .ok (.aload_n 0, 1) := by decide +kernel
theorem dL_tryAppend_1 : decode cL_tryAppend 1 = .ok (.iload_n 1, 1) := by decide +kernel
theorem dL_tryAppend_2 : decode cL_tryAppend 2 = .ok (.invokevirtual 7, 3) := by decide +kernel
theorem dL_tryAppend_5 : decode cL_tryAppend 5 = .ok (.ireturn, 1) := by decide +kernel
theorem dL_tryAppend_6 : decode cL_tryAppend 6 = .ok (.astore_n 2, 1) := by decide +kernel
theorem dL_tryAppend_7 : decode cL_tryAppend 7 = .ok (.ldc 15, 2) := by decide +kernel
theorem dL_tryAppend_9 : decode cL_tryAppend 9 = .ok (.ireturn, 1) := by decide +kernel
theorem dL_tryAppend_10 : decode cL_tryAppend 10 = .ok (.astore_n 2, 1) := by decide +kernel
theorem dL_tryAppend_11 : decode cL_tryAppend 11 = .ok (.ldc 18, 2) := by decide +kernel
theorem dL_tryAppend_13 : decode cL_tryAppend 13 = .ok (.ireturn, 1) := by decide +kernel
theorem dL_tryLoad_0 : decode cL_tryLoad 0 = .ok (.aload_n 0, 1) := by decide +kernel
theorem dL_tryLoad_1 : decode cL_tryLoad 1 = .ok (.invokevirtual 19, 3) := by decide +kernel
theorem dL_tryLoad_4 : decode cL_tryLoad 4 = .ok (.ireturn, 1) := by decide +kernel
theorem dL_tryLoad_5 : decode cL_tryLoad 5 = .ok (.astore_n 1, 1) := by decide +kernel
theorem dL_tryLoad_6 : decode cL_tryLoad 6 = .ok (.ldc 18, 2) := by decide +kernel
theorem dL_tryLoad_8 : decode cL_tryLoad 8 = .ok (.ireturn, 1) := by decide +kernel
theorem dL_tryAbout_0 : decode cL_tryAbout 0 = .ok (.aload_n 0, 1) := by decide +kernel
theorem dL_tryAbout_1 : decode cL_tryAbout 1 = .ok (.iload_n 1, 1) := by decide +kernel
theorem dL_tryAbout_2 : decode cL_tryAbout 2 = .ok (.invokevirtual 23, 3) := by decide +kernel
theorem dL_tryAbout_5 : decode cL_tryAbout 5 = .ok (.ireturn, 1) := by decide +kernel
theorem dL_tryAbout_6 : decode cL_tryAbout 6 = .ok (.astore_n 2, 1) := by decide +kernel
theorem dL_tryAbout_7 : decode cL_tryAbout 7 = .ok (.ldc 15, 2) := by decide +kernel
theorem dL_tryAbout_9 : decode cL_tryAbout 9 = .ok (.ireturn, 1) := by decide +kernel
theorem dL_trySwing_0 : decode cL_trySwing 0 = .ok (.aload_n 0, 1) := by decide +kernel
theorem dL_trySwing_1 : decode cL_trySwing 1 = .ok (.iload_n 1, 1) := by decide +kernel
theorem dL_trySwing_2 : decode cL_trySwing 2 = .ok (.iload_n 2, 1) := by decide +kernel
theorem dL_trySwing_3 : decode cL_trySwing 3 = .ok (.invokevirtual 26, 3) := by decide +kernel
theorem dL_trySwing_6 : decode cL_trySwing 6 = .ok (.ireturn, 1) := by decide +kernel
theorem dL_trySwing_7 : decode cL_trySwing 7 = .ok (.astore_n 3, 1) := by decide +kernel
theorem dL_trySwing_8 : decode cL_trySwing 8 = .ok (.ldc 32, 2) := by decide +kernel
theorem dL_trySwing_10 : decode cL_trySwing 10 = .ok (.ireturn, 1) := by decide +kernel
theorem dL_trySwing_11 : decode cL_trySwing 11 = .ok (.astore_n 3, 1) := by decide +kernel
theorem dL_trySwing_12 : decode cL_trySwing 12 = .ok (.ldc 15, 2) := by decide +kernel
theorem dL_trySwing_14 : decode cL_trySwing 14 = .ok (.ireturn, 1) := by decide +kernel
theorem dL_tryAccount_0 : decode cL_tryAccount 0 = .ok (.aload_n 0, 1) := by decide +kernel
theorem dL_tryAccount_1 : decode cL_tryAccount 1 = .ok (.iload_n 1, 1) := by decide +kernel
theorem dL_tryAccount_2 : decode cL_tryAccount 2 = .ok (.invokevirtual 33, 3) := by decide +kernel
theorem dL_tryAccount_5 : decode cL_tryAccount 5 = .ok (.ireturn, 1) := by decide +kernel
theorem dL_tryAccount_6 : decode cL_tryAccount 6 = .ok (.astore_n 2, 1) := by decide +kernel
theorem dL_tryAccount_7 : decode cL_tryAccount 7 = .ok (.ldc 15, 2) := by decide +kernel
theorem dL_tryAccount_9 : decode cL_tryAccount 9 = .ok (.ireturn, 1) := by decide +kernel
theorem dL_tryTick_0 : decode cL_tryTick 0 = .ok (.aload_n 0, 1) := by decide +kernel
theorem dL_tryTick_1 : decode cL_tryTick 1 = .ok (.iload_n 1, 1) := by decide +kernel
theorem dL_tryTick_2 : decode cL_tryTick 2 = .ok (.invokevirtual 36, 3) := by decide +kernel
theorem dL_tryTick_5 : decode cL_tryTick 5 = .ok (.ireturn, 1) := by decide +kernel
theorem dL_tryTick_6 : decode cL_tryTick 6 = .ok (.astore_n 2, 1) := by decide +kernel
theorem dL_tryTick_7 : decode cL_tryTick 7 = .ok (.ldc 15, 2) := by decide +kernel
theorem dL_tryTick_9 : decode cL_tryTick 9 = .ok (.ireturn, 1) := by decide +kernel
theorem dL_tryMode_0 : decode cL_tryMode 0 = .ok (.aload_n 0, 1) := by decide +kernel
theorem dL_tryMode_1 : decode cL_tryMode 1 = .ok (.iload_n 1, 1) := by decide +kernel
theorem dL_tryMode_2 : decode cL_tryMode 2 = .ok (.invokevirtual 39, 3) := by decide +kernel
theorem dL_tryMode_5 : decode cL_tryMode 5 = .ok (.ireturn, 1) := by decide +kernel
theorem dL_tryMode_6 : decode cL_tryMode 6 = .ok (.astore_n 2, 1) := by decide +kernel
theorem dL_tryMode_7 : decode cL_tryMode 7 = .ok (.ldc 15, 2) := by decide +kernel
theorem dL_tryMode_9 : decode cL_tryMode 9 = .ok (.ireturn, 1) := by decide +kernel
theorem dL_trySet_0 : decode cL_trySet 0 = .ok (.aload_n 0, 1) := by decide +kernel
theorem dL_trySet_1 : decode cL_trySet 1 = .ok (.iload_n 1, 1) := by decide +kernel
theorem dL_trySet_2 : decode cL_trySet 2 = .ok (.iload_n 2, 1) := by decide +kernel
theorem dL_trySet_3 : decode cL_trySet 3 = .ok (.invokevirtual 42, 3) := by decide +kernel
theorem dL_trySet_6 : decode cL_trySet 6 = .ok (.ireturn, 1) := by decide +kernel
theorem dL_trySet_7 : decode cL_trySet 7 = .ok (.astore_n 3, 1) := by decide +kernel
theorem dL_trySet_8 : decode cL_trySet 8 = .ok (.ldc 15, 2) := by decide +kernel
theorem dL_trySet_10 : decode cL_trySet 10 = .ok (.ireturn, 1) := by decide +kernel
theorem dL_tryDisturb_0 : decode cL_tryDisturb 0 = .ok (.aload_n 0, 1) := by decide +kernel
theorem dL_tryDisturb_1 : decode cL_tryDisturb 1 = .ok (.iload_n 1, 1) := by decide +kernel
theorem dL_tryDisturb_2 : decode cL_tryDisturb 2 = .ok (.invokevirtual 45, 3) := by decide +kernel
theorem dL_tryDisturb_5 : decode cL_tryDisturb 5 = .ok (.ireturn, 1) := by decide +kernel
theorem dL_tryDisturb_6 : decode cL_tryDisturb 6 = .ok (.astore_n 2, 1) := by decide +kernel
theorem dL_tryDisturb_7 : decode cL_tryDisturb 7 = .ok (.ldc 15, 2) := by decide +kernel
theorem dL_tryDisturb_9 : decode cL_tryDisturb 9 = .ok (.ireturn, 1) := by decide +kernel
theorem dL_tryDiscard_0 : decode cL_tryDiscard 0 = .ok (.aload_n 0, 1) := by decide +kernel
theorem dL_tryDiscard_1 : decode cL_tryDiscard 1 = .ok (.iload_n 1, 1) := by decide +kernel
theorem dL_tryDiscard_2 : decode cL_tryDiscard 2 = .ok (.invokevirtual 48, 3) := by decide +kernel
theorem dL_tryDiscard_5 : decode cL_tryDiscard 5 = .ok (.ireturn, 1) := by decide +kernel
theorem dL_tryDiscard_6 : decode cL_tryDiscard 6 = .ok (.astore_n 2, 1) := by decide +kernel
theorem dL_tryDiscard_7 : decode cL_tryDiscard 7 = .ok (.ldc 32, 2) := by decide +kernel
theorem dL_tryDiscard_9 : decode cL_tryDiscard 9 = .ok (.ireturn, 1) := by decide +kernel
theorem dL_tryRule_0 : decode cL_tryRule 0 = .ok (.aload_n 0, 1) := by decide +kernel
theorem dL_tryRule_1 : decode cL_tryRule 1 = .ok (.iload_n 1, 1) := by decide +kernel
theorem dL_tryRule_2 : decode cL_tryRule 2 = .ok (.invokevirtual 51, 3) := by decide +kernel
theorem dL_tryRule_5 : decode cL_tryRule 5 = .ok (.ireturn, 1) := by decide +kernel
theorem dL_tryRule_6 : decode cL_tryRule 6 = .ok (.astore_n 2, 1) := by decide +kernel
theorem dL_tryRule_7 : decode cL_tryRule 7 = .ok (.ldc 32, 2) := by decide +kernel
theorem dL_tryRule_9 : decode cL_tryRule 9 = .ok (.ireturn, 1) := by decide +kernel
theorem dL_tryRule_10 : decode cL_tryRule 10 = .ok (.astore_n 2, 1) := by decide +kernel
theorem dL_tryRule_11 : decode cL_tryRule 11 = .ok (.ldc 18, 2) := by decide +kernel
theorem dL_tryRule_13 : decode cL_tryRule 13 = .ok (.ireturn, 1) := by decide +kernel
theorem dL_tryTakeBack_0 : decode cL_tryTakeBack 0 = .ok (.aload_n 0, 1) := by decide +kernel
theorem dL_tryTakeBack_1 : decode cL_tryTakeBack 1 = .ok (.invokevirtual 54, 3) := by decide +kernel
theorem dL_tryTakeBack_4 : decode cL_tryTakeBack 4 = .ok (.ireturn, 1) := by decide +kernel
theorem dL_tryTakeBack_5 : decode cL_tryTakeBack 5 = .ok (.astore_n 1, 1) := by decide +kernel
theorem dL_tryTakeBack_6 : decode cL_tryTakeBack 6 = .ok (.ldc 18, 2) := by decide +kernel
theorem dL_tryTakeBack_8 : decode cL_tryTakeBack 8 = .ok (.ireturn, 1) := by decide +kernel
theorem dL_tryUndo_0 : decode cL_tryUndo 0 = .ok (.aload_n 0, 1) := by decide +kernel
theorem dL_tryUndo_1 : decode cL_tryUndo 1 = .ok (.invokevirtual 57, 3) := by decide +kernel
theorem dL_tryUndo_4 : decode cL_tryUndo 4 = .ok (.ireturn, 1) := by decide +kernel
theorem dL_tryUndo_5 : decode cL_tryUndo 5 = .ok (.astore_n 1, 1) := by decide +kernel
theorem dL_tryUndo_6 : decode cL_tryUndo 6 = .ok (.ldc 18, 2) := by decide +kernel
theorem dL_tryUndo_8 : decode cL_tryUndo 8 = .ok (.ireturn, 1) := by decide +kernel
theorem dL_tryProposal_0 : decode cL_tryProposal 0 = .ok (.aload_n 0, 1) := by decide +kernel
theorem dL_tryProposal_1 : decode cL_tryProposal 1 = .ok (.iload_n 1, 1) := by decide +kernel
theorem dL_tryProposal_2 : decode cL_tryProposal 2 = .ok (.iload_n 2, 1) := by decide +kernel
theorem dL_tryProposal_3 : decode cL_tryProposal 3 = .ok (.invokevirtual 60, 3) := by decide +kernel
theorem dL_tryProposal_6 : decode cL_tryProposal 6 = .ok (.ireturn, 1) := by decide +kernel
theorem dL_tryProposal_7 : decode cL_tryProposal 7 = .ok (.astore_n 3, 1) := by decide +kernel
theorem dL_tryProposal_8 : decode cL_tryProposal 8 = .ok (.ldc 32, 2) := by decide +kernel
theorem dL_tryProposal_10 : decode cL_tryProposal 10 = .ok (.ireturn, 1) := by decide +kernel
theorem dL_tryProposal_11 : decode cL_tryProposal 11 = .ok (.astore_n 3, 1) := by decide +kernel
theorem dL_tryProposal_12 : decode cL_tryProposal 12 = .ok (.ldc 15, 2) := by decide +kernel
theorem dL_tryProposal_14 : decode cL_tryProposal 14 = .ok (.ireturn, 1) := by decide +kernel
theorem dL_tryToleranceFor_0 : decode cL_tryToleranceFor 0 = .ok (.aload_n 0, 1) := by decide +kernel
theorem dL_tryToleranceFor_1 : decode cL_tryToleranceFor 1 = .ok (.iload_n 1, 1) := by decide +kernel
theorem dL_tryToleranceFor_2 : decode cL_tryToleranceFor 2 = .ok (.invokevirtual 63, 3) := by decide +kernel
theorem dL_tryToleranceFor_5 : decode cL_tryToleranceFor 5 = .ok (.ireturn, 1) := by decide +kernel
theorem dL_tryToleranceFor_6 : decode cL_tryToleranceFor 6 = .ok (.astore_n 2, 1) := by decide +kernel
theorem dL_tryToleranceFor_7 : decode cL_tryToleranceFor 7 = .ok (.ldc 15, 2) := by decide +kernel
theorem dL_tryToleranceFor_9 : decode cL_tryToleranceFor 9 = .ok (.ireturn, 1) := by decide +kernel
theorem dL_tryAhead_0 : decode cL_tryAhead 0 = .ok (.aload_n 0, 1) := by decide +kernel
theorem dL_tryAhead_1 : decode cL_tryAhead 1 = .ok (.iload_n 1, 1) := by decide +kernel
theorem dL_tryAhead_2 : decode cL_tryAhead 2 = .ok (.iload_n 2, 1) := by decide +kernel
theorem dL_tryAhead_3 : decode cL_tryAhead 3 = .ok (.invokevirtual 66, 3) := by decide +kernel
theorem dL_tryAhead_6 : decode cL_tryAhead 6 = .ok (.ireturn, 1) := by decide +kernel
theorem dL_tryAhead_7 : decode cL_tryAhead 7 = .ok (.astore_n 3, 1) := by decide +kernel
theorem dL_tryAhead_8 : decode cL_tryAhead 8 = .ok (.ldc 15, 2) := by decide +kernel
theorem dL_tryAhead_10 : decode cL_tryAhead 10 = .ok (.ireturn, 1) := by decide +kernel
theorem dL_tryOutcome_0 : decode cL_tryOutcome 0 = .ok (.aload_n 0, 1) := by decide +kernel
theorem dL_tryOutcome_1 : decode cL_tryOutcome 1 = .ok (.iload_n 1, 1) := by decide +kernel
theorem dL_tryOutcome_2 : decode cL_tryOutcome 2 = .ok (.iload_n 2, 1) := by decide +kernel
theorem dL_tryOutcome_3 : decode cL_tryOutcome 3 = .ok (.iload_n 3, 1) := by decide +kernel
theorem dL_tryOutcome_4 : decode cL_tryOutcome 4 = .ok (.invokevirtual 69, 3) := by decide +kernel
theorem dL_tryOutcome_7 : decode cL_tryOutcome 7 = .ok (.ireturn, 1) := by decide +kernel
theorem dL_tryOutcome_8 : decode cL_tryOutcome 8 = .ok (.astore 4, 2) := by decide +kernel
theorem dL_tryOutcome_10 : decode cL_tryOutcome 10 = .ok (.ldc 32, 2) := by decide +kernel
theorem dL_tryOutcome_12 : decode cL_tryOutcome 12 = .ok (.ireturn, 1) := by decide +kernel
theorem dL_tryOutcome_13 : decode cL_tryOutcome 13 = .ok (.astore 4, 2) := by decide +kernel
theorem dL_tryOutcome_15 : decode cL_tryOutcome 15 = .ok (.ldc 15, 2) := by decide +kernel
theorem dL_tryOutcome_17 : decode cL_tryOutcome 17 = .ok (.ireturn, 1) := by decide +kernel
theorem dL_tryBestRule_0 : decode cL_tryBestRule 0 = .ok (.aload_n 0, 1) := by decide +kernel
theorem dL_tryBestRule_1 : decode cL_tryBestRule 1 = .ok (.iload_n 1, 1) := by decide +kernel
theorem dL_tryBestRule_2 : decode cL_tryBestRule 2 = .ok (.invokevirtual 73, 3) := by decide +kernel
theorem dL_tryBestRule_5 : decode cL_tryBestRule 5 = .ok (.ireturn, 1) := by decide +kernel
theorem dL_tryBestRule_6 : decode cL_tryBestRule 6 = .ok (.astore_n 2, 1) := by decide +kernel
theorem dL_tryBestRule_7 : decode cL_tryBestRule 7 = .ok (.ldc 15, 2) := by decide +kernel
theorem dL_tryBestRule_9 : decode cL_tryBestRule 9 = .ok (.ireturn, 1) := by decide +kernel
theorem dL_trySettlesAfter_0 : decode cL_trySettlesAfter 0 = .ok (.aload_n 0, 1) := by decide +kernel
theorem dL_trySettlesAfter_1 : decode cL_trySettlesAfter 1 = .ok (.iload_n 1, 1) := by decide +kernel
theorem dL_trySettlesAfter_2 : decode cL_trySettlesAfter 2 = .ok (.invokevirtual 76, 3) := by decide +kernel
theorem dL_trySettlesAfter_5 : decode cL_trySettlesAfter 5 = .ok (.ireturn, 1) := by decide +kernel
theorem dL_trySettlesAfter_6 : decode cL_trySettlesAfter 6 = .ok (.astore_n 2, 1) := by decide +kernel
theorem dL_trySettlesAfter_7 : decode cL_trySettlesAfter 7 = .ok (.ldc 15, 2) := by decide +kernel
theorem dL_trySettlesAfter_9 : decode cL_trySettlesAfter 9 = .ok (.ireturn, 1) := by decide +kernel
theorem dL_tryScript_0 : decode cL_tryScript 0 = .ok (.aload_n 0, 1) := by decide +kernel
theorem dL_tryScript_1 : decode cL_tryScript 1 = .ok (.iload_n 1, 1) := by decide +kernel
theorem dL_tryScript_2 : decode cL_tryScript 2 = .ok (.lload_n 2, 1) := by decide +kernel
theorem dL_tryScript_3 : decode cL_tryScript 3 = .ok (.invokevirtual 79, 3) := by decide +kernel
theorem dL_tryScript_6 : decode cL_tryScript 6 = .ok (.ireturn, 1) := by decide +kernel
theorem dL_tryScript_7 : decode cL_tryScript 7 = .ok (.astore 4, 2) := by decide +kernel
theorem dL_tryScript_9 : decode cL_tryScript 9 = .ok (.ldc 15, 2) := by decide +kernel
theorem dL_tryScript_11 : decode cL_tryScript 11 = .ok (.ireturn, 1) := by decide +kernel
theorem dL_trySimulate_0 : decode cL_trySimulate 0 = .ok (.aload_n 0, 1) := by decide +kernel
theorem dL_trySimulate_1 : decode cL_trySimulate 1 = .ok (.lload_n 1, 1) := by decide +kernel
theorem dL_trySimulate_2 : decode cL_trySimulate 2 = .ok (.iload_n 3, 1) := by decide +kernel
theorem dL_trySimulate_3 : decode cL_trySimulate 3 = .ok (.invokevirtual 83, 3) := by decide +kernel
theorem dL_trySimulate_6 : decode cL_trySimulate 6 = .ok (.ireturn, 1) := by decide +kernel
theorem dL_trySimulate_7 : decode cL_trySimulate 7 = .ok (.astore 4, 2) := by decide +kernel
theorem dL_trySimulate_9 : decode cL_trySimulate 9 = .ok (.ldc 15, 2) := by decide +kernel
theorem dL_trySimulate_11 : decode cL_trySimulate 11 = .ok (.ireturn, 1) := by decide +kernel
theorem dL_trySave_0 : decode cL_trySave 0 = .ok (.aload_n 0, 1) := by decide +kernel
theorem dL_trySave_1 : decode cL_trySave 1 = .ok (.iload_n 1, 1) := by decide +kernel
theorem dL_trySave_2 : decode cL_trySave 2 = .ok (.invokevirtual 87, 3) := by decide +kernel
theorem dL_trySave_5 : decode cL_trySave 5 = .ok (.ireturn, 1) := by decide +kernel
theorem dL_trySave_6 : decode cL_trySave 6 = .ok (.astore_n 2, 1) := by decide +kernel
theorem dL_trySave_7 : decode cL_trySave 7 = .ok (.ldc 32, 2) := by decide +kernel
theorem dL_trySave_9 : decode cL_trySave 9 = .ok (.ireturn, 1) := by decide +kernel
theorem dL_tryRestore_0 : decode cL_tryRestore 0 = .ok (.aload_n 0, 1) := by decide +kernel
theorem dL_tryRestore_1 : decode cL_tryRestore 1 = .ok (.iload_n 1, 1) := by decide +kernel
theorem dL_tryRestore_2 : decode cL_tryRestore 2 = .ok (.invokevirtual 90, 3) := by decide +kernel
theorem dL_tryRestore_5 : decode cL_tryRestore 5 = .ok (.ireturn, 1) := by decide +kernel
theorem dL_tryRestore_6 : decode cL_tryRestore 6 = .ok (.astore_n 2, 1) := by decide +kernel
theorem dL_tryRestore_7 : decode cL_tryRestore 7 = .ok (.ldc 32, 2) := by decide +kernel
theorem dL_tryRestore_9 : decode cL_tryRestore 9 = .ok (.ireturn, 1) := by decide +kernel
theorem dL_tryRestore_10 : decode cL_tryRestore 10 = .ok (.astore_n 2, 1) := by decide +kernel
theorem dL_tryRestore_11 : decode cL_tryRestore 11 = .ok (.ldc 18, 2) := by decide +kernel
theorem dL_tryRestore_13 : decode cL_tryRestore 13 = .ok (.ireturn, 1) := by decide +kernel
theorem dL_number_0 : decode cL_number 0 = .ok (.iload_n 1, 1) := by decide +kernel
theorem dL_number_1 : decode cL_number 1 = .ok (.aload_n 0, 1) := by decide +kernel
theorem dL_number_2 : decode cL_number 2 = .ok (.arraylength, 1) := by decide +kernel
theorem dL_number_3 : decode cL_number 3 = .ok (.if_icmp .ge 9, 3) := by decide +kernel
theorem dL_number_6 : decode cL_number 6 = .ok (.aload_n 0, 1) := by decide +kernel
theorem dL_number_7 : decode cL_number 7 = .ok (.iload_n 1, 1) := by decide +kernel
theorem dL_number_8 : decode cL_number 8 = .ok (.iaload, 1) := by decide +kernel
theorem dL_number_9 : decode cL_number 9 = .ok (.goto 13, 3) := by decide +kernel
theorem dL_number_12 : decode cL_number 12 = .ok (.ldc 93, 2) := by decide +kernel
theorem dL_number_14 : decode cL_number 14 = .ok (.iload_n 1, 1) := by decide +kernel
theorem dL_number_15 : decode cL_number 15 = .ok (.iconst 5, 1) := by decide +kernel
theorem dL_number_16 : decode cL_number 16 = .ok (.iadd, 1) := by decide +kernel
theorem dL_number_17 : decode cL_number 17 = .ok (.imul, 1) := by decide +kernel
theorem dL_number_18 : decode cL_number 18 = .ok (.sipush 10139, 3) := by decide +kernel
theorem dL_number_21 : decode cL_number 21 = .ok (.iadd, 1) := by decide +kernel
theorem dL_number_22 : decode cL_number 22 = .ok (.ldc 94, 2) := by decide +kernel
theorem dL_number_24 : decode cL_number 24 = .ok (.iand, 1) := by decide +kernel
theorem dL_number_25 : decode cL_number 25 = .ok (.ireturn, 1) := by decide +kernel
theorem dL_size_0 : decode cL_size 0 = .ok (.iload_n 0, 1) := by decide +kernel
theorem dL_size_1 : decode cL_size 1 = .ok (.ifCond .ge 8, 3) := by decide +kernel
theorem dL_size_4 : decode cL_size 4 = .ok (.iload_n 0, 1) := by decide +kernel
theorem dL_size_5 : decode cL_size 5 = .ok (.ineg, 1) := by decide +kernel
theorem dL_size_6 : decode cL_size 6 = .ok (.goto 4, 3) := by decide +kernel
theorem dL_size_9 : decode cL_size 9 = .ok (.iload_n 0, 1) := by decide +kernel
theorem dL_size_10 : decode cL_size 10 = .ok (.ireturn, 1) := by decide +kernel
theorem dL_put_0 : decode cL_put 0 = .ok (.aload_n 0, 1) := by decide +kernel
theorem dL_put_1 : decode cL_put 1 = .ok (.iload_n 2, 1) := by decide +kernel
theorem dL_put_2 : decode cL_put 2 = .ok (.invokestatic 95, 3) := by decide +kernel
theorem dL_put_5 : decode cL_put 5 = .ok (.ifCond .le 15, 3) := by decide +kernel
theorem dL_put_8 : decode cL_put 8 = .ok (.aload_n 1, 1) := by decide +kernel
theorem dL_put_9 : decode cL_put 9 = .ok (.iload_n 2, 1) := by decide +kernel
theorem dL_put_10 : decode cL_put 10 = .ok (.invokestatic 95, 3) := by decide +kernel
theorem dL_put_13 : decode cL_put 13 = .ok (.ifCond .le 7, 3) := by decide +kernel
theorem dL_put_16 : decode cL_put 16 = .ok (.iconst 1, 1) := by decide +kernel
theorem dL_put_17 : decode cL_put 17 = .ok (.goto 4, 3) := by decide +kernel
theorem dL_put_20 : decode cL_put 20 = .ok (.iconst 0, 1) := by decide +kernel
theorem dL_put_21 : decode cL_put 21 = .ok (.ireturn, 1) := by decide +kernel
theorem dL_two_0 : decode cL_two 0 = .ok (.aload_n 0, 1) := by decide +kernel
theorem dL_two_1 : decode cL_two 1 = .ok (.aload_n 1, 1) := by decide +kernel
theorem dL_two_2 : decode cL_two 2 = .ok (.bipush 48, 2) := by decide +kernel
theorem dL_two_4 : decode cL_two 4 = .ok (.iload_n 2, 1) := by decide +kernel
theorem dL_two_5 : decode cL_two 5 = .ok (.bipush 10, 2) := by decide +kernel
theorem dL_two_7 : decode cL_two 7 = .ok (.idiv, 1) := by decide +kernel
theorem dL_two_8 : decode cL_two 8 = .ok (.iadd, 1) := by decide +kernel
theorem dL_two_9 : decode cL_two 9 = .ok (.invokestatic 101, 3) := by decide +kernel
theorem dL_two_12 : decode cL_two 12 = .ok (.ifCond .eq 22, 3) := by decide +kernel
theorem dL_two_15 : decode cL_two 15 = .ok (.aload_n 0, 1) := by decide +kernel
theorem dL_two_16 : decode cL_two 16 = .ok (.aload_n 1, 1) := by decide +kernel
theorem dL_two_17 : decode cL_two 17 = .ok (.bipush 48, 2) := by decide +kernel
theorem dL_two_19 : decode cL_two 19 = .ok (.iload_n 2, 1) := by decide +kernel
theorem dL_two_20 : decode cL_two 20 = .ok (.bipush 10, 2) := by decide +kernel
theorem dL_two_22 : decode cL_two 22 = .ok (.irem, 1) := by decide +kernel
theorem dL_two_23 : decode cL_two 23 = .ok (.iadd, 1) := by decide +kernel
theorem dL_two_24 : decode cL_two 24 = .ok (.invokestatic 101, 3) := by decide +kernel
theorem dL_two_27 : decode cL_two 27 = .ok (.ifCond .eq 7, 3) := by decide +kernel
theorem dL_two_30 : decode cL_two 30 = .ok (.iconst 1, 1) := by decide +kernel
theorem dL_two_31 : decode cL_two 31 = .ok (.goto 4, 3) := by decide +kernel
theorem dL_two_34 : decode cL_two 34 = .ok (.iconst 0, 1) := by decide +kernel
theorem dL_two_35 : decode cL_two 35 = .ok (.ireturn, 1) := by decide +kernel
theorem dL_told_0 : decode cL_told 0 = .ok (.aload_n 2, 1) := by decide +kernel
theorem dL_told_1 : decode cL_told 1 = .ok (.iload_n 3, 1) := by decide +kernel
theorem dL_told_2 : decode cL_told 2 = .ok (.invokestatic 105, 3) := by decide +kernel
theorem dL_told_5 : decode cL_told 5 = .ok (.istore 4, 2) := by decide +kernel
theorem dL_told_7 : decode cL_told 7 = .ok (.aload_n 2, 1) := by decide +kernel
theorem dL_told_8 : decode cL_told 8 = .ok (.iload_n 3, 1) := by decide +kernel
theorem dL_told_9 : decode cL_told 9 = .ok (.iconst 1, 1) := by decide +kernel
theorem dL_told_10 : decode cL_told 10 = .ok (.iadd, 1) := by decide +kernel
theorem dL_told_11 : decode cL_told 11 = .ok (.invokestatic 105, 3) := by decide +kernel
theorem dL_told_14 : decode cL_told 14 = .ok (.istore 5, 2) := by decide +kernel
theorem dL_told_16 : decode cL_told 16 = .ok (.iconst 1, 1) := by decide +kernel
theorem dL_told_17 : decode cL_told 17 = .ok (.iload 4, 2) := by decide +kernel
theorem dL_told_19 : decode cL_told 19 = .ok (.bipush 20, 2) := by decide +kernel
theorem dL_told_21 : decode cL_told 21 = .ok (.irem, 1) := by decide +kernel
theorem dL_told_22 : decode cL_told 22 = .ok (.iadd, 1) := by decide +kernel
theorem dL_told_23 : decode cL_told 23 = .ok (.istore 6, 2) := by decide +kernel
theorem dL_told_25 : decode cL_told 25 = .ok (.bipush 20, 2) := by decide +kernel
theorem dL_told_27 : decode cL_told 27 = .ok (.iload 4, 2) := by decide +kernel
theorem dL_told_29 : decode cL_told 29 = .ok (.bipush 32, 2) := by decide +kernel
theorem dL_told_31 : decode cL_told 31 = .ok (.idiv, 1) := by decide +kernel
theorem dL_told_32 : decode cL_told 32 = .ok (.bipush 80, 2) := by decide +kernel
theorem dL_told_34 : decode cL_told 34 = .ok (.irem, 1) := by decide +kernel
theorem dL_told_35 : decode cL_told 35 = .ok (.iadd, 1) := by decide +kernel
theorem dL_told_36 : decode cL_told 36 = .ok (.istore 7, 2) := by decide +kernel
theorem dL_told_38 : decode cL_told 38 = .ok (.iload 5, 2) := by decide +kernel
theorem dL_told_40 : decode cL_told 40 = .ok (.sipush 199, 3) := by decide +kernel
theorem dL_told_43 : decode cL_told 43 = .ok (.irem, 1) := by decide +kernel
theorem dL_told_44 : decode cL_told 44 = .ok (.bipush 99, 2) := by decide +kernel
theorem dL_told_46 : decode cL_told 46 = .ok (.isub, 1) := by decide +kernel
theorem dL_told_47 : decode cL_told 47 = .ok (.istore 8, 2) := by decide +kernel
theorem dL_told_49 : decode cL_told 49 = .ok (.bipush 60, 2) := by decide +kernel
theorem dL_told_51 : decode cL_told 51 = .ok (.iload 5, 2) := by decide +kernel
theorem dL_told_53 : decode cL_told 53 = .ok (.sipush 256, 3) := by decide +kernel
theorem dL_told_56 : decode cL_told 56 = .ok (.idiv, 1) := by decide +kernel
theorem dL_told_57 : decode cL_told 57 = .ok (.bipush 90, 2) := by decide +kernel
theorem dL_told_59 : decode cL_told 59 = .ok (.irem, 1) := by decide +kernel
theorem dL_told_60 : decode cL_told 60 = .ok (.iadd, 1) := by decide +kernel
theorem dL_told_61 : decode cL_told 61 = .ok (.istore 9, 2) := by decide +kernel
theorem dL_told_63 : decode cL_told 63 = .ok (.aload_n 0, 1) := by decide +kernel
theorem dL_told_64 : decode cL_told 64 = .ok (.invokevirtual 109, 3) := by decide +kernel
theorem dL_told_67 : decode cL_told 67 = .ok (.aload_n 1, 1) := by decide +kernel
theorem dL_told_68 : decode cL_told 68 = .ok (.invokevirtual 109, 3) := by decide +kernel
theorem dL_told_71 : decode cL_told 71 = .ok (.if_icmp .ne 140, 3) := by decide +kernel
theorem dL_told_74 : decode cL_told 74 = .ok (.aload_n 0, 1) := by decide +kernel
theorem dL_told_75 : decode cL_told 75 = .ok (.aload_n 1, 1) := by decide +kernel
theorem dL_told_76 : decode cL_told 76 = .ok (.bipush 71, 2) := by decide +kernel
theorem dL_told_78 : decode cL_told 78 = .ok (.invokestatic 101, 3) := by decide +kernel
theorem dL_told_81 : decode cL_told 81 = .ok (.ifCond .eq 130, 3) := by decide +kernel
theorem dL_told_84 : decode cL_told 84 = .ok (.aload_n 0, 1) := by decide +kernel
theorem dL_told_85 : decode cL_told 85 = .ok (.invokevirtual 112, 3) := by decide +kernel
theorem dL_told_88 : decode cL_told 88 = .ok (.iconst 1, 1) := by decide +kernel
theorem dL_told_89 : decode cL_told 89 = .ok (.if_icmp .ne 122, 3) := by decide +kernel
theorem dL_told_92 : decode cL_told 92 = .ok (.aload_n 0, 1) := by decide +kernel
theorem dL_told_93 : decode cL_told 93 = .ok (.aload_n 1, 1) := by decide +kernel
theorem dL_told_94 : decode cL_told 94 = .ok (.iload 6, 2) := by decide +kernel
theorem dL_told_96 : decode cL_told 96 = .ok (.invokestatic 115, 3) := by decide +kernel
theorem dL_told_99 : decode cL_told 99 = .ok (.ifCond .eq 112, 3) := by decide +kernel
theorem dL_told_102 : decode cL_told 102 = .ok (.aload_n 0, 1) := by decide +kernel
theorem dL_told_103 : decode cL_told 103 = .ok (.aload_n 1, 1) := by decide +kernel
theorem dL_told_104 : decode cL_told 104 = .ok (.bipush 78, 2) := by decide +kernel
theorem dL_told_106 : decode cL_told 106 = .ok (.invokestatic 101, 3) := by decide +kernel
theorem dL_told_109 : decode cL_told 109 = .ok (.ifCond .eq 102, 3) := by decide +kernel
theorem dL_told_112 : decode cL_told 112 = .ok (.aload_n 0, 1) := by decide +kernel
theorem dL_told_113 : decode cL_told 113 = .ok (.aload_n 1, 1) := by decide +kernel
theorem dL_told_114 : decode cL_told 114 = .ok (.iconst 1, 1) := by decide +kernel
theorem dL_told_115 : decode cL_told 115 = .ok (.iload 4, 2) := by decide +kernel
theorem dL_told_117 : decode cL_told 117 = .ok (.sipush 4096, 3) := by decide +kernel
theorem dL_told_120 : decode cL_told 120 = .ok (.idiv, 1) := by decide +kernel
theorem dL_told_121 : decode cL_told 121 = .ok (.bipush 12, 2) := by decide +kernel
theorem dL_told_123 : decode cL_told 123 = .ok (.irem, 1) := by decide +kernel
theorem dL_told_124 : decode cL_told 124 = .ok (.iadd, 1) := by decide +kernel
theorem dL_told_125 : decode cL_told 125 = .ok (.invokestatic 115, 3) := by decide +kernel
theorem dL_told_128 : decode cL_told 128 = .ok (.ifCond .eq 83, 3) := by decide +kernel
theorem dL_told_131 : decode cL_told 131 = .ok (.aload_n 0, 1) := by decide +kernel
theorem dL_told_132 : decode cL_told 132 = .ok (.invokevirtual 112, 3) := by decide +kernel
theorem dL_told_135 : decode cL_told 135 = .ok (.bipush 6, 2) := by decide +kernel
theorem dL_told_137 : decode cL_told 137 = .ok (.if_icmp .ne 74, 3) := by decide +kernel
theorem dL_told_140 : decode cL_told 140 = .ok (.aload_n 0, 1) := by decide +kernel
theorem dL_told_141 : decode cL_told 141 = .ok (.aload_n 1, 1) := by decide +kernel
theorem dL_told_142 : decode cL_told 142 = .ok (.bipush 76, 2) := by decide +kernel
theorem dL_told_144 : decode cL_told 144 = .ok (.invokestatic 101, 3) := by decide +kernel
theorem dL_told_147 : decode cL_told 147 = .ok (.ifCond .eq 64, 3) := by decide +kernel
theorem dL_told_150 : decode cL_told 150 = .ok (.aload_n 0, 1) := by decide +kernel
theorem dL_told_151 : decode cL_told 151 = .ok (.aload_n 1, 1) := by decide +kernel
theorem dL_told_152 : decode cL_told 152 = .ok (.bipush 48, 2) := by decide +kernel
theorem dL_told_154 : decode cL_told 154 = .ok (.iload 4, 2) := by decide +kernel
theorem dL_told_156 : decode cL_told 156 = .ok (.ldc 118, 2) := by decide +kernel
theorem dL_told_158 : decode cL_told 158 = .ok (.idiv, 1) := by decide +kernel
theorem dL_told_159 : decode cL_told 159 = .ok (.bipush 6, 2) := by decide +kernel
theorem dL_told_161 : decode cL_told 161 = .ok (.irem, 1) := by decide +kernel
theorem dL_told_162 : decode cL_told 162 = .ok (.iadd, 1) := by decide +kernel
theorem dL_told_163 : decode cL_told 163 = .ok (.invokestatic 101, 3) := by decide +kernel
theorem dL_told_166 : decode cL_told 166 = .ok (.ifCond .eq 45, 3) := by decide +kernel
theorem dL_told_169 : decode cL_told 169 = .ok (.aload_n 0, 1) := by decide +kernel
theorem dL_told_170 : decode cL_told 170 = .ok (.aload_n 1, 1) := by decide +kernel
theorem dL_told_171 : decode cL_told 171 = .ok (.bipush 72, 2) := by decide +kernel
theorem dL_told_173 : decode cL_told 173 = .ok (.invokestatic 101, 3) := by decide +kernel
theorem dL_told_176 : decode cL_told 176 = .ok (.ifCond .eq 35, 3) := by decide +kernel
theorem dL_told_179 : decode cL_told 179 = .ok (.aload_n 0, 1) := by decide +kernel
theorem dL_told_180 : decode cL_told 180 = .ok (.invokevirtual 112, 3) := by decide +kernel
theorem dL_told_183 : decode cL_told 183 = .ok (.bipush 9, 2) := by decide +kernel
theorem dL_told_185 : decode cL_told 185 = .ok (.if_icmp .ne 26, 3) := by decide +kernel
theorem dL_told_188 : decode cL_told 188 = .ok (.aload_n 0, 1) := by decide +kernel
theorem dL_told_189 : decode cL_told 189 = .ok (.aload_n 1, 1) := by decide +kernel
theorem dL_told_190 : decode cL_told 190 = .ok (.iload 7, 2) := by decide +kernel
theorem dL_told_192 : decode cL_told 192 = .ok (.invokestatic 115, 3) := by decide +kernel
theorem dL_told_195 : decode cL_told 195 = .ok (.ifCond .eq 16, 3) := by decide +kernel
theorem dL_told_198 : decode cL_told 198 = .ok (.aload_n 0, 1) := by decide +kernel
theorem dL_told_199 : decode cL_told 199 = .ok (.invokevirtual 112, 3) := by decide +kernel
theorem dL_told_202 : decode cL_told 202 = .ok (.ldc 119, 2) := by decide +kernel
theorem dL_told_204 : decode cL_told 204 = .ok (.if_icmp .ne 7, 3) := by decide +kernel
theorem dL_told_207 : decode cL_told 207 = .ok (.iconst 1, 1) := by decide +kernel
theorem dL_told_208 : decode cL_told 208 = .ok (.goto 4, 3) := by decide +kernel
theorem dL_told_211 : decode cL_told 211 = .ok (.iconst 0, 1) := by decide +kernel
theorem dL_told_212 : decode cL_told 212 = .ok (.istore 10, 2) := by decide +kernel
theorem dL_told_214 : decode cL_told 214 = .ok (.iload 10, 2) := by decide +kernel
theorem dL_told_216 : decode cL_told 216 = .ok (.ifCond .eq 136, 3) := by decide +kernel
theorem dL_told_219 : decode cL_told 219 = .ok (.aload_n 0, 1) := by decide +kernel
theorem dL_told_220 : decode cL_told 220 = .ok (.aload_n 1, 1) := by decide +kernel
theorem dL_told_221 : decode cL_told 221 = .ok (.bipush 83, 2) := by decide +kernel
theorem dL_told_223 : decode cL_told 223 = .ok (.invokestatic 101, 3) := by decide +kernel
theorem dL_told_226 : decode cL_told 226 = .ok (.ifCond .eq 126, 3) := by decide +kernel
theorem dL_told_229 : decode cL_told 229 = .ok (.aload_n 0, 1) := by decide +kernel
theorem dL_told_230 : decode cL_told 230 = .ok (.invokevirtual 112, 3) := by decide +kernel
theorem dL_told_233 : decode cL_told 233 = .ok (.bipush 12, 2) := by decide +kernel
theorem dL_told_235 : decode cL_told 235 = .ok (.if_icmp .ne 117, 3) := by decide +kernel
theorem dL_told_238 : decode cL_told 238 = .ok (.aload_n 0, 1) := by decide +kernel
theorem dL_told_239 : decode cL_told 239 = .ok (.aload_n 1, 1) := by decide +kernel
theorem dL_told_240 : decode cL_told 240 = .ok (.bipush 48, 2) := by decide +kernel
theorem dL_told_242 : decode cL_told 242 = .ok (.iload 9, 2) := by decide +kernel
theorem dL_told_244 : decode cL_told 244 = .ok (.bipush 100, 2) := by decide +kernel
theorem dL_told_246 : decode cL_told 246 = .ok (.idiv, 1) := by decide +kernel
theorem dL_told_247 : decode cL_told 247 = .ok (.iadd, 1) := by decide +kernel
theorem dL_told_248 : decode cL_told 248 = .ok (.invokestatic 101, 3) := by decide +kernel
theorem dL_told_251 : decode cL_told 251 = .ok (.ifCond .eq 101, 3) := by decide +kernel
theorem dL_told_254 : decode cL_told 254 = .ok (.aload_n 0, 1) := by decide +kernel
theorem dL_told_255 : decode cL_told 255 = .ok (.aload_n 1, 1) := by decide +kernel
theorem dL_told_256 : decode cL_told 256 = .ok (.iload 9, 2) := by decide +kernel
theorem dL_told_258 : decode cL_told 258 = .ok (.bipush 100, 2) := by decide +kernel
theorem dL_told_260 : decode cL_told 260 = .ok (.irem, 1) := by decide +kernel
theorem dL_told_261 : decode cL_told 261 = .ok (.invokestatic 115, 3) := by decide +kernel
theorem dL_told_264 : decode cL_told 264 = .ok (.ifCond .eq 88, 3) := by decide +kernel
theorem dL_told_267 : decode cL_told 267 = .ok (.aload_n 0, 1) := by decide +kernel
theorem dL_told_268 : decode cL_told 268 = .ok (.invokevirtual 112, 3) := by decide +kernel
theorem dL_told_271 : decode cL_told 271 = .ok (.ldc 119, 2) := by decide +kernel
theorem dL_told_273 : decode cL_told 273 = .ok (.if_icmp .ne 79, 3) := by decide +kernel
theorem dL_told_276 : decode cL_told 276 = .ok (.aload_n 0, 1) := by decide +kernel
theorem dL_told_277 : decode cL_told 277 = .ok (.aload_n 1, 1) := by decide +kernel
theorem dL_told_278 : decode cL_told 278 = .ok (.bipush 66, 2) := by decide +kernel
theorem dL_told_280 : decode cL_told 280 = .ok (.invokestatic 101, 3) := by decide +kernel
theorem dL_told_283 : decode cL_told 283 = .ok (.ifCond .eq 69, 3) := by decide +kernel
theorem dL_told_286 : decode cL_told 286 = .ok (.aload_n 0, 1) := by decide +kernel
theorem dL_told_287 : decode cL_told 287 = .ok (.aload_n 1, 1) := by decide +kernel
theorem dL_told_288 : decode cL_told 288 = .ok (.iload 5, 2) := by decide +kernel
theorem dL_told_290 : decode cL_told 290 = .ok (.ldc 118, 2) := by decide +kernel
theorem dL_told_292 : decode cL_told 292 = .ok (.idiv, 1) := by decide +kernel
theorem dL_told_293 : decode cL_told 293 = .ok (.bipush 10, 2) := by decide +kernel
theorem dL_told_295 : decode cL_told 295 = .ok (.irem, 1) := by decide +kernel
theorem dL_told_296 : decode cL_told 296 = .ok (.invokestatic 115, 3) := by decide +kernel
theorem dL_told_299 : decode cL_told 299 = .ok (.ifCond .eq 53, 3) := by decide +kernel
theorem dL_told_302 : decode cL_told 302 = .ok (.aload_n 0, 1) := by decide +kernel
theorem dL_told_303 : decode cL_told 303 = .ok (.invokevirtual 112, 3) := by decide +kernel
theorem dL_told_306 : decode cL_told 306 = .ok (.ldc 119, 2) := by decide +kernel
theorem dL_told_308 : decode cL_told 308 = .ok (.if_icmp .ne 44, 3) := by decide +kernel
theorem dL_told_311 : decode cL_told 311 = .ok (.aload_n 0, 1) := by decide +kernel
theorem dL_told_312 : decode cL_told 312 = .ok (.aload_n 1, 1) := by decide +kernel
theorem dL_told_313 : decode cL_told 313 = .ok (.bipush 83, 2) := by decide +kernel
theorem dL_told_315 : decode cL_told 315 = .ok (.invokestatic 101, 3) := by decide +kernel
theorem dL_told_318 : decode cL_told 318 = .ok (.ifCond .eq 34, 3) := by decide +kernel
theorem dL_told_321 : decode cL_told 321 = .ok (.aload_n 0, 1) := by decide +kernel
theorem dL_told_322 : decode cL_told 322 = .ok (.invokevirtual 112, 3) := by decide +kernel
theorem dL_told_325 : decode cL_told 325 = .ok (.bipush 18, 2) := by decide +kernel
theorem dL_told_327 : decode cL_told 327 = .ok (.if_icmp .ne 25, 3) := by decide +kernel
theorem dL_told_330 : decode cL_told 330 = .ok (.aload_n 0, 1) := by decide +kernel
theorem dL_told_331 : decode cL_told 331 = .ok (.invokevirtual 109, 3) := by decide +kernel
theorem dL_told_334 : decode cL_told 334 = .ok (.bipush 19, 2) := by decide +kernel
theorem dL_told_336 : decode cL_told 336 = .ok (.if_icmp .ne 16, 3) := by decide +kernel
theorem dL_told_339 : decode cL_told 339 = .ok (.aload_n 1, 1) := by decide +kernel
theorem dL_told_340 : decode cL_told 340 = .ok (.invokevirtual 109, 3) := by decide +kernel
theorem dL_told_343 : decode cL_told 343 = .ok (.bipush 19, 2) := by decide +kernel
theorem dL_told_345 : decode cL_told 345 = .ok (.if_icmp .ne 7, 3) := by decide +kernel
theorem dL_told_348 : decode cL_told 348 = .ok (.iconst 1, 1) := by decide +kernel
theorem dL_told_349 : decode cL_told 349 = .ok (.goto 4, 3) := by decide +kernel
theorem dL_told_352 : decode cL_told 352 = .ok (.iconst 0, 1) := by decide +kernel
theorem dL_told_353 : decode cL_told 353 = .ok (.istore 10, 2) := by decide +kernel
theorem dL_told_355 : decode cL_told 355 = .ok (.iload 10, 2) := by decide +kernel
theorem dL_told_357 : decode cL_told 357 = .ok (.ifCond .eq 222, 3) := by decide +kernel
theorem dL_told_360 : decode cL_told 360 = .ok (.aload_n 0, 1) := by decide +kernel
theorem dL_told_361 : decode cL_told 361 = .ok (.aload_n 1, 1) := by decide +kernel
theorem dL_told_362 : decode cL_told 362 = .ok (.bipush 71, 2) := by decide +kernel
theorem dL_told_364 : decode cL_told 364 = .ok (.invokestatic 101, 3) := by decide +kernel
theorem dL_told_367 : decode cL_told 367 = .ok (.ifCond .eq 212, 3) := by decide +kernel
theorem dL_told_370 : decode cL_told 370 = .ok (.aload_n 0, 1) := by decide +kernel
theorem dL_told_371 : decode cL_told 371 = .ok (.aload_n 1, 1) := by decide +kernel
theorem dL_told_372 : decode cL_told 372 = .ok (.iload 6, 2) := by decide +kernel
theorem dL_told_374 : decode cL_told 374 = .ok (.invokestatic 115, 3) := by decide +kernel
theorem dL_told_377 : decode cL_told 377 = .ok (.ifCond .eq 202, 3) := by decide +kernel
theorem dL_told_380 : decode cL_told 380 = .ok (.aload_n 0, 1) := by decide +kernel
theorem dL_told_381 : decode cL_told 381 = .ok (.aload_n 1, 1) := by decide +kernel
theorem dL_told_382 : decode cL_told 382 = .ok (.bipush 78, 2) := by decide +kernel
theorem dL_told_384 : decode cL_told 384 = .ok (.invokestatic 101, 3) := by decide +kernel
theorem dL_told_387 : decode cL_told 387 = .ok (.ifCond .eq 192, 3) := by decide +kernel
theorem dL_told_390 : decode cL_told 390 = .ok (.aload_n 0, 1) := by decide +kernel
theorem dL_told_391 : decode cL_told 391 = .ok (.aload_n 1, 1) := by decide +kernel
theorem dL_told_392 : decode cL_told 392 = .ok (.iconst 1, 1) := by decide +kernel
theorem dL_told_393 : decode cL_told 393 = .ok (.iload 4, 2) := by decide +kernel
theorem dL_told_395 : decode cL_told 395 = .ok (.sipush 4096, 3) := by decide +kernel
theorem dL_told_398 : decode cL_told 398 = .ok (.idiv, 1) := by decide +kernel
theorem dL_told_399 : decode cL_told 399 = .ok (.bipush 12, 2) := by decide +kernel
theorem dL_told_401 : decode cL_told 401 = .ok (.irem, 1) := by decide +kernel
theorem dL_told_402 : decode cL_told 402 = .ok (.iadd, 1) := by decide +kernel
theorem dL_told_403 : decode cL_told 403 = .ok (.invokestatic 115, 3) := by decide +kernel
theorem dL_told_406 : decode cL_told 406 = .ok (.ifCond .eq 173, 3) := by decide +kernel
theorem dL_told_409 : decode cL_told 409 = .ok (.aload_n 0, 1) := by decide +kernel
theorem dL_told_410 : decode cL_told 410 = .ok (.aload_n 1, 1) := by decide +kernel
theorem dL_told_411 : decode cL_told 411 = .ok (.bipush 76, 2) := by decide +kernel
theorem dL_told_413 : decode cL_told 413 = .ok (.invokestatic 101, 3) := by decide +kernel
theorem dL_told_416 : decode cL_told 416 = .ok (.ifCond .eq 163, 3) := by decide +kernel
theorem dL_told_419 : decode cL_told 419 = .ok (.aload_n 0, 1) := by decide +kernel
theorem dL_told_420 : decode cL_told 420 = .ok (.aload_n 1, 1) := by decide +kernel
theorem dL_told_421 : decode cL_told 421 = .ok (.bipush 48, 2) := by decide +kernel
theorem dL_told_423 : decode cL_told 423 = .ok (.iload 4, 2) := by decide +kernel
theorem dL_told_425 : decode cL_told 425 = .ok (.ldc 118, 2) := by decide +kernel
theorem dL_told_427 : decode cL_told 427 = .ok (.idiv, 1) := by decide +kernel
theorem dL_told_428 : decode cL_told 428 = .ok (.bipush 6, 2) := by decide +kernel
