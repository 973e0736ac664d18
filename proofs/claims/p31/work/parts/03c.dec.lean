theorem dL_tryScript_0 : decode cL_tryScript 0 = .ok (.aload_n 0, 1) := by decide +kernel
theorem dL_tryScript_1 : decode cL_tryScript 1 = .ok (.iload_n 1, 1) := by decide +kernel
theorem dL_tryScript_2 : decode cL_tryScript 2 = .ok (.lload_n 2, 1) := by decide +kernel
theorem dL_tryScript_3 : decode cL_tryScript 3 = .ok (.invokevirtual 7, 3) := by decide +kernel
theorem dL_tryScript_6 : decode cL_tryScript 6 = .ok (.ireturn, 1) := by decide +kernel
theorem dL_tryScript_7 : decode cL_tryScript 7 = .ok (.astore 4, 2) := by decide +kernel
theorem dL_tryScript_9 : decode cL_tryScript 9 = .ok (.ldc 15, 2) := by decide +kernel
theorem dL_tryScript_11 : decode cL_tryScript 11 = .ok (.ireturn, 1) := by decide +kernel
theorem dL_trySimulate_0 : decode cL_trySimulate 0 = .ok (.aload_n 0, 1) := by decide +kernel
theorem dL_trySimulate_1 : decode cL_trySimulate 1 = .ok (.lload_n 1, 1) := by decide +kernel
theorem dL_trySimulate_2 : decode cL_trySimulate 2 = .ok (.iload_n 3, 1) := by decide +kernel
theorem dL_trySimulate_3 : decode cL_trySimulate 3 = .ok (.invokevirtual 16, 3) := by decide +kernel
theorem dL_trySimulate_6 : decode cL_trySimulate 6 = .ok (.ireturn, 1) := by decide +kernel
theorem dL_trySimulate_7 : decode cL_trySimulate 7 = .ok (.astore 4, 2) := by decide +kernel
theorem dL_trySimulate_9 : decode cL_trySimulate 9 = .ok (.ldc 15, 2) := by decide +kernel
theorem dL_trySimulate_11 : decode cL_trySimulate 11 = .ok (.ireturn, 1) := by decide +kernel
theorem dL_tryBuild_0 : decode cL_tryBuild 0 = .ok (.aload_n 0, 1) := by decide +kernel
theorem dL_tryBuild_1 : decode cL_tryBuild 1 = .ok (.iload_n 1, 1) := by decide +kernel
theorem dL_tryBuild_2 : decode cL_tryBuild 2 = .ok (.iload_n 2, 1) := by decide +kernel
theorem dL_tryBuild_3 : decode cL_tryBuild 3 = .ok (.iload_n 3, 1) := by decide +kernel
theorem dL_tryBuild_4 : decode cL_tryBuild 4 = .ok (.iload 4, 2) := by decide +kernel
theorem dL_tryBuild_6 : decode cL_tryBuild 6 = .ok (.invokevirtual 20, 3) := by decide +kernel
theorem dL_tryBuild_9 : decode cL_tryBuild 9 = .ok (.ireturn, 1) := by decide +kernel
theorem dL_tryBuild_10 : decode cL_tryBuild 10 = .ok (.astore 5, 2) := by decide +kernel
theorem dL_tryBuild_12 : decode cL_tryBuild 12 = .ok (.ldc 26, 2) := by decide +kernel
theorem dL_tryBuild_14 : decode cL_tryBuild 14 = .ok (.ireturn, 1) := by decide +kernel
theorem dL_tryBuild_15 : decode cL_tryBuild 15 = .ok (.astore 5, 2) := by decide +kernel
theorem dL_tryBuild_17 : decode cL_tryBuild 17 = .ok (.ldc 15, 2) := by decide +kernel
theorem dL_tryBuild_19 : decode cL_tryBuild 19 = .ok (.ireturn, 1) := by decide +kernel
theorem dL_tryBuild_20 : decode cL_tryBuild 20 = .ok (.astore 5, 2) := by decide +kernel
theorem dL_tryBuild_22 : decode cL_tryBuild 22 = .ok (.ldc 29, 2) := by decide +kernel
theorem dL_tryBuild_24 : decode cL_tryBuild 24 = .ok (.ireturn, 1) := by decide +kernel
theorem dL_tryFollow_0 : decode cL_tryFollow 0 = .ok (.aload_n 0, 1) := by decide +kernel
theorem dL_tryFollow_1 : decode cL_tryFollow 1 = .ok (.iload_n 1, 1) := by decide +kernel
theorem dL_tryFollow_2 : decode cL_tryFollow 2 = .ok (.iload_n 2, 1) := by decide +kernel
theorem dL_tryFollow_3 : decode cL_tryFollow 3 = .ok (.lload_n 3, 1) := by decide +kernel
theorem dL_tryFollow_4 : decode cL_tryFollow 4 = .ok (.invokevirtual 30, 3) := by decide +kernel
theorem dL_tryFollow_7 : decode cL_tryFollow 7 = .ok (.ireturn, 1) := by decide +kernel
theorem dL_tryFollow_8 : decode cL_tryFollow 8 = .ok (.astore 5, 2) := by decide +kernel
theorem dL_tryFollow_10 : decode cL_tryFollow 10 = .ok (.ldc 26, 2) := by decide +kernel
theorem dL_tryFollow_12 : decode cL_tryFollow 12 = .ok (.ireturn, 1) := by decide +kernel
theorem dL_tryFollow_13 : decode cL_tryFollow 13 = .ok (.astore 5, 2) := by decide +kernel
theorem dL_tryFollow_15 : decode cL_tryFollow 15 = .ok (.ldc 15, 2) := by decide +kernel
theorem dL_tryFollow_17 : decode cL_tryFollow 17 = .ok (.ireturn, 1) := by decide +kernel
theorem dL_tryAppend_0 : decode cL_tryAppend 0 = .ok (.aload_n 0, 1) := by decide +kernel
theorem dL_tryAppend_1 : decode cL_tryAppend 1 = .ok (.iload_n 1, 1) := by decide +kernel
theorem dL_tryAppend_2 : decode cL_tryAppend 2 = .ok (.invokevirtual 34, 3) := by decide +kernel
theorem dL_tryAppend_5 : decode cL_tryAppend 5 = .ok (.ireturn, 1) := by decide +kernel
theorem dL_tryAppend_6 : decode cL_tryAppend 6 = .ok (.astore_n 2, 1) := by decide +kernel
theorem dL_tryAppend_7 : decode cL_tryAppend 7 = .ok (.ldc 15, 2) := by decide +kernel
theorem dL_tryAppend_9 : decode cL_tryAppend 9 = .ok (.ireturn, 1) := by decide +kernel
theorem dL_tryAppend_10 : decode cL_tryAppend 10 = .ok (.astore_n 2, 1) := by decide +kernel
theorem dL_tryAppend_11 : decode cL_tryAppend 11 = .ok (.ldc 29, 2) := by decide +kernel
theorem dL_tryAppend_13 : decode cL_tryAppend 13 = .ok (.ireturn, 1) := by decide +kernel
theorem dL_tryLoad_0 : decode cL_tryLoad 0 = .ok (.aload_n 0, 1) := by decide +kernel
theorem dL_tryLoad_1 : decode cL_tryLoad 1 = .ok (.invokevirtual 38, 3) := by decide +kernel
theorem dL_tryLoad_4 : decode cL_tryLoad 4 = .ok (.ireturn, 1) := by decide +kernel
theorem dL_tryLoad_5 : decode cL_tryLoad 5 = .ok (.astore_n 1, 1) := by decide +kernel
theorem dL_tryLoad_6 : decode cL_tryLoad 6 = .ok (.ldc 29, 2) := by decide +kernel
theorem dL_tryLoad_8 : decode cL_tryLoad 8 = .ok (.ireturn, 1) := by decide +kernel
theorem dL_tryAbout_0 : decode cL_tryAbout 0 = .ok (.aload_n 0, 1) := by decide +kernel
theorem dL_tryAbout_1 : decode cL_tryAbout 1 = .ok (.iload_n 1, 1) := by decide +kernel
theorem dL_tryAbout_2 : decode cL_tryAbout 2 = .ok (.invokevirtual 42, 3) := by decide +kernel
theorem dL_tryAbout_5 : decode cL_tryAbout 5 = .ok (.ireturn, 1) := by decide +kernel
theorem dL_tryAbout_6 : decode cL_tryAbout 6 = .ok (.astore_n 2, 1) := by decide +kernel
theorem dL_tryAbout_7 : decode cL_tryAbout 7 = .ok (.ldc 15, 2) := by decide +kernel
theorem dL_tryAbout_9 : decode cL_tryAbout 9 = .ok (.ireturn, 1) := by decide +kernel
theorem dL_tryStep_0 : decode cL_tryStep 0 = .ok (.aload_n 0, 1) := by decide +kernel
theorem dL_tryStep_1 : decode cL_tryStep 1 = .ok (.iload_n 1, 1) := by decide +kernel
theorem dL_tryStep_2 : decode cL_tryStep 2 = .ok (.iload_n 2, 1) := by decide +kernel
theorem dL_tryStep_3 : decode cL_tryStep 3 = .ok (.invokevirtual 45, 3) := by decide +kernel
theorem dL_tryStep_6 : decode cL_tryStep 6 = .ok (.ireturn, 1) := by decide +kernel
theorem dL_tryStep_7 : decode cL_tryStep 7 = .ok (.astore_n 3, 1) := by decide +kernel
theorem dL_tryStep_8 : decode cL_tryStep 8 = .ok (.ldc 26, 2) := by decide +kernel
theorem dL_tryStep_10 : decode cL_tryStep 10 = .ok (.ireturn, 1) := by decide +kernel
theorem dL_tryStep_11 : decode cL_tryStep 11 = .ok (.astore_n 3, 1) := by decide +kernel
theorem dL_tryStep_12 : decode cL_tryStep 12 = .ok (.ldc 15, 2) := by decide +kernel
theorem dL_tryStep_14 : decode cL_tryStep 14 = .ok (.ireturn, 1) := by decide +kernel
theorem dL_tryPerson_0 : decode cL_tryPerson 0 = .ok (.aload_n 0, 1) := by decide +kernel
theorem dL_tryPerson_1 : decode cL_tryPerson 1 = .ok (.iload_n 1, 1) := by decide +kernel
theorem dL_tryPerson_2 : decode cL_tryPerson 2 = .ok (.iload_n 2, 1) := by decide +kernel
theorem dL_tryPerson_3 : decode cL_tryPerson 3 = .ok (.invokevirtual 49, 3) := by decide +kernel
theorem dL_tryPerson_6 : decode cL_tryPerson 6 = .ok (.ireturn, 1) := by decide +kernel
theorem dL_tryPerson_7 : decode cL_tryPerson 7 = .ok (.astore_n 3, 1) := by decide +kernel
theorem dL_tryPerson_8 : decode cL_tryPerson 8 = .ok (.ldc 26, 2) := by decide +kernel
theorem dL_tryPerson_10 : decode cL_tryPerson 10 = .ok (.ireturn, 1) := by decide +kernel
theorem dL_tryPerson_11 : decode cL_tryPerson 11 = .ok (.astore_n 3, 1) := by decide +kernel
theorem dL_tryPerson_12 : decode cL_tryPerson 12 = .ok (.ldc 15, 2) := by decide +kernel
theorem dL_tryPerson_14 : decode cL_tryPerson 14 = .ok (.ireturn, 1) := by decide +kernel
theorem dL_tryFind_0 : decode cL_tryFind 0 = .ok (.aload_n 0, 1) := by decide +kernel
theorem dL_tryFind_1 : decode cL_tryFind 1 = .ok (.iload_n 1, 1) := by decide +kernel
theorem dL_tryFind_2 : decode cL_tryFind 2 = .ok (.iload_n 2, 1) := by decide +kernel
theorem dL_tryFind_3 : decode cL_tryFind 3 = .ok (.iload_n 3, 1) := by decide +kernel
theorem dL_tryFind_4 : decode cL_tryFind 4 = .ok (.invokevirtual 52, 3) := by decide +kernel
theorem dL_tryFind_7 : decode cL_tryFind 7 = .ok (.ireturn, 1) := by decide +kernel
theorem dL_tryFind_8 : decode cL_tryFind 8 = .ok (.astore 4, 2) := by decide +kernel
theorem dL_tryFind_10 : decode cL_tryFind 10 = .ok (.ldc 26, 2) := by decide +kernel
theorem dL_tryFind_12 : decode cL_tryFind 12 = .ok (.ireturn, 1) := by decide +kernel
theorem dL_tryFind_13 : decode cL_tryFind 13 = .ok (.astore 4, 2) := by decide +kernel
theorem dL_tryFind_15 : decode cL_tryFind 15 = .ok (.ldc 15, 2) := by decide +kernel
theorem dL_tryFind_17 : decode cL_tryFind 17 = .ok (.ireturn, 1) := by decide +kernel
theorem dL_trySign_0 : decode cL_trySign 0 = .ok (.aload_n 0, 1) := by decide +kernel
theorem dL_trySign_1 : decode cL_trySign 1 = .ok (.iload_n 1, 1) := by decide +kernel
theorem dL_trySign_2 : decode cL_trySign 2 = .ok (.invokevirtual 56, 3) := by decide +kernel
theorem dL_trySign_5 : decode cL_trySign 5 = .ok (.ireturn, 1) := by decide +kernel
theorem dL_trySign_6 : decode cL_trySign 6 = .ok (.astore_n 2, 1) := by decide +kernel
theorem dL_trySign_7 : decode cL_trySign 7 = .ok (.ldc 15, 2) := by decide +kernel
theorem dL_trySign_9 : decode cL_trySign 9 = .ok (.ireturn, 1) := by decide +kernel
theorem dL_tryPerson2_0 : decode cL_tryPerson2 0 = .ok (.aload_n 0, 1) := by decide +kernel
theorem dL_tryPerson2_1 : decode cL_tryPerson2 1 = .ok (.invokevirtual 59, 3) := by decide +kernel
theorem dL_tryPerson2_4 : decode cL_tryPerson2 4 = .ok (.ireturn, 1) := by decide +kernel
theorem dL_tryPerson2_5 : decode cL_tryPerson2 5 = .ok (.astore_n 1, 1) := by decide +kernel
theorem dL_tryPerson2_6 : decode cL_tryPerson2 6 = .ok (.ldc 29, 2) := by decide +kernel
theorem dL_tryPerson2_8 : decode cL_tryPerson2 8 = .ok (.ireturn, 1) := by decide +kernel
theorem dL_tryCut_0 : decode cL_tryCut 0 = .ok (.aload_n 0, 1) := by decide +kernel
theorem dL_tryCut_1 : decode cL_tryCut 1 = .ok (.iload_n 1, 1) := by decide +kernel
theorem dL_tryCut_2 : decode cL_tryCut 2 = .ok (.invokevirtual 62, 3) := by decide +kernel
theorem dL_tryCut_5 : decode cL_tryCut 5 = .ok (.ireturn, 1) := by decide +kernel
theorem dL_tryCut_6 : decode cL_tryCut 6 = .ok (.astore_n 2, 1) := by decide +kernel
theorem dL_tryCut_7 : decode cL_tryCut 7 = .ok (.ldc 26, 2) := by decide +kernel
theorem dL_tryCut_9 : decode cL_tryCut 9 = .ok (.ireturn, 1) := by decide +kernel
theorem dL_tryPrice_0 : decode cL_tryPrice 0 = .ok (.aload_n 0, 1) := by decide +kernel
theorem dL_tryPrice_1 : decode cL_tryPrice 1 = .ok (.iload_n 1, 1) := by decide +kernel
theorem dL_tryPrice_2 : decode cL_tryPrice 2 = .ok (.iload_n 2, 1) := by decide +kernel
theorem dL_tryPrice_3 : decode cL_tryPrice 3 = .ok (.invokevirtual 65, 3) := by decide +kernel
theorem dL_tryPrice_6 : decode cL_tryPrice 6 = .ok (.ireturn, 1) := by decide +kernel
theorem dL_tryPrice_7 : decode cL_tryPrice 7 = .ok (.astore_n 3, 1) := by decide +kernel
theorem dL_tryPrice_8 : decode cL_tryPrice 8 = .ok (.ldc 26, 2) := by decide +kernel
theorem dL_tryPrice_10 : decode cL_tryPrice 10 = .ok (.ireturn, 1) := by decide +kernel
theorem dL_tryPrice_11 : decode cL_tryPrice 11 = .ok (.astore_n 3, 1) := by decide +kernel
theorem dL_tryPrice_12 : decode cL_tryPrice 12 = .ok (.ldc 15, 2) := by decide +kernel
theorem dL_tryPrice_14 : decode cL_tryPrice 14 = .ok (.ireturn, 1) := by decide +kernel
theorem dL_tryTurn_0 : decode cL_tryTurn 0 = .ok (.aload_n 0, 1) := by decide +kernel
theorem dL_tryTurn_1 : decode cL_tryTurn 1 = .ok (.iload_n 1, 1) := by decide +kernel
theorem dL_tryTurn_2 : decode cL_tryTurn 2 = .ok (.invokevirtual 68, 3) := by decide +kernel
theorem dL_tryTurn_5 : decode cL_tryTurn 5 = .ok (.ireturn, 1) := by decide +kernel
theorem dL_tryTurn_6 : decode cL_tryTurn 6 = .ok (.astore_n 2, 1) := by decide +kernel
theorem dL_tryTurn_7 : decode cL_tryTurn 7 = .ok (.ldc 26, 2) := by decide +kernel
theorem dL_tryTurn_9 : decode cL_tryTurn 9 = .ok (.ireturn, 1) := by decide +kernel
theorem dL_tryTurn_10 : decode cL_tryTurn 10 = .ok (.astore_n 2, 1) := by decide +kernel
theorem dL_tryTurn_11 : decode cL_tryTurn 11 = .ok (.ldc 29, 2) := by decide +kernel
theorem dL_tryTurn_13 : decode cL_tryTurn 13 = .ok (.ireturn, 1) := by decide +kernel
theorem dL_trySwap_0 : decode cL_trySwap 0 = .ok (.aload_n 0, 1) := by decide +kernel
theorem dL_trySwap_1 : decode cL_trySwap 1 = .ok (.iload_n 1, 1) := by decide +kernel
theorem dL_trySwap_2 : decode cL_trySwap 2 = .ok (.iload_n 2, 1) := by decide +kernel
theorem dL_trySwap_3 : decode cL_trySwap 3 = .ok (.invokevirtual 71, 3) := by decide +kernel
theorem dL_trySwap_6 : decode cL_trySwap 6 = .ok (.ireturn, 1) := by decide +kernel
theorem dL_trySwap_7 : decode cL_trySwap 7 = .ok (.astore_n 3, 1) := by decide +kernel
theorem dL_trySwap_8 : decode cL_trySwap 8 = .ok (.ldc 15, 2) := by decide +kernel
theorem dL_trySwap_10 : decode cL_trySwap 10 = .ok (.ireturn, 1) := by decide +kernel
theorem dL_tryTake_0 : decode cL_tryTake 0 = .ok (.aload_n 0, 1) := by decide +kernel
theorem dL_tryTake_1 : decode cL_tryTake 1 = .ok (.invokevirtual 74, 3) := by decide +kernel
theorem dL_tryTake_4 : decode cL_tryTake 4 = .ok (.ireturn, 1) := by decide +kernel
theorem dL_tryTake_5 : decode cL_tryTake 5 = .ok (.astore_n 1, 1) := by decide +kernel
theorem dL_tryTake_6 : decode cL_tryTake 6 = .ok (.ldc 29, 2) := by decide +kernel
theorem dL_tryTake_8 : decode cL_tryTake 8 = .ok (.ireturn, 1) := by decide +kernel
theorem dL_tryUndo_0 : decode cL_tryUndo 0 = .ok (.aload_n 0, 1) := by decide +kernel
theorem dL_tryUndo_1 : decode cL_tryUndo 1 = .ok (.invokevirtual 77, 3) := by decide +kernel
theorem dL_tryUndo_4 : decode cL_tryUndo 4 = .ok (.ireturn, 1) := by decide +kernel
theorem dL_tryUndo_5 : decode cL_tryUndo 5 = .ok (.astore_n 1, 1) := by decide +kernel
theorem dL_tryUndo_6 : decode cL_tryUndo 6 = .ok (.ldc 29, 2) := by decide +kernel
theorem dL_tryUndo_8 : decode cL_tryUndo 8 = .ok (.ireturn, 1) := by decide +kernel
theorem dL_tryCost_0 : decode cL_tryCost 0 = .ok (.aload_n 0, 1) := by decide +kernel
theorem dL_tryCost_1 : decode cL_tryCost 1 = .ok (.iload_n 1, 1) := by decide +kernel
theorem dL_tryCost_2 : decode cL_tryCost 2 = .ok (.iload_n 2, 1) := by decide +kernel
theorem dL_tryCost_3 : decode cL_tryCost 3 = .ok (.invokevirtual 80, 3) := by decide +kernel
theorem dL_tryCost_6 : decode cL_tryCost 6 = .ok (.ireturn, 1) := by decide +kernel
theorem dL_tryCost_7 : decode cL_tryCost 7 = .ok (.astore_n 3, 1) := by decide +kernel
theorem dL_tryCost_8 : decode cL_tryCost 8 = .ok (.ldc 26, 2) := by decide +kernel
theorem dL_tryCost_10 : decode cL_tryCost 10 = .ok (.ireturn, 1) := by decide +kernel
theorem dL_tryLong_0 : decode cL_tryLong 0 = .ok (.aload_n 0, 1) := by decide +kernel
theorem dL_tryLong_1 : decode cL_tryLong 1 = .ok (.iload_n 1, 1) := by decide +kernel
theorem dL_tryLong_2 : decode cL_tryLong 2 = .ok (.iload_n 2, 1) := by decide +kernel
theorem dL_tryLong_3 : decode cL_tryLong 3 = .ok (.invokevirtual 83, 3) := by decide +kernel
theorem dL_tryLong_6 : decode cL_tryLong 6 = .ok (.ireturn, 1) := by decide +kernel
theorem dL_tryLong_7 : decode cL_tryLong 7 = .ok (.astore_n 3, 1) := by decide +kernel
theorem dL_tryLong_8 : decode cL_tryLong 8 = .ok (.ldc 26, 2) := by decide +kernel
theorem dL_tryLong_10 : decode cL_tryLong 10 = .ok (.ireturn, 1) := by decide +kernel
theorem dL_tryPath_0 : decode cL_tryPath 0 = .ok (.aload_n 0, 1) := by decide +kernel
theorem dL_tryPath_1 : decode cL_tryPath 1 = .ok (.iload_n 1, 1) := by decide +kernel
theorem dL_tryPath_2 : decode cL_tryPath 2 = .ok (.iload_n 2, 1) := by decide +kernel
theorem dL_tryPath_3 : decode cL_tryPath 3 = .ok (.iload_n 3, 1) := by decide +kernel
theorem dL_tryPath_4 : decode cL_tryPath 4 = .ok (.invokevirtual 86, 3) := by decide +kernel
theorem dL_tryPath_7 : decode cL_tryPath 7 = .ok (.ireturn, 1) := by decide +kernel
theorem dL_tryPath_8 : decode cL_tryPath 8 = .ok (.astore 4, 2) := by decide +kernel
theorem dL_tryPath_10 : decode cL_tryPath 10 = .ok (.ldc 26, 2) := by decide +kernel
theorem dL_tryPath_12 : decode cL_tryPath 12 = .ok (.ireturn, 1) := by decide +kernel
theorem dL_tryPath_13 : decode cL_tryPath 13 = .ok (.astore 4, 2) := by decide +kernel
theorem dL_tryPath_15 : decode cL_tryPath 15 = .ok (.ldc 15, 2) := by decide +kernel
theorem dL_tryPath_17 : decode cL_tryPath 17 = .ok (.ireturn, 1) := by decide +kernel
theorem dL_tryPaths_0 : decode cL_tryPaths 0 = .ok (.aload_n 0, 1) := by decide +kernel
theorem dL_tryPaths_1 : decode cL_tryPaths 1 = .ok (.iload_n 1, 1) := by decide +kernel
theorem dL_tryPaths_2 : decode cL_tryPaths 2 = .ok (.iload_n 2, 1) := by decide +kernel
theorem dL_tryPaths_3 : decode cL_tryPaths 3 = .ok (.iload_n 3, 1) := by decide +kernel
theorem dL_tryPaths_4 : decode cL_tryPaths 4 = .ok (.invokevirtual 89, 3) := by decide +kernel
theorem dL_tryPaths_7 : decode cL_tryPaths 7 = .ok (.ireturn, 1) := by decide +kernel
theorem dL_tryPaths_8 : decode cL_tryPaths 8 = .ok (.astore 4, 2) := by decide +kernel
theorem dL_tryPaths_10 : decode cL_tryPaths 10 = .ok (.ldc 26, 2) := by decide +kernel
theorem dL_tryPaths_12 : decode cL_tryPaths 12 = .ok (.ireturn, 1) := by decide +kernel
theorem dL_tryPaths_13 : decode cL_tryPaths 13 = .ok (.astore 4, 2) := by decide +kernel
theorem dL_tryPaths_15 : decode cL_tryPaths 15 = .ok (.ldc 15, 2) := by decide +kernel
theorem dL_tryPaths_17 : decode cL_tryPaths 17 = .ok (.ireturn, 1) := by decide +kernel
theorem dL_tryNeeded_0 : decode cL_tryNeeded 0 = .ok (.aload_n 0, 1) := by decide +kernel
theorem dL_tryNeeded_1 : decode cL_tryNeeded 1 = .ok (.iload_n 1, 1) := by decide +kernel
theorem dL_tryNeeded_2 : decode cL_tryNeeded 2 = .ok (.iload_n 2, 1) := by decide +kernel
theorem dL_tryNeeded_3 : decode cL_tryNeeded 3 = .ok (.invokevirtual 92, 3) := by decide +kernel
theorem dL_tryNeeded_6 : decode cL_tryNeeded 6 = .ok (.ireturn, 1) := by decide +kernel
theorem dL_tryNeeded_7 : decode cL_tryNeeded 7 = .ok (.astore_n 3, 1) := by decide +kernel
theorem dL_tryNeeded_8 : decode cL_tryNeeded 8 = .ok (.ldc 26, 2) := by decide +kernel
theorem dL_tryNeeded_10 : decode cL_tryNeeded 10 = .ok (.ireturn, 1) := by decide +kernel
theorem dL_tryNew_0 : decode cL_tryNew 0 = .ok (.aload_n 0, 1) := by decide +kernel
theorem dL_tryNew_1 : decode cL_tryNew 1 = .ok (.iload_n 1, 1) := by decide +kernel
theorem dL_tryNew_2 : decode cL_tryNew 2 = .ok (.iload_n 2, 1) := by decide +kernel
theorem dL_tryNew_3 : decode cL_tryNew 3 = .ok (.invokevirtual 95, 3) := by decide +kernel
theorem dL_tryNew_6 : decode cL_tryNew 6 = .ok (.ireturn, 1) := by decide +kernel
theorem dL_tryNew_7 : decode cL_tryNew 7 = .ok (.astore_n 3, 1) := by decide +kernel
theorem dL_tryNew_8 : decode cL_tryNew 8 = .ok (.ldc 26, 2) := by decide +kernel
theorem dL_tryNew_10 : decode cL_tryNew 10 = .ok (.ireturn, 1) := by decide +kernel
theorem dL_tryKeep_0 : decode cL_tryKeep 0 = .ok (.aload_n 0, 1) := by decide +kernel
theorem dL_tryKeep_1 : decode cL_tryKeep 1 = .ok (.iload_n 1, 1) := by decide +kernel
theorem dL_tryKeep_2 : decode cL_tryKeep 2 = .ok (.invokevirtual 98, 3) := by decide +kernel
theorem dL_tryKeep_5 : decode cL_tryKeep 5 = .ok (.ireturn, 1) := by decide +kernel
theorem dL_tryKeep_6 : decode cL_tryKeep 6 = .ok (.astore_n 2, 1) := by decide +kernel
theorem dL_tryKeep_7 : decode cL_tryKeep 7 = .ok (.ldc 26, 2) := by decide +kernel
theorem dL_tryKeep_9 : decode cL_tryKeep 9 = .ok (.ireturn, 1) := by decide +kernel
theorem dL_tryBack_0 : decode cL_tryBack 0 = .ok (.aload_n 0, 1) := by decide +kernel
theorem dL_tryBack_1 : decode cL_tryBack 1 = .ok (.iload_n 1, 1) := by decide +kernel
theorem dL_tryBack_2 : decode cL_tryBack 2 = .ok (.invokevirtual 101, 3) := by decide +kernel
theorem dL_tryBack_5 : decode cL_tryBack 5 = .ok (.ireturn, 1) := by decide +kernel
theorem dL_tryBack_6 : decode cL_tryBack 6 = .ok (.astore_n 2, 1) := by decide +kernel
theorem dL_tryBack_7 : decode cL_tryBack 7 = .ok (.ldc 26, 2) := by decide +kernel
theorem dL_tryBack_9 : decode cL_tryBack 9 = .ok (.ireturn, 1) := by decide +kernel
theorem dL_tryBack_10 : decode cL_tryBack 10 = .ok (.astore_n 2, 1) := by decide +kernel
theorem dL_tryBack_11 : decode cL_tryBack 11 = .ok (.ldc 29, 2) := by decide +kernel
theorem dL_tryBack_13 : decode cL_tryBack 13 = .ok (.ireturn, 1) := by decide +kernel
theorem dL_call_0 : decode cL_call 0 = .ok (.iload_n 1, 1) := by decide +kernel
theorem dL_call_1 : decode cL_call 1 = .ok (.tableswitch 238 0 20 #[99, 105, 110, 116, 123, 130, 139, 145, 150, 156, 163, 169, 176, 181, 186, 193, 200, 209, 218, 225, 232], 99) := by decide +kernel
theorem dL_call_100 : decode cL_call 100 = .ok (.aload_n 0, 1) := by decide +kernel
theorem dL_call_101 : decode cL_call 101 = .ok (.iload_n 2, 1) := by decide +kernel
theorem dL_call_102 : decode cL_call 102 = .ok (.invokestatic 104, 3) := by decide +kernel
theorem dL_call_105 : decode cL_call 105 = .ok (.ireturn, 1) := by decide +kernel
theorem dL_call_106 : decode cL_call 106 = .ok (.aload_n 0, 1) := by decide +kernel
theorem dL_call_107 : decode cL_call 107 = .ok (.invokestatic 110, 3) := by decide +kernel
theorem dL_call_110 : decode cL_call 110 = .ok (.ireturn, 1) := by decide +kernel
theorem dL_call_111 : decode cL_call 111 = .ok (.aload_n 0, 1) := by decide +kernel
theorem dL_call_112 : decode cL_call 112 = .ok (.iload_n 2, 1) := by decide +kernel
theorem dL_call_113 : decode cL_call 113 = .ok (.invokestatic 114, 3) := by decide +kernel
theorem dL_call_116 : decode cL_call 116 = .ok (.ireturn, 1) := by decide +kernel
theorem dL_call_117 : decode cL_call 117 = .ok (.aload_n 0, 1) := by decide +kernel
theorem dL_call_118 : decode cL_call 118 = .ok (.iload_n 2, 1) := by decide +kernel
theorem dL_call_119 : decode cL_call 119 = .ok (.iload_n 3, 1) := by decide +kernel
theorem dL_call_120 : decode cL_call 120 = .ok (.invokestatic 117, 3) := by decide +kernel
theorem dL_call_123 : decode cL_call 123 = .ok (.ireturn, 1) := by decide +kernel
theorem dL_call_124 : decode cL_call 124 = .ok (.aload_n 0, 1) := by decide +kernel
theorem dL_call_125 : decode cL_call 125 = .ok (.iload_n 2, 1) := by decide +kernel
theorem dL_call_126 : decode cL_call 126 = .ok (.iload_n 3, 1) := by decide +kernel
theorem dL_call_127 : decode cL_call 127 = .ok (.invokestatic 121, 3) := by decide +kernel
theorem dL_call_130 : decode cL_call 130 = .ok (.ireturn, 1) := by decide +kernel
theorem dL_call_131 : decode cL_call 131 = .ok (.aload_n 0, 1) := by decide +kernel
theorem dL_call_132 : decode cL_call 132 = .ok (.iload_n 2, 1) := by decide +kernel
theorem dL_call_133 : decode cL_call 133 = .ok (.iload_n 3, 1) := by decide +kernel
theorem dL_call_134 : decode cL_call 134 = .ok (.iload 4, 2) := by decide +kernel
theorem dL_call_136 : decode cL_call 136 = .ok (.invokestatic 124, 3) := by decide +kernel
theorem dL_call_139 : decode cL_call 139 = .ok (.ireturn, 1) := by decide +kernel
theorem dL_call_140 : decode cL_call 140 = .ok (.aload_n 0, 1) := by decide +kernel
theorem dL_call_141 : decode cL_call 141 = .ok (.iload_n 2, 1) := by decide +kernel
theorem dL_call_142 : decode cL_call 142 = .ok (.invokestatic 128, 3) := by decide +kernel
theorem dL_call_145 : decode cL_call 145 = .ok (.ireturn, 1) := by decide +kernel
theorem dL_call_146 : decode cL_call 146 = .ok (.aload_n 0, 1) := by decide +kernel
theorem dL_call_147 : decode cL_call 147 = .ok (.invokestatic 131, 3) := by decide +kernel
theorem dL_call_150 : decode cL_call 150 = .ok (.ireturn, 1) := by decide +kernel
theorem dL_call_151 : decode cL_call 151 = .ok (.aload_n 0, 1) := by decide +kernel
theorem dL_call_152 : decode cL_call 152 = .ok (.iload_n 2, 1) := by decide +kernel
theorem dL_call_153 : decode cL_call 153 = .ok (.invokestatic 134, 3) := by decide +kernel
theorem dL_call_156 : decode cL_call 156 = .ok (.ireturn, 1) := by decide +kernel
theorem dL_call_157 : decode cL_call 157 = .ok (.aload_n 0, 1) := by decide +kernel
theorem dL_call_158 : decode cL_call 158 = .ok (.iload_n 2, 1) := by decide +kernel
theorem dL_call_159 : decode cL_call 159 = .ok (.iload_n 3, 1) := by decide +kernel
theorem dL_call_160 : decode cL_call 160 = .ok (.invokestatic 137, 3) := by decide +kernel
theorem dL_call_163 : decode cL_call 163 = .ok (.ireturn, 1) := by decide +kernel
theorem dL_call_164 : decode cL_call 164 = .ok (.aload_n 0, 1) := by decide +kernel
theorem dL_call_165 : decode cL_call 165 = .ok (.iload_n 2, 1) := by decide +kernel
theorem dL_call_166 : decode cL_call 166 = .ok (.invokestatic 140, 3) := by decide +kernel
theorem dL_call_169 : decode cL_call 169 = .ok (.ireturn, 1) := by decide +kernel
theorem dL_call_170 : decode cL_call 170 = .ok (.aload_n 0, 1) := by decide +kernel
theorem dL_call_171 : decode cL_call 171 = .ok (.iload_n 2, 1) := by decide +kernel
theorem dL_call_172 : decode cL_call 172 = .ok (.iload_n 3, 1) := by decide +kernel
theorem dL_call_173 : decode cL_call 173 = .ok (.invokestatic 143, 3) := by decide +kernel
theorem dL_call_176 : decode cL_call 176 = .ok (.ireturn, 1) := by decide +kernel
theorem dL_call_177 : decode cL_call 177 = .ok (.aload_n 0, 1) := by decide +kernel
theorem dL_call_178 : decode cL_call 178 = .ok (.invokestatic 146, 3) := by decide +kernel
theorem dL_call_181 : decode cL_call 181 = .ok (.ireturn, 1) := by decide +kernel
theorem dL_call_182 : decode cL_call 182 = .ok (.aload_n 0, 1) := by decide +kernel
theorem dL_call_183 : decode cL_call 183 = .ok (.invokestatic 149, 3) := by decide +kernel
theorem dL_call_186 : decode cL_call 186 = .ok (.ireturn, 1) := by decide +kernel
theorem dL_call_187 : decode cL_call 187 = .ok (.aload_n 0, 1) := by decide +kernel
theorem dL_call_188 : decode cL_call 188 = .ok (.iload_n 2, 1) := by decide +kernel
theorem dL_call_189 : decode cL_call 189 = .ok (.iload_n 3, 1) := by decide +kernel
theorem dL_call_190 : decode cL_call 190 = .ok (.invokestatic 152, 3) := by decide +kernel
theorem dL_call_193 : decode cL_call 193 = .ok (.ireturn, 1) := by decide +kernel
theorem dL_call_194 : decode cL_call 194 = .ok (.aload_n 0, 1) := by decide +kernel
theorem dL_call_195 : decode cL_call 195 = .ok (.iload_n 2, 1) := by decide +kernel
theorem dL_call_196 : decode cL_call 196 = .ok (.iload_n 3, 1) := by decide +kernel
theorem dL_call_197 : decode cL_call 197 = .ok (.invokestatic 155, 3) := by decide +kernel
theorem dL_call_200 : decode cL_call 200 = .ok (.ireturn, 1) := by decide +kernel
theorem dL_call_201 : decode cL_call 201 = .ok (.aload_n 0, 1) := by decide +kernel
theorem dL_call_202 : decode cL_call 202 = .ok (.iload_n 2, 1) := by decide +kernel
theorem dL_call_203 : decode cL_call 203 = .ok (.iload_n 3, 1) := by decide +kernel
theorem dL_call_204 : decode cL_call 204 = .ok (.iload 4, 2) := by decide +kernel
theorem dL_call_206 : decode cL_call 206 = .ok (.invokestatic 158, 3) := by decide +kernel
theorem dL_call_209 : decode cL_call 209 = .ok (.ireturn, 1) := by decide +kernel
theorem dL_call_210 : decode cL_call 210 = .ok (.aload_n 0, 1) := by decide +kernel
theorem dL_call_211 : decode cL_call 211 = .ok (.iload_n 2, 1) := by decide +kernel
theorem dL_call_212 : decode cL_call 212 = .ok (.iload_n 3, 1) := by decide +kernel
theorem dL_call_213 : decode cL_call 213 = .ok (.iload 4, 2) := by decide +kernel
theorem dL_call_215 : decode cL_call 215 = .ok (.invokestatic 161, 3) := by decide +kernel
theorem dL_call_218 : decode cL_call 218 = .ok (.ireturn, 1) := by decide +kernel
theorem dL_call_219 : decode cL_call 219 = .ok (.aload_n 0, 1) := by decide +kernel
theorem dL_call_220 : decode cL_call 220 = .ok (.iload_n 2, 1) := by decide +kernel
theorem dL_call_221 : decode cL_call 221 = .ok (.iload_n 3, 1) := by decide +kernel
theorem dL_call_222 : decode cL_call 222 = .ok (.invokestatic 164, 3) := by decide +kernel
theorem dL_call_225 : decode cL_call 225 = .ok (.ireturn, 1) := by decide +kernel
theorem dL_call_226 : decode cL_call 226 = .ok (.aload_n 0, 1) := by decide +kernel
theorem dL_call_227 : decode cL_call 227 = .ok (.iload_n 2, 1) := by decide +kernel
theorem dL_call_228 : decode cL_call 228 = .ok (.iload_n 3, 1) := by decide +kernel
theorem dL_call_229 : decode cL_call 229 = .ok (.invokestatic 167, 3) := by decide +kernel
theorem dL_call_232 : decode cL_call 232 = .ok (.ireturn, 1) := by decide +kernel
theorem dL_call_233 : decode cL_call 233 = .ok (.aload_n 0, 1) := by decide +kernel
theorem dL_call_234 : decode cL_call 234 = .ok (.iload_n 2, 1) := by decide +kernel
theorem dL_call_235 : decode cL_call 235 = .ok (.invokestatic 170, 3) := by decide +kernel
theorem dL_call_238 : decode cL_call 238 = .ok (.ireturn, 1) := by decide +kernel
theorem dL_call_239 : decode cL_call 239 = .ok (.aload_n 0, 1) := by decide +kernel
theorem dL_call_240 : decode cL_call 240 = .ok (.iload_n 2, 1) := by decide +kernel
theorem dL_call_241 : decode cL_call 241 = .ok (.invokestatic 173, 3) := by decide +kernel
theorem dL_call_244 : decode cL_call 244 = .ok (.ireturn, 1) := by decide +kernel
theorem dL_cell_0 : decode cL_cell 0 = .ok (.iload_n 1, 1) := by decide +kernel
theorem dL_cell_1 : decode cL_cell 1 = .ok (.aload_n 0, 1) := by decide +kernel
theorem dL_cell_2 : decode cL_cell 2 = .ok (.arraylength, 1) := by decide +kernel
theorem dL_cell_3 : decode cL_cell 3 = .ok (.if_icmp .ge 9, 3) := by decide +kernel
theorem dL_cell_6 : decode cL_cell 6 = .ok (.aload_n 0, 1) := by decide +kernel
theorem dL_cell_7 : decode cL_cell 7 = .ok (.iload_n 1, 1) := by decide +kernel
theorem dL_cell_8 : decode cL_cell 8 = .ok (.iaload, 1) := by decide +kernel
theorem dL_cell_9 : decode cL_cell 9 = .ok (.goto 13, 3) := by decide +kernel
theorem dL_cell_12 : decode cL_cell 12 = .ok (.ldc 176, 2) := by decide +kernel
theorem dL_cell_14 : decode cL_cell 14 = .ok (.iload_n 1, 1) := by decide +kernel
theorem dL_cell_15 : decode cL_cell 15 = .ok (.iconst 3, 1) := by decide +kernel
theorem dL_cell_16 : decode cL_cell 16 = .ok (.iadd, 1) := by decide +kernel
theorem dL_cell_17 : decode cL_cell 17 = .ok (.imul, 1) := by decide +kernel
theorem dL_cell_18 : decode cL_cell 18 = .ok (.sipush 10391, 3) := by decide +kernel
theorem dL_cell_21 : decode cL_cell 21 = .ok (.iadd, 1) := by decide +kernel
theorem dL_cell_22 : decode cL_cell 22 = .ok (.ldc 177, 2) := by decide +kernel
theorem dL_cell_24 : decode cL_cell 24 = .ok (.iand, 1) := by decide +kernel
theorem dL_cell_25 : decode cL_cell 25 = .ok (.ireturn, 1) := by decide +kernel
theorem dL_refuses_0 : decode cL_refuses 0 = .ok (.aload_n 0, 1) := by decide +kernel
theorem dL_refuses_1 : decode cL_refuses 1 = .ok (.iconst 2, 1) := by decide +kernel
theorem dL_refuses_2 : decode cL_refuses 2 = .ok (.iconst 0, 1) := by decide +kernel
theorem dL_refuses_3 : decode cL_refuses 3 = .ok (.iconst 0, 1) := by decide +kernel
theorem dL_refuses_4 : decode cL_refuses 4 = .ok (.iconst 0, 1) := by decide +kernel
theorem dL_refuses_5 : decode cL_refuses 5 = .ok (.invokestatic 178, 3) := by decide +kernel
theorem dL_refuses_8 : decode cL_refuses 8 = .ok (.istore_n 2, 1) := by decide +kernel
theorem dL_refuses_9 : decode cL_refuses 9 = .ok (.aload_n 0, 1) := by decide +kernel
theorem dL_refuses_10 : decode cL_refuses 10 = .ok (.iconst 2, 1) := by decide +kernel
theorem dL_refuses_11 : decode cL_refuses 11 = .ok (.iconst 1, 1) := by decide +kernel
theorem dL_refuses_12 : decode cL_refuses 12 = .ok (.iconst 0, 1) := by decide +kernel
theorem dL_refuses_13 : decode cL_refuses 13 = .ok (.iconst 0, 1) := by decide +kernel
theorem dL_refuses_14 : decode cL_refuses 14 = .ok (.invokestatic 178, 3) := by decide +kernel
theorem dL_refuses_17 : decode cL_refuses 17 = .ok (.istore_n 3, 1) := by decide +kernel
theorem dL_refuses_18 : decode cL_refuses 18 = .ok (.aload_n 0, 1) := by decide +kernel
theorem dL_refuses_19 : decode cL_refuses 19 = .ok (.iconst 3, 1) := by decide +kernel
theorem dL_refuses_20 : decode cL_refuses 20 = .ok (.iload_n 3, 1) := by decide +kernel
theorem dL_refuses_21 : decode cL_refuses 21 = .ok (.iload_n 1, 1) := by decide +kernel
theorem dL_refuses_22 : decode cL_refuses 22 = .ok (.iconst 0, 1) := by decide +kernel
theorem dL_refuses_23 : decode cL_refuses 23 = .ok (.invokestatic 178, 3) := by decide +kernel
theorem dL_refuses_26 : decode cL_refuses 26 = .ok (.ldc 26, 2) := by decide +kernel
theorem dL_refuses_28 : decode cL_refuses 28 = .ok (.if_icmp .ne 72, 3) := by decide +kernel
theorem dL_refuses_31 : decode cL_refuses 31 = .ok (.aload_n 0, 1) := by decide +kernel
theorem dL_refuses_32 : decode cL_refuses 32 = .ok (.iconst 4, 1) := by decide +kernel
theorem dL_refuses_33 : decode cL_refuses 33 = .ok (.iload_n 2, 1) := by decide +kernel
theorem dL_refuses_34 : decode cL_refuses 34 = .ok (.iconst 0, 1) := by decide +kernel
theorem dL_refuses_35 : decode cL_refuses 35 = .ok (.iconst 0, 1) := by decide +kernel
theorem dL_refuses_36 : decode cL_refuses 36 = .ok (.invokestatic 178, 3) := by decide +kernel
theorem dL_refuses_39 : decode cL_refuses 39 = .ok (.ldc 26, 2) := by decide +kernel
theorem dL_refuses_41 : decode cL_refuses 41 = .ok (.if_icmp .ne 59, 3) := by decide +kernel
theorem dL_refuses_44 : decode cL_refuses 44 = .ok (.aload_n 0, 1) := by decide +kernel
theorem dL_refuses_45 : decode cL_refuses 45 = .ok (.iconst 5, 1) := by decide +kernel
theorem dL_refuses_46 : decode cL_refuses 46 = .ok (.iload_n 2, 1) := by decide +kernel
theorem dL_refuses_47 : decode cL_refuses 47 = .ok (.bipush 9, 2) := by decide +kernel
theorem dL_refuses_49 : decode cL_refuses 49 = .ok (.iconst 0, 1) := by decide +kernel
theorem dL_refuses_50 : decode cL_refuses 50 = .ok (.invokestatic 178, 3) := by decide +kernel
theorem dL_refuses_53 : decode cL_refuses 53 = .ok (.ldc 26, 2) := by decide +kernel
theorem dL_refuses_55 : decode cL_refuses 55 = .ok (.if_icmp .ne 45, 3) := by decide +kernel
theorem dL_refuses_58 : decode cL_refuses 58 = .ok (.aload_n 0, 1) := by decide +kernel
theorem dL_refuses_59 : decode cL_refuses 59 = .ok (.bipush 6, 2) := by decide +kernel
theorem dL_refuses_61 : decode cL_refuses 61 = .ok (.iconst (-1), 1) := by decide +kernel
theorem dL_refuses_62 : decode cL_refuses 62 = .ok (.iload_n 1, 1) := by decide +kernel
theorem dL_refuses_63 : decode cL_refuses 63 = .ok (.bipush 99, 2) := by decide +kernel
theorem dL_refuses_65 : decode cL_refuses 65 = .ok (.irem, 1) := by decide +kernel
theorem dL_refuses_66 : decode cL_refuses 66 = .ok (.isub, 1) := by decide +kernel
theorem dL_refuses_67 : decode cL_refuses 67 = .ok (.iconst 0, 1) := by decide +kernel
theorem dL_refuses_68 : decode cL_refuses 68 = .ok (.iconst 0, 1) := by decide +kernel
theorem dL_refuses_69 : decode cL_refuses 69 = .ok (.invokestatic 178, 3) := by decide +kernel
theorem dL_refuses_72 : decode cL_refuses 72 = .ok (.ldc 15, 2) := by decide +kernel
theorem dL_refuses_74 : decode cL_refuses 74 = .ok (.if_icmp .ne 26, 3) := by decide +kernel
theorem dL_refuses_77 : decode cL_refuses 77 = .ok (.aload_n 0, 1) := by decide +kernel
theorem dL_refuses_78 : decode cL_refuses 78 = .ok (.bipush 8, 2) := by decide +kernel
theorem dL_refuses_80 : decode cL_refuses 80 = .ok (.iload_n 3, 1) := by decide +kernel
theorem dL_refuses_81 : decode cL_refuses 81 = .ok (.iload_n 1, 1) := by decide +kernel
theorem dL_refuses_82 : decode cL_refuses 82 = .ok (.bipush 9, 2) := by decide +kernel
theorem dL_refuses_84 : decode cL_refuses 84 = .ok (.irem, 1) := by decide +kernel
theorem dL_refuses_85 : decode cL_refuses 85 = .ok (.iadd, 1) := by decide +kernel
theorem dL_refuses_86 : decode cL_refuses 86 = .ok (.iconst 0, 1) := by decide +kernel
theorem dL_refuses_87 : decode cL_refuses 87 = .ok (.iconst 0, 1) := by decide +kernel
theorem dL_refuses_88 : decode cL_refuses 88 = .ok (.invokestatic 178, 3) := by decide +kernel
theorem dL_refuses_91 : decode cL_refuses 91 = .ok (.ldc 26, 2) := by decide +kernel
theorem dL_refuses_93 : decode cL_refuses 93 = .ok (.if_icmp .ne 7, 3) := by decide +kernel
theorem dL_refuses_96 : decode cL_refuses 96 = .ok (.iconst 1, 1) := by decide +kernel
theorem dL_refuses_97 : decode cL_refuses 97 = .ok (.goto 4, 3) := by decide +kernel
theorem dL_refuses_100 : decode cL_refuses 100 = .ok (.iconst 0, 1) := by decide +kernel
theorem dL_refuses_101 : decode cL_refuses 101 = .ok (.istore 4, 2) := by decide +kernel
theorem dL_refuses_103 : decode cL_refuses 103 = .ok (.iload 4, 2) := by decide +kernel
theorem dL_refuses_105 : decode cL_refuses 105 = .ok (.ifCond .eq 84, 3) := by decide +kernel
theorem dL_refuses_108 : decode cL_refuses 108 = .ok (.aload_n 0, 1) := by decide +kernel
theorem dL_refuses_109 : decode cL_refuses 109 = .ok (.bipush 9, 2) := by decide +kernel
theorem dL_refuses_111 : decode cL_refuses 111 = .ok (.iload_n 3, 1) := by decide +kernel
theorem dL_refuses_112 : decode cL_refuses 112 = .ok (.iconst 0, 1) := by decide +kernel
theorem dL_refuses_113 : decode cL_refuses 113 = .ok (.iconst 0, 1) := by decide +kernel
theorem dL_refuses_114 : decode cL_refuses 114 = .ok (.invokestatic 178, 3) := by decide +kernel
theorem dL_refuses_117 : decode cL_refuses 117 = .ok (.ldc 26, 2) := by decide +kernel
theorem dL_refuses_119 : decode cL_refuses 119 = .ok (.if_icmp .ne 70, 3) := by decide +kernel
theorem dL_refuses_122 : decode cL_refuses 122 = .ok (.aload_n 0, 1) := by decide +kernel
theorem dL_refuses_123 : decode cL_refuses 123 = .ok (.bipush 10, 2) := by decide +kernel
theorem dL_refuses_125 : decode cL_refuses 125 = .ok (.iconst (-1), 1) := by decide +kernel
theorem dL_refuses_126 : decode cL_refuses 126 = .ok (.iconst 0, 1) := by decide +kernel
theorem dL_refuses_127 : decode cL_refuses 127 = .ok (.iconst 0, 1) := by decide +kernel
theorem dL_refuses_128 : decode cL_refuses 128 = .ok (.invokestatic 178, 3) := by decide +kernel
theorem dL_refuses_131 : decode cL_refuses 131 = .ok (.ldc 26, 2) := by decide +kernel
theorem dL_refuses_133 : decode cL_refuses 133 = .ok (.if_icmp .ne 56, 3) := by decide +kernel
theorem dL_refuses_136 : decode cL_refuses 136 = .ok (.aload_n 0, 1) := by decide +kernel
theorem dL_refuses_137 : decode cL_refuses 137 = .ok (.bipush 11, 2) := by decide +kernel
theorem dL_refuses_139 : decode cL_refuses 139 = .ok (.iload_n 1, 1) := by decide +kernel
theorem dL_refuses_140 : decode cL_refuses 140 = .ok (.iconst 4, 1) := by decide +kernel
theorem dL_refuses_141 : decode cL_refuses 141 = .ok (.irem, 1) := by decide +kernel
theorem dL_refuses_142 : decode cL_refuses 142 = .ok (.iconst 4, 1) := by decide +kernel
theorem dL_refuses_143 : decode cL_refuses 143 = .ok (.iload_n 1, 1) := by decide +kernel
theorem dL_refuses_144 : decode cL_refuses 144 = .ok (.bipush 9, 2) := by decide +kernel
theorem dL_refuses_146 : decode cL_refuses 146 = .ok (.irem, 1) := by decide +kernel
theorem dL_refuses_147 : decode cL_refuses 147 = .ok (.iadd, 1) := by decide +kernel
theorem dL_refuses_148 : decode cL_refuses 148 = .ok (.iconst 0, 1) := by decide +kernel
theorem dL_refuses_149 : decode cL_refuses 149 = .ok (.invokestatic 178, 3) := by decide +kernel
theorem dL_refuses_152 : decode cL_refuses 152 = .ok (.ldc 15, 2) := by decide +kernel
theorem dL_refuses_154 : decode cL_refuses 154 = .ok (.if_icmp .ne 35, 3) := by decide +kernel
theorem dL_refuses_157 : decode cL_refuses 157 = .ok (.aload_n 0, 1) := by decide +kernel
theorem dL_refuses_158 : decode cL_refuses 158 = .ok (.bipush 14, 2) := by decide +kernel
theorem dL_refuses_160 : decode cL_refuses 160 = .ok (.iload_n 2, 1) := by decide +kernel
theorem dL_refuses_161 : decode cL_refuses 161 = .ok (.iconst 0, 1) := by decide +kernel
theorem dL_refuses_162 : decode cL_refuses 162 = .ok (.iconst 0, 1) := by decide +kernel
theorem dL_refuses_163 : decode cL_refuses 163 = .ok (.invokestatic 178, 3) := by decide +kernel
theorem dL_refuses_166 : decode cL_refuses 166 = .ok (.ldc 26, 2) := by decide +kernel
theorem dL_refuses_168 : decode cL_refuses 168 = .ok (.if_icmp .ne 21, 3) := by decide +kernel
theorem dL_refuses_171 : decode cL_refuses 171 = .ok (.aload_n 0, 1) := by decide +kernel
theorem dL_refuses_172 : decode cL_refuses 172 = .ok (.bipush 15, 2) := by decide +kernel
theorem dL_refuses_174 : decode cL_refuses 174 = .ok (.iconst (-1), 1) := by decide +kernel
theorem dL_refuses_175 : decode cL_refuses 175 = .ok (.iconst 0, 1) := by decide +kernel
theorem dL_refuses_176 : decode cL_refuses 176 = .ok (.iconst 0, 1) := by decide +kernel
theorem dL_refuses_177 : decode cL_refuses 177 = .ok (.invokestatic 178, 3) := by decide +kernel
theorem dL_refuses_180 : decode cL_refuses 180 = .ok (.ldc 26, 2) := by decide +kernel
theorem dL_refuses_182 : decode cL_refuses 182 = .ok (.if_icmp .ne 7, 3) := by decide +kernel
theorem dL_refuses_185 : decode cL_refuses 185 = .ok (.iconst 1, 1) := by decide +kernel
theorem dL_refuses_186 : decode cL_refuses 186 = .ok (.goto 4, 3) := by decide +kernel
theorem dL_refuses_189 : decode cL_refuses 189 = .ok (.iconst 0, 1) := by decide +kernel
theorem dL_refuses_190 : decode cL_refuses 190 = .ok (.istore 4, 2) := by decide +kernel
theorem dL_refuses_192 : decode cL_refuses 192 = .ok (.iload 4, 2) := by decide +kernel
theorem dL_refuses_194 : decode cL_refuses 194 = .ok (.ifCond .eq 83, 3) := by decide +kernel
theorem dL_refuses_197 : decode cL_refuses 197 = .ok (.aload_n 0, 1) := by decide +kernel
theorem dL_refuses_198 : decode cL_refuses 198 = .ok (.bipush 16, 2) := by decide +kernel
theorem dL_refuses_200 : decode cL_refuses 200 = .ok (.iload_n 2, 1) := by decide +kernel
theorem dL_refuses_201 : decode cL_refuses 201 = .ok (.iconst 0, 1) := by decide +kernel
theorem dL_refuses_202 : decode cL_refuses 202 = .ok (.iconst (-1), 1) := by decide +kernel
theorem dL_refuses_203 : decode cL_refuses 203 = .ok (.invokestatic 178, 3) := by decide +kernel
theorem dL_refuses_206 : decode cL_refuses 206 = .ok (.ldc 26, 2) := by decide +kernel
theorem dL_refuses_208 : decode cL_refuses 208 = .ok (.if_icmp .ne 69, 3) := by decide +kernel
theorem dL_refuses_211 : decode cL_refuses 211 = .ok (.aload_n 0, 1) := by decide +kernel
theorem dL_refuses_212 : decode cL_refuses 212 = .ok (.bipush 17, 2) := by decide +kernel
theorem dL_refuses_214 : decode cL_refuses 214 = .ok (.iload_n 2, 1) := by decide +kernel
theorem dL_refuses_215 : decode cL_refuses 215 = .ok (.iconst 0, 1) := by decide +kernel
theorem dL_refuses_216 : decode cL_refuses 216 = .ok (.bipush 9, 2) := by decide +kernel
theorem dL_refuses_218 : decode cL_refuses 218 = .ok (.invokestatic 178, 3) := by decide +kernel
theorem dL_refuses_221 : decode cL_refuses 221 = .ok (.ldc 26, 2) := by decide +kernel
theorem dL_refuses_223 : decode cL_refuses 223 = .ok (.if_icmp .ne 54, 3) := by decide +kernel
theorem dL_refuses_226 : decode cL_refuses 226 = .ok (.aload_n 0, 1) := by decide +kernel
theorem dL_refuses_227 : decode cL_refuses 227 = .ok (.bipush 18, 2) := by decide +kernel
theorem dL_refuses_229 : decode cL_refuses 229 = .ok (.iload_n 2, 1) := by decide +kernel
theorem dL_refuses_230 : decode cL_refuses 230 = .ok (.iconst 0, 1) := by decide +kernel
theorem dL_refuses_231 : decode cL_refuses 231 = .ok (.iconst 0, 1) := by decide +kernel
theorem dL_refuses_232 : decode cL_refuses 232 = .ok (.invokestatic 178, 3) := by decide +kernel
theorem dL_refuses_235 : decode cL_refuses 235 = .ok (.ldc 26, 2) := by decide +kernel
theorem dL_refuses_237 : decode cL_refuses 237 = .ok (.if_icmp .ne 40, 3) := by decide +kernel
theorem dL_refuses_240 : decode cL_refuses 240 = .ok (.aload_n 0, 1) := by decide +kernel
theorem dL_refuses_241 : decode cL_refuses 241 = .ok (.bipush 19, 2) := by decide +kernel
theorem dL_refuses_243 : decode cL_refuses 243 = .ok (.iload_n 2, 1) := by decide +kernel
theorem dL_refuses_244 : decode cL_refuses 244 = .ok (.iconst 0, 1) := by decide +kernel
theorem dL_refuses_245 : decode cL_refuses 245 = .ok (.iconst 0, 1) := by decide +kernel
theorem dL_refuses_246 : decode cL_refuses 246 = .ok (.invokestatic 178, 3) := by decide +kernel
theorem dL_refuses_249 : decode cL_refuses 249 = .ok (.ldc 26, 2) := by decide +kernel
theorem dL_refuses_251 : decode cL_refuses 251 = .ok (.if_icmp .ne 26, 3) := by decide +kernel
theorem dL_refuses_254 : decode cL_refuses 254 = .ok (.aload_n 0, 1) := by decide +kernel
theorem dL_refuses_255 : decode cL_refuses 255 = .ok (.iconst 2, 1) := by decide +kernel
theorem dL_refuses_256 : decode cL_refuses 256 = .ok (.bipush 8, 2) := by decide +kernel
theorem dL_refuses_258 : decode cL_refuses 258 = .ok (.iload_n 1, 1) := by decide +kernel
theorem dL_refuses_259 : decode cL_refuses 259 = .ok (.bipush 99, 2) := by decide +kernel
theorem dL_refuses_261 : decode cL_refuses 261 = .ok (.irem, 1) := by decide +kernel
theorem dL_refuses_262 : decode cL_refuses 262 = .ok (.iadd, 1) := by decide +kernel
theorem dL_refuses_263 : decode cL_refuses 263 = .ok (.iconst 0, 1) := by decide +kernel
theorem dL_refuses_264 : decode cL_refuses 264 = .ok (.iconst 0, 1) := by decide +kernel
theorem dL_refuses_265 : decode cL_refuses 265 = .ok (.invokestatic 178, 3) := by decide +kernel
theorem dL_refuses_268 : decode cL_refuses 268 = .ok (.ldc 15, 2) := by decide +kernel
theorem dL_refuses_270 : decode cL_refuses 270 = .ok (.if_icmp .ne 7, 3) := by decide +kernel
theorem dL_refuses_273 : decode cL_refuses 273 = .ok (.iconst 1, 1) := by decide +kernel
theorem dL_refuses_274 : decode cL_refuses 274 = .ok (.goto 4, 3) := by decide +kernel
theorem dL_refuses_277 : decode cL_refuses 277 = .ok (.iconst 0, 1) := by decide +kernel
theorem dL_refuses_278 : decode cL_refuses 278 = .ok (.istore 4, 2) := by decide +kernel
theorem dL_refuses_280 : decode cL_refuses 280 = .ok (.iload 4, 2) := by decide +kernel
theorem dL_refuses_282 : decode cL_refuses 282 = .ok (.ifCond .eq 86, 3) := by decide +kernel
theorem dL_refuses_285 : decode cL_refuses 285 = .ok (.aload_n 0, 1) := by decide +kernel
theorem dL_refuses_286 : decode cL_refuses 286 = .ok (.bipush 20, 2) := by decide +kernel
theorem dL_refuses_288 : decode cL_refuses 288 = .ok (.iconst 2, 1) := by decide +kernel
theorem dL_refuses_289 : decode cL_refuses 289 = .ok (.iload_n 1, 1) := by decide +kernel
theorem dL_refuses_290 : decode cL_refuses 290 = .ok (.bipush 9, 2) := by decide +kernel
theorem dL_refuses_292 : decode cL_refuses 292 = .ok (.irem, 1) := by decide +kernel
theorem dL_refuses_293 : decode cL_refuses 293 = .ok (.iadd, 1) := by decide +kernel
theorem dL_refuses_294 : decode cL_refuses 294 = .ok (.iconst 0, 1) := by decide +kernel
theorem dL_refuses_295 : decode cL_refuses 295 = .ok (.iconst 0, 1) := by decide +kernel
theorem dL_refuses_296 : decode cL_refuses 296 = .ok (.invokestatic 178, 3) := by decide +kernel
theorem dL_refuses_299 : decode cL_refuses 299 = .ok (.ldc 26, 2) := by decide +kernel
theorem dL_refuses_301 : decode cL_refuses 301 = .ok (.if_icmp .ne 67, 3) := by decide +kernel
theorem dL_refuses_304 : decode cL_refuses 304 = .ok (.aload_n 0, 1) := by decide +kernel
theorem dL_refuses_305 : decode cL_refuses 305 = .ok (.bipush 21, 2) := by decide +kernel
theorem dL_refuses_307 : decode cL_refuses 307 = .ok (.iconst (-1), 1) := by decide +kernel
theorem dL_refuses_308 : decode cL_refuses 308 = .ok (.iconst 0, 1) := by decide +kernel
theorem dL_refuses_309 : decode cL_refuses 309 = .ok (.iconst 0, 1) := by decide +kernel
theorem dL_refuses_310 : decode cL_refuses 310 = .ok (.invokestatic 178, 3) := by decide +kernel
theorem dL_refuses_313 : decode cL_refuses 313 = .ok (.ldc 26, 2) := by decide +kernel
theorem dL_refuses_315 : decode cL_refuses 315 = .ok (.if_icmp .ne 53, 3) := by decide +kernel
theorem dL_refuses_318 : decode cL_refuses 318 = .ok (.aload_n 0, 1) := by decide +kernel
theorem dL_refuses_319 : decode cL_refuses 319 = .ok (.iconst 0, 1) := by decide +kernel
theorem dL_refuses_320 : decode cL_refuses 320 = .ok (.sipush 256, 3) := by decide +kernel
theorem dL_refuses_323 : decode cL_refuses 323 = .ok (.iload_n 1, 1) := by decide +kernel
theorem dL_refuses_324 : decode cL_refuses 324 = .ok (.bipush 99, 2) := by decide +kernel
theorem dL_refuses_326 : decode cL_refuses 326 = .ok (.irem, 1) := by decide +kernel
theorem dL_refuses_327 : decode cL_refuses 327 = .ok (.iadd, 1) := by decide +kernel
theorem dL_refuses_328 : decode cL_refuses 328 = .ok (.iconst 0, 1) := by decide +kernel
theorem dL_refuses_329 : decode cL_refuses 329 = .ok (.iconst 0, 1) := by decide +kernel
theorem dL_refuses_330 : decode cL_refuses 330 = .ok (.invokestatic 178, 3) := by decide +kernel
theorem dL_refuses_333 : decode cL_refuses 333 = .ok (.ldc 15, 2) := by decide +kernel
theorem dL_refuses_335 : decode cL_refuses 335 = .ok (.if_icmp .ne 33, 3) := by decide +kernel
theorem dL_refuses_338 : decode cL_refuses 338 = .ok (.aload_n 0, 1) := by decide +kernel
theorem dL_refuses_339 : decode cL_refuses 339 = .ok (.iload_n 1, 1) := by decide +kernel
theorem dL_refuses_340 : decode cL_refuses 340 = .ok (.i2l, 1) := by decide +kernel
theorem dL_refuses_341 : decode cL_refuses 341 = .ok (.bipush 21, 2) := by decide +kernel
theorem dL_refuses_343 : decode cL_refuses 343 = .ok (.invokestatic 182, 3) := by decide +kernel
theorem dL_refuses_346 : decode cL_refuses 346 = .ok (.ldc 15, 2) := by decide +kernel
theorem dL_refuses_348 : decode cL_refuses 348 = .ok (.if_icmp .ne 20, 3) := by decide +kernel
theorem dL_refuses_351 : decode cL_refuses 351 = .ok (.aload_n 0, 1) := by decide +kernel
theorem dL_refuses_352 : decode cL_refuses 352 = .ok (.iload_n 2, 1) := by decide +kernel
theorem dL_refuses_353 : decode cL_refuses 353 = .ok (.iconst 0, 1) := by decide +kernel
theorem dL_refuses_354 : decode cL_refuses 354 = .ok (.iload_n 2, 1) := by decide +kernel
theorem dL_refuses_355 : decode cL_refuses 355 = .ok (.iconst 1, 1) := by decide +kernel
theorem dL_refuses_356 : decode cL_refuses 356 = .ok (.invokestatic 186, 3) := by decide +kernel
theorem dL_refuses_359 : decode cL_refuses 359 = .ok (.ldc 26, 2) := by decide +kernel
theorem dL_refuses_361 : decode cL_refuses 361 = .ok (.if_icmp .ne 7, 3) := by decide +kernel
theorem dL_refuses_364 : decode cL_refuses 364 = .ok (.iconst 1, 1) := by decide +kernel
theorem dL_refuses_365 : decode cL_refuses 365 = .ok (.goto 4, 3) := by decide +kernel
theorem dL_refuses_368 : decode cL_refuses 368 = .ok (.iconst 0, 1) := by decide +kernel
theorem dL_refuses_369 : decode cL_refuses 369 = .ok (.istore 4, 2) := by decide +kernel
theorem dL_refuses_371 : decode cL_refuses 371 = .ok (.iload 4, 2) := by decide +kernel
theorem dL_refuses_373 : decode cL_refuses 373 = .ok (.ifCond .eq 63, 3) := by decide +kernel
theorem dL_refuses_376 : decode cL_refuses 376 = .ok (.aload_n 0, 1) := by decide +kernel
theorem dL_refuses_377 : decode cL_refuses 377 = .ok (.iconst 4, 1) := by decide +kernel
theorem dL_refuses_378 : decode cL_refuses 378 = .ok (.lconst 0, 1) := by decide +kernel
theorem dL_refuses_379 : decode cL_refuses 379 = .ok (.invokestatic 189, 3) := by decide +kernel
theorem dL_refuses_382 : decode cL_refuses 382 = .ok (.ldc 15, 2) := by decide +kernel
theorem dL_refuses_384 : decode cL_refuses 384 = .ok (.if_icmp .ne 52, 3) := by decide +kernel
theorem dL_refuses_387 : decode cL_refuses 387 = .ok (.aload_n 0, 1) := by decide +kernel
theorem dL_refuses_388 : decode cL_refuses 388 = .ok (.iconst 1, 1) := by decide +kernel
theorem dL_refuses_389 : decode cL_refuses 389 = .ok (.ldc2_w 193, 3) := by decide +kernel
theorem dL_refuses_392 : decode cL_refuses 392 = .ok (.iload_n 1, 1) := by decide +kernel
theorem dL_refuses_393 : decode cL_refuses 393 = .ok (.i2l, 1) := by decide +kernel
theorem dL_refuses_394 : decode cL_refuses 394 = .ok (.ladd, 1) := by decide +kernel
theorem dL_refuses_395 : decode cL_refuses 395 = .ok (.invokestatic 189, 3) := by decide +kernel
theorem dL_refuses_398 : decode cL_refuses 398 = .ok (.ldc 15, 2) := by decide +kernel
theorem dL_refuses_400 : decode cL_refuses 400 = .ok (.if_icmp .ne 36, 3) := by decide +kernel
theorem dL_refuses_403 : decode cL_refuses 403 = .ok (.aload_n 0, 1) := by decide +kernel
theorem dL_refuses_404 : decode cL_refuses 404 = .ok (.iconst 2, 1) := by decide +kernel
theorem dL_refuses_405 : decode cL_refuses 405 = .ok (.ldc2_w 195, 3) := by decide +kernel
theorem dL_refuses_408 : decode cL_refuses 408 = .ok (.iload_n 1, 1) := by decide +kernel
theorem dL_refuses_409 : decode cL_refuses 409 = .ok (.i2l, 1) := by decide +kernel
theorem dL_refuses_410 : decode cL_refuses 410 = .ok (.lsub, 1) := by decide +kernel
theorem dL_refuses_411 : decode cL_refuses 411 = .ok (.invokestatic 189, 3) := by decide +kernel
theorem dL_refuses_414 : decode cL_refuses 414 = .ok (.ldc 15, 2) := by decide +kernel
theorem dL_refuses_416 : decode cL_refuses 416 = .ok (.if_icmp .ne 20, 3) := by decide +kernel
theorem dL_refuses_419 : decode cL_refuses 419 = .ok (.aload_n 0, 1) := by decide +kernel
theorem dL_refuses_420 : decode cL_refuses 420 = .ok (.iload_n 2, 1) := by decide +kernel
theorem dL_refuses_421 : decode cL_refuses 421 = .ok (.bipush 9, 2) := by decide +kernel
theorem dL_refuses_423 : decode cL_refuses 423 = .ok (.lconst 0, 1) := by decide +kernel
theorem dL_refuses_424 : decode cL_refuses 424 = .ok (.invokestatic 197, 3) := by decide +kernel
theorem dL_refuses_427 : decode cL_refuses 427 = .ok (.ldc 26, 2) := by decide +kernel
theorem dL_refuses_429 : decode cL_refuses 429 = .ok (.if_icmp .ne 7, 3) := by decide +kernel
theorem dL_refuses_432 : decode cL_refuses 432 = .ok (.iconst 1, 1) := by decide +kernel
theorem dL_refuses_433 : decode cL_refuses 433 = .ok (.goto 4, 3) := by decide +kernel
theorem dL_refuses_436 : decode cL_refuses 436 = .ok (.iconst 0, 1) := by decide +kernel
theorem dL_refuses_437 : decode cL_refuses 437 = .ok (.istore 4, 2) := by decide +kernel
theorem dL_refuses_439 : decode cL_refuses 439 = .ok (.iload_n 2, 1) := by decide +kernel
theorem dL_refuses_440 : decode cL_refuses 440 = .ok (.ifCond .le 124, 3) := by decide +kernel
theorem dL_refuses_443 : decode cL_refuses 443 = .ok (.iload 4, 2) := by decide +kernel
theorem dL_refuses_445 : decode cL_refuses 445 = .ok (.ifCond .eq 119, 3) := by decide +kernel
theorem dL_refuses_448 : decode cL_refuses 448 = .ok (.iload_n 1, 1) := by decide +kernel
theorem dL_refuses_449 : decode cL_refuses 449 = .ok (.iload_n 2, 1) := by decide +kernel
theorem dL_refuses_450 : decode cL_refuses 450 = .ok (.irem, 1) := by decide +kernel
theorem dL_refuses_451 : decode cL_refuses 451 = .ok (.istore 5, 2) := by decide +kernel
theorem dL_refuses_453 : decode cL_refuses 453 = .ok (.aload_n 0, 1) := by decide +kernel
theorem dL_refuses_454 : decode cL_refuses 454 = .ok (.iconst 4, 1) := by decide +kernel
theorem dL_refuses_455 : decode cL_refuses 455 = .ok (.iload 5, 2) := by decide +kernel
theorem dL_refuses_457 : decode cL_refuses 457 = .ok (.iconst 4, 1) := by decide +kernel
theorem dL_refuses_458 : decode cL_refuses 458 = .ok (.iload_n 1, 1) := by decide +kernel
theorem dL_refuses_459 : decode cL_refuses 459 = .ok (.bipush 9, 2) := by decide +kernel
theorem dL_refuses_461 : decode cL_refuses 461 = .ok (.irem, 1) := by decide +kernel
theorem dL_refuses_462 : decode cL_refuses 462 = .ok (.iadd, 1) := by decide +kernel
theorem dL_refuses_463 : decode cL_refuses 463 = .ok (.iconst 0, 1) := by decide +kernel
theorem dL_refuses_464 : decode cL_refuses 464 = .ok (.invokestatic 178, 3) := by decide +kernel
theorem dL_refuses_467 : decode cL_refuses 467 = .ok (.ldc 15, 2) := by decide +kernel
theorem dL_refuses_469 : decode cL_refuses 469 = .ok (.if_icmp .ne 92, 3) := by decide +kernel
theorem dL_refuses_472 : decode cL_refuses 472 = .ok (.aload_n 0, 1) := by decide +kernel
theorem dL_refuses_473 : decode cL_refuses 473 = .ok (.iconst 5, 1) := by decide +kernel
theorem dL_refuses_474 : decode cL_refuses 474 = .ok (.iload 5, 2) := by decide +kernel
theorem dL_refuses_476 : decode cL_refuses 476 = .ok (.iconst 0, 1) := by decide +kernel
theorem dL_refuses_477 : decode cL_refuses 477 = .ok (.iload 5, 2) := by decide +kernel
theorem dL_refuses_479 : decode cL_refuses 479 = .ok (.invokestatic 178, 3) := by decide +kernel
theorem dL_refuses_482 : decode cL_refuses 482 = .ok (.ldc 15, 2) := by decide +kernel
theorem dL_refuses_484 : decode cL_refuses 484 = .ok (.if_icmp .ne 77, 3) := by decide +kernel
theorem dL_refuses_487 : decode cL_refuses 487 = .ok (.aload_n 0, 1) := by decide +kernel
theorem dL_refuses_488 : decode cL_refuses 488 = .ok (.iload 5, 2) := by decide +kernel
theorem dL_refuses_490 : decode cL_refuses 490 = .ok (.iconst 0, 1) := by decide +kernel
theorem dL_refuses_491 : decode cL_refuses 491 = .ok (.iload 5, 2) := by decide +kernel
theorem dL_refuses_493 : decode cL_refuses 493 = .ok (.iconst 1, 1) := by decide +kernel
theorem dL_refuses_494 : decode cL_refuses 494 = .ok (.invokestatic 186, 3) := by decide +kernel
theorem dL_refuses_497 : decode cL_refuses 497 = .ok (.ldc 15, 2) := by decide +kernel
theorem dL_refuses_499 : decode cL_refuses 499 = .ok (.if_icmp .ne 62, 3) := by decide +kernel
theorem dL_refuses_502 : decode cL_refuses 502 = .ok (.aload_n 0, 1) := by decide +kernel
theorem dL_refuses_503 : decode cL_refuses 503 = .ok (.bipush 16, 2) := by decide +kernel
theorem dL_refuses_505 : decode cL_refuses 505 = .ok (.iload 5, 2) := by decide +kernel
theorem dL_refuses_507 : decode cL_refuses 507 = .ok (.iload 5, 2) := by decide +kernel
theorem dL_refuses_509 : decode cL_refuses 509 = .ok (.iconst (-1), 1) := by decide +kernel
theorem dL_refuses_510 : decode cL_refuses 510 = .ok (.iload_n 1, 1) := by decide +kernel
theorem dL_refuses_511 : decode cL_refuses 511 = .ok (.bipush 9, 2) := by decide +kernel
theorem dL_refuses_513 : decode cL_refuses 513 = .ok (.irem, 1) := by decide +kernel
theorem dL_refuses_514 : decode cL_refuses 514 = .ok (.isub, 1) := by decide +kernel
theorem dL_refuses_515 : decode cL_refuses 515 = .ok (.invokestatic 178, 3) := by decide +kernel
theorem dL_refuses_518 : decode cL_refuses 518 = .ok (.ldc 15, 2) := by decide +kernel
theorem dL_refuses_520 : decode cL_refuses 520 = .ok (.if_icmp .ne 41, 3) := by decide +kernel
theorem dL_refuses_523 : decode cL_refuses 523 = .ok (.aload_n 0, 1) := by decide +kernel
theorem dL_refuses_524 : decode cL_refuses 524 = .ok (.bipush 17, 2) := by decide +kernel
theorem dL_refuses_526 : decode cL_refuses 526 = .ok (.iload 5, 2) := by decide +kernel
theorem dL_refuses_528 : decode cL_refuses 528 = .ok (.iload 5, 2) := by decide +kernel
theorem dL_refuses_530 : decode cL_refuses 530 = .ok (.iconst 5, 1) := by decide +kernel
theorem dL_refuses_531 : decode cL_refuses 531 = .ok (.invokestatic 178, 3) := by decide +kernel
theorem dL_refuses_534 : decode cL_refuses 534 = .ok (.ldc 15, 2) := by decide +kernel
theorem dL_refuses_536 : decode cL_refuses 536 = .ok (.if_icmp .ne 25, 3) := by decide +kernel
theorem dL_refuses_539 : decode cL_refuses 539 = .ok (.aload_n 0, 1) := by decide +kernel
theorem dL_refuses_540 : decode cL_refuses 540 = .ok (.iload 5, 2) := by decide +kernel
theorem dL_refuses_542 : decode cL_refuses 542 = .ok (.iconst 1, 1) := by decide +kernel
theorem dL_refuses_543 : decode cL_refuses 543 = .ok (.ldc2_w 201, 3) := by decide +kernel
theorem dL_refuses_546 : decode cL_refuses 546 = .ok (.iload_n 1, 1) := by decide +kernel
theorem dL_refuses_547 : decode cL_refuses 547 = .ok (.i2l, 1) := by decide +kernel
theorem dL_refuses_548 : decode cL_refuses 548 = .ok (.ladd, 1) := by decide +kernel
theorem dL_refuses_549 : decode cL_refuses 549 = .ok (.invokestatic 197, 3) := by decide +kernel
theorem dL_refuses_552 : decode cL_refuses 552 = .ok (.ldc 15, 2) := by decide +kernel
theorem dL_refuses_554 : decode cL_refuses 554 = .ok (.if_icmp .ne 7, 3) := by decide +kernel
theorem dL_refuses_557 : decode cL_refuses 557 = .ok (.iconst 1, 1) := by decide +kernel
theorem dL_refuses_558 : decode cL_refuses 558 = .ok (.goto 4, 3) := by decide +kernel
theorem dL_refuses_561 : decode cL_refuses 561 = .ok (.iconst 0, 1) := by decide +kernel
theorem dL_refuses_562 : decode cL_refuses 562 = .ok (.istore 4, 2) := by decide +kernel
theorem dL_refuses_564 : decode cL_refuses 564 = .ok (.iload 4, 2) := by decide +kernel
theorem dL_refuses_566 : decode cL_refuses 566 = .ok (.ifCond .eq 43, 3) := by decide +kernel
theorem dL_refuses_569 : decode cL_refuses 569 = .ok (.iload_n 3, 1) := by decide +kernel
theorem dL_refuses_570 : decode cL_refuses 570 = .ok (.ifCond .eq 35, 3) := by decide +kernel
theorem dL_refuses_573 : decode cL_refuses 573 = .ok (.aload_n 0, 1) := by decide +kernel
theorem dL_refuses_574 : decode cL_refuses 574 = .ok (.bipush 9, 2) := by decide +kernel
theorem dL_refuses_576 : decode cL_refuses 576 = .ok (.iload_n 1, 1) := by decide +kernel
theorem dL_refuses_577 : decode cL_refuses 577 = .ok (.iload_n 3, 1) := by decide +kernel
theorem dL_refuses_578 : decode cL_refuses 578 = .ok (.irem, 1) := by decide +kernel
theorem dL_refuses_579 : decode cL_refuses 579 = .ok (.bipush 10, 2) := by decide +kernel
theorem dL_refuses_581 : decode cL_refuses 581 = .ok (.iconst 0, 1) := by decide +kernel
theorem dL_refuses_582 : decode cL_refuses 582 = .ok (.invokestatic 178, 3) := by decide +kernel
theorem dL_refuses_585 : decode cL_refuses 585 = .ok (.ldc 15, 2) := by decide +kernel
theorem dL_refuses_587 : decode cL_refuses 587 = .ok (.if_icmp .ne 22, 3) := by decide +kernel
theorem dL_refuses_590 : decode cL_refuses 590 = .ok (.aload_n 0, 1) := by decide +kernel
theorem dL_refuses_591 : decode cL_refuses 591 = .ok (.iconst 3, 1) := by decide +kernel
theorem dL_refuses_592 : decode cL_refuses 592 = .ok (.iload_n 1, 1) := by decide +kernel
theorem dL_refuses_593 : decode cL_refuses 593 = .ok (.iload_n 3, 1) := by decide +kernel
theorem dL_refuses_594 : decode cL_refuses 594 = .ok (.irem, 1) := by decide +kernel
theorem dL_refuses_595 : decode cL_refuses 595 = .ok (.iconst 4, 1) := by decide +kernel
theorem dL_refuses_596 : decode cL_refuses 596 = .ok (.iconst 0, 1) := by decide +kernel
theorem dL_refuses_597 : decode cL_refuses 597 = .ok (.invokestatic 178, 3) := by decide +kernel
theorem dL_refuses_600 : decode cL_refuses 600 = .ok (.ldc 15, 2) := by decide +kernel
theorem dL_refuses_602 : decode cL_refuses 602 = .ok (.if_icmp .ne 7, 3) := by decide +kernel
theorem dL_refuses_605 : decode cL_refuses 605 = .ok (.iconst 1, 1) := by decide +kernel
theorem dL_refuses_606 : decode cL_refuses 606 = .ok (.goto 4, 3) := by decide +kernel
theorem dL_refuses_609 : decode cL_refuses 609 = .ok (.iconst 0, 1) := by decide +kernel
theorem dL_refuses_610 : decode cL_refuses 610 = .ok (.ireturn, 1) := by decide +kernel
theorem dL_alike_0 : decode cL_alike 0 = .ok (.aload_n 0, 1) := by decide +kernel
theorem dL_alike_1 : decode cL_alike 1 = .ok (.iconst 1, 1) := by decide +kernel
theorem dL_alike_2 : decode cL_alike 2 = .ok (.invokevirtual 203, 3) := by decide +kernel
theorem dL_alike_5 : decode cL_alike 5 = .ok (.aload_n 1, 1) := by decide +kernel
theorem dL_alike_6 : decode cL_alike 6 = .ok (.iconst 1, 1) := by decide +kernel
theorem dL_alike_7 : decode cL_alike 7 = .ok (.invokevirtual 203, 3) := by decide +kernel
theorem dL_alike_10 : decode cL_alike 10 = .ok (.if_icmp .ne 20, 3) := by decide +kernel
theorem dL_alike_13 : decode cL_alike 13 = .ok (.aload_n 0, 1) := by decide +kernel
theorem dL_alike_14 : decode cL_alike 14 = .ok (.iconst 0, 1) := by decide +kernel
theorem dL_alike_15 : decode cL_alike 15 = .ok (.invokevirtual 203, 3) := by decide +kernel
theorem dL_alike_18 : decode cL_alike 18 = .ok (.aload_n 1, 1) := by decide +kernel
theorem dL_alike_19 : decode cL_alike 19 = .ok (.iconst 0, 1) := by decide +kernel
theorem dL_alike_20 : decode cL_alike 20 = .ok (.invokevirtual 203, 3) := by decide +kernel
theorem dL_alike_23 : decode cL_alike 23 = .ok (.if_icmp .ne 7, 3) := by decide +kernel
theorem dL_alike_26 : decode cL_alike 26 = .ok (.iconst 1, 1) := by decide +kernel
theorem dL_alike_27 : decode cL_alike 27 = .ok (.goto 4, 3) := by decide +kernel
theorem dL_alike_30 : decode cL_alike 30 = .ok (.iconst 0, 1) := by decide +kernel
theorem dL_alike_31 : decode cL_alike 31 = .ok (.istore_n 3, 1) := by decide +kernel
theorem dL_alike_32 : decode cL_alike 32 = .ok (.iconst 0, 1) := by decide +kernel
theorem dL_alike_33 : decode cL_alike 33 = .ok (.istore 4, 2) := by decide +kernel
theorem dL_alike_35 : decode cL_alike 35 = .ok (.iload 4, 2) := by decide +kernel
theorem dL_alike_37 : decode cL_alike 37 = .ok (.bipush 8, 2) := by decide +kernel
theorem dL_alike_39 : decode cL_alike 39 = .ok (.if_icmp .ge 40, 3) := by decide +kernel
theorem dL_alike_42 : decode cL_alike 42 = .ok (.iload_n 3, 1) := by decide +kernel
theorem dL_alike_43 : decode cL_alike 43 = .ok (.ifCond .eq 36, 3) := by decide +kernel
theorem dL_alike_46 : decode cL_alike 46 = .ok (.aload_n 0, 1) := by decide +kernel
theorem dL_alike_47 : decode cL_alike 47 = .ok (.iconst 2, 1) := by decide +kernel
theorem dL_alike_48 : decode cL_alike 48 = .ok (.iload 4, 2) := by decide +kernel
theorem dL_alike_50 : decode cL_alike 50 = .ok (.iconst 0, 1) := by decide +kernel
theorem dL_alike_51 : decode cL_alike 51 = .ok (.iconst 0, 1) := by decide +kernel
theorem dL_alike_52 : decode cL_alike 52 = .ok (.invokestatic 178, 3) := by decide +kernel
theorem dL_alike_55 : decode cL_alike 55 = .ok (.aload_n 1, 1) := by decide +kernel
theorem dL_alike_56 : decode cL_alike 56 = .ok (.iconst 2, 1) := by decide +kernel
theorem dL_alike_57 : decode cL_alike 57 = .ok (.iload 4, 2) := by decide +kernel
theorem dL_alike_59 : decode cL_alike 59 = .ok (.iconst 0, 1) := by decide +kernel
theorem dL_alike_60 : decode cL_alike 60 = .ok (.iconst 0, 1) := by decide +kernel
theorem dL_alike_61 : decode cL_alike 61 = .ok (.invokestatic 178, 3) := by decide +kernel
theorem dL_alike_64 : decode cL_alike 64 = .ok (.if_icmp .ne 7, 3) := by decide +kernel
theorem dL_alike_67 : decode cL_alike 67 = .ok (.iconst 1, 1) := by decide +kernel
theorem dL_alike_68 : decode cL_alike 68 = .ok (.goto 4, 3) := by decide +kernel
theorem dL_alike_71 : decode cL_alike 71 = .ok (.iconst 0, 1) := by decide +kernel
theorem dL_alike_72 : decode cL_alike 72 = .ok (.istore_n 3, 1) := by decide +kernel
theorem dL_alike_73 : decode cL_alike 73 = .ok (.iinc 4 1, 3) := by decide +kernel
theorem dL_alike_76 : decode cL_alike 76 = .ok (.goto (-41), 3) := by decide +kernel
theorem dL_alike_79 : decode cL_alike 79 = .ok (.aload_n 0, 1) := by decide +kernel
theorem dL_alike_80 : decode cL_alike 80 = .ok (.iconst 2, 1) := by decide +kernel
theorem dL_alike_81 : decode cL_alike 81 = .ok (.iconst 0, 1) := by decide +kernel
theorem dL_alike_82 : decode cL_alike 82 = .ok (.iconst 0, 1) := by decide +kernel
theorem dL_alike_83 : decode cL_alike 83 = .ok (.iconst 0, 1) := by decide +kernel
theorem dL_alike_84 : decode cL_alike 84 = .ok (.invokestatic 178, 3) := by decide +kernel
theorem dL_alike_87 : decode cL_alike 87 = .ok (.istore 4, 2) := by decide +kernel
theorem dL_alike_89 : decode cL_alike 89 = .ok (.aload_n 0, 1) := by decide +kernel
theorem dL_alike_90 : decode cL_alike 90 = .ok (.iconst 2, 1) := by decide +kernel
theorem dL_alike_91 : decode cL_alike 91 = .ok (.iconst 1, 1) := by decide +kernel
theorem dL_alike_92 : decode cL_alike 92 = .ok (.iconst 0, 1) := by decide +kernel
theorem dL_alike_93 : decode cL_alike 93 = .ok (.iconst 0, 1) := by decide +kernel
theorem dL_alike_94 : decode cL_alike 94 = .ok (.invokestatic 178, 3) := by decide +kernel
theorem dL_alike_97 : decode cL_alike 97 = .ok (.istore 5, 2) := by decide +kernel
theorem dL_alike_99 : decode cL_alike 99 = .ok (.iconst 0, 1) := by decide +kernel
theorem dL_alike_100 : decode cL_alike 100 = .ok (.istore 6, 2) := by decide +kernel
theorem dL_alike_102 : decode cL_alike 102 = .ok (.iload 6, 2) := by decide +kernel
theorem dL_alike_104 : decode cL_alike 104 = .ok (.iload 5, 2) := by decide +kernel
theorem dL_alike_106 : decode cL_alike 106 = .ok (.if_icmp .ge 44, 3) := by decide +kernel
theorem dL_alike_109 : decode cL_alike 109 = .ok (.iload_n 3, 1) := by decide +kernel
theorem dL_alike_110 : decode cL_alike 110 = .ok (.ifCond .eq 40, 3) := by decide +kernel
theorem dL_alike_113 : decode cL_alike 113 = .ok (.aload_n 0, 1) := by decide +kernel
theorem dL_alike_114 : decode cL_alike 114 = .ok (.iconst 3, 1) := by decide +kernel
theorem dL_alike_115 : decode cL_alike 115 = .ok (.iload 6, 2) := by decide +kernel
theorem dL_alike_117 : decode cL_alike 117 = .ok (.iload_n 2, 1) := by decide +kernel
theorem dL_alike_118 : decode cL_alike 118 = .ok (.iconst 4, 1) := by decide +kernel
theorem dL_alike_119 : decode cL_alike 119 = .ok (.irem, 1) := by decide +kernel
theorem dL_alike_120 : decode cL_alike 120 = .ok (.iconst 0, 1) := by decide +kernel
theorem dL_alike_121 : decode cL_alike 121 = .ok (.invokestatic 178, 3) := by decide +kernel
theorem dL_alike_124 : decode cL_alike 124 = .ok (.aload_n 1, 1) := by decide +kernel
theorem dL_alike_125 : decode cL_alike 125 = .ok (.iconst 3, 1) := by decide +kernel
theorem dL_alike_126 : decode cL_alike 126 = .ok (.iload 6, 2) := by decide +kernel
theorem dL_alike_128 : decode cL_alike 128 = .ok (.iload_n 2, 1) := by decide +kernel
theorem dL_alike_129 : decode cL_alike 129 = .ok (.iconst 4, 1) := by decide +kernel
theorem dL_alike_130 : decode cL_alike 130 = .ok (.irem, 1) := by decide +kernel
theorem dL_alike_131 : decode cL_alike 131 = .ok (.iconst 0, 1) := by decide +kernel
theorem dL_alike_132 : decode cL_alike 132 = .ok (.invokestatic 178, 3) := by decide +kernel
theorem dL_alike_135 : decode cL_alike 135 = .ok (.if_icmp .ne 7, 3) := by decide +kernel
theorem dL_alike_138 : decode cL_alike 138 = .ok (.iconst 1, 1) := by decide +kernel
theorem dL_alike_139 : decode cL_alike 139 = .ok (.goto 4, 3) := by decide +kernel
theorem dL_alike_142 : decode cL_alike 142 = .ok (.iconst 0, 1) := by decide +kernel
theorem dL_alike_143 : decode cL_alike 143 = .ok (.istore_n 3, 1) := by decide +kernel
theorem dL_alike_144 : decode cL_alike 144 = .ok (.iinc 6 1, 3) := by decide +kernel
theorem dL_alike_147 : decode cL_alike 147 = .ok (.goto (-45), 3) := by decide +kernel
theorem dL_alike_150 : decode cL_alike 150 = .ok (.iconst 0, 1) := by decide +kernel
theorem dL_alike_151 : decode cL_alike 151 = .ok (.istore 6, 2) := by decide +kernel
theorem dL_alike_153 : decode cL_alike 153 = .ok (.iload 6, 2) := by decide +kernel
theorem dL_alike_155 : decode cL_alike 155 = .ok (.iload 4, 2) := by decide +kernel
theorem dL_alike_157 : decode cL_alike 157 = .ok (.if_icmp .ge 134, 3) := by decide +kernel
theorem dL_alike_160 : decode cL_alike 160 = .ok (.iload_n 3, 1) := by decide +kernel
theorem dL_alike_161 : decode cL_alike 161 = .ok (.ifCond .eq 130, 3) := by decide +kernel
theorem dL_alike_164 : decode cL_alike 164 = .ok (.iload 6, 2) := by decide +kernel
theorem dL_alike_166 : decode cL_alike 166 = .ok (.iload_n 2, 1) := by decide +kernel
theorem dL_alike_167 : decode cL_alike 167 = .ok (.iconst 4, 1) := by decide +kernel
theorem dL_alike_168 : decode cL_alike 168 = .ok (.idiv, 1) := by decide +kernel
theorem dL_alike_169 : decode cL_alike 169 = .ok (.iadd, 1) := by decide +kernel
theorem dL_alike_170 : decode cL_alike 170 = .ok (.iload 4, 2) := by decide +kernel
theorem dL_alike_172 : decode cL_alike 172 = .ok (.irem, 1) := by decide +kernel
theorem dL_alike_173 : decode cL_alike 173 = .ok (.istore 7, 2) := by decide +kernel
theorem dL_alike_175 : decode cL_alike 175 = .ok (.aload_n 0, 1) := by decide +kernel
theorem dL_alike_176 : decode cL_alike 176 = .ok (.bipush 14, 2) := by decide +kernel
theorem dL_alike_178 : decode cL_alike 178 = .ok (.iload 6, 2) := by decide +kernel
theorem dL_alike_180 : decode cL_alike 180 = .ok (.iload 7, 2) := by decide +kernel
theorem dL_alike_182 : decode cL_alike 182 = .ok (.iconst 0, 1) := by decide +kernel
theorem dL_alike_183 : decode cL_alike 183 = .ok (.invokestatic 178, 3) := by decide +kernel
theorem dL_alike_186 : decode cL_alike 186 = .ok (.aload_n 1, 1) := by decide +kernel
theorem dL_alike_187 : decode cL_alike 187 = .ok (.bipush 14, 2) := by decide +kernel
theorem dL_alike_189 : decode cL_alike 189 = .ok (.iload 6, 2) := by decide +kernel
theorem dL_alike_191 : decode cL_alike 191 = .ok (.iload 7, 2) := by decide +kernel
theorem dL_alike_193 : decode cL_alike 193 = .ok (.iconst 0, 1) := by decide +kernel
theorem dL_alike_194 : decode cL_alike 194 = .ok (.invokestatic 178, 3) := by decide +kernel
theorem dL_alike_197 : decode cL_alike 197 = .ok (.if_icmp .ne 86, 3) := by decide +kernel
theorem dL_alike_200 : decode cL_alike 200 = .ok (.aload_n 0, 1) := by decide +kernel
theorem dL_alike_201 : decode cL_alike 201 = .ok (.bipush 15, 2) := by decide +kernel
theorem dL_alike_203 : decode cL_alike 203 = .ok (.iload 6, 2) := by decide +kernel
theorem dL_alike_205 : decode cL_alike 205 = .ok (.iload 7, 2) := by decide +kernel
theorem dL_alike_207 : decode cL_alike 207 = .ok (.iconst 0, 1) := by decide +kernel
theorem dL_alike_208 : decode cL_alike 208 = .ok (.invokestatic 178, 3) := by decide +kernel
theorem dL_alike_211 : decode cL_alike 211 = .ok (.aload_n 1, 1) := by decide +kernel
theorem dL_alike_212 : decode cL_alike 212 = .ok (.bipush 15, 2) := by decide +kernel
theorem dL_alike_214 : decode cL_alike 214 = .ok (.iload 6, 2) := by decide +kernel
theorem dL_alike_216 : decode cL_alike 216 = .ok (.iload 7, 2) := by decide +kernel
theorem dL_alike_218 : decode cL_alike 218 = .ok (.iconst 0, 1) := by decide +kernel
theorem dL_alike_219 : decode cL_alike 219 = .ok (.invokestatic 178, 3) := by decide +kernel
theorem dL_alike_222 : decode cL_alike 222 = .ok (.if_icmp .ne 61, 3) := by decide +kernel
theorem dL_alike_225 : decode cL_alike 225 = .ok (.aload_n 0, 1) := by decide +kernel
theorem dL_alike_226 : decode cL_alike 226 = .ok (.bipush 16, 2) := by decide +kernel
theorem dL_alike_228 : decode cL_alike 228 = .ok (.iload 6, 2) := by decide +kernel
theorem dL_alike_230 : decode cL_alike 230 = .ok (.iload 7, 2) := by decide +kernel
theorem dL_alike_232 : decode cL_alike 232 = .ok (.iload_n 2, 1) := by decide +kernel
theorem dL_alike_233 : decode cL_alike 233 = .ok (.iconst 3, 1) := by decide +kernel
theorem dL_alike_234 : decode cL_alike 234 = .ok (.irem, 1) := by decide +kernel
theorem dL_alike_235 : decode cL_alike 235 = .ok (.invokestatic 178, 3) := by decide +kernel
theorem dL_alike_238 : decode cL_alike 238 = .ok (.aload_n 1, 1) := by decide +kernel
theorem dL_alike_239 : decode cL_alike 239 = .ok (.bipush 16, 2) := by decide +kernel
theorem dL_alike_241 : decode cL_alike 241 = .ok (.iload 6, 2) := by decide +kernel
theorem dL_alike_243 : decode cL_alike 243 = .ok (.iload 7, 2) := by decide +kernel
theorem dL_alike_245 : decode cL_alike 245 = .ok (.iload_n 2, 1) := by decide +kernel
theorem dL_alike_246 : decode cL_alike 246 = .ok (.iconst 3, 1) := by decide +kernel
theorem dL_alike_247 : decode cL_alike 247 = .ok (.irem, 1) := by decide +kernel
theorem dL_alike_248 : decode cL_alike 248 = .ok (.invokestatic 178, 3) := by decide +kernel
theorem dL_alike_251 : decode cL_alike 251 = .ok (.if_icmp .ne 32, 3) := by decide +kernel
theorem dL_alike_254 : decode cL_alike 254 = .ok (.aload_n 0, 1) := by decide +kernel
theorem dL_alike_255 : decode cL_alike 255 = .ok (.iconst 4, 1) := by decide +kernel
theorem dL_alike_256 : decode cL_alike 256 = .ok (.iload 6, 2) := by decide +kernel
theorem dL_alike_258 : decode cL_alike 258 = .ok (.iload_n 2, 1) := by decide +kernel
theorem dL_alike_259 : decode cL_alike 259 = .ok (.iconst 4, 1) := by decide +kernel
theorem dL_alike_260 : decode cL_alike 260 = .ok (.irem, 1) := by decide +kernel
theorem dL_alike_261 : decode cL_alike 261 = .ok (.iconst 0, 1) := by decide +kernel
theorem dL_alike_262 : decode cL_alike 262 = .ok (.invokestatic 178, 3) := by decide +kernel
theorem dL_alike_265 : decode cL_alike 265 = .ok (.aload_n 1, 1) := by decide +kernel
theorem dL_alike_266 : decode cL_alike 266 = .ok (.iconst 4, 1) := by decide +kernel
theorem dL_alike_267 : decode cL_alike 267 = .ok (.iload 6, 2) := by decide +kernel
theorem dL_alike_269 : decode cL_alike 269 = .ok (.iload_n 2, 1) := by decide +kernel
theorem dL_alike_270 : decode cL_alike 270 = .ok (.iconst 4, 1) := by decide +kernel
theorem dL_alike_271 : decode cL_alike 271 = .ok (.irem, 1) := by decide +kernel
theorem dL_alike_272 : decode cL_alike 272 = .ok (.iconst 0, 1) := by decide +kernel
theorem dL_alike_273 : decode cL_alike 273 = .ok (.invokestatic 178, 3) := by decide +kernel
theorem dL_alike_276 : decode cL_alike 276 = .ok (.if_icmp .ne 7, 3) := by decide +kernel
theorem dL_alike_279 : decode cL_alike 279 = .ok (.iconst 1, 1) := by decide +kernel
theorem dL_alike_280 : decode cL_alike 280 = .ok (.goto 4, 3) := by decide +kernel
theorem dL_alike_283 : decode cL_alike 283 = .ok (.iconst 0, 1) := by decide +kernel
theorem dL_alike_284 : decode cL_alike 284 = .ok (.istore_n 3, 1) := by decide +kernel
theorem dL_alike_285 : decode cL_alike 285 = .ok (.iinc 6 1, 3) := by decide +kernel
theorem dL_alike_288 : decode cL_alike 288 = .ok (.goto (-135), 3) := by decide +kernel
theorem dL_alike_291 : decode cL_alike 291 = .ok (.iload_n 3, 1) := by decide +kernel
theorem dL_alike_292 : decode cL_alike 292 = .ok (.ifCond .eq 94, 3) := by decide +kernel
theorem dL_alike_295 : decode cL_alike 295 = .ok (.iload 4, 2) := by decide +kernel
theorem dL_alike_297 : decode cL_alike 297 = .ok (.ifCond .eq 85, 3) := by decide +kernel
theorem dL_alike_300 : decode cL_alike 300 = .ok (.aload_n 0, 1) := by decide +kernel
theorem dL_alike_301 : decode cL_alike 301 = .ok (.bipush 17, 2) := by decide +kernel
theorem dL_alike_303 : decode cL_alike 303 = .ok (.iload_n 2, 1) := by decide +kernel
theorem dL_alike_304 : decode cL_alike 304 = .ok (.iload 4, 2) := by decide +kernel
theorem dL_alike_306 : decode cL_alike 306 = .ok (.irem, 1) := by decide +kernel
theorem dL_alike_307 : decode cL_alike 307 = .ok (.iload_n 2, 1) := by decide +kernel
theorem dL_alike_308 : decode cL_alike 308 = .ok (.bipush 8, 2) := by decide +kernel
theorem dL_alike_310 : decode cL_alike 310 = .ok (.idiv, 1) := by decide +kernel
theorem dL_alike_311 : decode cL_alike 311 = .ok (.iload 4, 2) := by decide +kernel
theorem dL_alike_313 : decode cL_alike 313 = .ok (.irem, 1) := by decide +kernel
theorem dL_alike_314 : decode cL_alike 314 = .ok (.iload_n 2, 1) := by decide +kernel
theorem dL_alike_315 : decode cL_alike 315 = .ok (.iconst 4, 1) := by decide +kernel
theorem dL_alike_316 : decode cL_alike 316 = .ok (.irem, 1) := by decide +kernel
theorem dL_alike_317 : decode cL_alike 317 = .ok (.invokestatic 178, 3) := by decide +kernel
theorem dL_alike_320 : decode cL_alike 320 = .ok (.aload_n 1, 1) := by decide +kernel
theorem dL_alike_321 : decode cL_alike 321 = .ok (.bipush 17, 2) := by decide +kernel
theorem dL_alike_323 : decode cL_alike 323 = .ok (.iload_n 2, 1) := by decide +kernel
theorem dL_alike_324 : decode cL_alike 324 = .ok (.iload 4, 2) := by decide +kernel
theorem dL_alike_326 : decode cL_alike 326 = .ok (.irem, 1) := by decide +kernel
theorem dL_alike_327 : decode cL_alike 327 = .ok (.iload_n 2, 1) := by decide +kernel
theorem dL_alike_328 : decode cL_alike 328 = .ok (.bipush 8, 2) := by decide +kernel
theorem dL_alike_330 : decode cL_alike 330 = .ok (.idiv, 1) := by decide +kernel
theorem dL_alike_331 : decode cL_alike 331 = .ok (.iload 4, 2) := by decide +kernel
theorem dL_alike_333 : decode cL_alike 333 = .ok (.irem, 1) := by decide +kernel
theorem dL_alike_334 : decode cL_alike 334 = .ok (.iload_n 2, 1) := by decide +kernel
theorem dL_alike_335 : decode cL_alike 335 = .ok (.iconst 4, 1) := by decide +kernel
theorem dL_alike_336 : decode cL_alike 336 = .ok (.irem, 1) := by decide +kernel
theorem dL_alike_337 : decode cL_alike 337 = .ok (.invokestatic 178, 3) := by decide +kernel
theorem dL_alike_340 : decode cL_alike 340 = .ok (.if_icmp .ne 46, 3) := by decide +kernel
theorem dL_alike_343 : decode cL_alike 343 = .ok (.aload_n 0, 1) := by decide +kernel
theorem dL_alike_344 : decode cL_alike 344 = .ok (.bipush 18, 2) := by decide +kernel
theorem dL_alike_346 : decode cL_alike 346 = .ok (.iload_n 2, 1) := by decide +kernel
theorem dL_alike_347 : decode cL_alike 347 = .ok (.iload 4, 2) := by decide +kernel
theorem dL_alike_349 : decode cL_alike 349 = .ok (.irem, 1) := by decide +kernel
theorem dL_alike_350 : decode cL_alike 350 = .ok (.iload_n 2, 1) := by decide +kernel
theorem dL_alike_351 : decode cL_alike 351 = .ok (.bipush 8, 2) := by decide +kernel
theorem dL_alike_353 : decode cL_alike 353 = .ok (.idiv, 1) := by decide +kernel
theorem dL_alike_354 : decode cL_alike 354 = .ok (.iload 4, 2) := by decide +kernel
theorem dL_alike_356 : decode cL_alike 356 = .ok (.irem, 1) := by decide +kernel
theorem dL_alike_357 : decode cL_alike 357 = .ok (.iconst 0, 1) := by decide +kernel
theorem dL_alike_358 : decode cL_alike 358 = .ok (.invokestatic 178, 3) := by decide +kernel
theorem dL_alike_361 : decode cL_alike 361 = .ok (.aload_n 1, 1) := by decide +kernel
theorem dL_alike_362 : decode cL_alike 362 = .ok (.bipush 18, 2) := by decide +kernel
theorem dL_alike_364 : decode cL_alike 364 = .ok (.iload_n 2, 1) := by decide +kernel
theorem dL_alike_365 : decode cL_alike 365 = .ok (.iload 4, 2) := by decide +kernel
theorem dL_alike_367 : decode cL_alike 367 = .ok (.irem, 1) := by decide +kernel
theorem dL_alike_368 : decode cL_alike 368 = .ok (.iload_n 2, 1) := by decide +kernel
theorem dL_alike_369 : decode cL_alike 369 = .ok (.bipush 8, 2) := by decide +kernel
theorem dL_alike_371 : decode cL_alike 371 = .ok (.idiv, 1) := by decide +kernel
theorem dL_alike_372 : decode cL_alike 372 = .ok (.iload 4, 2) := by decide +kernel
theorem dL_alike_374 : decode cL_alike 374 = .ok (.irem, 1) := by decide +kernel
theorem dL_alike_375 : decode cL_alike 375 = .ok (.iconst 0, 1) := by decide +kernel
theorem dL_alike_376 : decode cL_alike 376 = .ok (.invokestatic 178, 3) := by decide +kernel
theorem dL_alike_379 : decode cL_alike 379 = .ok (.if_icmp .ne 7, 3) := by decide +kernel
theorem dL_alike_382 : decode cL_alike 382 = .ok (.iconst 1, 1) := by decide +kernel
theorem dL_alike_383 : decode cL_alike 383 = .ok (.goto 4, 3) := by decide +kernel
theorem dL_alike_386 : decode cL_alike 386 = .ok (.iconst 0, 1) := by decide +kernel
theorem dL_alike_387 : decode cL_alike 387 = .ok (.ireturn, 1) := by decide +kernel
theorem dL_holds_0 : decode cL_holds 0 = .ok (.aload_n 0, 1) := by decide +kernel
theorem dL_holds_1 : decode cL_holds 1 = .ok (.iconst 2, 1) := by decide +kernel
theorem dL_holds_2 : decode cL_holds 2 = .ok (.iconst 0, 1) := by decide +kernel
theorem dL_holds_3 : decode cL_holds 3 = .ok (.iconst 0, 1) := by decide +kernel
theorem dL_holds_4 : decode cL_holds 4 = .ok (.iconst 0, 1) := by decide +kernel
theorem dL_holds_5 : decode cL_holds 5 = .ok (.invokestatic 178, 3) := by decide +kernel
theorem dL_holds_8 : decode cL_holds 8 = .ok (.istore_n 2, 1) := by decide +kernel
theorem dL_holds_9 : decode cL_holds 9 = .ok (.aload_n 0, 1) := by decide +kernel
theorem dL_holds_10 : decode cL_holds 10 = .ok (.iconst 2, 1) := by decide +kernel
theorem dL_holds_11 : decode cL_holds 11 = .ok (.iconst 1, 1) := by decide +kernel
theorem dL_holds_12 : decode cL_holds 12 = .ok (.iconst 0, 1) := by decide +kernel
theorem dL_holds_13 : decode cL_holds 13 = .ok (.iconst 0, 1) := by decide +kernel
theorem dL_holds_14 : decode cL_holds 14 = .ok (.invokestatic 178, 3) := by decide +kernel
theorem dL_holds_17 : decode cL_holds 17 = .ok (.istore_n 3, 1) := by decide +kernel
theorem dL_holds_18 : decode cL_holds 18 = .ok (.iconst 0, 1) := by decide +kernel
theorem dL_holds_19 : decode cL_holds 19 = .ok (.istore 4, 2) := by decide +kernel
theorem dL_holds_21 : decode cL_holds 21 = .ok (.bipush (-9), 2) := by decide +kernel
theorem dL_holds_23 : decode cL_holds 23 = .ok (.istore 5, 2) := by decide +kernel
theorem dL_holds_25 : decode cL_holds 25 = .ok (.iconst 1, 1) := by decide +kernel
theorem dL_holds_26 : decode cL_holds 26 = .ok (.istore 6, 2) := by decide +kernel
theorem dL_holds_28 : decode cL_holds 28 = .ok (.iconst 0, 1) := by decide +kernel
theorem dL_holds_29 : decode cL_holds 29 = .ok (.istore 7, 2) := by decide +kernel
theorem dL_holds_31 : decode cL_holds 31 = .ok (.iload 7, 2) := by decide +kernel
theorem dL_holds_33 : decode cL_holds 33 = .ok (.iload_n 2, 1) := by decide +kernel
theorem dL_holds_34 : decode cL_holds 34 = .ok (.if_icmp .ge 391, 3) := by decide +kernel
theorem dL_holds_37 : decode cL_holds 37 = .ok (.iload 6, 2) := by decide +kernel
theorem dL_holds_39 : decode cL_holds 39 = .ok (.ifCond .eq 386, 3) := by decide +kernel
theorem dL_holds_42 : decode cL_holds 42 = .ok (.aload_n 0, 1) := by decide +kernel
theorem dL_holds_43 : decode cL_holds 43 = .ok (.iconst 4, 1) := by decide +kernel
theorem dL_holds_44 : decode cL_holds 44 = .ok (.iload 7, 2) := by decide +kernel
theorem dL_holds_46 : decode cL_holds 46 = .ok (.iconst 2, 1) := by decide +kernel
theorem dL_holds_47 : decode cL_holds 47 = .ok (.iconst 0, 1) := by decide +kernel
theorem dL_holds_48 : decode cL_holds 48 = .ok (.invokestatic 178, 3) := by decide +kernel
theorem dL_holds_51 : decode cL_holds 51 = .ok (.istore 8, 2) := by decide +kernel
theorem dL_holds_53 : decode cL_holds 53 = .ok (.iconst 0, 1) := by decide +kernel
theorem dL_holds_54 : decode cL_holds 54 = .ok (.istore 9, 2) := by decide +kernel
theorem dL_holds_56 : decode cL_holds 56 = .ok (.iload 9, 2) := by decide +kernel
theorem dL_holds_58 : decode cL_holds 58 = .ok (.iload_n 2, 1) := by decide +kernel
theorem dL_holds_59 : decode cL_holds 59 = .ok (.if_icmp .ge 360, 3) := by decide +kernel
theorem dL_holds_62 : decode cL_holds 62 = .ok (.iload 6, 2) := by decide +kernel
theorem dL_holds_64 : decode cL_holds 64 = .ok (.ifCond .eq 355, 3) := by decide +kernel
theorem dL_holds_67 : decode cL_holds 67 = .ok (.aload_n 0, 1) := by decide +kernel
theorem dL_holds_68 : decode cL_holds 68 = .ok (.bipush 14, 2) := by decide +kernel
theorem dL_holds_70 : decode cL_holds 70 = .ok (.iload 7, 2) := by decide +kernel
theorem dL_holds_72 : decode cL_holds 72 = .ok (.iload 9, 2) := by decide +kernel
theorem dL_holds_74 : decode cL_holds 74 = .ok (.iconst 0, 1) := by decide +kernel
theorem dL_holds_75 : decode cL_holds 75 = .ok (.invokestatic 178, 3) := by decide +kernel
theorem dL_holds_78 : decode cL_holds 78 = .ok (.istore 10, 2) := by decide +kernel
theorem dL_holds_80 : decode cL_holds 80 = .ok (.aload_n 0, 1) := by decide +kernel
theorem dL_holds_81 : decode cL_holds 81 = .ok (.bipush 15, 2) := by decide +kernel
theorem dL_holds_83 : decode cL_holds 83 = .ok (.iload 7, 2) := by decide +kernel
theorem dL_holds_85 : decode cL_holds 85 = .ok (.iload 9, 2) := by decide +kernel
theorem dL_holds_87 : decode cL_holds 87 = .ok (.iconst 0, 1) := by decide +kernel
theorem dL_holds_88 : decode cL_holds 88 = .ok (.invokestatic 178, 3) := by decide +kernel
theorem dL_holds_91 : decode cL_holds 91 = .ok (.istore 11, 2) := by decide +kernel
theorem dL_holds_93 : decode cL_holds 93 = .ok (.iload 4, 2) := by decide +kernel
theorem dL_holds_95 : decode cL_holds 95 = .ok (.iload 10, 2) := by decide +kernel
theorem dL_holds_97 : decode cL_holds 97 = .ok (.ifCond .lt 7, 3) := by decide +kernel
theorem dL_holds_100 : decode cL_holds 100 = .ok (.iconst 1, 1) := by decide +kernel
theorem dL_holds_101 : decode cL_holds 101 = .ok (.goto 4, 3) := by decide +kernel
theorem dL_holds_104 : decode cL_holds 104 = .ok (.iconst 0, 1) := by decide +kernel
theorem dL_holds_105 : decode cL_holds 105 = .ok (.iadd, 1) := by decide +kernel
theorem dL_holds_106 : decode cL_holds 106 = .ok (.istore 4, 2) := by decide +kernel
theorem dL_holds_108 : decode cL_holds 108 = .ok (.iload 10, 2) := by decide +kernel
theorem dL_holds_110 : decode cL_holds 110 = .ok (.iload 5, 2) := by decide +kernel
theorem dL_holds_112 : decode cL_holds 112 = .ok (.if_icmp .le 8, 3) := by decide +kernel
theorem dL_holds_115 : decode cL_holds 115 = .ok (.iload 10, 2) := by decide +kernel
theorem dL_holds_117 : decode cL_holds 117 = .ok (.goto 5, 3) := by decide +kernel
theorem dL_holds_120 : decode cL_holds 120 = .ok (.iload 5, 2) := by decide +kernel
theorem dL_holds_122 : decode cL_holds 122 = .ok (.istore 5, 2) := by decide +kernel
theorem dL_holds_124 : decode cL_holds 124 = .ok (.iconst 0, 1) := by decide +kernel
theorem dL_holds_125 : decode cL_holds 125 = .ok (.istore 12, 2) := by decide +kernel
theorem dL_holds_127 : decode cL_holds 127 = .ok (.iload 7, 2) := by decide +kernel
theorem dL_holds_129 : decode cL_holds 129 = .ok (.istore 13, 2) := by decide +kernel
theorem dL_holds_131 : decode cL_holds 131 = .ok (.iconst 0, 1) := by decide +kernel
theorem dL_holds_132 : decode cL_holds 132 = .ok (.istore 14, 2) := by decide +kernel
theorem dL_holds_134 : decode cL_holds 134 = .ok (.iload 14, 2) := by decide +kernel
theorem dL_holds_136 : decode cL_holds 136 = .ok (.iload 11, 2) := by decide +kernel
theorem dL_holds_138 : decode cL_holds 138 = .ok (.if_icmp .ge 129, 3) := by decide +kernel
theorem dL_holds_141 : decode cL_holds 141 = .ok (.iload 6, 2) := by decide +kernel
theorem dL_holds_143 : decode cL_holds 143 = .ok (.ifCond .eq 124, 3) := by decide +kernel
theorem dL_holds_146 : decode cL_holds 146 = .ok (.aload_n 0, 1) := by decide +kernel
theorem dL_holds_147 : decode cL_holds 147 = .ok (.bipush 16, 2) := by decide +kernel
theorem dL_holds_149 : decode cL_holds 149 = .ok (.iload 7, 2) := by decide +kernel
theorem dL_holds_151 : decode cL_holds 151 = .ok (.iload 9, 2) := by decide +kernel
theorem dL_holds_153 : decode cL_holds 153 = .ok (.iload 14, 2) := by decide +kernel
theorem dL_holds_155 : decode cL_holds 155 = .ok (.invokestatic 178, 3) := by decide +kernel
theorem dL_holds_158 : decode cL_holds 158 = .ok (.istore 15, 2) := by decide +kernel
theorem dL_holds_160 : decode cL_holds 160 = .ok (.iload 15, 2) := by decide +kernel
theorem dL_holds_162 : decode cL_holds 162 = .ok (.bipush 10, 2) := by decide +kernel
theorem dL_holds_164 : decode cL_holds 164 = .ok (.idiv, 1) := by decide +kernel
theorem dL_holds_165 : decode cL_holds 165 = .ok (.istore 16, 2) := by decide +kernel
theorem dL_holds_167 : decode cL_holds 167 = .ok (.iload 15, 2) := by decide +kernel
theorem dL_holds_169 : decode cL_holds 169 = .ok (.ifCond .lt 33, 3) := by decide +kernel
theorem dL_holds_172 : decode cL_holds 172 = .ok (.aload_n 0, 1) := by decide +kernel
theorem dL_holds_173 : decode cL_holds 173 = .ok (.iconst 3, 1) := by decide +kernel
theorem dL_holds_174 : decode cL_holds 174 = .ok (.iload 16, 2) := by decide +kernel
theorem dL_holds_176 : decode cL_holds 176 = .ok (.iload 15, 2) := by decide +kernel
theorem dL_holds_178 : decode cL_holds 178 = .ok (.bipush 10, 2) := by decide +kernel
theorem dL_holds_180 : decode cL_holds 180 = .ok (.irem, 1) := by decide +kernel
theorem dL_holds_181 : decode cL_holds 181 = .ok (.ifCond .ne 7, 3) := by decide +kernel
theorem dL_holds_184 : decode cL_holds 184 = .ok (.iconst 0, 1) := by decide +kernel
theorem dL_holds_185 : decode cL_holds 185 = .ok (.goto 4, 3) := by decide +kernel
theorem dL_holds_188 : decode cL_holds 188 = .ok (.iconst 2, 1) := by decide +kernel
theorem dL_holds_189 : decode cL_holds 189 = .ok (.iconst 0, 1) := by decide +kernel
theorem dL_holds_190 : decode cL_holds 190 = .ok (.invokestatic 178, 3) := by decide +kernel
theorem dL_holds_193 : decode cL_holds 193 = .ok (.iload 13, 2) := by decide +kernel
theorem dL_holds_195 : decode cL_holds 195 = .ok (.if_icmp .ne 7, 3) := by decide +kernel
theorem dL_holds_198 : decode cL_holds 198 = .ok (.iconst 1, 1) := by decide +kernel
theorem dL_holds_199 : decode cL_holds 199 = .ok (.goto 4, 3) := by decide +kernel
theorem dL_holds_202 : decode cL_holds 202 = .ok (.iconst 0, 1) := by decide +kernel
theorem dL_holds_203 : decode cL_holds 203 = .ok (.istore 6, 2) := by decide +kernel
theorem dL_holds_205 : decode cL_holds 205 = .ok (.iload 6, 2) := by decide +kernel
theorem dL_holds_207 : decode cL_holds 207 = .ok (.ifCond .eq 27, 3) := by decide +kernel
theorem dL_holds_210 : decode cL_holds 210 = .ok (.aload_n 0, 1) := by decide +kernel
theorem dL_holds_211 : decode cL_holds 211 = .ok (.iconst 3, 1) := by decide +kernel
theorem dL_holds_212 : decode cL_holds 212 = .ok (.iload 16, 2) := by decide +kernel
theorem dL_holds_214 : decode cL_holds 214 = .ok (.iload 15, 2) := by decide +kernel
theorem dL_holds_216 : decode cL_holds 216 = .ok (.bipush 10, 2) := by decide +kernel
theorem dL_holds_218 : decode cL_holds 218 = .ok (.irem, 1) := by decide +kernel
theorem dL_holds_219 : decode cL_holds 219 = .ok (.ifCond .ne 7, 3) := by decide +kernel
theorem dL_holds_222 : decode cL_holds 222 = .ok (.iconst 2, 1) := by decide +kernel
theorem dL_holds_223 : decode cL_holds 223 = .ok (.goto 4, 3) := by decide +kernel
theorem dL_holds_226 : decode cL_holds 226 = .ok (.iconst 0, 1) := by decide +kernel
theorem dL_holds_227 : decode cL_holds 227 = .ok (.iconst 0, 1) := by decide +kernel
theorem dL_holds_228 : decode cL_holds 228 = .ok (.invokestatic 178, 3) := by decide +kernel
theorem dL_holds_231 : decode cL_holds 231 = .ok (.goto 5, 3) := by decide +kernel
theorem dL_holds_234 : decode cL_holds 234 = .ok (.iload 13, 2) := by decide +kernel
theorem dL_holds_236 : decode cL_holds 236 = .ok (.istore 13, 2) := by decide +kernel
theorem dL_holds_238 : decode cL_holds 238 = .ok (.iload 12, 2) := by decide +kernel
theorem dL_holds_240 : decode cL_holds 240 = .ok (.iload 6, 2) := by decide +kernel
theorem dL_holds_242 : decode cL_holds 242 = .ok (.ifCond .eq 15, 3) := by decide +kernel
theorem dL_holds_245 : decode cL_holds 245 = .ok (.aload_n 0, 1) := by decide +kernel
theorem dL_holds_246 : decode cL_holds 246 = .ok (.iconst 3, 1) := by decide +kernel
theorem dL_holds_247 : decode cL_holds 247 = .ok (.iload 16, 2) := by decide +kernel
theorem dL_holds_249 : decode cL_holds 249 = .ok (.iconst 3, 1) := by decide +kernel
theorem dL_holds_250 : decode cL_holds 250 = .ok (.iconst 0, 1) := by decide +kernel
theorem dL_holds_251 : decode cL_holds 251 = .ok (.invokestatic 178, 3) := by decide +kernel
theorem dL_holds_254 : decode cL_holds 254 = .ok (.goto 4, 3) := by decide +kernel
theorem dL_holds_257 : decode cL_holds 257 = .ok (.iconst 0, 1) := by decide +kernel
theorem dL_holds_258 : decode cL_holds 258 = .ok (.iadd, 1) := by decide +kernel
theorem dL_holds_259 : decode cL_holds 259 = .ok (.istore 12, 2) := by decide +kernel
theorem dL_holds_261 : decode cL_holds 261 = .ok (.iinc 14 1, 3) := by decide +kernel
theorem dL_holds_264 : decode cL_holds 264 = .ok (.goto (-130), 3) := by decide +kernel
theorem dL_holds_267 : decode cL_holds 267 = .ok (.iload 6, 2) := by decide +kernel
theorem dL_holds_269 : decode cL_holds 269 = .ok (.ifCond .eq 141, 3) := by decide +kernel
theorem dL_holds_272 : decode cL_holds 272 = .ok (.iload 8, 2) := by decide +kernel
theorem dL_holds_274 : decode cL_holds 274 = .ok (.iload 9, 2) := by decide +kernel
theorem dL_holds_276 : decode cL_holds 276 = .ok (.ishr, 1) := by decide +kernel
theorem dL_holds_277 : decode cL_holds 277 = .ok (.iconst 1, 1) := by decide +kernel
theorem dL_holds_278 : decode cL_holds 278 = .ok (.iand, 1) := by decide +kernel
theorem dL_holds_279 : decode cL_holds 279 = .ok (.iconst 1, 1) := by decide +kernel
theorem dL_holds_280 : decode cL_holds 280 = .ok (.if_icmp .ne 7, 3) := by decide +kernel
theorem dL_holds_283 : decode cL_holds 283 = .ok (.iconst 1, 1) := by decide +kernel
theorem dL_holds_284 : decode cL_holds 284 = .ok (.goto 4, 3) := by decide +kernel
theorem dL_holds_287 : decode cL_holds 287 = .ok (.iconst 0, 1) := by decide +kernel
theorem dL_holds_288 : decode cL_holds 288 = .ok (.iload 10, 2) := by decide +kernel
theorem dL_holds_290 : decode cL_holds 290 = .ok (.ifCond .lt 7, 3) := by decide +kernel
theorem dL_holds_293 : decode cL_holds 293 = .ok (.iconst 1, 1) := by decide +kernel
theorem dL_holds_294 : decode cL_holds 294 = .ok (.goto 4, 3) := by decide +kernel
theorem dL_holds_297 : decode cL_holds 297 = .ok (.iconst 0, 1) := by decide +kernel
theorem dL_holds_298 : decode cL_holds 298 = .ok (.if_icmp .ne 112, 3) := by decide +kernel
theorem dL_holds_301 : decode cL_holds 301 = .ok (.aload_n 0, 1) := by decide +kernel
theorem dL_holds_302 : decode cL_holds 302 = .ok (.iconst 4, 1) := by decide +kernel
theorem dL_holds_303 : decode cL_holds 303 = .ok (.iload 9, 2) := by decide +kernel
theorem dL_holds_305 : decode cL_holds 305 = .ok (.iconst 3, 1) := by decide +kernel
theorem dL_holds_306 : decode cL_holds 306 = .ok (.iconst 0, 1) := by decide +kernel
theorem dL_holds_307 : decode cL_holds 307 = .ok (.invokestatic 178, 3) := by decide +kernel
theorem dL_holds_310 : decode cL_holds 310 = .ok (.iload 7, 2) := by decide +kernel
theorem dL_holds_312 : decode cL_holds 312 = .ok (.ishr, 1) := by decide +kernel
theorem dL_holds_313 : decode cL_holds 313 = .ok (.iconst 1, 1) := by decide +kernel
theorem dL_holds_314 : decode cL_holds 314 = .ok (.iand, 1) := by decide +kernel
theorem dL_holds_315 : decode cL_holds 315 = .ok (.iconst 1, 1) := by decide +kernel
theorem dL_holds_316 : decode cL_holds 316 = .ok (.if_icmp .ne 7, 3) := by decide +kernel
theorem dL_holds_319 : decode cL_holds 319 = .ok (.iconst 1, 1) := by decide +kernel
theorem dL_holds_320 : decode cL_holds 320 = .ok (.goto 4, 3) := by decide +kernel
theorem dL_holds_323 : decode cL_holds 323 = .ok (.iconst 0, 1) := by decide +kernel
theorem dL_holds_324 : decode cL_holds 324 = .ok (.iload 10, 2) := by decide +kernel
theorem dL_holds_326 : decode cL_holds 326 = .ok (.ifCond .lt 7, 3) := by decide +kernel
theorem dL_holds_329 : decode cL_holds 329 = .ok (.iconst 1, 1) := by decide +kernel
theorem dL_holds_330 : decode cL_holds 330 = .ok (.goto 4, 3) := by decide +kernel
theorem dL_holds_333 : decode cL_holds 333 = .ok (.iconst 0, 1) := by decide +kernel
theorem dL_holds_334 : decode cL_holds 334 = .ok (.if_icmp .ne 76, 3) := by decide +kernel
theorem dL_holds_337 : decode cL_holds 337 = .ok (.iload 10, 2) := by decide +kernel
theorem dL_holds_339 : decode cL_holds 339 = .ok (.ifCond .lt 17, 3) := by decide +kernel
theorem dL_holds_342 : decode cL_holds 342 = .ok (.iload 13, 2) := by decide +kernel
theorem dL_holds_344 : decode cL_holds 344 = .ok (.iload 9, 2) := by decide +kernel
theorem dL_holds_346 : decode cL_holds 346 = .ok (.if_icmp .ne 64, 3) := by decide +kernel
theorem dL_holds_349 : decode cL_holds 349 = .ok (.iload 12, 2) := by decide +kernel
theorem dL_holds_351 : decode cL_holds 351 = .ok (.iload 10, 2) := by decide +kernel
theorem dL_holds_353 : decode cL_holds 353 = .ok (.if_icmp .ne 57, 3) := by decide +kernel
theorem dL_holds_356 : decode cL_holds 356 = .ok (.aload_n 0, 1) := by decide +kernel
theorem dL_holds_357 : decode cL_holds 357 = .ok (.bipush 17, 2) := by decide +kernel
theorem dL_holds_359 : decode cL_holds 359 = .ok (.iload 7, 2) := by decide +kernel
theorem dL_holds_361 : decode cL_holds 361 = .ok (.iload 9, 2) := by decide +kernel
theorem dL_holds_363 : decode cL_holds 363 = .ok (.iconst 1, 1) := by decide +kernel
theorem dL_holds_364 : decode cL_holds 364 = .ok (.invokestatic 178, 3) := by decide +kernel
theorem dL_holds_367 : decode cL_holds 367 = .ok (.aload_n 0, 1) := by decide +kernel
theorem dL_holds_368 : decode cL_holds 368 = .ok (.bipush 17, 2) := by decide +kernel
theorem dL_holds_370 : decode cL_holds 370 = .ok (.iload 7, 2) := by decide +kernel
theorem dL_holds_372 : decode cL_holds 372 = .ok (.iload 9, 2) := by decide +kernel
theorem dL_holds_374 : decode cL_holds 374 = .ok (.iconst 2, 1) := by decide +kernel
theorem dL_holds_375 : decode cL_holds 375 = .ok (.invokestatic 178, 3) := by decide +kernel
theorem dL_holds_378 : decode cL_holds 378 = .ok (.if_icmp .gt 32, 3) := by decide +kernel
theorem dL_holds_381 : decode cL_holds 381 = .ok (.iload 10, 2) := by decide +kernel
theorem dL_holds_383 : decode cL_holds 383 = .ok (.ifCond .lt 23, 3) := by decide +kernel
theorem dL_holds_386 : decode cL_holds 386 = .ok (.iload 11, 2) := by decide +kernel
theorem dL_holds_388 : decode cL_holds 388 = .ok (.iconst 3, 1) := by decide +kernel
theorem dL_holds_389 : decode cL_holds 389 = .ok (.if_icmp .gt 17, 3) := by decide +kernel
theorem dL_holds_392 : decode cL_holds 392 = .ok (.aload_n 0, 1) := by decide +kernel
theorem dL_holds_393 : decode cL_holds 393 = .ok (.bipush 17, 2) := by decide +kernel
theorem dL_holds_395 : decode cL_holds 395 = .ok (.iload 7, 2) := by decide +kernel
theorem dL_holds_397 : decode cL_holds 397 = .ok (.iload 9, 2) := by decide +kernel
theorem dL_holds_399 : decode cL_holds 399 = .ok (.iconst 3, 1) := by decide +kernel
theorem dL_holds_400 : decode cL_holds 400 = .ok (.invokestatic 178, 3) := by decide +kernel
theorem dL_holds_403 : decode cL_holds 403 = .ok (.ifCond .le 7, 3) := by decide +kernel
theorem dL_holds_406 : decode cL_holds 406 = .ok (.iconst 1, 1) := by decide +kernel
theorem dL_holds_407 : decode cL_holds 407 = .ok (.goto 4, 3) := by decide +kernel
theorem dL_holds_410 : decode cL_holds 410 = .ok (.iconst 0, 1) := by decide +kernel
theorem dL_holds_411 : decode cL_holds 411 = .ok (.istore 6, 2) := by decide +kernel
theorem dL_holds_413 : decode cL_holds 413 = .ok (.iinc 9 1, 3) := by decide +kernel
theorem dL_holds_416 : decode cL_holds 416 = .ok (.goto (-360), 3) := by decide +kernel
theorem dL_holds_419 : decode cL_holds 419 = .ok (.iinc 7 1, 3) := by decide +kernel
theorem dL_holds_422 : decode cL_holds 422 = .ok (.goto (-391), 3) := by decide +kernel
theorem dL_holds_425 : decode cL_holds 425 = .ok (.iload 6, 2) := by decide +kernel
theorem dL_holds_427 : decode cL_holds 427 = .ok (.ifCond .eq 51, 3) := by decide +kernel
theorem dL_holds_430 : decode cL_holds 430 = .ok (.aload_n 0, 1) := by decide +kernel
theorem dL_holds_431 : decode cL_holds 431 = .ok (.iconst 2, 1) := by decide +kernel
theorem dL_holds_432 : decode cL_holds 432 = .ok (.iconst 5, 1) := by decide +kernel
theorem dL_holds_433 : decode cL_holds 433 = .ok (.iconst 0, 1) := by decide +kernel
theorem dL_holds_434 : decode cL_holds 434 = .ok (.iconst 0, 1) := by decide +kernel
theorem dL_holds_435 : decode cL_holds 435 = .ok (.invokestatic 178, 3) := by decide +kernel
theorem dL_holds_438 : decode cL_holds 438 = .ok (.iload 4, 2) := by decide +kernel
theorem dL_holds_440 : decode cL_holds 440 = .ok (.if_icmp .ne 38, 3) := by decide +kernel
theorem dL_holds_443 : decode cL_holds 443 = .ok (.aload_n 0, 1) := by decide +kernel
theorem dL_holds_444 : decode cL_holds 444 = .ok (.iconst 2, 1) := by decide +kernel
theorem dL_holds_445 : decode cL_holds 445 = .ok (.bipush 7, 2) := by decide +kernel
theorem dL_holds_447 : decode cL_holds 447 = .ok (.iconst 0, 1) := by decide +kernel
theorem dL_holds_448 : decode cL_holds 448 = .ok (.iconst 0, 1) := by decide +kernel
theorem dL_holds_449 : decode cL_holds 449 = .ok (.invokestatic 178, 3) := by decide +kernel
theorem dL_holds_452 : decode cL_holds 452 = .ok (.iload 5, 2) := by decide +kernel
theorem dL_holds_454 : decode cL_holds 454 = .ok (.if_icmp .ne 24, 3) := by decide +kernel
theorem dL_holds_457 : decode cL_holds 457 = .ok (.aload_n 0, 1) := by decide +kernel
theorem dL_holds_458 : decode cL_holds 458 = .ok (.iconst 2, 1) := by decide +kernel
theorem dL_holds_459 : decode cL_holds 459 = .ok (.iconst 4, 1) := by decide +kernel
theorem dL_holds_460 : decode cL_holds 460 = .ok (.iconst 0, 1) := by decide +kernel
theorem dL_holds_461 : decode cL_holds 461 = .ok (.iconst 0, 1) := by decide +kernel
theorem dL_holds_462 : decode cL_holds 462 = .ok (.invokestatic 178, 3) := by decide +kernel
theorem dL_holds_465 : decode cL_holds 465 = .ok (.ifCond .eq 9, 3) := by decide +kernel
theorem dL_holds_468 : decode cL_holds 468 = .ok (.iload 4, 2) := by decide +kernel
theorem dL_holds_470 : decode cL_holds 470 = .ok (.iload_n 2, 1) := by decide +kernel
theorem dL_holds_471 : decode cL_holds 471 = .ok (.if_icmp .lt 7, 3) := by decide +kernel
theorem dL_holds_474 : decode cL_holds 474 = .ok (.iconst 1, 1) := by decide +kernel
theorem dL_holds_475 : decode cL_holds 475 = .ok (.goto 4, 3) := by decide +kernel
theorem dL_holds_478 : decode cL_holds 478 = .ok (.iconst 0, 1) := by decide +kernel
theorem dL_holds_479 : decode cL_holds 479 = .ok (.istore 6, 2) := by decide +kernel
theorem dL_holds_481 : decode cL_holds 481 = .ok (.iload_n 3, 1) := by decide +kernel
theorem dL_holds_482 : decode cL_holds 482 = .ok (.ifCond .le 194, 3) := by decide +kernel
theorem dL_holds_485 : decode cL_holds 485 = .ok (.iload 6, 2) := by decide +kernel
theorem dL_holds_487 : decode cL_holds 487 = .ok (.ifCond .eq 189, 3) := by decide +kernel
theorem dL_holds_490 : decode cL_holds 490 = .ok (.iload_n 1, 1) := by decide +kernel
theorem dL_holds_491 : decode cL_holds 491 = .ok (.iload_n 3, 1) := by decide +kernel
theorem dL_holds_492 : decode cL_holds 492 = .ok (.irem, 1) := by decide +kernel
theorem dL_holds_493 : decode cL_holds 493 = .ok (.istore 7, 2) := by decide +kernel
theorem dL_holds_495 : decode cL_holds 495 = .ok (.aload_n 0, 1) := by decide +kernel
theorem dL_holds_496 : decode cL_holds 496 = .ok (.iconst 3, 1) := by decide +kernel
theorem dL_holds_497 : decode cL_holds 497 = .ok (.iload 7, 2) := by decide +kernel
theorem dL_holds_499 : decode cL_holds 499 = .ok (.iconst 0, 1) := by decide +kernel
theorem dL_holds_500 : decode cL_holds 500 = .ok (.iconst 0, 1) := by decide +kernel
theorem dL_holds_501 : decode cL_holds 501 = .ok (.invokestatic 178, 3) := by decide +kernel
theorem dL_holds_504 : decode cL_holds 504 = .ok (.istore 8, 2) := by decide +kernel
theorem dL_holds_506 : decode cL_holds 506 = .ok (.aload_n 0, 1) := by decide +kernel
theorem dL_holds_507 : decode cL_holds 507 = .ok (.iconst 3, 1) := by decide +kernel
theorem dL_holds_508 : decode cL_holds 508 = .ok (.iload 7, 2) := by decide +kernel
theorem dL_holds_510 : decode cL_holds 510 = .ok (.iconst 2, 1) := by decide +kernel
theorem dL_holds_511 : decode cL_holds 511 = .ok (.iconst 0, 1) := by decide +kernel
theorem dL_holds_512 : decode cL_holds 512 = .ok (.invokestatic 178, 3) := by decide +kernel
theorem dL_holds_515 : decode cL_holds 515 = .ok (.istore 9, 2) := by decide +kernel
theorem dL_holds_517 : decode cL_holds 517 = .ok (.aload_n 0, 1) := by decide +kernel
theorem dL_holds_518 : decode cL_holds 518 = .ok (.bipush 10, 2) := by decide +kernel
theorem dL_holds_520 : decode cL_holds 520 = .ok (.iload 7, 2) := by decide +kernel
theorem dL_holds_522 : decode cL_holds 522 = .ok (.iconst 0, 1) := by decide +kernel
theorem dL_holds_523 : decode cL_holds 523 = .ok (.iconst 0, 1) := by decide +kernel
theorem dL_holds_524 : decode cL_holds 524 = .ok (.invokestatic 178, 3) := by decide +kernel
theorem dL_holds_527 : decode cL_holds 527 = .ok (.istore 10, 2) := by decide +kernel
theorem dL_holds_529 : decode cL_holds 529 = .ok (.iload 10, 2) := by decide +kernel
theorem dL_holds_531 : decode cL_holds 531 = .ok (.ldc 29, 2) := by decide +kernel
theorem dL_holds_533 : decode cL_holds 533 = .ok (.if_icmp .eq 63, 3) := by decide +kernel
theorem dL_holds_536 : decode cL_holds 536 = .ok (.iload 10, 2) := by decide +kernel
theorem dL_holds_538 : decode cL_holds 538 = .ok (.iload 9, 2) := by decide +kernel
theorem dL_holds_540 : decode cL_holds 540 = .ok (.if_icmp .ne 60, 3) := by decide +kernel
theorem dL_holds_543 : decode cL_holds 543 = .ok (.aload_n 0, 1) := by decide +kernel
theorem dL_holds_544 : decode cL_holds 544 = .ok (.iconst 3, 1) := by decide +kernel
theorem dL_holds_545 : decode cL_holds 545 = .ok (.iload 7, 2) := by decide +kernel
theorem dL_holds_547 : decode cL_holds 547 = .ok (.iconst 2, 1) := by decide +kernel
theorem dL_holds_548 : decode cL_holds 548 = .ok (.iconst 0, 1) := by decide +kernel
theorem dL_holds_549 : decode cL_holds 549 = .ok (.invokestatic 178, 3) := by decide +kernel
theorem dL_holds_552 : decode cL_holds 552 = .ok (.iload 8, 2) := by decide +kernel
theorem dL_holds_554 : decode cL_holds 554 = .ok (.if_icmp .ne 46, 3) := by decide +kernel
theorem dL_holds_557 : decode cL_holds 557 = .ok (.aload_n 0, 1) := by decide +kernel
theorem dL_holds_558 : decode cL_holds 558 = .ok (.bipush 10, 2) := by decide +kernel
theorem dL_holds_560 : decode cL_holds 560 = .ok (.iload 7, 2) := by decide +kernel
theorem dL_holds_562 : decode cL_holds 562 = .ok (.iconst 0, 1) := by decide +kernel
theorem dL_holds_563 : decode cL_holds 563 = .ok (.iconst 0, 1) := by decide +kernel
theorem dL_holds_564 : decode cL_holds 564 = .ok (.invokestatic 178, 3) := by decide +kernel
theorem dL_holds_567 : decode cL_holds 567 = .ok (.iload 8, 2) := by decide +kernel
theorem dL_holds_569 : decode cL_holds 569 = .ok (.if_icmp .ne 31, 3) := by decide +kernel
theorem dL_holds_572 : decode cL_holds 572 = .ok (.aload_n 0, 1) := by decide +kernel
theorem dL_holds_573 : decode cL_holds 573 = .ok (.bipush 13, 2) := by decide +kernel
theorem dL_holds_575 : decode cL_holds 575 = .ok (.iconst 0, 1) := by decide +kernel
theorem dL_holds_576 : decode cL_holds 576 = .ok (.iconst 0, 1) := by decide +kernel
theorem dL_holds_577 : decode cL_holds 577 = .ok (.iconst 0, 1) := by decide +kernel
theorem dL_holds_578 : decode cL_holds 578 = .ok (.invokestatic 178, 3) := by decide +kernel
theorem dL_holds_581 : decode cL_holds 581 = .ok (.ifCond .lt 19, 3) := by decide +kernel
theorem dL_holds_584 : decode cL_holds 584 = .ok (.aload_n 0, 1) := by decide +kernel
theorem dL_holds_585 : decode cL_holds 585 = .ok (.bipush 13, 2) := by decide +kernel
theorem dL_holds_587 : decode cL_holds 587 = .ok (.iconst 0, 1) := by decide +kernel
theorem dL_holds_588 : decode cL_holds 588 = .ok (.iconst 0, 1) := by decide +kernel
theorem dL_holds_589 : decode cL_holds 589 = .ok (.iconst 0, 1) := by decide +kernel
theorem dL_holds_590 : decode cL_holds 590 = .ok (.invokestatic 178, 3) := by decide +kernel
theorem dL_holds_593 : decode cL_holds 593 = .ok (.ifCond .lt 7, 3) := by decide +kernel
theorem dL_holds_596 : decode cL_holds 596 = .ok (.iconst 1, 1) := by decide +kernel
theorem dL_holds_597 : decode cL_holds 597 = .ok (.goto 4, 3) := by decide +kernel
theorem dL_holds_600 : decode cL_holds 600 = .ok (.iconst 0, 1) := by decide +kernel
theorem dL_holds_601 : decode cL_holds 601 = .ok (.istore 6, 2) := by decide +kernel
theorem dL_holds_603 : decode cL_holds 603 = .ok (.aload_n 0, 1) := by decide +kernel
theorem dL_holds_604 : decode cL_holds 604 = .ok (.bipush 11, 2) := by decide +kernel
theorem dL_holds_606 : decode cL_holds 606 = .ok (.iload_n 1, 1) := by decide +kernel
theorem dL_holds_607 : decode cL_holds 607 = .ok (.iconst 4, 1) := by decide +kernel
theorem dL_holds_608 : decode cL_holds 608 = .ok (.irem, 1) := by decide +kernel
theorem dL_holds_609 : decode cL_holds 609 = .ok (.iload_n 1, 1) := by decide +kernel
theorem dL_holds_610 : decode cL_holds 610 = .ok (.iconst 4, 1) := by decide +kernel
theorem dL_holds_611 : decode cL_holds 611 = .ok (.idiv, 1) := by decide +kernel
theorem dL_holds_612 : decode cL_holds 612 = .ok (.iconst 4, 1) := by decide +kernel
theorem dL_holds_613 : decode cL_holds 613 = .ok (.irem, 1) := by decide +kernel
theorem dL_holds_614 : decode cL_holds 614 = .ok (.iconst 0, 1) := by decide +kernel
theorem dL_holds_615 : decode cL_holds 615 = .ok (.invokestatic 178, 3) := by decide +kernel
theorem dL_holds_618 : decode cL_holds 618 = .ok (.istore 11, 2) := by decide +kernel
theorem dL_holds_620 : decode cL_holds 620 = .ok (.iload 6, 2) := by decide +kernel
theorem dL_holds_622 : decode cL_holds 622 = .ok (.ifCond .eq 51, 3) := by decide +kernel
theorem dL_holds_625 : decode cL_holds 625 = .ok (.aload_n 0, 1) := by decide +kernel
theorem dL_holds_626 : decode cL_holds 626 = .ok (.bipush 11, 2) := by decide +kernel
theorem dL_holds_628 : decode cL_holds 628 = .ok (.iload_n 1, 1) := by decide +kernel
theorem dL_holds_629 : decode cL_holds 629 = .ok (.iconst 4, 1) := by decide +kernel
theorem dL_holds_630 : decode cL_holds 630 = .ok (.idiv, 1) := by decide +kernel
theorem dL_holds_631 : decode cL_holds 631 = .ok (.iconst 4, 1) := by decide +kernel
theorem dL_holds_632 : decode cL_holds 632 = .ok (.irem, 1) := by decide +kernel
theorem dL_holds_633 : decode cL_holds 633 = .ok (.iload_n 1, 1) := by decide +kernel
theorem dL_holds_634 : decode cL_holds 634 = .ok (.iconst 4, 1) := by decide +kernel
theorem dL_holds_635 : decode cL_holds 635 = .ok (.irem, 1) := by decide +kernel
theorem dL_holds_636 : decode cL_holds 636 = .ok (.iconst 0, 1) := by decide +kernel
theorem dL_holds_637 : decode cL_holds 637 = .ok (.invokestatic 178, 3) := by decide +kernel
theorem dL_holds_640 : decode cL_holds 640 = .ok (.iload 11, 2) := by decide +kernel
theorem dL_holds_642 : decode cL_holds 642 = .ok (.if_icmp .ne 31, 3) := by decide +kernel
theorem dL_holds_645 : decode cL_holds 645 = .ok (.aload_n 0, 1) := by decide +kernel
theorem dL_holds_646 : decode cL_holds 646 = .ok (.bipush 13, 2) := by decide +kernel
theorem dL_holds_648 : decode cL_holds 648 = .ok (.iconst 0, 1) := by decide +kernel
theorem dL_holds_649 : decode cL_holds 649 = .ok (.iconst 0, 1) := by decide +kernel
theorem dL_holds_650 : decode cL_holds 650 = .ok (.iconst 0, 1) := by decide +kernel
theorem dL_holds_651 : decode cL_holds 651 = .ok (.invokestatic 178, 3) := by decide +kernel
theorem dL_holds_654 : decode cL_holds 654 = .ok (.ifCond .lt 19, 3) := by decide +kernel
theorem dL_holds_657 : decode cL_holds 657 = .ok (.aload_n 0, 1) := by decide +kernel
theorem dL_holds_658 : decode cL_holds 658 = .ok (.bipush 13, 2) := by decide +kernel
theorem dL_holds_660 : decode cL_holds 660 = .ok (.iconst 0, 1) := by decide +kernel
theorem dL_holds_661 : decode cL_holds 661 = .ok (.iconst 0, 1) := by decide +kernel
theorem dL_holds_662 : decode cL_holds 662 = .ok (.iconst 0, 1) := by decide +kernel
theorem dL_holds_663 : decode cL_holds 663 = .ok (.invokestatic 178, 3) := by decide +kernel
theorem dL_holds_666 : decode cL_holds 666 = .ok (.ifCond .lt 7, 3) := by decide +kernel
theorem dL_holds_669 : decode cL_holds 669 = .ok (.iconst 1, 1) := by decide +kernel
theorem dL_holds_670 : decode cL_holds 670 = .ok (.goto 4, 3) := by decide +kernel
theorem dL_holds_673 : decode cL_holds 673 = .ok (.iconst 0, 1) := by decide +kernel
theorem dL_holds_674 : decode cL_holds 674 = .ok (.istore 6, 2) := by decide +kernel
theorem dL_holds_676 : decode cL_holds 676 = .ok (.iload 6, 2) := by decide +kernel
theorem dL_holds_678 : decode cL_holds 678 = .ok (.ifCond .eq 20, 3) := by decide +kernel
theorem dL_holds_681 : decode cL_holds 681 = .ok (.aload_n 0, 1) := by decide +kernel
theorem dL_holds_682 : decode cL_holds 682 = .ok (.iconst 2, 1) := by decide +kernel
theorem dL_holds_683 : decode cL_holds 683 = .ok (.iconst 5, 1) := by decide +kernel
theorem dL_holds_684 : decode cL_holds 684 = .ok (.iconst 0, 1) := by decide +kernel
theorem dL_holds_685 : decode cL_holds 685 = .ok (.iconst 0, 1) := by decide +kernel
theorem dL_holds_686 : decode cL_holds 686 = .ok (.invokestatic 178, 3) := by decide +kernel
theorem dL_holds_689 : decode cL_holds 689 = .ok (.iload 4, 2) := by decide +kernel
theorem dL_holds_691 : decode cL_holds 691 = .ok (.if_icmp .ne 7, 3) := by decide +kernel
theorem dL_holds_694 : decode cL_holds 694 = .ok (.iconst 1, 1) := by decide +kernel
theorem dL_holds_695 : decode cL_holds 695 = .ok (.goto 4, 3) := by decide +kernel
theorem dL_holds_698 : decode cL_holds 698 = .ok (.iconst 0, 1) := by decide +kernel
theorem dL_holds_699 : decode cL_holds 699 = .ok (.ireturn, 1) := by decide +kernel
theorem dL_act_0 : decode cL_act 0 = .ok (.aload_n 0, 1) := by decide +kernel
theorem dL_act_1 : decode cL_act 1 = .ok (.iconst 2, 1) := by decide +kernel
theorem dL_act_2 : decode cL_act 2 = .ok (.iconst 0, 1) := by decide +kernel
theorem dL_act_3 : decode cL_act 3 = .ok (.iconst 0, 1) := by decide +kernel
theorem dL_act_4 : decode cL_act 4 = .ok (.iconst 0, 1) := by decide +kernel
theorem dL_act_5 : decode cL_act 5 = .ok (.invokestatic 178, 3) := by decide +kernel
theorem dL_act_8 : decode cL_act 8 = .ok (.istore_n 3, 1) := by decide +kernel
theorem dL_act_9 : decode cL_act 9 = .ok (.aload_n 0, 1) := by decide +kernel
theorem dL_act_10 : decode cL_act 10 = .ok (.iconst 2, 1) := by decide +kernel
theorem dL_act_11 : decode cL_act 11 = .ok (.iconst 1, 1) := by decide +kernel
theorem dL_act_12 : decode cL_act 12 = .ok (.iconst 0, 1) := by decide +kernel
theorem dL_act_13 : decode cL_act 13 = .ok (.iconst 0, 1) := by decide +kernel
theorem dL_act_14 : decode cL_act 14 = .ok (.invokestatic 178, 3) := by decide +kernel
theorem dL_act_17 : decode cL_act 17 = .ok (.istore 4, 2) := by decide +kernel
theorem dL_act_19 : decode cL_act 19 = .ok (.iload_n 3, 1) := by decide +kernel
theorem dL_act_20 : decode cL_act 20 = .ok (.ifCond .ne 7, 3) := by decide +kernel
theorem dL_act_23 : decode cL_act 23 = .ok (.iconst 0, 1) := by decide +kernel
theorem dL_act_24 : decode cL_act 24 = .ok (.goto 6, 3) := by decide +kernel
theorem dL_act_27 : decode cL_act 27 = .ok (.iload_n 2, 1) := by decide +kernel
theorem dL_act_28 : decode cL_act 28 = .ok (.iload_n 3, 1) := by decide +kernel
theorem dL_act_29 : decode cL_act 29 = .ok (.irem, 1) := by decide +kernel
theorem dL_act_30 : decode cL_act 30 = .ok (.istore 5, 2) := by decide +kernel
theorem dL_act_32 : decode cL_act 32 = .ok (.iload_n 3, 1) := by decide +kernel
theorem dL_act_33 : decode cL_act 33 = .ok (.ifCond .ne 7, 3) := by decide +kernel
theorem dL_act_36 : decode cL_act 36 = .ok (.iconst 0, 1) := by decide +kernel
theorem dL_act_37 : decode cL_act 37 = .ok (.goto 9, 3) := by decide +kernel
theorem dL_act_40 : decode cL_act 40 = .ok (.iload_n 2, 1) := by decide +kernel
theorem dL_act_41 : decode cL_act 41 = .ok (.bipush 8, 2) := by decide +kernel
theorem dL_act_43 : decode cL_act 43 = .ok (.idiv, 1) := by decide +kernel
theorem dL_act_44 : decode cL_act 44 = .ok (.iload_n 3, 1) := by decide +kernel
theorem dL_act_45 : decode cL_act 45 = .ok (.irem, 1) := by decide +kernel
theorem dL_act_46 : decode cL_act 46 = .ok (.istore 6, 2) := by decide +kernel
theorem dL_act_48 : decode cL_act 48 = .ok (.iload 4, 2) := by decide +kernel
theorem dL_act_50 : decode cL_act 50 = .ok (.ifCond .ne 7, 3) := by decide +kernel
theorem dL_act_53 : decode cL_act 53 = .ok (.iconst 0, 1) := by decide +kernel
theorem dL_act_54 : decode cL_act 54 = .ok (.goto 10, 3) := by decide +kernel
theorem dL_act_57 : decode cL_act 57 = .ok (.iload_n 2, 1) := by decide +kernel
theorem dL_act_58 : decode cL_act 58 = .ok (.bipush 16, 2) := by decide +kernel
theorem dL_act_60 : decode cL_act 60 = .ok (.idiv, 1) := by decide +kernel
theorem dL_act_61 : decode cL_act 61 = .ok (.iload 4, 2) := by decide +kernel
theorem dL_act_63 : decode cL_act 63 = .ok (.irem, 1) := by decide +kernel
theorem dL_act_64 : decode cL_act 64 = .ok (.istore 7, 2) := by decide +kernel
theorem dL_act_66 : decode cL_act 66 = .ok (.iload_n 1, 1) := by decide +kernel
theorem dL_act_67 : decode cL_act 67 = .ok (.bipush 16, 2) := by decide +kernel
theorem dL_act_69 : decode cL_act 69 = .ok (.irem, 1) := by decide +kernel
theorem dL_act_70 : decode cL_act 70 = .ok (.tableswitch 265 0 10 #[58, 58, 68, 79, 99, 110, 126, 136, 148, 160, 160], 58) := by decide +kernel
theorem dL_act_128 : decode cL_act 128 = .ok (.aload_n 0, 1) := by decide +kernel
theorem dL_act_129 : decode cL_act 129 = .ok (.bipush 7, 2) := by decide +kernel
theorem dL_act_131 : decode cL_act 131 = .ok (.iconst 0, 1) := by decide +kernel
theorem dL_act_132 : decode cL_act 132 = .ok (.iconst 0, 1) := by decide +kernel
theorem dL_act_133 : decode cL_act 133 = .ok (.iconst 0, 1) := by decide +kernel
theorem dL_act_134 : decode cL_act 134 = .ok (.invokestatic 178, 3) := by decide +kernel
theorem dL_act_137 : decode cL_act 137 = .ok (.ireturn, 1) := by decide +kernel
theorem dL_act_138 : decode cL_act 138 = .ok (.aload_n 0, 1) := by decide +kernel
theorem dL_act_139 : decode cL_act 139 = .ok (.bipush 8, 2) := by decide +kernel
theorem dL_act_141 : decode cL_act 141 = .ok (.iload 7, 2) := by decide +kernel
theorem dL_act_143 : decode cL_act 143 = .ok (.iconst 0, 1) := by decide +kernel
theorem dL_act_144 : decode cL_act 144 = .ok (.iconst 0, 1) := by decide +kernel
theorem dL_act_145 : decode cL_act 145 = .ok (.invokestatic 178, 3) := by decide +kernel
theorem dL_act_148 : decode cL_act 148 = .ok (.ireturn, 1) := by decide +kernel
theorem dL_act_149 : decode cL_act 149 = .ok (.aload_n 0, 1) := by decide +kernel
theorem dL_act_150 : decode cL_act 150 = .ok (.bipush 9, 2) := by decide +kernel
theorem dL_act_152 : decode cL_act 152 = .ok (.iload 7, 2) := by decide +kernel
theorem dL_act_154 : decode cL_act 154 = .ok (.iconst 1, 1) := by decide +kernel
theorem dL_act_155 : decode cL_act 155 = .ok (.iload_n 2, 1) := by decide +kernel
theorem dL_act_156 : decode cL_act 156 = .ok (.sipush 256, 3) := by decide +kernel
theorem dL_act_159 : decode cL_act 159 = .ok (.idiv, 1) := by decide +kernel
theorem dL_act_160 : decode cL_act 160 = .ok (.bipush 9, 2) := by decide +kernel
theorem dL_act_162 : decode cL_act 162 = .ok (.irem, 1) := by decide +kernel
theorem dL_act_163 : decode cL_act 163 = .ok (.iadd, 1) := by decide +kernel
theorem dL_act_164 : decode cL_act 164 = .ok (.iconst 0, 1) := by decide +kernel
theorem dL_act_165 : decode cL_act 165 = .ok (.invokestatic 178, 3) := by decide +kernel
theorem dL_act_168 : decode cL_act 168 = .ok (.ireturn, 1) := by decide +kernel
theorem dL_act_169 : decode cL_act 169 = .ok (.aload_n 0, 1) := by decide +kernel
theorem dL_act_170 : decode cL_act 170 = .ok (.bipush 10, 2) := by decide +kernel
theorem dL_act_172 : decode cL_act 172 = .ok (.iload 7, 2) := by decide +kernel
theorem dL_act_174 : decode cL_act 174 = .ok (.iconst 0, 1) := by decide +kernel
theorem dL_act_175 : decode cL_act 175 = .ok (.iconst 0, 1) := by decide +kernel
theorem dL_act_176 : decode cL_act 176 = .ok (.invokestatic 178, 3) := by decide +kernel
theorem dL_act_179 : decode cL_act 179 = .ok (.ireturn, 1) := by decide +kernel
theorem dL_act_180 : decode cL_act 180 = .ok (.aload_n 0, 1) := by decide +kernel
theorem dL_act_181 : decode cL_act 181 = .ok (.bipush 11, 2) := by decide +kernel
theorem dL_act_183 : decode cL_act 183 = .ok (.iload_n 2, 1) := by decide +kernel
theorem dL_act_184 : decode cL_act 184 = .ok (.iconst 4, 1) := by decide +kernel
theorem dL_act_185 : decode cL_act 185 = .ok (.irem, 1) := by decide +kernel
theorem dL_act_186 : decode cL_act 186 = .ok (.iload_n 2, 1) := by decide +kernel
theorem dL_act_187 : decode cL_act 187 = .ok (.iconst 4, 1) := by decide +kernel
theorem dL_act_188 : decode cL_act 188 = .ok (.idiv, 1) := by decide +kernel
theorem dL_act_189 : decode cL_act 189 = .ok (.iconst 4, 1) := by decide +kernel
theorem dL_act_190 : decode cL_act 190 = .ok (.irem, 1) := by decide +kernel
theorem dL_act_191 : decode cL_act 191 = .ok (.iconst 0, 1) := by decide +kernel
theorem dL_act_192 : decode cL_act 192 = .ok (.invokestatic 178, 3) := by decide +kernel
theorem dL_act_195 : decode cL_act 195 = .ok (.ireturn, 1) := by decide +kernel
theorem dL_act_196 : decode cL_act 196 = .ok (.aload_n 0, 1) := by decide +kernel
theorem dL_act_197 : decode cL_act 197 = .ok (.bipush 13, 2) := by decide +kernel
theorem dL_act_199 : decode cL_act 199 = .ok (.iconst 0, 1) := by decide +kernel
theorem dL_act_200 : decode cL_act 200 = .ok (.iconst 0, 1) := by decide +kernel
theorem dL_act_201 : decode cL_act 201 = .ok (.iconst 0, 1) := by decide +kernel
theorem dL_act_202 : decode cL_act 202 = .ok (.invokestatic 178, 3) := by decide +kernel
theorem dL_act_205 : decode cL_act 205 = .ok (.ireturn, 1) := by decide +kernel
theorem dL_act_206 : decode cL_act 206 = .ok (.aload_n 0, 1) := by decide +kernel
theorem dL_act_207 : decode cL_act 207 = .ok (.bipush 20, 2) := by decide +kernel
theorem dL_act_209 : decode cL_act 209 = .ok (.iload_n 2, 1) := by decide +kernel
theorem dL_act_210 : decode cL_act 210 = .ok (.iconst 2, 1) := by decide +kernel
theorem dL_act_211 : decode cL_act 211 = .ok (.irem, 1) := by decide +kernel
theorem dL_act_212 : decode cL_act 212 = .ok (.iconst 0, 1) := by decide +kernel
theorem dL_act_213 : decode cL_act 213 = .ok (.iconst 0, 1) := by decide +kernel
theorem dL_act_214 : decode cL_act 214 = .ok (.invokestatic 178, 3) := by decide +kernel
theorem dL_act_217 : decode cL_act 217 = .ok (.ireturn, 1) := by decide +kernel
theorem dL_act_218 : decode cL_act 218 = .ok (.aload_n 0, 1) := by decide +kernel
theorem dL_act_219 : decode cL_act 219 = .ok (.bipush 21, 2) := by decide +kernel
theorem dL_act_221 : decode cL_act 221 = .ok (.iload_n 2, 1) := by decide +kernel
theorem dL_act_222 : decode cL_act 222 = .ok (.iconst 2, 1) := by decide +kernel
theorem dL_act_223 : decode cL_act 223 = .ok (.irem, 1) := by decide +kernel
theorem dL_act_224 : decode cL_act 224 = .ok (.iconst 0, 1) := by decide +kernel
theorem dL_act_225 : decode cL_act 225 = .ok (.iconst 0, 1) := by decide +kernel
theorem dL_act_226 : decode cL_act 226 = .ok (.invokestatic 178, 3) := by decide +kernel
theorem dL_act_229 : decode cL_act 229 = .ok (.ireturn, 1) := by decide +kernel
theorem dL_act_230 : decode cL_act 230 = .ok (.aload_n 0, 1) := by decide +kernel
theorem dL_act_231 : decode cL_act 231 = .ok (.invokevirtual 207, 3) := by decide +kernel
theorem dL_act_234 : decode cL_act 234 = .ok (.pop, 1) := by decide +kernel
theorem dL_act_235 : decode cL_act 235 = .ok (.aload_n 0, 1) := by decide +kernel
theorem dL_act_236 : decode cL_act 236 = .ok (.iconst 0, 1) := by decide +kernel
theorem dL_act_237 : decode cL_act 237 = .ok (.bipush 97, 2) := by decide +kernel
theorem dL_act_239 : decode cL_act 239 = .ok (.iload_n 2, 1) := by decide +kernel
theorem dL_act_240 : decode cL_act 240 = .ok (.iconst 4, 1) := by decide +kernel
theorem dL_act_241 : decode cL_act 241 = .ok (.irem, 1) := by decide +kernel
theorem dL_act_242 : decode cL_act 242 = .ok (.iadd, 1) := by decide +kernel
theorem dL_act_243 : decode cL_act 243 = .ok (.iconst 0, 1) := by decide +kernel
theorem dL_act_244 : decode cL_act 244 = .ok (.iconst 0, 1) := by decide +kernel
theorem dL_act_245 : decode cL_act 245 = .ok (.invokestatic 178, 3) := by decide +kernel
theorem dL_act_248 : decode cL_act 248 = .ok (.istore 8, 2) := by decide +kernel
theorem dL_act_250 : decode cL_act 250 = .ok (.aload_n 0, 1) := by decide +kernel
theorem dL_act_251 : decode cL_act 251 = .ok (.iconst 0, 1) := by decide +kernel
theorem dL_act_252 : decode cL_act 252 = .ok (.iload_n 2, 1) := by decide +kernel
theorem dL_act_253 : decode cL_act 253 = .ok (.iconst 4, 1) := by decide +kernel
theorem dL_act_254 : decode cL_act 254 = .ok (.idiv, 1) := by decide +kernel
theorem dL_act_255 : decode cL_act 255 = .ok (.iconst 2, 1) := by decide +kernel
theorem dL_act_256 : decode cL_act 256 = .ok (.irem, 1) := by decide +kernel
theorem dL_act_257 : decode cL_act 257 = .ok (.ifCond .ne 8, 3) := by decide +kernel
theorem dL_act_260 : decode cL_act 260 = .ok (.bipush 42, 2) := by decide +kernel
theorem dL_act_262 : decode cL_act 262 = .ok (.goto 5, 3) := by decide +kernel
theorem dL_act_265 : decode cL_act 265 = .ok (.bipush 43, 2) := by decide +kernel
theorem dL_act_267 : decode cL_act 267 = .ok (.iconst 0, 1) := by decide +kernel
theorem dL_act_268 : decode cL_act 268 = .ok (.iconst 0, 1) := by decide +kernel
theorem dL_act_269 : decode cL_act 269 = .ok (.invokestatic 178, 3) := by decide +kernel
theorem dL_act_272 : decode cL_act 272 = .ok (.istore 9, 2) := by decide +kernel
theorem dL_act_274 : decode cL_act 274 = .ok (.aload_n 0, 1) := by decide +kernel
theorem dL_act_275 : decode cL_act 275 = .ok (.iconst 0, 1) := by decide +kernel
theorem dL_act_276 : decode cL_act 276 = .ok (.iload_n 2, 1) := by decide +kernel
theorem dL_act_277 : decode cL_act 277 = .ok (.bipush 8, 2) := by decide +kernel
theorem dL_act_279 : decode cL_act 279 = .ok (.idiv, 1) := by decide +kernel
theorem dL_act_280 : decode cL_act 280 = .ok (.iconst 2, 1) := by decide +kernel
theorem dL_act_281 : decode cL_act 281 = .ok (.irem, 1) := by decide +kernel
theorem dL_act_282 : decode cL_act 282 = .ok (.ifCond .ne 15, 3) := by decide +kernel
theorem dL_act_285 : decode cL_act 285 = .ok (.bipush 65, 2) := by decide +kernel
theorem dL_act_287 : decode cL_act 287 = .ok (.iload_n 2, 1) := by decide +kernel
theorem dL_act_288 : decode cL_act 288 = .ok (.bipush 16, 2) := by decide +kernel
theorem dL_act_290 : decode cL_act 290 = .ok (.idiv, 1) := by decide +kernel
theorem dL_act_291 : decode cL_act 291 = .ok (.iconst 4, 1) := by decide +kernel
theorem dL_act_292 : decode cL_act 292 = .ok (.irem, 1) := by decide +kernel
theorem dL_act_293 : decode cL_act 293 = .ok (.iadd, 1) := by decide +kernel
theorem dL_act_294 : decode cL_act 294 = .ok (.goto 5, 3) := by decide +kernel
theorem dL_act_297 : decode cL_act 297 = .ok (.bipush 124, 2) := by decide +kernel
theorem dL_act_299 : decode cL_act 299 = .ok (.iconst 0, 1) := by decide +kernel
theorem dL_act_300 : decode cL_act 300 = .ok (.iconst 0, 1) := by decide +kernel
theorem dL_act_301 : decode cL_act 301 = .ok (.invokestatic 178, 3) := by decide +kernel
theorem dL_act_304 : decode cL_act 304 = .ok (.istore 10, 2) := by decide +kernel
theorem dL_act_306 : decode cL_act 306 = .ok (.iload 8, 2) := by decide +kernel
theorem dL_act_308 : decode cL_act 308 = .ok (.iload 9, 2) := by decide +kernel
theorem dL_act_310 : decode cL_act 310 = .ok (.iadd, 1) := by decide +kernel
theorem dL_act_311 : decode cL_act 311 = .ok (.iload 10, 2) := by decide +kernel
theorem dL_act_313 : decode cL_act 313 = .ok (.iadd, 1) := by decide +kernel
theorem dL_act_314 : decode cL_act 314 = .ok (.aload_n 0, 1) := by decide +kernel
theorem dL_act_315 : decode cL_act 315 = .ok (.iconst 0, 1) := by decide +kernel
theorem dL_act_316 : decode cL_act 316 = .ok (.bipush 46, 2) := by decide +kernel
theorem dL_act_318 : decode cL_act 318 = .ok (.iconst 0, 1) := by decide +kernel
theorem dL_act_319 : decode cL_act 319 = .ok (.iconst 0, 1) := by decide +kernel
theorem dL_act_320 : decode cL_act 320 = .ok (.invokestatic 178, 3) := by decide +kernel
theorem dL_act_323 : decode cL_act 323 = .ok (.iadd, 1) := by decide +kernel
theorem dL_act_324 : decode cL_act 324 = .ok (.aload_n 0, 1) := by decide +kernel
theorem dL_act_325 : decode cL_act 325 = .ok (.bipush 12, 2) := by decide +kernel
theorem dL_act_327 : decode cL_act 327 = .ok (.iconst 0, 1) := by decide +kernel
theorem dL_act_328 : decode cL_act 328 = .ok (.iconst 0, 1) := by decide +kernel
theorem dL_act_329 : decode cL_act 329 = .ok (.iconst 0, 1) := by decide +kernel
theorem dL_act_330 : decode cL_act 330 = .ok (.invokestatic 178, 3) := by decide +kernel
theorem dL_act_333 : decode cL_act 333 = .ok (.iadd, 1) := by decide +kernel
theorem dL_act_334 : decode cL_act 334 = .ok (.ireturn, 1) := by decide +kernel
theorem dL_act_335 : decode cL_act 335 = .ok (.aload_n 0, 1) := by decide +kernel
theorem dL_act_336 : decode cL_act 336 = .ok (.iload 5, 2) := by decide +kernel
theorem dL_act_338 : decode cL_act 338 = .ok (.iload_n 2, 1) := by decide +kernel
theorem dL_act_339 : decode cL_act 339 = .ok (.bipush 64, 2) := by decide +kernel
theorem dL_act_341 : decode cL_act 341 = .ok (.idiv, 1) := by decide +kernel
theorem dL_act_342 : decode cL_act 342 = .ok (.iconst 4, 1) := by decide +kernel
theorem dL_act_343 : decode cL_act 343 = .ok (.irem, 1) := by decide +kernel
theorem dL_act_344 : decode cL_act 344 = .ok (.iload 6, 2) := by decide +kernel
theorem dL_act_346 : decode cL_act 346 = .ok (.iconst 1, 1) := by decide +kernel
theorem dL_act_347 : decode cL_act 347 = .ok (.iload_n 2, 1) := by decide +kernel
theorem dL_act_348 : decode cL_act 348 = .ok (.sipush 256, 3) := by decide +kernel
theorem dL_act_351 : decode cL_act 351 = .ok (.idiv, 1) := by decide +kernel
theorem dL_act_352 : decode cL_act 352 = .ok (.bipush 9, 2) := by decide +kernel
theorem dL_act_354 : decode cL_act 354 = .ok (.irem, 1) := by decide +kernel
theorem dL_act_355 : decode cL_act 355 = .ok (.iadd, 1) := by decide +kernel
theorem dL_act_356 : decode cL_act 356 = .ok (.invokestatic 186, 3) := by decide +kernel
theorem dL_act_359 : decode cL_act 359 = .ok (.ireturn, 1) := by decide +kernel
theorem dL_law_0 : decode cL_law 0 = .ok (.new 8, 3) := by decide +kernel
theorem dL_law_3 : decode cL_law 3 = .ok (.dup, 1) := by decide +kernel
theorem dL_law_4 : decode cL_law 4 = .ok (.invokespecial 210, 3) := by decide +kernel
theorem dL_law_7 : decode cL_law 7 = .ok (.astore_n 1, 1) := by decide +kernel
theorem dL_law_8 : decode cL_law 8 = .ok (.new 8, 3) := by decide +kernel
theorem dL_law_11 : decode cL_law 11 = .ok (.dup, 1) := by decide +kernel
theorem dL_law_12 : decode cL_law 12 = .ok (.invokespecial 210, 3) := by decide +kernel
theorem dL_law_15 : decode cL_law 15 = .ok (.astore_n 2, 1) := by decide +kernel
theorem dL_law_16 : decode cL_law 16 = .ok (.iconst 1, 1) := by decide +kernel
theorem dL_law_17 : decode cL_law 17 = .ok (.istore_n 3, 1) := by decide +kernel
theorem dL_law_18 : decode cL_law 18 = .ok (.iconst 0, 1) := by decide +kernel
theorem dL_law_19 : decode cL_law 19 = .ok (.istore 4, 2) := by decide +kernel
theorem dL_law_21 : decode cL_law 21 = .ok (.iload 4, 2) := by decide +kernel
theorem dL_law_23 : decode cL_law 23 = .ok (.bipush 28, 2) := by decide +kernel
theorem dL_law_25 : decode cL_law 25 = .ok (.if_icmp .ge 215, 3) := by decide +kernel
theorem dL_law_28 : decode cL_law 28 = .ok (.iload_n 3, 1) := by decide +kernel
theorem dL_law_29 : decode cL_law 29 = .ok (.ifCond .eq 211, 3) := by decide +kernel
theorem dL_law_32 : decode cL_law 32 = .ok (.aload_n 0, 1) := by decide +kernel
theorem dL_law_33 : decode cL_law 33 = .ok (.iconst 2, 1) := by decide +kernel
theorem dL_law_34 : decode cL_law 34 = .ok (.iload 4, 2) := by decide +kernel
theorem dL_law_36 : decode cL_law 36 = .ok (.imul, 1) := by decide +kernel
theorem dL_law_37 : decode cL_law 37 = .ok (.invokestatic 211, 3) := by decide +kernel
theorem dL_law_40 : decode cL_law 40 = .ok (.istore 5, 2) := by decide +kernel
theorem dL_law_42 : decode cL_law 42 = .ok (.aload_n 0, 1) := by decide +kernel
theorem dL_law_43 : decode cL_law 43 = .ok (.iconst 2, 1) := by decide +kernel
theorem dL_law_44 : decode cL_law 44 = .ok (.iload 4, 2) := by decide +kernel
theorem dL_law_46 : decode cL_law 46 = .ok (.imul, 1) := by decide +kernel
theorem dL_law_47 : decode cL_law 47 = .ok (.iconst 1, 1) := by decide +kernel
theorem dL_law_48 : decode cL_law 48 = .ok (.iadd, 1) := by decide +kernel
theorem dL_law_49 : decode cL_law 49 = .ok (.invokestatic 211, 3) := by decide +kernel
theorem dL_law_52 : decode cL_law 52 = .ok (.istore 6, 2) := by decide +kernel
theorem dL_law_54 : decode cL_law 54 = .ok (.aload_n 1, 1) := by decide +kernel
theorem dL_law_55 : decode cL_law 55 = .ok (.iload 5, 2) := by decide +kernel
theorem dL_law_57 : decode cL_law 57 = .ok (.invokestatic 215, 3) := by decide +kernel
theorem dL_law_60 : decode cL_law 60 = .ok (.ifCond .eq 45, 3) := by decide +kernel
theorem dL_law_63 : decode cL_law 63 = .ok (.aload_n 1, 1) := by decide +kernel
theorem dL_law_64 : decode cL_law 64 = .ok (.iload 5, 2) := by decide +kernel
theorem dL_law_66 : decode cL_law 66 = .ok (.iload 6, 2) := by decide +kernel
theorem dL_law_68 : decode cL_law 68 = .ok (.invokestatic 219, 3) := by decide +kernel
theorem dL_law_71 : decode cL_law 71 = .ok (.aload_n 2, 1) := by decide +kernel
theorem dL_law_72 : decode cL_law 72 = .ok (.iload 5, 2) := by decide +kernel
theorem dL_law_74 : decode cL_law 74 = .ok (.iload 6, 2) := by decide +kernel
theorem dL_law_76 : decode cL_law 76 = .ok (.invokestatic 219, 3) := by decide +kernel
theorem dL_law_79 : decode cL_law 79 = .ok (.if_icmp .ne 26, 3) := by decide +kernel
theorem dL_law_82 : decode cL_law 82 = .ok (.aload_n 1, 1) := by decide +kernel
theorem dL_law_83 : decode cL_law 83 = .ok (.iload 6, 2) := by decide +kernel
theorem dL_law_85 : decode cL_law 85 = .ok (.invokestatic 215, 3) := by decide +kernel
theorem dL_law_88 : decode cL_law 88 = .ok (.ifCond .eq 17, 3) := by decide +kernel
theorem dL_law_91 : decode cL_law 91 = .ok (.aload_n 1, 1) := by decide +kernel
theorem dL_law_92 : decode cL_law 92 = .ok (.aload_n 2, 1) := by decide +kernel
theorem dL_law_93 : decode cL_law 93 = .ok (.iload 5, 2) := by decide +kernel
theorem dL_law_95 : decode cL_law 95 = .ok (.invokestatic 222, 3) := by decide +kernel
theorem dL_law_98 : decode cL_law 98 = .ok (.ifCond .eq 7, 3) := by decide +kernel
theorem dL_law_101 : decode cL_law 101 = .ok (.iconst 1, 1) := by decide +kernel
theorem dL_law_102 : decode cL_law 102 = .ok (.goto 4, 3) := by decide +kernel
theorem dL_law_105 : decode cL_law 105 = .ok (.iconst 0, 1) := by decide +kernel
theorem dL_law_106 : decode cL_law 106 = .ok (.istore_n 3, 1) := by decide +kernel
theorem dL_law_107 : decode cL_law 107 = .ok (.iload 4, 2) := by decide +kernel
theorem dL_law_109 : decode cL_law 109 = .ok (.iconst 4, 1) := by decide +kernel
theorem dL_law_110 : decode cL_law 110 = .ok (.irem, 1) := by decide +kernel
theorem dL_law_111 : decode cL_law 111 = .ok (.iconst 3, 1) := by decide +kernel
theorem dL_law_112 : decode cL_law 112 = .ok (.if_icmp .ne 122, 3) := by decide +kernel
theorem dL_law_115 : decode cL_law 115 = .ok (.iload_n 3, 1) := by decide +kernel
theorem dL_law_116 : decode cL_law 116 = .ok (.ifCond .eq 118, 3) := by decide +kernel
theorem dL_law_119 : decode cL_law 119 = .ok (.aload_n 1, 1) := by decide +kernel
theorem dL_law_120 : decode cL_law 120 = .ok (.iload 6, 2) := by decide +kernel
theorem dL_law_122 : decode cL_law 122 = .ok (.invokestatic 226, 3) := by decide +kernel
theorem dL_law_125 : decode cL_law 125 = .ok (.ifCond .eq 16, 3) := by decide +kernel
theorem dL_law_128 : decode cL_law 128 = .ok (.aload_n 2, 1) := by decide +kernel
theorem dL_law_129 : decode cL_law 129 = .ok (.iload 6, 2) := by decide +kernel
theorem dL_law_131 : decode cL_law 131 = .ok (.invokestatic 226, 3) := by decide +kernel
theorem dL_law_134 : decode cL_law 134 = .ok (.ifCond .eq 7, 3) := by decide +kernel
theorem dL_law_137 : decode cL_law 137 = .ok (.iconst 1, 1) := by decide +kernel
theorem dL_law_138 : decode cL_law 138 = .ok (.goto 4, 3) := by decide +kernel
theorem dL_law_141 : decode cL_law 141 = .ok (.iconst 0, 1) := by decide +kernel
theorem dL_law_142 : decode cL_law 142 = .ok (.istore_n 3, 1) := by decide +kernel
theorem dL_law_143 : decode cL_law 143 = .ok (.iload 5, 2) := by decide +kernel
theorem dL_law_145 : decode cL_law 145 = .ok (.i2l, 1) := by decide +kernel
theorem dL_law_146 : decode cL_law 146 = .ok (.ldc2_w 229, 3) := by decide +kernel
theorem dL_law_149 : decode cL_law 149 = .ok (.lmul, 1) := by decide +kernel
theorem dL_law_150 : decode cL_law 150 = .ok (.ldc2_w 231, 3) := by decide +kernel
theorem dL_law_153 : decode cL_law 153 = .ok (.lsub, 1) := by decide +kernel
theorem dL_law_154 : decode cL_law 154 = .ok (.lstore 7, 2) := by decide +kernel
theorem dL_law_156 : decode cL_law 156 = .ok (.aload_n 1, 1) := by decide +kernel
theorem dL_law_157 : decode cL_law 157 = .ok (.lload 7, 2) := by decide +kernel
theorem dL_law_159 : decode cL_law 159 = .ok (.iconst 1, 1) := by decide +kernel
theorem dL_law_160 : decode cL_law 160 = .ok (.iload 6, 2) := by decide +kernel
theorem dL_law_162 : decode cL_law 162 = .ok (.iconst 5, 1) := by decide +kernel
theorem dL_law_163 : decode cL_law 163 = .ok (.irem, 1) := by decide +kernel
theorem dL_law_164 : decode cL_law 164 = .ok (.iadd, 1) := by decide +kernel
theorem dL_law_165 : decode cL_law 165 = .ok (.invokestatic 182, 3) := by decide +kernel
theorem dL_law_168 : decode cL_law 168 = .ok (.istore 9, 2) := by decide +kernel
theorem dL_law_170 : decode cL_law 170 = .ok (.iload_n 3, 1) := by decide +kernel
theorem dL_law_171 : decode cL_law 171 = .ok (.ifCond .eq 61, 3) := by decide +kernel
theorem dL_law_174 : decode cL_law 174 = .ok (.iload 9, 2) := by decide +kernel
theorem dL_law_176 : decode cL_law 176 = .ok (.aload_n 2, 1) := by decide +kernel
theorem dL_law_177 : decode cL_law 177 = .ok (.lload 7, 2) := by decide +kernel
theorem dL_law_179 : decode cL_law 179 = .ok (.iconst 1, 1) := by decide +kernel
theorem dL_law_180 : decode cL_law 180 = .ok (.iload 6, 2) := by decide +kernel
theorem dL_law_182 : decode cL_law 182 = .ok (.iconst 5, 1) := by decide +kernel
theorem dL_law_183 : decode cL_law 183 = .ok (.irem, 1) := by decide +kernel
theorem dL_law_184 : decode cL_law 184 = .ok (.iadd, 1) := by decide +kernel
theorem dL_law_185 : decode cL_law 185 = .ok (.invokestatic 182, 3) := by decide +kernel
theorem dL_law_188 : decode cL_law 188 = .ok (.if_icmp .ne 44, 3) := by decide +kernel
theorem dL_law_191 : decode cL_law 191 = .ok (.aload_n 1, 1) := by decide +kernel
theorem dL_law_192 : decode cL_law 192 = .ok (.iconst 2, 1) := by decide +kernel
theorem dL_law_193 : decode cL_law 193 = .ok (.iload 6, 2) := by decide +kernel
theorem dL_law_195 : decode cL_law 195 = .ok (.i2l, 1) := by decide +kernel
theorem dL_law_196 : decode cL_law 196 = .ok (.ldc2_w 233, 3) := by decide +kernel
theorem dL_law_199 : decode cL_law 199 = .ok (.lmul, 1) := by decide +kernel
theorem dL_law_200 : decode cL_law 200 = .ok (.invokestatic 189, 3) := by decide +kernel
theorem dL_law_203 : decode cL_law 203 = .ok (.aload_n 2, 1) := by decide +kernel
theorem dL_law_204 : decode cL_law 204 = .ok (.iconst 2, 1) := by decide +kernel
theorem dL_law_205 : decode cL_law 205 = .ok (.iload 6, 2) := by decide +kernel
theorem dL_law_207 : decode cL_law 207 = .ok (.i2l, 1) := by decide +kernel
theorem dL_law_208 : decode cL_law 208 = .ok (.ldc2_w 233, 3) := by decide +kernel
theorem dL_law_211 : decode cL_law 211 = .ok (.lmul, 1) := by decide +kernel
theorem dL_law_212 : decode cL_law 212 = .ok (.invokestatic 189, 3) := by decide +kernel
theorem dL_law_215 : decode cL_law 215 = .ok (.if_icmp .ne 17, 3) := by decide +kernel
theorem dL_law_218 : decode cL_law 218 = .ok (.aload_n 1, 1) := by decide +kernel
theorem dL_law_219 : decode cL_law 219 = .ok (.aload_n 2, 1) := by decide +kernel
theorem dL_law_220 : decode cL_law 220 = .ok (.iload 6, 2) := by decide +kernel
theorem dL_law_222 : decode cL_law 222 = .ok (.invokestatic 222, 3) := by decide +kernel
theorem dL_law_225 : decode cL_law 225 = .ok (.ifCond .eq 7, 3) := by decide +kernel
theorem dL_law_228 : decode cL_law 228 = .ok (.iconst 1, 1) := by decide +kernel
theorem dL_law_229 : decode cL_law 229 = .ok (.goto 4, 3) := by decide +kernel
theorem dL_law_232 : decode cL_law 232 = .ok (.iconst 0, 1) := by decide +kernel
theorem dL_law_233 : decode cL_law 233 = .ok (.istore_n 3, 1) := by decide +kernel
theorem dL_law_234 : decode cL_law 234 = .ok (.iinc 4 1, 3) := by decide +kernel
theorem dL_law_237 : decode cL_law 237 = .ok (.goto (-216), 3) := by decide +kernel
theorem dL_law_240 : decode cL_law 240 = .ok (.iload_n 3, 1) := by decide +kernel
theorem dL_law_241 : decode cL_law 241 = .ok (.ireturn, 1) := by decide +kernel
