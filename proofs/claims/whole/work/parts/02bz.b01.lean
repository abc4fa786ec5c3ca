theorem dL_setLatest_23 : decode cL_setLatest 23 = .ok (.ireturn, 1) := by decide +kernel
theorem dL_setLatest_24 : decode cL_setLatest 24 = .ok (.iconst 0, 1) := by decide +kernel
theorem dL_setLatest_25 : decode cL_setLatest 25 = .ok (.ireturn, 1) := by decide +kernel
theorem dL_latestSource_0 : decode cL_latestSource 0 = .ok (.aload_n 2, 1) := by decide +kernel
theorem dL_latestSource_1 : decode cL_latestSource 1 = .ok (.iconst 0, 1) := by decide +kernel
theorem dL_latestSource_2 : decode cL_latestSource 2 = .ok (.aload_n 0, 1) := by decide +kernel
theorem dL_latestSource_3 : decode cL_latestSource 3 = .ok (.iload_n 1, 1) := by decide +kernel
theorem dL_latestSource_4 : decode cL_latestSource 4 = .ok (.invokevirtual 71, 3) := by decide +kernel
theorem dL_latestSource_7 : decode cL_latestSource 7 = .ok (.i2l, 1) := by decide +kernel
theorem dL_latestSource_8 : decode cL_latestSource 8 = .ok (.lastore, 1) := by decide +kernel
theorem dL_latestSource_9 : decode cL_latestSource 9 = .ok (.goto 9, 3) := by decide +kernel
theorem dL_latestSource_12 : decode cL_latestSource 12 = .ok (.astore_n 3, 1) := by decide +kernel
theorem dL_latestSource_13 : decode cL_latestSource 13 = .ok (.iconst 1, 1) := by decide +kernel
theorem dL_latestSource_14 : decode cL_latestSource 14 = .ok (.ireturn, 1) := by decide +kernel
theorem dL_latestSource_15 : decode cL_latestSource 15 = .ok (.astore_n 3, 1) := by decide +kernel
theorem dL_latestSource_16 : decode cL_latestSource 16 = .ok (.iconst 2, 1) := by decide +kernel
theorem dL_latestSource_17 : decode cL_latestSource 17 = .ok (.ireturn, 1) := by decide +kernel
theorem dL_latestSource_18 : decode cL_latestSource 18 = .ok (.iconst 0, 1) := by decide +kernel
theorem dL_latestSource_19 : decode cL_latestSource 19 = .ok (.ireturn, 1) := by decide +kernel
theorem dL_baseLevel_0 : decode cL_baseLevel 0 = .ok (.aload_n 2, 1) := by decide +kernel
theorem dL_baseLevel_1 : decode cL_baseLevel 1 = .ok (.iconst 0, 1) := by decide +kernel
theorem dL_baseLevel_2 : decode cL_baseLevel 2 = .ok (.aload_n 0, 1) := by decide +kernel
theorem dL_baseLevel_3 : decode cL_baseLevel 3 = .ok (.iload_n 1, 1) := by decide +kernel
theorem dL_baseLevel_4 : decode cL_baseLevel 4 = .ok (.invokevirtual 74, 3) := by decide +kernel
theorem dL_baseLevel_7 : decode cL_baseLevel 7 = .ok (.i2l, 1) := by decide +kernel
theorem dL_baseLevel_8 : decode cL_baseLevel 8 = .ok (.lastore, 1) := by decide +kernel
theorem dL_baseLevel_9 : decode cL_baseLevel 9 = .ok (.goto 6, 3) := by decide +kernel
theorem dL_baseLevel_12 : decode cL_baseLevel 12 = .ok (.astore_n 3, 1) := by decide +kernel
theorem dL_baseLevel_13 : decode cL_baseLevel 13 = .ok (.iconst 1, 1) := by decide +kernel
theorem dL_baseLevel_14 : decode cL_baseLevel 14 = .ok (.ireturn, 1) := by decide +kernel
theorem dL_baseLevel_15 : decode cL_baseLevel 15 = .ok (.iconst 0, 1) := by decide +kernel
theorem dL_baseLevel_16 : decode cL_baseLevel 16 = .ok (.ireturn, 1) := by decide +kernel
theorem dL_addEffect_0 : decode cL_addEffect 0 = .ok (.aload 6, 2) := by decide +kernel
theorem dL_addEffect_2 : decode cL_addEffect 2 = .ok (.iconst 0, 1) := by decide +kernel
theorem dL_addEffect_3 : decode cL_addEffect 3 = .ok (.aload_n 0, 1) := by decide +kernel
theorem dL_addEffect_4 : decode cL_addEffect 4 = .ok (.iload_n 1, 1) := by decide +kernel
theorem dL_addEffect_5 : decode cL_addEffect 5 = .ok (.iload_n 2, 1) := by decide +kernel
theorem dL_addEffect_6 : decode cL_addEffect 6 = .ok (.iload_n 3, 1) := by decide +kernel
theorem dL_addEffect_7 : decode cL_addEffect 7 = .ok (.iload 4, 2) := by decide +kernel
theorem dL_addEffect_9 : decode cL_addEffect 9 = .ok (.iload 5, 2) := by decide +kernel
theorem dL_addEffect_11 : decode cL_addEffect 11 = .ok (.invokevirtual 77, 3) := by decide +kernel
theorem dL_addEffect_14 : decode cL_addEffect 14 = .ok (.i2l, 1) := by decide +kernel
theorem dL_addEffect_15 : decode cL_addEffect 15 = .ok (.lastore, 1) := by decide +kernel
theorem dL_addEffect_16 : decode cL_addEffect 16 = .ok (.goto 15, 3) := by decide +kernel
theorem dL_addEffect_19 : decode cL_addEffect 19 = .ok (.astore 7, 2) := by decide +kernel
theorem dL_addEffect_21 : decode cL_addEffect 21 = .ok (.iconst 1, 1) := by decide +kernel
theorem dL_addEffect_22 : decode cL_addEffect 22 = .ok (.ireturn, 1) := by decide +kernel
theorem dL_addEffect_23 : decode cL_addEffect 23 = .ok (.astore 7, 2) := by decide +kernel
theorem dL_addEffect_25 : decode cL_addEffect 25 = .ok (.iconst 2, 1) := by decide +kernel
theorem dL_addEffect_26 : decode cL_addEffect 26 = .ok (.ireturn, 1) := by decide +kernel
theorem dL_addEffect_27 : decode cL_addEffect 27 = .ok (.astore 7, 2) := by decide +kernel
theorem dL_addEffect_29 : decode cL_addEffect 29 = .ok (.iconst 3, 1) := by decide +kernel
theorem dL_addEffect_30 : decode cL_addEffect 30 = .ok (.ireturn, 1) := by decide +kernel
theorem dL_addEffect_31 : decode cL_addEffect 31 = .ok (.iconst 0, 1) := by decide +kernel
theorem dL_addEffect_32 : decode cL_addEffect 32 = .ok (.ireturn, 1) := by decide +kernel
theorem dL_startEffect_0 : decode cL_startEffect 0 = .ok (.aload_n 2, 1) := by decide +kernel
theorem dL_startEffect_1 : decode cL_startEffect 1 = .ok (.iconst 0, 1) := by decide +kernel
theorem dL_startEffect_2 : decode cL_startEffect 2 = .ok (.aload_n 0, 1) := by decide +kernel
theorem dL_startEffect_3 : decode cL_startEffect 3 = .ok (.iload_n 1, 1) := by decide +kernel
theorem dL_startEffect_4 : decode cL_startEffect 4 = .ok (.invokevirtual 81, 3) := by decide +kernel
theorem dL_startEffect_7 : decode cL_startEffect 7 = .ok (.i2l, 1) := by decide +kernel
theorem dL_startEffect_8 : decode cL_startEffect 8 = .ok (.lastore, 1) := by decide +kernel
theorem dL_startEffect_9 : decode cL_startEffect 9 = .ok (.goto 9, 3) := by decide +kernel
theorem dL_startEffect_12 : decode cL_startEffect 12 = .ok (.astore_n 3, 1) := by decide +kernel
theorem dL_startEffect_13 : decode cL_startEffect 13 = .ok (.iconst 1, 1) := by decide +kernel
theorem dL_startEffect_14 : decode cL_startEffect 14 = .ok (.ireturn, 1) := by decide +kernel
theorem dL_startEffect_15 : decode cL_startEffect 15 = .ok (.astore_n 3, 1) := by decide +kernel
theorem dL_startEffect_16 : decode cL_startEffect 16 = .ok (.iconst 2, 1) := by decide +kernel
theorem dL_startEffect_17 : decode cL_startEffect 17 = .ok (.ireturn, 1) := by decide +kernel
theorem dL_startEffect_18 : decode cL_startEffect 18 = .ok (.iconst 0, 1) := by decide +kernel
theorem dL_startEffect_19 : decode cL_startEffect 19 = .ok (.ireturn, 1) := by decide +kernel
theorem dL_stopEffect_0 : decode cL_stopEffect 0 = .ok (.aload_n 2, 1) := by decide +kernel
theorem dL_stopEffect_1 : decode cL_stopEffect 1 = .ok (.iconst 0, 1) := by decide +kernel
theorem dL_stopEffect_2 : decode cL_stopEffect 2 = .ok (.aload_n 0, 1) := by decide +kernel
theorem dL_stopEffect_3 : decode cL_stopEffect 3 = .ok (.iload_n 1, 1) := by decide +kernel
theorem dL_stopEffect_4 : decode cL_stopEffect 4 = .ok (.invokevirtual 84, 3) := by decide +kernel
theorem dL_stopEffect_7 : decode cL_stopEffect 7 = .ok (.i2l, 1) := by decide +kernel
theorem dL_stopEffect_8 : decode cL_stopEffect 8 = .ok (.lastore, 1) := by decide +kernel
theorem dL_stopEffect_9 : decode cL_stopEffect 9 = .ok (.goto 9, 3) := by decide +kernel
theorem dL_stopEffect_12 : decode cL_stopEffect 12 = .ok (.astore_n 3, 1) := by decide +kernel
theorem dL_stopEffect_13 : decode cL_stopEffect 13 = .ok (.iconst 1, 1) := by decide +kernel
theorem dL_stopEffect_14 : decode cL_stopEffect 14 = .ok (.ireturn, 1) := by decide +kernel
theorem dL_stopEffect_15 : decode cL_stopEffect 15 = .ok (.astore_n 3, 1) := by decide +kernel
theorem dL_stopEffect_16 : decode cL_stopEffect 16 = .ok (.iconst 2, 1) := by decide +kernel
theorem dL_stopEffect_17 : decode cL_stopEffect 17 = .ok (.ireturn, 1) := by decide +kernel
theorem dL_stopEffect_18 : decode cL_stopEffect 18 = .ok (.iconst 0, 1) := by decide +kernel
theorem dL_stopEffect_19 : decode cL_stopEffect 19 = .ok (.ireturn, 1) := by decide +kernel
theorem dL_effectOn_0 : decode cL_effectOn 0 = .ok (.aload_n 3, 1) := by decide +kernel
theorem dL_effectOn_1 : decode cL_effectOn 1 = .ok (.iconst 0, 1) := by decide +kernel
theorem dL_effectOn_2 : decode cL_effectOn 2 = .ok (.aload_n 0, 1) := by decide +kernel
theorem dL_effectOn_3 : decode cL_effectOn 3 = .ok (.iload_n 1, 1) := by decide +kernel
theorem dL_effectOn_4 : decode cL_effectOn 4 = .ok (.iload_n 2, 1) := by decide +kernel
theorem dL_effectOn_5 : decode cL_effectOn 5 = .ok (.invokevirtual 87, 3) := by decide +kernel
theorem dL_effectOn_8 : decode cL_effectOn 8 = .ok (.i2l, 1) := by decide +kernel
theorem dL_effectOn_9 : decode cL_effectOn 9 = .ok (.lastore, 1) := by decide +kernel
theorem dL_effectOn_10 : decode cL_effectOn 10 = .ok (.goto 7, 3) := by decide +kernel
theorem dL_effectOn_13 : decode cL_effectOn 13 = .ok (.astore 4, 2) := by decide +kernel
theorem dL_effectOn_15 : decode cL_effectOn 15 = .ok (.iconst 1, 1) := by decide +kernel
theorem dL_effectOn_16 : decode cL_effectOn 16 = .ok (.ireturn, 1) := by decide +kernel
theorem dL_effectOn_17 : decode cL_effectOn 17 = .ok (.iconst 0, 1) := by decide +kernel
theorem dL_effectOn_18 : decode cL_effectOn 18 = .ok (.ireturn, 1) := by decide +kernel
theorem dL_park_0 : decode cL_park 0 = .ok (.aload_n 3, 1) := by decide +kernel
theorem dL_park_1 : decode cL_park 1 = .ok (.iconst 0, 1) := by decide +kernel
theorem dL_park_2 : decode cL_park 2 = .ok (.aload_n 0, 1) := by decide +kernel
theorem dL_park_3 : decode cL_park 3 = .ok (.iload_n 1, 1) := by decide +kernel
theorem dL_park_4 : decode cL_park 4 = .ok (.iload_n 2, 1) := by decide +kernel
theorem dL_park_5 : decode cL_park 5 = .ok (.invokevirtual 90, 3) := by decide +kernel
theorem dL_park_8 : decode cL_park 8 = .ok (.i2l, 1) := by decide +kernel
theorem dL_park_9 : decode cL_park 9 = .ok (.lastore, 1) := by decide +kernel
theorem dL_park_10 : decode cL_park 10 = .ok (.goto 11, 3) := by decide +kernel
theorem dL_park_13 : decode cL_park 13 = .ok (.astore 4, 2) := by decide +kernel
theorem dL_park_15 : decode cL_park 15 = .ok (.iconst 1, 1) := by decide +kernel
theorem dL_park_16 : decode cL_park 16 = .ok (.ireturn, 1) := by decide +kernel
theorem dL_park_17 : decode cL_park 17 = .ok (.astore 4, 2) := by decide +kernel
theorem dL_park_19 : decode cL_park 19 = .ok (.iconst 2, 1) := by decide +kernel
theorem dL_park_20 : decode cL_park 20 = .ok (.ireturn, 1) := by decide +kernel
theorem dL_park_21 : decode cL_park 21 = .ok (.iconst 0, 1) := by decide +kernel
theorem dL_park_22 : decode cL_park 22 = .ok (.ireturn, 1) := by decide +kernel
theorem dL_unpark_0 : decode cL_unpark 0 = .ok (.aload_n 2, 1) := by decide +kernel
theorem dL_unpark_1 : decode cL_unpark 1 = .ok (.iconst 0, 1) := by decide +kernel
theorem dL_unpark_2 : decode cL_unpark 2 = .ok (.aload_n 0, 1) := by decide +kernel
theorem dL_unpark_3 : decode cL_unpark 3 = .ok (.iload_n 1, 1) := by decide +kernel
theorem dL_unpark_4 : decode cL_unpark 4 = .ok (.invokevirtual 93, 3) := by decide +kernel
theorem dL_unpark_7 : decode cL_unpark 7 = .ok (.i2l, 1) := by decide +kernel
theorem dL_unpark_8 : decode cL_unpark 8 = .ok (.lastore, 1) := by decide +kernel
theorem dL_unpark_9 : decode cL_unpark 9 = .ok (.goto 9, 3) := by decide +kernel
theorem dL_unpark_12 : decode cL_unpark 12 = .ok (.astore_n 3, 1) := by decide +kernel
theorem dL_unpark_13 : decode cL_unpark 13 = .ok (.iconst 1, 1) := by decide +kernel
theorem dL_unpark_14 : decode cL_unpark 14 = .ok (.ireturn, 1) := by decide +kernel
theorem dL_unpark_15 : decode cL_unpark 15 = .ok (.astore_n 3, 1) := by decide +kernel
theorem dL_unpark_16 : decode cL_unpark 16 = .ok (.iconst 2, 1) := by decide +kernel
theorem dL_unpark_17 : decode cL_unpark 17 = .ok (.ireturn, 1) := by decide +kernel
theorem dL_unpark_18 : decode cL_unpark 18 = .ok (.iconst 0, 1) := by decide +kernel
theorem dL_unpark_19 : decode cL_unpark 19 = .ok (.ireturn, 1) := by decide +kernel
theorem dL_setMaster_0 : decode cL_setMaster 0 = .ok (.aload_n 2, 1) := by decide +kernel
theorem dL_setMaster_1 : decode cL_setMaster 1 = .ok (.iconst 0, 1) := by decide +kernel
theorem dL_setMaster_2 : decode cL_setMaster 2 = .ok (.aload_n 0, 1) := by decide +kernel
theorem dL_setMaster_3 : decode cL_setMaster 3 = .ok (.iload_n 1, 1) := by decide +kernel
theorem dL_setMaster_4 : decode cL_setMaster 4 = .ok (.invokevirtual 96, 3) := by decide +kernel
theorem dL_setMaster_7 : decode cL_setMaster 7 = .ok (.i2l, 1) := by decide +kernel
theorem dL_setMaster_8 : decode cL_setMaster 8 = .ok (.lastore, 1) := by decide +kernel
theorem dL_setMaster_9 : decode cL_setMaster 9 = .ok (.goto 6, 3) := by decide +kernel
theorem dL_setMaster_12 : decode cL_setMaster 12 = .ok (.astore_n 3, 1) := by decide +kernel
theorem dL_setMaster_13 : decode cL_setMaster 13 = .ok (.iconst 1, 1) := by decide +kernel
theorem dL_setMaster_14 : decode cL_setMaster 14 = .ok (.ireturn, 1) := by decide +kernel
theorem dL_setMaster_15 : decode cL_setMaster 15 = .ok (.iconst 0, 1) := by decide +kernel
theorem dL_setMaster_16 : decode cL_setMaster 16 = .ok (.ireturn, 1) := by decide +kernel
theorem dL_level_0 : decode cL_level 0 = .ok (.aload_n 2, 1) := by decide +kernel
theorem dL_level_1 : decode cL_level 1 = .ok (.iconst 0, 1) := by decide +kernel
theorem dL_level_2 : decode cL_level 2 = .ok (.aload_n 0, 1) := by decide +kernel
theorem dL_level_3 : decode cL_level 3 = .ok (.iload_n 1, 1) := by decide +kernel
theorem dL_level_4 : decode cL_level 4 = .ok (.invokevirtual 99, 3) := by decide +kernel
theorem dL_level_7 : decode cL_level 7 = .ok (.i2l, 1) := by decide +kernel
theorem dL_level_8 : decode cL_level 8 = .ok (.lastore, 1) := by decide +kernel
theorem dL_level_9 : decode cL_level 9 = .ok (.goto 6, 3) := by decide +kernel
theorem dL_level_12 : decode cL_level 12 = .ok (.astore_n 3, 1) := by decide +kernel
theorem dL_level_13 : decode cL_level 13 = .ok (.iconst 1, 1) := by decide +kernel
theorem dL_level_14 : decode cL_level 14 = .ok (.ireturn, 1) := by decide +kernel
theorem dL_level_15 : decode cL_level 15 = .ok (.iconst 0, 1) := by decide +kernel
theorem dL_level_16 : decode cL_level 16 = .ok (.ireturn, 1) := by decide +kernel
theorem dL_levelAlone_0 : decode cL_levelAlone 0 = .ok (.aload_n 2, 1) := by decide +kernel
theorem dL_levelAlone_1 : decode cL_levelAlone 1 = .ok (.iconst 0, 1) := by decide +kernel
theorem dL_levelAlone_2 : decode cL_levelAlone 2 = .ok (.aload_n 0, 1) := by decide +kernel
theorem dL_levelAlone_3 : decode cL_levelAlone 3 = .ok (.iload_n 1, 1) := by decide +kernel
theorem dL_levelAlone_4 : decode cL_levelAlone 4 = .ok (.invokevirtual 102, 3) := by decide +kernel
theorem dL_levelAlone_7 : decode cL_levelAlone 7 = .ok (.i2l, 1) := by decide +kernel
theorem dL_levelAlone_8 : decode cL_levelAlone 8 = .ok (.lastore, 1) := by decide +kernel
theorem dL_levelAlone_9 : decode cL_levelAlone 9 = .ok (.goto 6, 3) := by decide +kernel
theorem dL_levelAlone_12 : decode cL_levelAlone 12 = .ok (.astore_n 3, 1) := by decide +kernel
theorem dL_levelAlone_13 : decode cL_levelAlone 13 = .ok (.iconst 1, 1) := by decide +kernel
theorem dL_levelAlone_14 : decode cL_levelAlone 14 = .ok (.ireturn, 1) := by decide +kernel
theorem dL_levelAlone_15 : decode cL_levelAlone 15 = .ok (.iconst 0, 1) := by decide +kernel
theorem dL_levelAlone_16 : decode cL_levelAlone 16 = .ok (.ireturn, 1) := by decide +kernel
theorem dL_channelByLevel_0 : decode cL_channelByLevel 0 = .ok (.aload_n 2, 1) := by decide +kernel
theorem dL_channelByLevel_1 : decode cL_channelByLevel 1 = .ok (.iconst 0, 1) := by decide +kernel
theorem dL_channelByLevel_2 : decode cL_channelByLevel 2 = .ok (.aload_n 0, 1) := by decide +kernel
theorem dL_channelByLevel_3 : decode cL_channelByLevel 3 = .ok (.iload_n 1, 1) := by decide +kernel
theorem dL_channelByLevel_4 : decode cL_channelByLevel 4 = .ok (.invokevirtual 105, 3) := by decide +kernel
theorem dL_channelByLevel_7 : decode cL_channelByLevel 7 = .ok (.i2l, 1) := by decide +kernel
theorem dL_channelByLevel_8 : decode cL_channelByLevel 8 = .ok (.lastore, 1) := by decide +kernel
theorem dL_channelByLevel_9 : decode cL_channelByLevel 9 = .ok (.goto 6, 3) := by decide +kernel
theorem dL_channelByLevel_12 : decode cL_channelByLevel 12 = .ok (.astore_n 3, 1) := by decide +kernel
theorem dL_channelByLevel_13 : decode cL_channelByLevel 13 = .ok (.iconst 1, 1) := by decide +kernel
theorem dL_channelByLevel_14 : decode cL_channelByLevel 14 = .ok (.ireturn, 1) := by decide +kernel
theorem dL_channelByLevel_15 : decode cL_channelByLevel 15 = .ok (.iconst 0, 1) := by decide +kernel
theorem dL_channelByLevel_16 : decode cL_channelByLevel 16 = .ok (.ireturn, 1) := by decide +kernel
theorem dL_meanLevel_0 : decode cL_meanLevel 0 = .ok (.aload_n 1, 1) := by decide +kernel
theorem dL_meanLevel_1 : decode cL_meanLevel 1 = .ok (.iconst 0, 1) := by decide +kernel
theorem dL_meanLevel_2 : decode cL_meanLevel 2 = .ok (.aload_n 0, 1) := by decide +kernel
theorem dL_meanLevel_3 : decode cL_meanLevel 3 = .ok (.invokevirtual 108, 3) := by decide +kernel
theorem dL_meanLevel_6 : decode cL_meanLevel 6 = .ok (.dastore, 1) := by decide +kernel
theorem dL_meanLevel_7 : decode cL_meanLevel 7 = .ok (.goto 6, 3) := by decide +kernel
theorem dL_meanLevel_10 : decode cL_meanLevel 10 = .ok (.astore_n 2, 1) := by decide +kernel
theorem dL_meanLevel_11 : decode cL_meanLevel 11 = .ok (.iconst 1, 1) := by decide +kernel
theorem dL_meanLevel_12 : decode cL_meanLevel 12 = .ok (.ireturn, 1) := by decide +kernel
theorem dL_meanLevel_13 : decode cL_meanLevel 13 = .ok (.iconst 0, 1) := by decide +kernel
theorem dL_meanLevel_14 : decode cL_meanLevel 14 = .ok (.ireturn, 1) := by decide +kernel
theorem dL_addStep_0 : decode cL_addStep 0 = .ok (.aload 4, 2) := by decide +kernel
theorem dL_addStep_2 : decode cL_addStep 2 = .ok (.iconst 0, 1) := by decide +kernel
theorem dL_addStep_3 : decode cL_addStep 3 = .ok (.aload_n 0, 1) := by decide +kernel
theorem dL_addStep_4 : decode cL_addStep 4 = .ok (.iload_n 1, 1) := by decide +kernel
theorem dL_addStep_5 : decode cL_addStep 5 = .ok (.iload_n 2, 1) := by decide +kernel
theorem dL_addStep_6 : decode cL_addStep 6 = .ok (.iload_n 3, 1) := by decide +kernel
theorem dL_addStep_7 : decode cL_addStep 7 = .ok (.invokevirtual 114, 3) := by decide +kernel
theorem dL_addStep_10 : decode cL_addStep 10 = .ok (.i2l, 1) := by decide +kernel
theorem dL_addStep_11 : decode cL_addStep 11 = .ok (.lastore, 1) := by decide +kernel
theorem dL_addStep_12 : decode cL_addStep 12 = .ok (.goto 11, 3) := by decide +kernel
theorem dL_addStep_15 : decode cL_addStep 15 = .ok (.astore 5, 2) := by decide +kernel
theorem dL_addStep_17 : decode cL_addStep 17 = .ok (.iconst 1, 1) := by decide +kernel
theorem dL_addStep_18 : decode cL_addStep 18 = .ok (.ireturn, 1) := by decide +kernel
theorem dL_addStep_19 : decode cL_addStep 19 = .ok (.astore 5, 2) := by decide +kernel
theorem dL_addStep_21 : decode cL_addStep 21 = .ok (.iconst 2, 1) := by decide +kernel
theorem dL_addStep_22 : decode cL_addStep 22 = .ok (.ireturn, 1) := by decide +kernel
theorem dL_addStep_23 : decode cL_addStep 23 = .ok (.iconst 0, 1) := by decide +kernel
theorem dL_addStep_24 : decode cL_addStep 24 = .ok (.ireturn, 1) := by decide +kernel
theorem dL_macroFault_0 : decode cL_macroFault 0 = .ok (.aload_n 1, 1) := by decide +kernel
theorem dL_macroFault_1 : decode cL_macroFault 1 = .ok (.iconst 0, 1) := by decide +kernel
theorem dL_macroFault_2 : decode cL_macroFault 2 = .ok (.aload_n 0, 1) := by decide +kernel
theorem dL_macroFault_3 : decode cL_macroFault 3 = .ok (.invokevirtual 118, 3) := by decide +kernel
theorem dL_macroFault_6 : decode cL_macroFault 6 = .ok (.i2l, 1) := by decide +kernel
theorem dL_macroFault_7 : decode cL_macroFault 7 = .ok (.lastore, 1) := by decide +kernel
theorem dL_macroFault_8 : decode cL_macroFault 8 = .ok (.goto 6, 3) := by decide +kernel
theorem dL_macroFault_11 : decode cL_macroFault 11 = .ok (.astore_n 2, 1) := by decide +kernel
theorem dL_macroFault_12 : decode cL_macroFault 12 = .ok (.iconst 1, 1) := by decide +kernel
theorem dL_macroFault_13 : decode cL_macroFault 13 = .ok (.ireturn, 1) := by decide +kernel
theorem dL_macroFault_14 : decode cL_macroFault 14 = .ok (.iconst 0, 1) := by decide +kernel
theorem dL_macroFault_15 : decode cL_macroFault 15 = .ok (.ireturn, 1) := by decide +kernel
