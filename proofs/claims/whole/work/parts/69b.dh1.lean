theorem dL_cueLevel_4 : decode cL_cueLevel 4 = .ok (.invokevirtual 55, 3) := by decide +kernel
theorem dL_cueLevel_7 : decode cL_cueLevel 7 = .ok (.i2l, 1) := by decide +kernel
theorem dL_cueLevel_8 : decode cL_cueLevel 8 = .ok (.lastore, 1) := by decide +kernel
theorem dL_cueLevel_9 : decode cL_cueLevel 9 = .ok (.goto 6, 3) := by decide +kernel
theorem dL_cueLevel_12 : decode cL_cueLevel 12 = .ok (.astore_n 3, 1) := by decide +kernel
theorem dL_cueLevel_13 : decode cL_cueLevel 13 = .ok (.iconst 1, 1) := by decide +kernel
theorem dL_cueLevel_14 : decode cL_cueLevel 14 = .ok (.ireturn, 1) := by decide +kernel
theorem dL_cueLevel_15 : decode cL_cueLevel 15 = .ok (.iconst 0, 1) := by decide +kernel
theorem dL_cueLevel_16 : decode cL_cueLevel 16 = .ok (.ireturn, 1) := by decide +kernel
theorem dL_addGroup_0 : decode cL_addGroup 0 = .ok (.aload_n 1, 1) := by decide +kernel
theorem dL_addGroup_1 : decode cL_addGroup 1 = .ok (.iconst 0, 1) := by decide +kernel
theorem dL_addGroup_2 : decode cL_addGroup 2 = .ok (.aload_n 0, 1) := by decide +kernel
theorem dL_addGroup_3 : decode cL_addGroup 3 = .ok (.invokevirtual 58, 3) := by decide +kernel
theorem dL_addGroup_6 : decode cL_addGroup 6 = .ok (.i2l, 1) := by decide +kernel
theorem dL_addGroup_7 : decode cL_addGroup 7 = .ok (.lastore, 1) := by decide +kernel
theorem dL_addGroup_8 : decode cL_addGroup 8 = .ok (.goto 6, 3) := by decide +kernel
theorem dL_addGroup_11 : decode cL_addGroup 11 = .ok (.astore_n 2, 1) := by decide +kernel
theorem dL_addGroup_12 : decode cL_addGroup 12 = .ok (.iconst 1, 1) := by decide +kernel
theorem dL_addGroup_13 : decode cL_addGroup 13 = .ok (.ireturn, 1) := by decide +kernel
theorem dL_addGroup_14 : decode cL_addGroup 14 = .ok (.iconst 0, 1) := by decide +kernel
theorem dL_addGroup_15 : decode cL_addGroup 15 = .ok (.ireturn, 1) := by decide +kernel
theorem dL_setMember_0 : decode cL_setMember 0 = .ok (.aload 4, 2) := by decide +kernel
theorem dL_setMember_2 : decode cL_setMember 2 = .ok (.iconst 0, 1) := by decide +kernel
theorem dL_setMember_3 : decode cL_setMember 3 = .ok (.aload_n 0, 1) := by decide +kernel
theorem dL_setMember_4 : decode cL_setMember 4 = .ok (.iload_n 1, 1) := by decide +kernel
theorem dL_setMember_5 : decode cL_setMember 5 = .ok (.iload_n 2, 1) := by decide +kernel
theorem dL_setMember_6 : decode cL_setMember 6 = .ok (.iload_n 3, 1) := by decide +kernel
theorem dL_setMember_7 : decode cL_setMember 7 = .ok (.invokevirtual 61, 3) := by decide +kernel
theorem dL_setMember_10 : decode cL_setMember 10 = .ok (.ifCond .eq 7, 3) := by decide +kernel
theorem dL_setMember_13 : decode cL_setMember 13 = .ok (.lconst 1, 1) := by decide +kernel
theorem dL_setMember_14 : decode cL_setMember 14 = .ok (.goto 4, 3) := by decide +kernel
theorem dL_setMember_17 : decode cL_setMember 17 = .ok (.lconst 0, 1) := by decide +kernel
theorem dL_setMember_18 : decode cL_setMember 18 = .ok (.lastore, 1) := by decide +kernel
theorem dL_setMember_19 : decode cL_setMember 19 = .ok (.goto 7, 3) := by decide +kernel
theorem dL_setMember_22 : decode cL_setMember 22 = .ok (.astore 5, 2) := by decide +kernel
theorem dL_setMember_24 : decode cL_setMember 24 = .ok (.iconst 1, 1) := by decide +kernel
theorem dL_setMember_25 : decode cL_setMember 25 = .ok (.ireturn, 1) := by decide +kernel
theorem dL_setMember_26 : decode cL_setMember 26 = .ok (.iconst 0, 1) := by decide +kernel
theorem dL_setMember_27 : decode cL_setMember 27 = .ok (.ireturn, 1) := by decide +kernel
theorem dL_setFader_0 : decode cL_setFader 0 = .ok (.aload_n 3, 1) := by decide +kernel
theorem dL_setFader_1 : decode cL_setFader 1 = .ok (.iconst 0, 1) := by decide +kernel
theorem dL_setFader_2 : decode cL_setFader 2 = .ok (.aload_n 0, 1) := by decide +kernel
theorem dL_setFader_3 : decode cL_setFader 3 = .ok (.iload_n 1, 1) := by decide +kernel
theorem dL_setFader_4 : decode cL_setFader 4 = .ok (.iload_n 2, 1) := by decide +kernel
theorem dL_setFader_5 : decode cL_setFader 5 = .ok (.invokevirtual 65, 3) := by decide +kernel
theorem dL_setFader_8 : decode cL_setFader 8 = .ok (.i2l, 1) := by decide +kernel
theorem dL_setFader_9 : decode cL_setFader 9 = .ok (.lastore, 1) := by decide +kernel
theorem dL_setFader_10 : decode cL_setFader 10 = .ok (.goto 11, 3) := by decide +kernel
theorem dL_setFader_13 : decode cL_setFader 13 = .ok (.astore 4, 2) := by decide +kernel
theorem dL_setFader_15 : decode cL_setFader 15 = .ok (.iconst 1, 1) := by decide +kernel
theorem dL_setFader_16 : decode cL_setFader 16 = .ok (.ireturn, 1) := by decide +kernel
theorem dL_setFader_17 : decode cL_setFader 17 = .ok (.astore 4, 2) := by decide +kernel
theorem dL_setFader_19 : decode cL_setFader 19 = .ok (.iconst 2, 1) := by decide +kernel
theorem dL_setFader_20 : decode cL_setFader 20 = .ok (.ireturn, 1) := by decide +kernel
theorem dL_setFader_21 : decode cL_setFader 21 = .ok (.iconst 0, 1) := by decide +kernel
theorem dL_setFader_22 : decode cL_setFader 22 = .ok (.ireturn, 1) := by decide +kernel
theorem dL_setLatest_0 : decode cL_setLatest 0 = .ok (.aload_n 3, 1) := by decide +kernel
theorem dL_setLatest_1 : decode cL_setLatest 1 = .ok (.iconst 0, 1) := by decide +kernel
theorem dL_setLatest_2 : decode cL_setLatest 2 = .ok (.aload_n 0, 1) := by decide +kernel
theorem dL_setLatest_3 : decode cL_setLatest 3 = .ok (.iload_n 1, 1) := by decide +kernel
theorem dL_setLatest_4 : decode cL_setLatest 4 = .ok (.iload_n 2, 1) := by decide +kernel
theorem dL_setLatest_5 : decode cL_setLatest 5 = .ok (.invokevirtual 68, 3) := by decide +kernel
theorem dL_setLatest_8 : decode cL_setLatest 8 = .ok (.ifCond .eq 7, 3) := by decide +kernel
theorem dL_setLatest_11 : decode cL_setLatest 11 = .ok (.lconst 1, 1) := by decide +kernel
theorem dL_setLatest_12 : decode cL_setLatest 12 = .ok (.goto 4, 3) := by decide +kernel
theorem dL_setLatest_15 : decode cL_setLatest 15 = .ok (.lconst 0, 1) := by decide +kernel
theorem dL_setLatest_16 : decode cL_setLatest 16 = .ok (.lastore, 1) := by decide +kernel
theorem dL_setLatest_17 : decode cL_setLatest 17 = .ok (.goto 7, 3) := by decide +kernel
theorem dL_setLatest_20 : decode cL_setLatest 20 = .ok (.astore 4, 2) := by decide +kernel
theorem dL_setLatest_22 : decode cL_setLatest 22 = .ok (.iconst 1, 1) := by decide +kernel
theorem dL_setLatest_23 : decode cL_setLatest 23 = .ok (.ireturn, 1) := by decide +kernel
theorem dL_setLatest_24 : decode cL_setLatest 24 = .ok (.iconst 0, 1) := by decide +kernel
theorem dL_setLatest_25 : decode cL_setLatest 25 = .ok (.ireturn, 1) := by decide +kernel
theorem dL_latestSource_0 : decode cL_latestSource 0 = .ok (.aload_n 2, 1) := by decide +kernel
theorem dL_latestSource_1 : decode cL_latestSource 1 = .ok (.iconst 0, 1) := by decide +kernel
theorem dL_latestSource_2 : decode cL_latestSource 2 = .ok (.aload_n 0, 1) := by decide +kernel
theorem dL_latestSource_3 : decode cL_latestSource 3 = .ok (.iload_n 1, 1) := by decide +kernel
theorem dL_latestSource_4 : decode cL_latestSource 4 = .ok (.invokevirtual 71, 3) := by decide +kernel
theorem dL_latestSource_7 : decode cL_latestSource 7 = .ok (.i2l, 1) := by decide +kernel
theorem dL_latestSource_8 : decode cL_latestSource 8 = .ok (.lastore, 1) := by decide +kernel
theorem dL_latestSource_9 : decode cL_latestSource 9 = .ok (.goto 9, 3) := by decide +kernel
theorem dL_latestSource_12 : decode cL_latestSource 12 = .ok (.astore_n 3, 1) := by decide +kernel
theorem dL_latestSource_13 : decode cL_latestSource 13 = .ok (.iconst 1, 1) := by decide +kernel
theorem dL_latestSource_14 : decode cL_latestSource 14 = .ok (.ireturn, 1) := by decide +kernel
theorem dL_latestSource_15 : decode cL_latestSource 15 = .ok (.astore_n 3, 1) := by decide +kernel
theorem dL_latestSource_16 : decode cL_latestSource 16 = .ok (.iconst 2, 1) := by decide +kernel
theorem dL_latestSource_17 : decode cL_latestSource 17 = .ok (.ireturn, 1) := by decide +kernel
theorem dL_latestSource_18 : decode cL_latestSource 18 = .ok (.iconst 0, 1) := by decide +kernel
theorem dL_latestSource_19 : decode cL_latestSource 19 = .ok (.ireturn, 1) := by decide +kernel
theorem dL_baseLevel_0 : decode cL_baseLevel 0 = .ok (.aload_n 2, 1) := by decide +kernel
theorem dL_baseLevel_1 : decode cL_baseLevel 1 = .ok (.iconst 0, 1) := by decide +kernel
theorem dL_baseLevel_2 : decode cL_baseLevel 2 = .ok (.aload_n 0, 1) := by decide +kernel
theorem dL_baseLevel_3 : decode cL_baseLevel 3 = .ok (.iload_n 1, 1) := by decide +kernel
theorem dL_baseLevel_4 : decode cL_baseLevel 4 = .ok (.invokevirtual 74, 3) := by decide +kernel
theorem dL_baseLevel_7 : decode cL_baseLevel 7 = .ok (.i2l, 1) := by decide +kernel
theorem dL_baseLevel_8 : decode cL_baseLevel 8 = .ok (.lastore, 1) := by decide +kernel
theorem dL_baseLevel_9 : decode cL_baseLevel 9 = .ok (.goto 6, 3) := by decide +kernel
theorem dL_baseLevel_12 : decode cL_baseLevel 12 = .ok (.astore_n 3, 1) := by decide +kernel
theorem dL_baseLevel_13 : decode cL_baseLevel 13 = .ok (.iconst 1, 1) := by decide +kernel
theorem dL_baseLevel_14 : decode cL_baseLevel 14 = .ok (.ireturn, 1) := by decide +kernel
theorem dL_baseLevel_15 : decode cL_baseLevel 15 = .ok (.iconst 0, 1) := by decide +kernel
theorem dL_baseLevel_16 : decode cL_baseLevel 16 = .ok (.ireturn, 1) := by decide +kernel
theorem dL_addEffect_0 : decode cL_addEffect 0 = .ok (.aload 6, 2) := by decide +kernel
theorem dL_addEffect_2 : decode cL_addEffect 2 = .ok (.iconst 0, 1) := by decide +kernel
theorem dL_addEffect_3 : decode cL_addEffect 3 = .ok (.aload_n 0, 1) := by decide +kernel
theorem dL_addEffect_4 : decode cL_addEffect 4 = .ok (.iload_n 1, 1) := by decide +kernel
theorem dL_addEffect_5 : decode cL_addEffect 5 = .ok (.iload_n 2, 1) := by decide +kernel
theorem dL_addEffect_6 : decode cL_addEffect 6 = .ok (.iload_n 3, 1) := by decide +kernel
theorem dL_addEffect_7 : decode cL_addEffect 7 = .ok (.iload 4, 2) := by decide +kernel
theorem dL_addEffect_9 : decode cL_addEffect 9 = .ok (.iload 5, 2) := by decide +kernel
theorem dL_addEffect_11 : decode cL_addEffect 11 = .ok (.invokevirtual 77, 3) := by decide +kernel
theorem dL_addEffect_14 : decode cL_addEffect 14 = .ok (.i2l, 1) := by decide +kernel
theorem dL_addEffect_15 : decode cL_addEffect 15 = .ok (.lastore, 1) := by decide +kernel
theorem dL_addEffect_16 : decode cL_addEffect 16 = .ok (.goto 15, 3) := by decide +kernel
theorem dL_addEffect_19 : decode cL_addEffect 19 = .ok (.astore 7, 2) := by decide +kernel
theorem dL_addEffect_21 : decode cL_addEffect 21 = .ok (.iconst 1, 1) := by decide +kernel
theorem dL_addEffect_22 : decode cL_addEffect 22 = .ok (.ireturn, 1) := by decide +kernel
theorem dL_addEffect_23 : decode cL_addEffect 23 = .ok (.astore 7, 2) := by decide +kernel
theorem dL_addEffect_25 : decode cL_addEffect 25 = .ok (.iconst 2, 1) := by decide +kernel
theorem dL_addEffect_26 : decode cL_addEffect 26 = .ok (.ireturn, 1) := by decide +kernel
theorem dL_addEffect_27 : decode cL_addEffect 27 = .ok (.astore 7, 2) := by decide +kernel
theorem dL_addEffect_29 : decode cL_addEffect 29 = .ok (.iconst 3, 1) := by decide +kernel
theorem dL_addEffect_30 : decode cL_addEffect 30 = .ok (.ireturn, 1) := by decide +kernel
theorem dL_addEffect_31 : decode cL_addEffect 31 = .ok (.iconst 0, 1) := by decide +kernel
theorem dL_addEffect_32 : decode cL_addEffect 32 = .ok (.ireturn, 1) := by decide +kernel
theorem dL_startEffect_0 : decode cL_startEffect 0 = .ok (.aload_n 2, 1) := by decide +kernel
theorem dL_startEffect_1 : decode cL_startEffect 1 = .ok (.iconst 0, 1) := by decide +kernel
theorem dL_startEffect_2 : decode cL_startEffect 2 = .ok (.aload_n 0, 1) := by decide +kernel
theorem dL_startEffect_3 : decode cL_startEffect 3 = .ok (.iload_n 1, 1) := by decide +kernel
theorem dL_startEffect_4 : decode cL_startEffect 4 = .ok (.invokevirtual 81, 3) := by decide +kernel
theorem dL_startEffect_7 : decode cL_startEffect 7 = .ok (.i2l, 1) := by decide +kernel
theorem dL_startEffect_8 : decode cL_startEffect 8 = .ok (.lastore, 1) := by decide +kernel
theorem dL_startEffect_9 : decode cL_startEffect 9 = .ok (.goto 9, 3) := by decide +kernel
theorem dL_startEffect_12 : decode cL_startEffect 12 = .ok (.astore_n 3, 1) := by decide +kernel
theorem dL_startEffect_13 : decode cL_startEffect 13 = .ok (.iconst 1, 1) := by decide +kernel
theorem dL_startEffect_14 : decode cL_startEffect 14 = .ok (.ireturn, 1) := by decide +kernel
theorem dL_startEffect_15 : decode cL_startEffect 15 = .ok (.astore_n 3, 1) := by decide +kernel
theorem dL_startEffect_16 : decode cL_startEffect 16 = .ok (.iconst 2, 1) := by decide +kernel
theorem dL_startEffect_17 : decode cL_startEffect 17 = .ok (.ireturn, 1) := by decide +kernel
theorem dL_startEffect_18 : decode cL_startEffect 18 = .ok (.iconst 0, 1) := by decide +kernel
theorem dL_startEffect_19 : decode cL_startEffect 19 = .ok (.ireturn, 1) := by decide +kernel
theorem dL_stopEffect_0 : decode cL_stopEffect 0 = .ok (.aload_n 2, 1) := by decide +kernel
theorem dL_stopEffect_1 : decode cL_stopEffect 1 = .ok (.iconst 0, 1) := by decide +kernel
theorem dL_stopEffect_2 : decode cL_stopEffect 2 = .ok (.aload_n 0, 1) := by decide +kernel
theorem dL_stopEffect_3 : decode cL_stopEffect 3 = .ok (.iload_n 1, 1) := by decide +kernel
theorem dL_stopEffect_4 : decode cL_stopEffect 4 = .ok (.invokevirtual 84, 3) := by decide +kernel
theorem dL_stopEffect_7 : decode cL_stopEffect 7 = .ok (.i2l, 1) := by decide +kernel
theorem dL_stopEffect_8 : decode cL_stopEffect 8 = .ok (.lastore, 1) := by decide +kernel
theorem dL_stopEffect_9 : decode cL_stopEffect 9 = .ok (.goto 9, 3) := by decide +kernel
theorem dL_stopEffect_12 : decode cL_stopEffect 12 = .ok (.astore_n 3, 1) := by decide +kernel
theorem dL_stopEffect_13 : decode cL_stopEffect 13 = .ok (.iconst 1, 1) := by decide +kernel
theorem dL_stopEffect_14 : decode cL_stopEffect 14 = .ok (.ireturn, 1) := by decide +kernel
theorem dL_stopEffect_15 : decode cL_stopEffect 15 = .ok (.astore_n 3, 1) := by decide +kernel
theorem dL_stopEffect_16 : decode cL_stopEffect 16 = .ok (.iconst 2, 1) := by decide +kernel
theorem dL_stopEffect_17 : decode cL_stopEffect 17 = .ok (.ireturn, 1) := by decide +kernel
theorem dL_stopEffect_18 : decode cL_stopEffect 18 = .ok (.iconst 0, 1) := by decide +kernel
theorem dL_stopEffect_19 : decode cL_stopEffect 19 = .ok (.ireturn, 1) := by decide +kernel
theorem dL_effectOn_0 : decode cL_effectOn 0 = .ok (.aload_n 3, 1) := by decide +kernel
theorem dL_effectOn_1 : decode cL_effectOn 1 = .ok (.iconst 0, 1) := by decide +kernel
theorem dL_effectOn_2 : decode cL_effectOn 2 = .ok (.aload_n 0, 1) := by decide +kernel
