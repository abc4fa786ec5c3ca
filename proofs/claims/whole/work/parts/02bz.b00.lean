theorem dL_addCue_0 : decode cL_addCue 0 = .ok (.aload 4, 2) := by decide +kernel
theorem dL_addCue_2 : decode cL_addCue 2 = .ok (.iconst 0, 1) := by decide +kernel
theorem dL_addCue_3 : decode cL_addCue 3 = .ok (.aload_n 0, 1) := by decide +kernel
theorem dL_addCue_4 : decode cL_addCue 4 = .ok (.iload_n 1, 1) := by decide +kernel
theorem dL_addCue_5 : decode cL_addCue 5 = .ok (.iload_n 2, 1) := by decide +kernel
theorem dL_addCue_6 : decode cL_addCue 6 = .ok (.iload_n 3, 1) := by decide +kernel
theorem dL_addCue_7 : decode cL_addCue 7 = .ok (.invokevirtual 7, 3) := by decide +kernel
theorem dL_addCue_10 : decode cL_addCue 10 = .ok (.i2l, 1) := by decide +kernel
theorem dL_addCue_11 : decode cL_addCue 11 = .ok (.lastore, 1) := by decide +kernel
theorem dL_addCue_12 : decode cL_addCue 12 = .ok (.goto 15, 3) := by decide +kernel
theorem dL_addCue_15 : decode cL_addCue 15 = .ok (.astore 5, 2) := by decide +kernel
theorem dL_addCue_17 : decode cL_addCue 17 = .ok (.iconst 1, 1) := by decide +kernel
theorem dL_addCue_18 : decode cL_addCue 18 = .ok (.ireturn, 1) := by decide +kernel
theorem dL_addCue_19 : decode cL_addCue 19 = .ok (.astore 5, 2) := by decide +kernel
theorem dL_addCue_21 : decode cL_addCue 21 = .ok (.iconst 2, 1) := by decide +kernel
theorem dL_addCue_22 : decode cL_addCue 22 = .ok (.ireturn, 1) := by decide +kernel
theorem dL_addCue_23 : decode cL_addCue 23 = .ok (.astore 5, 2) := by decide +kernel
theorem dL_addCue_25 : decode cL_addCue 25 = .ok (.iconst 3, 1) := by decide +kernel
theorem dL_addCue_26 : decode cL_addCue 26 = .ok (.ireturn, 1) := by decide +kernel
theorem dL_addCue_27 : decode cL_addCue 27 = .ok (.iconst 0, 1) := by decide +kernel
theorem dL_addCue_28 : decode cL_addCue 28 = .ok (.ireturn, 1) := by decide +kernel
theorem dL_removeCue_0 : decode cL_removeCue 0 = .ok (.aload_n 2, 1) := by decide +kernel
theorem dL_removeCue_1 : decode cL_removeCue 1 = .ok (.iconst 0, 1) := by decide +kernel
theorem dL_removeCue_2 : decode cL_removeCue 2 = .ok (.aload_n 0, 1) := by decide +kernel
theorem dL_removeCue_3 : decode cL_removeCue 3 = .ok (.iload_n 1, 1) := by decide +kernel
theorem dL_removeCue_4 : decode cL_removeCue 4 = .ok (.invokevirtual 19, 3) := by decide +kernel
theorem dL_removeCue_7 : decode cL_removeCue 7 = .ok (.i2l, 1) := by decide +kernel
theorem dL_removeCue_8 : decode cL_removeCue 8 = .ok (.lastore, 1) := by decide +kernel
theorem dL_removeCue_9 : decode cL_removeCue 9 = .ok (.goto 6, 3) := by decide +kernel
theorem dL_removeCue_12 : decode cL_removeCue 12 = .ok (.astore_n 3, 1) := by decide +kernel
theorem dL_removeCue_13 : decode cL_removeCue 13 = .ok (.iconst 1, 1) := by decide +kernel
theorem dL_removeCue_14 : decode cL_removeCue 14 = .ok (.ireturn, 1) := by decide +kernel
theorem dL_removeCue_15 : decode cL_removeCue 15 = .ok (.iconst 0, 1) := by decide +kernel
theorem dL_removeCue_16 : decode cL_removeCue 16 = .ok (.ireturn, 1) := by decide +kernel
theorem dL_setChange_0 : decode cL_setChange 0 = .ok (.aload 4, 2) := by decide +kernel
theorem dL_setChange_2 : decode cL_setChange 2 = .ok (.iconst 0, 1) := by decide +kernel
theorem dL_setChange_3 : decode cL_setChange 3 = .ok (.aload_n 0, 1) := by decide +kernel
theorem dL_setChange_4 : decode cL_setChange 4 = .ok (.iload_n 1, 1) := by decide +kernel
theorem dL_setChange_5 : decode cL_setChange 5 = .ok (.iload_n 2, 1) := by decide +kernel
theorem dL_setChange_6 : decode cL_setChange 6 = .ok (.iload_n 3, 1) := by decide +kernel
theorem dL_setChange_7 : decode cL_setChange 7 = .ok (.invokevirtual 25, 3) := by decide +kernel
theorem dL_setChange_10 : decode cL_setChange 10 = .ok (.i2l, 1) := by decide +kernel
theorem dL_setChange_11 : decode cL_setChange 11 = .ok (.lastore, 1) := by decide +kernel
theorem dL_setChange_12 : decode cL_setChange 12 = .ok (.goto 15, 3) := by decide +kernel
theorem dL_setChange_15 : decode cL_setChange 15 = .ok (.astore 5, 2) := by decide +kernel
theorem dL_setChange_17 : decode cL_setChange 17 = .ok (.iconst 1, 1) := by decide +kernel
theorem dL_setChange_18 : decode cL_setChange 18 = .ok (.ireturn, 1) := by decide +kernel
theorem dL_setChange_19 : decode cL_setChange 19 = .ok (.astore 5, 2) := by decide +kernel
theorem dL_setChange_21 : decode cL_setChange 21 = .ok (.iconst 2, 1) := by decide +kernel
theorem dL_setChange_22 : decode cL_setChange 22 = .ok (.ireturn, 1) := by decide +kernel
theorem dL_setChange_23 : decode cL_setChange 23 = .ok (.astore 5, 2) := by decide +kernel
theorem dL_setChange_25 : decode cL_setChange 25 = .ok (.iconst 3, 1) := by decide +kernel
theorem dL_setChange_26 : decode cL_setChange 26 = .ok (.ireturn, 1) := by decide +kernel
theorem dL_setChange_27 : decode cL_setChange 27 = .ok (.iconst 0, 1) := by decide +kernel
theorem dL_setChange_28 : decode cL_setChange 28 = .ok (.ireturn, 1) := by decide +kernel
theorem dL_removeChange_0 : decode cL_removeChange 0 = .ok (.aload_n 3, 1) := by decide +kernel
theorem dL_removeChange_1 : decode cL_removeChange 1 = .ok (.iconst 0, 1) := by decide +kernel
theorem dL_removeChange_2 : decode cL_removeChange 2 = .ok (.aload_n 0, 1) := by decide +kernel
theorem dL_removeChange_3 : decode cL_removeChange 3 = .ok (.iload_n 1, 1) := by decide +kernel
theorem dL_removeChange_4 : decode cL_removeChange 4 = .ok (.iload_n 2, 1) := by decide +kernel
theorem dL_removeChange_5 : decode cL_removeChange 5 = .ok (.invokevirtual 31, 3) := by decide +kernel
theorem dL_removeChange_8 : decode cL_removeChange 8 = .ok (.i2l, 1) := by decide +kernel
theorem dL_removeChange_9 : decode cL_removeChange 9 = .ok (.lastore, 1) := by decide +kernel
theorem dL_removeChange_10 : decode cL_removeChange 10 = .ok (.goto 11, 3) := by decide +kernel
theorem dL_removeChange_13 : decode cL_removeChange 13 = .ok (.astore 4, 2) := by decide +kernel
theorem dL_removeChange_15 : decode cL_removeChange 15 = .ok (.iconst 1, 1) := by decide +kernel
theorem dL_removeChange_16 : decode cL_removeChange 16 = .ok (.ireturn, 1) := by decide +kernel
theorem dL_removeChange_17 : decode cL_removeChange 17 = .ok (.astore 4, 2) := by decide +kernel
theorem dL_removeChange_19 : decode cL_removeChange 19 = .ok (.iconst 2, 1) := by decide +kernel
theorem dL_removeChange_20 : decode cL_removeChange 20 = .ok (.ireturn, 1) := by decide +kernel
theorem dL_removeChange_21 : decode cL_removeChange 21 = .ok (.iconst 0, 1) := by decide +kernel
theorem dL_removeChange_22 : decode cL_removeChange 22 = .ok (.ireturn, 1) := by decide +kernel
theorem dL_setBlock_0 : decode cL_setBlock 0 = .ok (.aload_n 3, 1) := by decide +kernel
theorem dL_setBlock_1 : decode cL_setBlock 1 = .ok (.iconst 0, 1) := by decide +kernel
theorem dL_setBlock_2 : decode cL_setBlock 2 = .ok (.aload_n 0, 1) := by decide +kernel
theorem dL_setBlock_3 : decode cL_setBlock 3 = .ok (.iload_n 1, 1) := by decide +kernel
theorem dL_setBlock_4 : decode cL_setBlock 4 = .ok (.iload_n 2, 1) := by decide +kernel
theorem dL_setBlock_5 : decode cL_setBlock 5 = .ok (.invokevirtual 35, 3) := by decide +kernel
theorem dL_setBlock_8 : decode cL_setBlock 8 = .ok (.ifCond .eq 7, 3) := by decide +kernel
theorem dL_setBlock_11 : decode cL_setBlock 11 = .ok (.lconst 1, 1) := by decide +kernel
theorem dL_setBlock_12 : decode cL_setBlock 12 = .ok (.goto 4, 3) := by decide +kernel
theorem dL_setBlock_15 : decode cL_setBlock 15 = .ok (.lconst 0, 1) := by decide +kernel
theorem dL_setBlock_16 : decode cL_setBlock 16 = .ok (.lastore, 1) := by decide +kernel
theorem dL_setBlock_17 : decode cL_setBlock 17 = .ok (.goto 7, 3) := by decide +kernel
theorem dL_setBlock_20 : decode cL_setBlock 20 = .ok (.astore 4, 2) := by decide +kernel
theorem dL_setBlock_22 : decode cL_setBlock 22 = .ok (.iconst 1, 1) := by decide +kernel
theorem dL_setBlock_23 : decode cL_setBlock 23 = .ok (.ireturn, 1) := by decide +kernel
theorem dL_setBlock_24 : decode cL_setBlock 24 = .ok (.iconst 0, 1) := by decide +kernel
theorem dL_setBlock_25 : decode cL_setBlock 25 = .ok (.ireturn, 1) := by decide +kernel
theorem dL_trackedLevel_0 : decode cL_trackedLevel 0 = .ok (.aload_n 3, 1) := by decide +kernel
theorem dL_trackedLevel_1 : decode cL_trackedLevel 1 = .ok (.iconst 0, 1) := by decide +kernel
theorem dL_trackedLevel_2 : decode cL_trackedLevel 2 = .ok (.aload_n 0, 1) := by decide +kernel
theorem dL_trackedLevel_3 : decode cL_trackedLevel 3 = .ok (.iload_n 1, 1) := by decide +kernel
theorem dL_trackedLevel_4 : decode cL_trackedLevel 4 = .ok (.iload_n 2, 1) := by decide +kernel
theorem dL_trackedLevel_5 : decode cL_trackedLevel 5 = .ok (.invokevirtual 39, 3) := by decide +kernel
theorem dL_trackedLevel_8 : decode cL_trackedLevel 8 = .ok (.i2l, 1) := by decide +kernel
theorem dL_trackedLevel_9 : decode cL_trackedLevel 9 = .ok (.lastore, 1) := by decide +kernel
theorem dL_trackedLevel_10 : decode cL_trackedLevel 10 = .ok (.goto 11, 3) := by decide +kernel
theorem dL_trackedLevel_13 : decode cL_trackedLevel 13 = .ok (.astore 4, 2) := by decide +kernel
theorem dL_trackedLevel_15 : decode cL_trackedLevel 15 = .ok (.iconst 1, 1) := by decide +kernel
theorem dL_trackedLevel_16 : decode cL_trackedLevel 16 = .ok (.ireturn, 1) := by decide +kernel
theorem dL_trackedLevel_17 : decode cL_trackedLevel 17 = .ok (.astore 4, 2) := by decide +kernel
theorem dL_trackedLevel_19 : decode cL_trackedLevel 19 = .ok (.iconst 2, 1) := by decide +kernel
theorem dL_trackedLevel_20 : decode cL_trackedLevel 20 = .ok (.ireturn, 1) := by decide +kernel
theorem dL_trackedLevel_21 : decode cL_trackedLevel 21 = .ok (.iconst 0, 1) := by decide +kernel
theorem dL_trackedLevel_22 : decode cL_trackedLevel 22 = .ok (.ireturn, 1) := by decide +kernel
theorem dL_go_0 : decode cL_go 0 = .ok (.aload_n 1, 1) := by decide +kernel
theorem dL_go_1 : decode cL_go 1 = .ok (.iconst 0, 1) := by decide +kernel
theorem dL_go_2 : decode cL_go 2 = .ok (.aload_n 0, 1) := by decide +kernel
theorem dL_go_3 : decode cL_go 3 = .ok (.invokevirtual 42, 3) := by decide +kernel
theorem dL_go_6 : decode cL_go 6 = .ok (.i2l, 1) := by decide +kernel
theorem dL_go_7 : decode cL_go 7 = .ok (.lastore, 1) := by decide +kernel
theorem dL_go_8 : decode cL_go 8 = .ok (.goto 6, 3) := by decide +kernel
theorem dL_go_11 : decode cL_go 11 = .ok (.astore_n 2, 1) := by decide +kernel
theorem dL_go_12 : decode cL_go 12 = .ok (.iconst 1, 1) := by decide +kernel
theorem dL_go_13 : decode cL_go 13 = .ok (.ireturn, 1) := by decide +kernel
theorem dL_go_14 : decode cL_go 14 = .ok (.iconst 0, 1) := by decide +kernel
theorem dL_go_15 : decode cL_go 15 = .ok (.ireturn, 1) := by decide +kernel
theorem dL_back_0 : decode cL_back 0 = .ok (.aload_n 1, 1) := by decide +kernel
theorem dL_back_1 : decode cL_back 1 = .ok (.iconst 0, 1) := by decide +kernel
theorem dL_back_2 : decode cL_back 2 = .ok (.aload_n 0, 1) := by decide +kernel
theorem dL_back_3 : decode cL_back 3 = .ok (.invokevirtual 46, 3) := by decide +kernel
theorem dL_back_6 : decode cL_back 6 = .ok (.i2l, 1) := by decide +kernel
theorem dL_back_7 : decode cL_back 7 = .ok (.lastore, 1) := by decide +kernel
theorem dL_back_8 : decode cL_back 8 = .ok (.goto 6, 3) := by decide +kernel
theorem dL_back_11 : decode cL_back 11 = .ok (.astore_n 2, 1) := by decide +kernel
theorem dL_back_12 : decode cL_back 12 = .ok (.iconst 1, 1) := by decide +kernel
theorem dL_back_13 : decode cL_back 13 = .ok (.ireturn, 1) := by decide +kernel
theorem dL_back_14 : decode cL_back 14 = .ok (.iconst 0, 1) := by decide +kernel
theorem dL_back_15 : decode cL_back 15 = .ok (.ireturn, 1) := by decide +kernel
theorem dL_goTo_0 : decode cL_goTo 0 = .ok (.aload_n 2, 1) := by decide +kernel
theorem dL_goTo_1 : decode cL_goTo 1 = .ok (.iconst 0, 1) := by decide +kernel
theorem dL_goTo_2 : decode cL_goTo 2 = .ok (.aload_n 0, 1) := by decide +kernel
theorem dL_goTo_3 : decode cL_goTo 3 = .ok (.iload_n 1, 1) := by decide +kernel
theorem dL_goTo_4 : decode cL_goTo 4 = .ok (.invokevirtual 49, 3) := by decide +kernel
theorem dL_goTo_7 : decode cL_goTo 7 = .ok (.i2l, 1) := by decide +kernel
theorem dL_goTo_8 : decode cL_goTo 8 = .ok (.lastore, 1) := by decide +kernel
theorem dL_goTo_9 : decode cL_goTo 9 = .ok (.goto 6, 3) := by decide +kernel
theorem dL_goTo_12 : decode cL_goTo 12 = .ok (.astore_n 3, 1) := by decide +kernel
theorem dL_goTo_13 : decode cL_goTo 13 = .ok (.iconst 1, 1) := by decide +kernel
theorem dL_goTo_14 : decode cL_goTo 14 = .ok (.ireturn, 1) := by decide +kernel
theorem dL_goTo_15 : decode cL_goTo 15 = .ok (.iconst 0, 1) := by decide +kernel
theorem dL_goTo_16 : decode cL_goTo 16 = .ok (.ireturn, 1) := by decide +kernel
theorem dL_pass_0 : decode cL_pass 0 = .ok (.aload_n 2, 1) := by decide +kernel
theorem dL_pass_1 : decode cL_pass 1 = .ok (.iconst 0, 1) := by decide +kernel
theorem dL_pass_2 : decode cL_pass 2 = .ok (.aload_n 0, 1) := by decide +kernel
theorem dL_pass_3 : decode cL_pass 3 = .ok (.iload_n 1, 1) := by decide +kernel
theorem dL_pass_4 : decode cL_pass 4 = .ok (.invokevirtual 52, 3) := by decide +kernel
theorem dL_pass_7 : decode cL_pass 7 = .ok (.i2l, 1) := by decide +kernel
theorem dL_pass_8 : decode cL_pass 8 = .ok (.lastore, 1) := by decide +kernel
theorem dL_pass_9 : decode cL_pass 9 = .ok (.goto 6, 3) := by decide +kernel
theorem dL_pass_12 : decode cL_pass 12 = .ok (.astore_n 3, 1) := by decide +kernel
theorem dL_pass_13 : decode cL_pass 13 = .ok (.iconst 1, 1) := by decide +kernel
theorem dL_pass_14 : decode cL_pass 14 = .ok (.ireturn, 1) := by decide +kernel
theorem dL_pass_15 : decode cL_pass 15 = .ok (.iconst 0, 1) := by decide +kernel
theorem dL_pass_16 : decode cL_pass 16 = .ok (.ireturn, 1) := by decide +kernel
theorem dL_cueLevel_0 : decode cL_cueLevel 0 = .ok (.aload_n 2, 1) := by decide +kernel
theorem dL_cueLevel_1 : decode cL_cueLevel 1 = .ok (.iconst 0, 1) := by decide +kernel
theorem dL_cueLevel_2 : decode cL_cueLevel 2 = .ok (.aload_n 0, 1) := by decide +kernel
theorem dL_cueLevel_3 : decode cL_cueLevel 3 = .ok (.iload_n 1, 1) := by decide +kernel
theorem dL_cueLevel_4 : decode cL_cueLevel 4 = .ok (.invokevirtual 55, 3) := by decide +kernel
theorem dL_cueLevel_7 : decode cL_cueLevel 7 = .ok (.i2l, 1) := by decide +kernel
theorem dL_cueLevel_8 : decode cL_cueLevel 8 = .ok (.lastore, 1) := by decide +kernel
theorem dL_cueLevel_9 : decode cL_cueLevel 9 = .ok (.goto 6, 3) := by decide +kernel
theorem dL_cueLevel_12 : decode cL_cueLevel 12 = .ok (.astore_n 3, 1) := by decide +kernel
theorem dL_cueLevel_13 : decode cL_cueLevel 13 = .ok (.iconst 1, 1) := by decide +kernel
theorem dL_cueLevel_14 : decode cL_cueLevel 14 = .ok (.ireturn, 1) := by decide +kernel
theorem dL_cueLevel_15 : decode cL_cueLevel 15 = .ok (.iconst 0, 1) := by decide +kernel
theorem dL_cueLevel_16 : decode cL_cueLevel 16 = .ok (.ireturn, 1) := by decide +kernel
theorem dL_addGroup_0 : decode cL_addGroup 0 = .ok (.aload_n 1, 1) := by decide +kernel
theorem dL_addGroup_1 : decode cL_addGroup 1 = .ok (.iconst 0, 1) := by decide +kernel
theorem dL_addGroup_2 : decode cL_addGroup 2 = .ok (.aload_n 0, 1) := by decide +kernel
theorem dL_addGroup_3 : decode cL_addGroup 3 = .ok (.invokevirtual 58, 3) := by decide +kernel
theorem dL_addGroup_6 : decode cL_addGroup 6 = .ok (.i2l, 1) := by decide +kernel
theorem dL_addGroup_7 : decode cL_addGroup 7 = .ok (.lastore, 1) := by decide +kernel
theorem dL_addGroup_8 : decode cL_addGroup 8 = .ok (.goto 6, 3) := by decide +kernel
theorem dL_addGroup_11 : decode cL_addGroup 11 = .ok (.astore_n 2, 1) := by decide +kernel
theorem dL_addGroup_12 : decode cL_addGroup 12 = .ok (.iconst 1, 1) := by decide +kernel
theorem dL_addGroup_13 : decode cL_addGroup 13 = .ok (.ireturn, 1) := by decide +kernel
theorem dL_addGroup_14 : decode cL_addGroup 14 = .ok (.iconst 0, 1) := by decide +kernel
theorem dL_addGroup_15 : decode cL_addGroup 15 = .ok (.ireturn, 1) := by decide +kernel
theorem dL_setMember_0 : decode cL_setMember 0 = .ok (.aload 4, 2) := by decide +kernel
theorem dL_setMember_2 : decode cL_setMember 2 = .ok (.iconst 0, 1) := by decide +kernel
theorem dL_setMember_3 : decode cL_setMember 3 = .ok (.aload_n 0, 1) := by decide +kernel
theorem dL_setMember_4 : decode cL_setMember 4 = .ok (.iload_n 1, 1) := by decide +kernel
theorem dL_setMember_5 : decode cL_setMember 5 = .ok (.iload_n 2, 1) := by decide +kernel
theorem dL_setMember_6 : decode cL_setMember 6 = .ok (.iload_n 3, 1) := by decide +kernel
theorem dL_setMember_7 : decode cL_setMember 7 = .ok (.invokevirtual 61, 3) := by decide +kernel
theorem dL_setMember_10 : decode cL_setMember 10 = .ok (.ifCond .eq 7, 3) := by decide +kernel
theorem dL_setMember_13 : decode cL_setMember 13 = .ok (.lconst 1, 1) := by decide +kernel
theorem dL_setMember_14 : decode cL_setMember 14 = .ok (.goto 4, 3) := by decide +kernel
theorem dL_setMember_17 : decode cL_setMember 17 = .ok (.lconst 0, 1) := by decide +kernel
theorem dL_setMember_18 : decode cL_setMember 18 = .ok (.lastore, 1) := by decide +kernel
theorem dL_setMember_19 : decode cL_setMember 19 = .ok (.goto 7, 3) := by decide +kernel
theorem dL_setMember_22 : decode cL_setMember 22 = .ok (.astore 5, 2) := by decide +kernel
theorem dL_setMember_24 : decode cL_setMember 24 = .ok (.iconst 1, 1) := by decide +kernel
theorem dL_setMember_25 : decode cL_setMember 25 = .ok (.ireturn, 1) := by decide +kernel
theorem dL_setMember_26 : decode cL_setMember 26 = .ok (.iconst 0, 1) := by decide +kernel
theorem dL_setMember_27 : decode cL_setMember 27 = .ok (.ireturn, 1) := by decide +kernel
theorem dL_setFader_0 : decode cL_setFader 0 = .ok (.aload_n 3, 1) := by decide +kernel
theorem dL_setFader_1 : decode cL_setFader 1 = .ok (.iconst 0, 1) := by decide +kernel
theorem dL_setFader_2 : decode cL_setFader 2 = .ok (.aload_n 0, 1) := by decide +kernel
theorem dL_setFader_3 : decode cL_setFader 3 = .ok (.iload_n 1, 1) := by decide +kernel
theorem dL_setFader_4 : decode cL_setFader 4 = .ok (.iload_n 2, 1) := by decide +kernel
theorem dL_setFader_5 : decode cL_setFader 5 = .ok (.invokevirtual 65, 3) := by decide +kernel
theorem dL_setFader_8 : decode cL_setFader 8 = .ok (.i2l, 1) := by decide +kernel
theorem dL_setFader_9 : decode cL_setFader 9 = .ok (.lastore, 1) := by decide +kernel
theorem dL_setFader_10 : decode cL_setFader 10 = .ok (.goto 11, 3) := by decide +kernel
theorem dL_setFader_13 : decode cL_setFader 13 = .ok (.astore 4, 2) := by decide +kernel
theorem dL_setFader_15 : decode cL_setFader 15 = .ok (.iconst 1, 1) := by decide +kernel
theorem dL_setFader_16 : decode cL_setFader 16 = .ok (.ireturn, 1) := by decide +kernel
theorem dL_setFader_17 : decode cL_setFader 17 = .ok (.astore 4, 2) := by decide +kernel
theorem dL_setFader_19 : decode cL_setFader 19 = .ok (.iconst 2, 1) := by decide +kernel
theorem dL_setFader_20 : decode cL_setFader 20 = .ok (.ireturn, 1) := by decide +kernel
theorem dL_setFader_21 : decode cL_setFader 21 = .ok (.iconst 0, 1) := by decide +kernel
theorem dL_setFader_22 : decode cL_setFader 22 = .ok (.ireturn, 1) := by decide +kernel
theorem dL_setLatest_0 : decode cL_setLatest 0 = .ok (.aload_n 3, 1) := by decide +kernel
theorem dL_setLatest_1 : decode cL_setLatest 1 = .ok (.iconst 0, 1) := by decide +kernel
theorem dL_setLatest_2 : decode cL_setLatest 2 = .ok (.aload_n 0, 1) := by decide +kernel
theorem dL_setLatest_3 : decode cL_setLatest 3 = .ok (.iload_n 1, 1) := by decide +kernel
theorem dL_setLatest_4 : decode cL_setLatest 4 = .ok (.iload_n 2, 1) := by decide +kernel
theorem dL_setLatest_5 : decode cL_setLatest 5 = .ok (.invokevirtual 68, 3) := by decide +kernel
theorem dL_setLatest_8 : decode cL_setLatest 8 = .ok (.ifCond .eq 7, 3) := by decide +kernel
theorem dL_setLatest_11 : decode cL_setLatest 11 = .ok (.lconst 1, 1) := by decide +kernel
theorem dL_setLatest_12 : decode cL_setLatest 12 = .ok (.goto 4, 3) := by decide +kernel
theorem dL_setLatest_15 : decode cL_setLatest 15 = .ok (.lconst 0, 1) := by decide +kernel
theorem dL_setLatest_16 : decode cL_setLatest 16 = .ok (.lastore, 1) := by decide +kernel
theorem dL_setLatest_17 : decode cL_setLatest 17 = .ok (.goto 7, 3) := by decide +kernel
theorem dL_setLatest_20 : decode cL_setLatest 20 = .ok (.astore 4, 2) := by decide +kernel
theorem dL_setLatest_22 : decode cL_setLatest 22 = .ok (.iconst 1, 1) := by decide +kernel
