theorem dX5_add_127 : decode cX5_add 127 = .ok (.isub, 1) := by decide +kernel
theorem dX5_add_128 : decode cX5_add 128 = .ok (.ireturn, 1) := by decide +kernel
theorem dX5_speakersOfLastTwo_0 : decode cX5_speakersOfLastTwo 0 = .ok (.aload_n 0, 1) := by decide +kernel
theorem dX5_speakersOfLastTwo_1 : decode cX5_speakersOfLastTwo 1 = .ok (.getfield 22, 3) := by decide +kernel
theorem dX5_speakersOfLastTwo_4 : decode cX5_speakersOfLastTwo 4 = .ok (.iconst 1, 1) := by decide +kernel
theorem dX5_speakersOfLastTwo_5 : decode cX5_speakersOfLastTwo 5 = .ok (.isub, 1) := by decide +kernel
theorem dX5_speakersOfLastTwo_6 : decode cX5_speakersOfLastTwo 6 = .ok (.istore_n 1, 1) := by decide +kernel
theorem dX5_speakersOfLastTwo_7 : decode cX5_speakersOfLastTwo 7 = .ok (.iload_n 1, 1) := by decide +kernel
theorem dX5_speakersOfLastTwo_8 : decode cX5_speakersOfLastTwo 8 = .ok (.ifCond .lt 32, 3) := by decide +kernel
theorem dX5_speakersOfLastTwo_11 : decode cX5_speakersOfLastTwo 11 = .ok (.aload_n 0, 1) := by decide +kernel
theorem dX5_speakersOfLastTwo_12 : decode cX5_speakersOfLastTwo 12 = .ok (.getfield 11, 3) := by decide +kernel
theorem dX5_speakersOfLastTwo_15 : decode cX5_speakersOfLastTwo 15 = .ok (.iload_n 1, 1) := by decide +kernel
theorem dX5_speakersOfLastTwo_16 : decode cX5_speakersOfLastTwo 16 = .ok (.aaload, 1) := by decide +kernel
theorem dX5_speakersOfLastTwo_17 : decode cX5_speakersOfLastTwo 17 = .ok (.getfield 25, 3) := by decide +kernel
theorem dX5_speakersOfLastTwo_20 : decode cX5_speakersOfLastTwo 20 = .ok (.iconst 1, 1) := by decide +kernel
theorem dX5_speakersOfLastTwo_21 : decode cX5_speakersOfLastTwo 21 = .ok (.if_icmp .ne 13, 3) := by decide +kernel
theorem dX5_speakersOfLastTwo_24 : decode cX5_speakersOfLastTwo 24 = .ok (.aload_n 0, 1) := by decide +kernel
theorem dX5_speakersOfLastTwo_25 : decode cX5_speakersOfLastTwo 25 = .ok (.getfield 11, 3) := by decide +kernel
theorem dX5_speakersOfLastTwo_28 : decode cX5_speakersOfLastTwo 28 = .ok (.iload_n 1, 1) := by decide +kernel
theorem dX5_speakersOfLastTwo_29 : decode cX5_speakersOfLastTwo 29 = .ok (.aaload, 1) := by decide +kernel
theorem dX5_speakersOfLastTwo_30 : decode cX5_speakersOfLastTwo 30 = .ok (.invokevirtual 50, 3) := by decide +kernel
theorem dX5_speakersOfLastTwo_33 : decode cX5_speakersOfLastTwo 33 = .ok (.ireturn, 1) := by decide +kernel
theorem dX5_speakersOfLastTwo_34 : decode cX5_speakersOfLastTwo 34 = .ok (.iinc 1 (-1), 3) := by decide +kernel
theorem dX5_speakersOfLastTwo_37 : decode cX5_speakersOfLastTwo 37 = .ok (.goto (-30), 3) := by decide +kernel
theorem dX5_speakersOfLastTwo_40 : decode cX5_speakersOfLastTwo 40 = .ok (.iconst 0, 1) := by decide +kernel
theorem dX5_speakersOfLastTwo_41 : decode cX5_speakersOfLastTwo 41 = .ok (.ireturn, 1) := by decide +kernel
theorem dX5_lengthOf_0 : decode cX5_lengthOf 0 = .ok (.aload_n 0, 1) := by decide +kernel
theorem dX5_lengthOf_1 : decode cX5_lengthOf 1 = .ok (.getfield 11, 3) := by decide +kernel
theorem dX5_lengthOf_4 : decode cX5_lengthOf 4 = .ok (.iload_n 1, 1) := by decide +kernel
theorem dX5_lengthOf_5 : decode cX5_lengthOf 5 = .ok (.aaload, 1) := by decide +kernel
theorem dX5_lengthOf_6 : decode cX5_lengthOf 6 = .ok (.astore_n 2, 1) := by decide +kernel
theorem dX5_lengthOf_7 : decode cX5_lengthOf 7 = .ok (.aload_n 2, 1) := by decide +kernel
theorem dX5_lengthOf_8 : decode cX5_lengthOf 8 = .ok (.getfield 43, 3) := by decide +kernel
theorem dX5_lengthOf_11 : decode cX5_lengthOf 11 = .ok (.aload_n 0, 1) := by decide +kernel
theorem dX5_lengthOf_12 : decode cX5_lengthOf 12 = .ok (.getfield 17, 3) := by decide +kernel
theorem dX5_lengthOf_15 : decode cX5_lengthOf 15 = .ok (.iadd, 1) := by decide +kernel
theorem dX5_lengthOf_16 : decode cX5_lengthOf 16 = .ok (.iconst 1, 1) := by decide +kernel
theorem dX5_lengthOf_17 : decode cX5_lengthOf 17 = .ok (.isub, 1) := by decide +kernel
theorem dX5_lengthOf_18 : decode cX5_lengthOf 18 = .ok (.aload_n 0, 1) := by decide +kernel
theorem dX5_lengthOf_19 : decode cX5_lengthOf 19 = .ok (.getfield 17, 3) := by decide +kernel
theorem dX5_lengthOf_22 : decode cX5_lengthOf 22 = .ok (.idiv, 1) := by decide +kernel
theorem dX5_lengthOf_23 : decode cX5_lengthOf 23 = .ok (.istore_n 3, 1) := by decide +kernel
theorem dX5_lengthOf_24 : decode cX5_lengthOf 24 = .ok (.aload_n 2, 1) := by decide +kernel
theorem dX5_lengthOf_25 : decode cX5_lengthOf 25 = .ok (.getfield 40, 3) := by decide +kernel
theorem dX5_lengthOf_28 : decode cX5_lengthOf 28 = .ok (.aload_n 2, 1) := by decide +kernel
theorem dX5_lengthOf_29 : decode cX5_lengthOf 29 = .ok (.getfield 37, 3) := by decide +kernel
theorem dX5_lengthOf_32 : decode cX5_lengthOf 32 = .ok (.isub, 1) := by decide +kernel
theorem dX5_lengthOf_33 : decode cX5_lengthOf 33 = .ok (.iconst 1, 1) := by decide +kernel
theorem dX5_lengthOf_34 : decode cX5_lengthOf 34 = .ok (.iadd, 1) := by decide +kernel
theorem dX5_lengthOf_35 : decode cX5_lengthOf 35 = .ok (.iload_n 3, 1) := by decide +kernel
theorem dX5_lengthOf_36 : decode cX5_lengthOf 36 = .ok (.invokestatic 57, 3) := by decide +kernel
theorem dX5_lengthOf_39 : decode cX5_lengthOf 39 = .ok (.ireturn, 1) := by decide +kernel
theorem dX6_init_0 : decode cX6_init 0 = .ok (.aload_n 0, 1) := by decide +kernel
theorem dX6_init_1 : decode cX6_init 1 = .ok (.invokespecial 3, 3) := by decide +kernel
theorem dX6_init_4 : decode cX6_init 4 = .ok (.aload_n 0, 1) := by decide +kernel
theorem dX6_init_5 : decode cX6_init 5 = .ok (.sipush 360, 3) := by decide +kernel
theorem dX6_init_8 : decode cX6_init 8 = .ok (.newarray .int, 2) := by decide +kernel
theorem dX6_init_10 : decode cX6_init 10 = .ok (.putfield 9, 3) := by decide +kernel
theorem dX6_init_13 : decode cX6_init 13 = .ok (.aload_n 0, 1) := by decide +kernel
theorem dX6_init_14 : decode cX6_init 14 = .ok (.bipush 6, 2) := by decide +kernel
theorem dX6_init_16 : decode cX6_init 16 = .ok (.newarray .long, 2) := by decide +kernel
theorem dX6_init_18 : decode cX6_init 18 = .ok (.putfield 15, 3) := by decide +kernel
theorem dX6_init_21 : decode cX6_init 21 = .ok (.aload_n 0, 1) := by decide +kernel
theorem dX6_init_22 : decode cX6_init 22 = .ok (.bipush 12, 2) := by decide +kernel
theorem dX6_init_24 : decode cX6_init 24 = .ok (.newarray .int, 2) := by decide +kernel
theorem dX6_init_26 : decode cX6_init 26 = .ok (.putfield 19, 3) := by decide +kernel
theorem dX6_init_29 : decode cX6_init 29 = .ok (.aload_n 0, 1) := by decide +kernel
theorem dX6_init_30 : decode cX6_init 30 = .ok (.bipush 12, 2) := by decide +kernel
theorem dX6_init_32 : decode cX6_init 32 = .ok (.newarray .int, 2) := by decide +kernel
theorem dX6_init_34 : decode cX6_init 34 = .ok (.putfield 22, 3) := by decide +kernel
theorem dX6_init_37 : decode cX6_init 37 = .ok (.return_, 1) := by decide +kernel
theorem dX6_placeOf_0 : decode cX6_placeOf 0 = .ok (.aload_n 0, 1) := by decide +kernel
theorem dX6_placeOf_1 : decode cX6_placeOf 1 = .ok (.getfield 9, 3) := by decide +kernel
theorem dX6_placeOf_4 : decode cX6_placeOf 4 = .ok (.iload_n 1, 1) := by decide +kernel
theorem dX6_placeOf_5 : decode cX6_placeOf 5 = .ok (.bipush 60, 2) := by decide +kernel
theorem dX6_placeOf_7 : decode cX6_placeOf 7 = .ok (.imul, 1) := by decide +kernel
theorem dX6_placeOf_8 : decode cX6_placeOf 8 = .ok (.iload_n 2, 1) := by decide +kernel
theorem dX6_placeOf_9 : decode cX6_placeOf 9 = .ok (.iadd, 1) := by decide +kernel
theorem dX6_placeOf_10 : decode cX6_placeOf 10 = .ok (.iaload, 1) := by decide +kernel
theorem dX6_placeOf_11 : decode cX6_placeOf 11 = .ok (.ireturn, 1) := by decide +kernel
theorem dX6_hasStep_0 : decode cX6_hasStep 0 = .ok (.aload_n 0, 1) := by decide +kernel
theorem dX6_hasStep_1 : decode cX6_hasStep 1 = .ok (.getfield 15, 3) := by decide +kernel
theorem dX6_hasStep_4 : decode cX6_hasStep 4 = .ok (.iload_n 1, 1) := by decide +kernel
theorem dX6_hasStep_5 : decode cX6_hasStep 5 = .ok (.laload, 1) := by decide +kernel
theorem dX6_hasStep_6 : decode cX6_hasStep 6 = .ok (.iload_n 2, 1) := by decide +kernel
theorem dX6_hasStep_7 : decode cX6_hasStep 7 = .ok (.lshr, 1) := by decide +kernel
theorem dX6_hasStep_8 : decode cX6_hasStep 8 = .ok (.lconst 1, 1) := by decide +kernel
theorem dX6_hasStep_9 : decode cX6_hasStep 9 = .ok (.land, 1) := by decide +kernel
theorem dX6_hasStep_10 : decode cX6_hasStep 10 = .ok (.lconst 0, 1) := by decide +kernel
theorem dX6_hasStep_11 : decode cX6_hasStep 11 = .ok (.lcmp, 1) := by decide +kernel
theorem dX6_hasStep_12 : decode cX6_hasStep 12 = .ok (.ifCond .eq 7, 3) := by decide +kernel
theorem dX6_hasStep_15 : decode cX6_hasStep 15 = .ok (.iconst 1, 1) := by decide +kernel
theorem dX6_hasStep_16 : decode cX6_hasStep 16 = .ok (.goto 4, 3) := by decide +kernel
theorem dX6_hasStep_19 : decode cX6_hasStep 19 = .ok (.iconst 0, 1) := by decide +kernel
theorem dX6_hasStep_20 : decode cX6_hasStep 20 = .ok (.ireturn, 1) := by decide +kernel
theorem dX6_someoneStepsAt_0 : decode cX6_someoneStepsAt 0 = .ok (.iconst 0, 1) := by decide +kernel
theorem dX6_someoneStepsAt_1 : decode cX6_someoneStepsAt 1 = .ok (.istore_n 2, 1) := by decide +kernel
theorem dX6_someoneStepsAt_2 : decode cX6_someoneStepsAt 2 = .ok (.iload_n 2, 1) := by decide +kernel
theorem dX6_someoneStepsAt_3 : decode cX6_someoneStepsAt 3 = .ok (.aload_n 0, 1) := by decide +kernel
theorem dX6_someoneStepsAt_4 : decode cX6_someoneStepsAt 4 = .ok (.getfield 25, 3) := by decide +kernel
theorem dX6_someoneStepsAt_7 : decode cX6_someoneStepsAt 7 = .ok (.if_icmp .ge 20, 3) := by decide +kernel
theorem dX6_someoneStepsAt_10 : decode cX6_someoneStepsAt 10 = .ok (.aload_n 0, 1) := by decide +kernel
theorem dX6_someoneStepsAt_11 : decode cX6_someoneStepsAt 11 = .ok (.iload_n 2, 1) := by decide +kernel
theorem dX6_someoneStepsAt_12 : decode cX6_someoneStepsAt 12 = .ok (.iload_n 1, 1) := by decide +kernel
theorem dX6_someoneStepsAt_13 : decode cX6_someoneStepsAt 13 = .ok (.invokevirtual 29, 3) := by decide +kernel
theorem dX6_someoneStepsAt_16 : decode cX6_someoneStepsAt 16 = .ok (.ifCond .eq 5, 3) := by decide +kernel
theorem dX6_someoneStepsAt_19 : decode cX6_someoneStepsAt 19 = .ok (.iconst 1, 1) := by decide +kernel
theorem dX6_someoneStepsAt_20 : decode cX6_someoneStepsAt 20 = .ok (.ireturn, 1) := by decide +kernel
theorem dX6_someoneStepsAt_21 : decode cX6_someoneStepsAt 21 = .ok (.iinc 2 1, 3) := by decide +kernel
theorem dX6_someoneStepsAt_24 : decode cX6_someoneStepsAt 24 = .ok (.goto (-22), 3) := by decide +kernel
theorem dX6_someoneStepsAt_27 : decode cX6_someoneStepsAt 27 = .ok (.iconst 0, 1) := by decide +kernel
theorem dX6_someoneStepsAt_28 : decode cX6_someoneStepsAt 28 = .ok (.ireturn, 1) := by decide +kernel
theorem dX6_stepsOf_0 : decode cX6_stepsOf 0 = .ok (.aload_n 0, 1) := by decide +kernel
theorem dX6_stepsOf_1 : decode cX6_stepsOf 1 = .ok (.getfield 15, 3) := by decide +kernel
theorem dX6_stepsOf_4 : decode cX6_stepsOf 4 = .ok (.iload_n 1, 1) := by decide +kernel
theorem dX6_stepsOf_5 : decode cX6_stepsOf 5 = .ok (.laload, 1) := by decide +kernel
theorem dX6_stepsOf_6 : decode cX6_stepsOf 6 = .ok (.invokestatic 33, 3) := by decide +kernel
theorem dX6_stepsOf_9 : decode cX6_stepsOf 9 = .ok (.ireturn, 1) := by decide +kernel
theorem dX6_addPerson_0 : decode cX6_addPerson 0 = .ok (.iconst 0, 1) := by decide +kernel
theorem dX6_addPerson_1 : decode cX6_addPerson 1 = .ok (.istore_n 2, 1) := by decide +kernel
theorem dX6_addPerson_2 : decode cX6_addPerson 2 = .ok (.iload_n 2, 1) := by decide +kernel
theorem dX6_addPerson_3 : decode cX6_addPerson 3 = .ok (.bipush 60, 2) := by decide +kernel
theorem dX6_addPerson_5 : decode cX6_addPerson 5 = .ok (.if_icmp .ge 24, 3) := by decide +kernel
theorem dX6_addPerson_8 : decode cX6_addPerson 8 = .ok (.aload_n 0, 1) := by decide +kernel
theorem dX6_addPerson_9 : decode cX6_addPerson 9 = .ok (.getfield 9, 3) := by decide +kernel
theorem dX6_addPerson_12 : decode cX6_addPerson 12 = .ok (.aload_n 0, 1) := by decide +kernel
theorem dX6_addPerson_13 : decode cX6_addPerson 13 = .ok (.getfield 25, 3) := by decide +kernel
theorem dX6_addPerson_16 : decode cX6_addPerson 16 = .ok (.bipush 60, 2) := by decide +kernel
theorem dX6_addPerson_18 : decode cX6_addPerson 18 = .ok (.imul, 1) := by decide +kernel
theorem dX6_addPerson_19 : decode cX6_addPerson 19 = .ok (.iload_n 2, 1) := by decide +kernel
theorem dX6_addPerson_20 : decode cX6_addPerson 20 = .ok (.iadd, 1) := by decide +kernel
theorem dX6_addPerson_21 : decode cX6_addPerson 21 = .ok (.iload_n 1, 1) := by decide +kernel
theorem dX6_addPerson_22 : decode cX6_addPerson 22 = .ok (.iastore, 1) := by decide +kernel
theorem dX6_addPerson_23 : decode cX6_addPerson 23 = .ok (.iinc 2 1, 3) := by decide +kernel
theorem dX6_addPerson_26 : decode cX6_addPerson 26 = .ok (.goto (-24), 3) := by decide +kernel
theorem dX6_addPerson_29 : decode cX6_addPerson 29 = .ok (.aload_n 0, 1) := by decide +kernel
theorem dX6_addPerson_30 : decode cX6_addPerson 30 = .ok (.dup, 1) := by decide +kernel
theorem dX6_addPerson_31 : decode cX6_addPerson 31 = .ok (.getfield 25, 3) := by decide +kernel
theorem dX6_addPerson_34 : decode cX6_addPerson 34 = .ok (.iconst 1, 1) := by decide +kernel
theorem dX6_addPerson_35 : decode cX6_addPerson 35 = .ok (.iadd, 1) := by decide +kernel
theorem dX6_addPerson_36 : decode cX6_addPerson 36 = .ok (.putfield 25, 3) := by decide +kernel
theorem dX6_addPerson_39 : decode cX6_addPerson 39 = .ok (.aload_n 0, 1) := by decide +kernel
theorem dX6_addPerson_40 : decode cX6_addPerson 40 = .ok (.getfield 25, 3) := by decide +kernel
theorem dX6_addPerson_43 : decode cX6_addPerson 43 = .ok (.iconst 1, 1) := by decide +kernel
theorem dX6_addPerson_44 : decode cX6_addPerson 44 = .ok (.isub, 1) := by decide +kernel
theorem dX6_addPerson_45 : decode cX6_addPerson 45 = .ok (.ireturn, 1) := by decide +kernel
theorem dX6_addStep_0 : decode cX6_addStep 0 = .ok (.aload_n 0, 1) := by decide +kernel
theorem dX6_addStep_1 : decode cX6_addStep 1 = .ok (.getfield 15, 3) := by decide +kernel
theorem dX6_addStep_4 : decode cX6_addStep 4 = .ok (.iload_n 1, 1) := by decide +kernel
theorem dX6_addStep_5 : decode cX6_addStep 5 = .ok (.dup2, 1) := by decide +kernel
theorem dX6_addStep_6 : decode cX6_addStep 6 = .ok (.laload, 1) := by decide +kernel
theorem dX6_addStep_7 : decode cX6_addStep 7 = .ok (.lconst 1, 1) := by decide +kernel
theorem dX6_addStep_8 : decode cX6_addStep 8 = .ok (.iload_n 2, 1) := by decide +kernel
theorem dX6_addStep_9 : decode cX6_addStep 9 = .ok (.lshl, 1) := by decide +kernel
theorem dX6_addStep_10 : decode cX6_addStep 10 = .ok (.lor, 1) := by decide +kernel
theorem dX6_addStep_11 : decode cX6_addStep 11 = .ok (.lastore, 1) := by decide +kernel
theorem dX6_addStep_12 : decode cX6_addStep 12 = .ok (.aload_n 0, 1) := by decide +kernel
theorem dX6_addStep_13 : decode cX6_addStep 13 = .ok (.getfield 9, 3) := by decide +kernel
theorem dX6_addStep_16 : decode cX6_addStep 16 = .ok (.iload_n 1, 1) := by decide +kernel
theorem dX6_addStep_17 : decode cX6_addStep 17 = .ok (.bipush 60, 2) := by decide +kernel
theorem dX6_addStep_19 : decode cX6_addStep 19 = .ok (.imul, 1) := by decide +kernel
theorem dX6_addStep_20 : decode cX6_addStep 20 = .ok (.iload_n 2, 1) := by decide +kernel
theorem dX6_addStep_21 : decode cX6_addStep 21 = .ok (.iadd, 1) := by decide +kernel
theorem dX6_addStep_22 : decode cX6_addStep 22 = .ok (.iload_n 3, 1) := by decide +kernel
theorem dX6_addStep_23 : decode cX6_addStep 23 = .ok (.iastore, 1) := by decide +kernel
theorem dX6_addStep_24 : decode cX6_addStep 24 = .ok (.iload_n 2, 1) := by decide +kernel
theorem dX6_addStep_25 : decode cX6_addStep 25 = .ok (.iconst 1, 1) := by decide +kernel
theorem dX6_addStep_26 : decode cX6_addStep 26 = .ok (.iadd, 1) := by decide +kernel
theorem dX6_addStep_27 : decode cX6_addStep 27 = .ok (.istore 4, 2) := by decide +kernel
theorem dX6_addStep_29 : decode cX6_addStep 29 = .ok (.iload 4, 2) := by decide +kernel
theorem dX6_addStep_31 : decode cX6_addStep 31 = .ok (.bipush 60, 2) := by decide +kernel
theorem dX6_addStep_33 : decode cX6_addStep 33 = .ok (.if_icmp .ge 32, 3) := by decide +kernel
theorem dX6_addStep_36 : decode cX6_addStep 36 = .ok (.aload_n 0, 1) := by decide +kernel
theorem dX6_addStep_37 : decode cX6_addStep 37 = .ok (.iload_n 1, 1) := by decide +kernel
theorem dX6_addStep_38 : decode cX6_addStep 38 = .ok (.iload 4, 2) := by decide +kernel
theorem dX6_addStep_40 : decode cX6_addStep 40 = .ok (.invokevirtual 29, 3) := by decide +kernel
theorem dX6_addStep_43 : decode cX6_addStep 43 = .ok (.ifCond .ne 22, 3) := by decide +kernel
theorem dX6_addStep_46 : decode cX6_addStep 46 = .ok (.aload_n 0, 1) := by decide +kernel
theorem dX6_addStep_47 : decode cX6_addStep 47 = .ok (.getfield 9, 3) := by decide +kernel
theorem dX6_addStep_50 : decode cX6_addStep 50 = .ok (.iload_n 1, 1) := by decide +kernel
theorem dX6_addStep_51 : decode cX6_addStep 51 = .ok (.bipush 60, 2) := by decide +kernel
theorem dX6_addStep_53 : decode cX6_addStep 53 = .ok (.imul, 1) := by decide +kernel
theorem dX6_addStep_54 : decode cX6_addStep 54 = .ok (.iload 4, 2) := by decide +kernel
theorem dX6_addStep_56 : decode cX6_addStep 56 = .ok (.iadd, 1) := by decide +kernel
theorem dX6_addStep_57 : decode cX6_addStep 57 = .ok (.iload_n 3, 1) := by decide +kernel
theorem dX6_addStep_58 : decode cX6_addStep 58 = .ok (.iastore, 1) := by decide +kernel
theorem dX6_addStep_59 : decode cX6_addStep 59 = .ok (.iinc 4 1, 3) := by decide +kernel
theorem dX6_addStep_62 : decode cX6_addStep 62 = .ok (.goto (-33), 3) := by decide +kernel
theorem dX6_addStep_65 : decode cX6_addStep 65 = .ok (.aload_n 0, 1) := by decide +kernel
theorem dX6_addStep_66 : decode cX6_addStep 66 = .ok (.iload_n 1, 1) := by decide +kernel
theorem dX6_addStep_67 : decode cX6_addStep 67 = .ok (.invokevirtual 39, 3) := by decide +kernel
theorem dX6_addStep_70 : decode cX6_addStep 70 = .ok (.ireturn, 1) := by decide +kernel
theorem dX6_addWall_0 : decode cX6_addWall 0 = .ok (.aload_n 0, 1) := by decide +kernel
theorem dX6_addWall_1 : decode cX6_addWall 1 = .ok (.getfield 19, 3) := by decide +kernel
theorem dX6_addWall_4 : decode cX6_addWall 4 = .ok (.aload_n 0, 1) := by decide +kernel
theorem dX6_addWall_5 : decode cX6_addWall 5 = .ok (.getfield 43, 3) := by decide +kernel
theorem dX6_addWall_8 : decode cX6_addWall 8 = .ok (.iload_n 1, 1) := by decide +kernel
theorem dX6_addWall_9 : decode cX6_addWall 9 = .ok (.iastore, 1) := by decide +kernel
theorem dX6_addWall_10 : decode cX6_addWall 10 = .ok (.aload_n 0, 1) := by decide +kernel
theorem dX6_addWall_11 : decode cX6_addWall 11 = .ok (.getfield 22, 3) := by decide +kernel
theorem dX6_addWall_14 : decode cX6_addWall 14 = .ok (.aload_n 0, 1) := by decide +kernel
theorem dX6_addWall_15 : decode cX6_addWall 15 = .ok (.getfield 43, 3) := by decide +kernel
theorem dX6_addWall_18 : decode cX6_addWall 18 = .ok (.iload_n 2, 1) := by decide +kernel
theorem dX6_addWall_19 : decode cX6_addWall 19 = .ok (.iastore, 1) := by decide +kernel
theorem dX6_addWall_20 : decode cX6_addWall 20 = .ok (.aload_n 0, 1) := by decide +kernel
theorem dX6_addWall_21 : decode cX6_addWall 21 = .ok (.dup, 1) := by decide +kernel
theorem dX6_addWall_22 : decode cX6_addWall 22 = .ok (.getfield 43, 3) := by decide +kernel
theorem dX6_addWall_25 : decode cX6_addWall 25 = .ok (.iconst 1, 1) := by decide +kernel
theorem dX6_addWall_26 : decode cX6_addWall 26 = .ok (.iadd, 1) := by decide +kernel
theorem dX6_addWall_27 : decode cX6_addWall 27 = .ok (.putfield 43, 3) := by decide +kernel
theorem dX6_addWall_30 : decode cX6_addWall 30 = .ok (.aload_n 0, 1) := by decide +kernel
theorem dX6_addWall_31 : decode cX6_addWall 31 = .ok (.getfield 43, 3) := by decide +kernel
theorem dX6_addWall_34 : decode cX6_addWall 34 = .ok (.iconst 1, 1) := by decide +kernel
theorem dX6_addWall_35 : decode cX6_addWall 35 = .ok (.isub, 1) := by decide +kernel
theorem dX6_addWall_36 : decode cX6_addWall 36 = .ok (.ireturn, 1) := by decide +kernel
theorem dX6_hides_0 : decode cX6_hides 0 = .ok (.aload_n 0, 1) := by decide +kernel
theorem dX6_hides_1 : decode cX6_hides 1 = .ok (.iload_n 1, 1) := by decide +kernel
theorem dX6_hides_2 : decode cX6_hides 2 = .ok (.iload_n 2, 1) := by decide +kernel
theorem dX6_hides_3 : decode cX6_hides 3 = .ok (.invokevirtual 46, 3) := by decide +kernel
theorem dX6_hides_6 : decode cX6_hides 6 = .ok (.istore 4, 2) := by decide +kernel
theorem dX6_hides_8 : decode cX6_hides 8 = .ok (.iload_n 3, 1) := by decide +kernel
theorem dX6_hides_9 : decode cX6_hides 9 = .ok (.iload 4, 2) := by decide +kernel
theorem dX6_hides_11 : decode cX6_hides 11 = .ok (.if_icmp .ne 5, 3) := by decide +kernel
theorem dX6_hides_14 : decode cX6_hides 14 = .ok (.iconst 1, 1) := by decide +kernel
theorem dX6_hides_15 : decode cX6_hides 15 = .ok (.ireturn, 1) := by decide +kernel
theorem dX6_hides_16 : decode cX6_hides 16 = .ok (.iconst 0, 1) := by decide +kernel
theorem dX6_hides_17 : decode cX6_hides 17 = .ok (.istore 5, 2) := by decide +kernel
theorem dX6_hides_19 : decode cX6_hides 19 = .ok (.iload 5, 2) := by decide +kernel
theorem dX6_hides_21 : decode cX6_hides 21 = .ok (.aload_n 0, 1) := by decide +kernel
theorem dX6_hides_22 : decode cX6_hides 22 = .ok (.getfield 43, 3) := by decide +kernel
theorem dX6_hides_25 : decode cX6_hides 25 = .ok (.if_icmp .ge 34, 3) := by decide +kernel
theorem dX6_hides_28 : decode cX6_hides 28 = .ok (.iload_n 3, 1) := by decide +kernel
theorem dX6_hides_29 : decode cX6_hides 29 = .ok (.iload 4, 2) := by decide +kernel
theorem dX6_hides_31 : decode cX6_hides 31 = .ok (.aload_n 0, 1) := by decide +kernel
theorem dX6_hides_32 : decode cX6_hides 32 = .ok (.getfield 19, 3) := by decide +kernel
theorem dX6_hides_35 : decode cX6_hides 35 = .ok (.iload 5, 2) := by decide +kernel
theorem dX6_hides_37 : decode cX6_hides 37 = .ok (.iaload, 1) := by decide +kernel
theorem dX6_hides_38 : decode cX6_hides 38 = .ok (.aload_n 0, 1) := by decide +kernel
theorem dX6_hides_39 : decode cX6_hides 39 = .ok (.getfield 22, 3) := by decide +kernel
theorem dX6_hides_42 : decode cX6_hides 42 = .ok (.iload 5, 2) := by decide +kernel
theorem dX6_hides_44 : decode cX6_hides 44 = .ok (.iaload, 1) := by decide +kernel
theorem dX6_hides_45 : decode cX6_hides 45 = .ok (.invokestatic 50, 3) := by decide +kernel
theorem dX6_hides_48 : decode cX6_hides 48 = .ok (.ifCond .eq 5, 3) := by decide +kernel
theorem dX6_hides_51 : decode cX6_hides 51 = .ok (.iconst 1, 1) := by decide +kernel
theorem dX6_hides_52 : decode cX6_hides 52 = .ok (.ireturn, 1) := by decide +kernel
theorem dX6_hides_53 : decode cX6_hides 53 = .ok (.iinc 5 1, 3) := by decide +kernel
theorem dX6_hides_56 : decode cX6_hides 56 = .ok (.goto (-37), 3) := by decide +kernel
theorem dX6_hides_59 : decode cX6_hides 59 = .ok (.iconst 0, 1) := by decide +kernel
theorem dX6_hides_60 : decode cX6_hides 60 = .ok (.istore 5, 2) := by decide +kernel
theorem dX6_hides_62 : decode cX6_hides 62 = .ok (.iload 5, 2) := by decide +kernel
theorem dX6_hides_64 : decode cX6_hides 64 = .ok (.aload_n 0, 1) := by decide +kernel
theorem dX6_hides_65 : decode cX6_hides 65 = .ok (.getfield 25, 3) := by decide +kernel
theorem dX6_hides_68 : decode cX6_hides 68 = .ok (.if_icmp .ge 27, 3) := by decide +kernel
theorem dX6_hides_71 : decode cX6_hides 71 = .ok (.aload_n 0, 1) := by decide +kernel
theorem dX6_hides_72 : decode cX6_hides 72 = .ok (.iload 5, 2) := by decide +kernel
theorem dX6_hides_74 : decode cX6_hides 74 = .ok (.iload_n 2, 1) := by decide +kernel
theorem dX6_hides_75 : decode cX6_hides 75 = .ok (.invokevirtual 46, 3) := by decide +kernel
theorem dX6_hides_78 : decode cX6_hides 78 = .ok (.iload_n 3, 1) := by decide +kernel
theorem dX6_hides_79 : decode cX6_hides 79 = .ok (.iload 4, 2) := by decide +kernel
theorem dX6_hides_81 : decode cX6_hides 81 = .ok (.invokestatic 56, 3) := by decide +kernel
theorem dX6_hides_84 : decode cX6_hides 84 = .ok (.ifCond .eq 5, 3) := by decide +kernel
theorem dX6_hides_87 : decode cX6_hides 87 = .ok (.iconst 1, 1) := by decide +kernel
theorem dX6_hides_88 : decode cX6_hides 88 = .ok (.ireturn, 1) := by decide +kernel
theorem dX6_hides_89 : decode cX6_hides 89 = .ok (.iinc 5 1, 3) := by decide +kernel
theorem dX6_hides_92 : decode cX6_hides 92 = .ok (.goto (-30), 3) := by decide +kernel
theorem dX6_hides_95 : decode cX6_hides 95 = .ok (.iconst 0, 1) := by decide +kernel
theorem dX6_hides_96 : decode cX6_hides 96 = .ok (.ireturn, 1) := by decide +kernel
theorem dX7_init_0 : decode cX7_init 0 = .ok (.aload_n 0, 1) := by decide +kernel
theorem dX7_init_1 : decode cX7_init 1 = .ok (.invokespecial 1, 3) := by decide +kernel
theorem dX7_init_4 : decode cX7_init 4 = .ok (.aload_n 0, 1) := by decide +kernel
theorem dX7_init_5 : decode cX7_init 5 = .ok (.new 7, 3) := by decide +kernel
theorem dX7_init_8 : decode cX7_init 8 = .ok (.dup, 1) := by decide +kernel
theorem dX7_init_9 : decode cX7_init 9 = .ok (.invokespecial 9, 3) := by decide +kernel
theorem dX7_init_12 : decode cX7_init 12 = .ok (.putfield 10, 3) := by decide +kernel
theorem dX7_init_15 : decode cX7_init 15 = .ok (.aload_n 0, 1) := by decide +kernel
theorem dX7_init_16 : decode cX7_init 16 = .ok (.new 16, 3) := by decide +kernel
theorem dX7_init_19 : decode cX7_init 19 = .ok (.dup, 1) := by decide +kernel
theorem dX7_init_20 : decode cX7_init 20 = .ok (.invokespecial 18, 3) := by decide +kernel
theorem dX7_init_23 : decode cX7_init 23 = .ok (.putfield 19, 3) := by decide +kernel
theorem dX7_init_26 : decode cX7_init 26 = .ok (.aload_n 0, 1) := by decide +kernel
theorem dX7_init_27 : decode cX7_init 27 = .ok (.new 23, 3) := by decide +kernel
theorem dX7_init_30 : decode cX7_init 30 = .ok (.dup, 1) := by decide +kernel
theorem dX7_init_31 : decode cX7_init 31 = .ok (.invokespecial 25, 3) := by decide +kernel
theorem dX7_init_34 : decode cX7_init 34 = .ok (.putfield 26, 3) := by decide +kernel
theorem dX7_init_37 : decode cX7_init 37 = .ok (.aload_n 0, 1) := by decide +kernel
theorem dX7_init_38 : decode cX7_init 38 = .ok (.new 30, 3) := by decide +kernel
theorem dX7_init_41 : decode cX7_init 41 = .ok (.dup, 1) := by decide +kernel
theorem dX7_init_42 : decode cX7_init 42 = .ok (.aload_n 0, 1) := by decide +kernel
theorem dX7_init_43 : decode cX7_init 43 = .ok (.getfield 10, 3) := by decide +kernel
theorem dX7_init_46 : decode cX7_init 46 = .ok (.invokespecial 32, 3) := by decide +kernel
theorem dX7_init_49 : decode cX7_init 49 = .ok (.putfield 35, 3) := by decide +kernel
theorem dX7_init_52 : decode cX7_init 52 = .ok (.aload_n 0, 1) := by decide +kernel
theorem dX7_init_53 : decode cX7_init 53 = .ok (.new 39, 3) := by decide +kernel
theorem dX7_init_56 : decode cX7_init 56 = .ok (.dup, 1) := by decide +kernel
theorem dX7_init_57 : decode cX7_init 57 = .ok (.aload_n 0, 1) := by decide +kernel
theorem dX7_init_58 : decode cX7_init 58 = .ok (.getfield 35, 3) := by decide +kernel
theorem dX7_init_61 : decode cX7_init 61 = .ok (.aload_n 0, 1) := by decide +kernel
theorem dX7_init_62 : decode cX7_init 62 = .ok (.getfield 19, 3) := by decide +kernel
theorem dX7_init_65 : decode cX7_init 65 = .ok (.aload_n 0, 1) := by decide +kernel
theorem dX7_init_66 : decode cX7_init 66 = .ok (.getfield 26, 3) := by decide +kernel
theorem dX7_init_69 : decode cX7_init 69 = .ok (.invokespecial 41, 3) := by decide +kernel
theorem dX7_init_72 : decode cX7_init 72 = .ok (.putfield 44, 3) := by decide +kernel
theorem dX7_init_75 : decode cX7_init 75 = .ok (.aload_n 0, 1) := by decide +kernel
theorem dX7_init_76 : decode cX7_init 76 = .ok (.bipush 8, 2) := by decide +kernel
theorem dX7_init_78 : decode cX7_init 78 = .ok (.newarray .int, 2) := by decide +kernel
theorem dX7_init_80 : decode cX7_init 80 = .ok (.putfield 48, 3) := by decide +kernel
theorem dX7_init_83 : decode cX7_init 83 = .ok (.return_, 1) := by decide +kernel
theorem dX7_person_0 : decode cX7_person 0 = .ok (.iload_n 1, 1) := by decide +kernel
theorem dX7_person_1 : decode cX7_person 1 = .ok (.invokestatic 52, 3) := by decide +kernel
theorem dX7_person_4 : decode cX7_person 4 = .ok (.ifCond .ne 5, 3) := by decide +kernel
theorem dX7_person_7 : decode cX7_person 7 = .ok (.iconst (-1), 1) := by decide +kernel
theorem dX7_person_8 : decode cX7_person 8 = .ok (.ireturn, 1) := by decide +kernel
theorem dX7_person_9 : decode cX7_person 9 = .ok (.aload_n 0, 1) := by decide +kernel
theorem dX7_person_10 : decode cX7_person 10 = .ok (.getfield 10, 3) := by decide +kernel
theorem dX7_person_13 : decode cX7_person 13 = .ok (.getfield 56, 3) := by decide +kernel
theorem dX7_person_16 : decode cX7_person 16 = .ok (.bipush 6, 2) := by decide +kernel
theorem dX7_person_18 : decode cX7_person 18 = .ok (.if_icmp .lt 6, 3) := by decide +kernel
theorem dX7_person_21 : decode cX7_person 21 = .ok (.bipush (-2), 2) := by decide +kernel
theorem dX7_person_23 : decode cX7_person 23 = .ok (.ireturn, 1) := by decide +kernel
theorem dX7_person_24 : decode cX7_person 24 = .ok (.aload_n 0, 1) := by decide +kernel
theorem dX7_person_25 : decode cX7_person 25 = .ok (.getfield 44, 3) := by decide +kernel
theorem dX7_person_28 : decode cX7_person 28 = .ok (.invokevirtual 60, 3) := by decide +kernel
theorem dX7_person_31 : decode cX7_person 31 = .ok (.aload_n 0, 1) := by decide +kernel
theorem dX7_person_32 : decode cX7_person 32 = .ok (.getfield 10, 3) := by decide +kernel
theorem dX7_person_35 : decode cX7_person 35 = .ok (.iload_n 1, 1) := by decide +kernel
theorem dX7_person_36 : decode cX7_person 36 = .ok (.invokevirtual 63, 3) := by decide +kernel
theorem dX7_person_39 : decode cX7_person 39 = .ok (.ireturn, 1) := by decide +kernel
theorem dX7_step_0 : decode cX7_step 0 = .ok (.aload_n 0, 1) := by decide +kernel
theorem dX7_step_1 : decode cX7_step 1 = .ok (.iload_n 1, 1) := by decide +kernel
theorem dX7_step_2 : decode cX7_step 2 = .ok (.invokevirtual 67, 3) := by decide +kernel
theorem dX7_step_5 : decode cX7_step 5 = .ok (.ifCond .eq 21, 3) := by decide +kernel
theorem dX7_step_8 : decode cX7_step 8 = .ok (.iload_n 2, 1) := by decide +kernel
theorem dX7_step_9 : decode cX7_step 9 = .ok (.invokestatic 70, 3) := by decide +kernel
theorem dX7_step_12 : decode cX7_step 12 = .ok (.ifCond .eq 14, 3) := by decide +kernel
theorem dX7_step_15 : decode cX7_step 15 = .ok (.iload_n 2, 1) := by decide +kernel
theorem dX7_step_16 : decode cX7_step 16 = .ok (.ifCond .eq 10, 3) := by decide +kernel
theorem dX7_step_19 : decode cX7_step 19 = .ok (.iload_n 3, 1) := by decide +kernel
theorem dX7_step_20 : decode cX7_step 20 = .ok (.invokestatic 52, 3) := by decide +kernel
theorem dX7_step_23 : decode cX7_step 23 = .ok (.ifCond .ne 5, 3) := by decide +kernel
theorem dX7_step_26 : decode cX7_step 26 = .ok (.iconst (-1), 1) := by decide +kernel
theorem dX7_step_27 : decode cX7_step 27 = .ok (.ireturn, 1) := by decide +kernel
theorem dX7_step_28 : decode cX7_step 28 = .ok (.aload_n 0, 1) := by decide +kernel
theorem dX7_step_29 : decode cX7_step 29 = .ok (.getfield 10, 3) := by decide +kernel
theorem dX7_step_32 : decode cX7_step 32 = .ok (.iload_n 1, 1) := by decide +kernel
theorem dX7_step_33 : decode cX7_step 33 = .ok (.iload_n 2, 1) := by decide +kernel
theorem dX7_step_34 : decode cX7_step 34 = .ok (.invokevirtual 73, 3) := by decide +kernel
theorem dX7_step_37 : decode cX7_step 37 = .ok (.ifCond .ne 19, 3) := by decide +kernel
theorem dX7_step_40 : decode cX7_step 40 = .ok (.aload_n 0, 1) := by decide +kernel
theorem dX7_step_41 : decode cX7_step 41 = .ok (.getfield 10, 3) := by decide +kernel
theorem dX7_step_44 : decode cX7_step 44 = .ok (.iload_n 1, 1) := by decide +kernel
theorem dX7_step_45 : decode cX7_step 45 = .ok (.invokevirtual 77, 3) := by decide +kernel
theorem dX7_step_48 : decode cX7_step 48 = .ok (.bipush 12, 2) := by decide +kernel
theorem dX7_step_50 : decode cX7_step 50 = .ok (.if_icmp .lt 6, 3) := by decide +kernel
theorem dX7_step_53 : decode cX7_step 53 = .ok (.bipush (-2), 2) := by decide +kernel
theorem dX7_step_55 : decode cX7_step 55 = .ok (.ireturn, 1) := by decide +kernel
theorem dX7_step_56 : decode cX7_step 56 = .ok (.aload_n 0, 1) := by decide +kernel
theorem dX7_step_57 : decode cX7_step 57 = .ok (.getfield 44, 3) := by decide +kernel
theorem dX7_step_60 : decode cX7_step 60 = .ok (.invokevirtual 60, 3) := by decide +kernel
theorem dX7_step_63 : decode cX7_step 63 = .ok (.aload_n 0, 1) := by decide +kernel
theorem dX7_step_64 : decode cX7_step 64 = .ok (.getfield 10, 3) := by decide +kernel
theorem dX7_step_67 : decode cX7_step 67 = .ok (.iload_n 1, 1) := by decide +kernel
theorem dX7_step_68 : decode cX7_step 68 = .ok (.iload_n 2, 1) := by decide +kernel
theorem dX7_step_69 : decode cX7_step 69 = .ok (.iload_n 3, 1) := by decide +kernel
theorem dX7_step_70 : decode cX7_step 70 = .ok (.invokevirtual 80, 3) := by decide +kernel
theorem dX7_step_73 : decode cX7_step 73 = .ok (.ireturn, 1) := by decide +kernel
theorem dX7_wall_0 : decode cX7_wall 0 = .ok (.iload_n 1, 1) := by decide +kernel
theorem dX7_wall_1 : decode cX7_wall 1 = .ok (.invokestatic 52, 3) := by decide +kernel
theorem dX7_wall_4 : decode cX7_wall 4 = .ok (.ifCond .eq 15, 3) := by decide +kernel
theorem dX7_wall_7 : decode cX7_wall 7 = .ok (.iload_n 2, 1) := by decide +kernel
theorem dX7_wall_8 : decode cX7_wall 8 = .ok (.invokestatic 52, 3) := by decide +kernel
theorem dX7_wall_11 : decode cX7_wall 11 = .ok (.ifCond .eq 8, 3) := by decide +kernel
theorem dX7_wall_14 : decode cX7_wall 14 = .ok (.iload_n 1, 1) := by decide +kernel
theorem dX7_wall_15 : decode cX7_wall 15 = .ok (.iload_n 2, 1) := by decide +kernel
theorem dX7_wall_16 : decode cX7_wall 16 = .ok (.if_icmp .ne 5, 3) := by decide +kernel
theorem dX7_wall_19 : decode cX7_wall 19 = .ok (.iconst (-1), 1) := by decide +kernel
theorem dX7_wall_20 : decode cX7_wall 20 = .ok (.ireturn, 1) := by decide +kernel
theorem dX7_wall_21 : decode cX7_wall 21 = .ok (.aload_n 0, 1) := by decide +kernel
theorem dX7_wall_22 : decode cX7_wall 22 = .ok (.getfield 10, 3) := by decide +kernel
theorem dX7_wall_25 : decode cX7_wall 25 = .ok (.getfield 84, 3) := by decide +kernel
theorem dX7_wall_28 : decode cX7_wall 28 = .ok (.bipush 12, 2) := by decide +kernel
theorem dX7_wall_30 : decode cX7_wall 30 = .ok (.if_icmp .lt 6, 3) := by decide +kernel
theorem dX7_wall_33 : decode cX7_wall 33 = .ok (.bipush (-2), 2) := by decide +kernel
theorem dX7_wall_35 : decode cX7_wall 35 = .ok (.ireturn, 1) := by decide +kernel
theorem dX7_wall_36 : decode cX7_wall 36 = .ok (.aload_n 0, 1) := by decide +kernel
theorem dX7_wall_37 : decode cX7_wall 37 = .ok (.getfield 44, 3) := by decide +kernel
theorem dX7_wall_40 : decode cX7_wall 40 = .ok (.invokevirtual 60, 3) := by decide +kernel
theorem dX7_wall_43 : decode cX7_wall 43 = .ok (.aload_n 0, 1) := by decide +kernel
theorem dX7_wall_44 : decode cX7_wall 44 = .ok (.getfield 10, 3) := by decide +kernel
theorem dX7_wall_47 : decode cX7_wall 47 = .ok (.iload_n 1, 1) := by decide +kernel
theorem dX7_wall_48 : decode cX7_wall 48 = .ok (.iload_n 2, 1) := by decide +kernel
theorem dX7_wall_49 : decode cX7_wall 49 = .ok (.invokevirtual 87, 3) := by decide +kernel
theorem dX7_wall_52 : decode cX7_wall 52 = .ok (.ireturn, 1) := by decide +kernel
theorem dX7_open_0 : decode cX7_open 0 = .ok (.aload_n 0, 1) := by decide +kernel
theorem dX7_open_1 : decode cX7_open 1 = .ok (.getfield 10, 3) := by decide +kernel
theorem dX7_open_4 : decode cX7_open 4 = .ok (.getfield 84, 3) := by decide +kernel
theorem dX7_open_7 : decode cX7_open 7 = .ok (.ifCond .ne 6, 3) := by decide +kernel
theorem dX7_open_10 : decode cX7_open 10 = .ok (.bipush (-3), 2) := by decide +kernel
theorem dX7_open_12 : decode cX7_open 12 = .ok (.ireturn, 1) := by decide +kernel
theorem dX7_open_13 : decode cX7_open 13 = .ok (.aload_n 0, 1) := by decide +kernel
theorem dX7_open_14 : decode cX7_open 14 = .ok (.getfield 44, 3) := by decide +kernel
theorem dX7_open_17 : decode cX7_open 17 = .ok (.invokevirtual 60, 3) := by decide +kernel
theorem dX7_open_20 : decode cX7_open 20 = .ok (.aload_n 0, 1) := by decide +kernel
theorem dX7_open_21 : decode cX7_open 21 = .ok (.getfield 10, 3) := by decide +kernel
theorem dX7_open_24 : decode cX7_open 24 = .ok (.dup, 1) := by decide +kernel
theorem dX7_open_25 : decode cX7_open 25 = .ok (.getfield 84, 3) := by decide +kernel
theorem dX7_open_28 : decode cX7_open 28 = .ok (.iconst 1, 1) := by decide +kernel
theorem dX7_open_29 : decode cX7_open 29 = .ok (.isub, 1) := by decide +kernel
theorem dX7_open_30 : decode cX7_open 30 = .ok (.putfield 84, 3) := by decide +kernel
theorem dX7_open_33 : decode cX7_open 33 = .ok (.aload_n 0, 1) := by decide +kernel
theorem dX7_open_34 : decode cX7_open 34 = .ok (.getfield 10, 3) := by decide +kernel
theorem dX7_open_37 : decode cX7_open 37 = .ok (.getfield 84, 3) := by decide +kernel
theorem dX7_open_40 : decode cX7_open 40 = .ok (.ireturn, 1) := by decide +kernel
theorem dX7_camera_0 : decode cX7_camera 0 = .ok (.iload_n 1, 1) := by decide +kernel
theorem dX7_camera_1 : decode cX7_camera 1 = .ok (.invokestatic 52, 3) := by decide +kernel
theorem dX7_camera_4 : decode cX7_camera 4 = .ok (.ifCond .eq 12, 3) := by decide +kernel
theorem dX7_camera_7 : decode cX7_camera 7 = .ok (.iload_n 2, 1) := by decide +kernel
theorem dX7_camera_8 : decode cX7_camera 8 = .ok (.ifCond .lt 8, 3) := by decide +kernel
theorem dX7_camera_11 : decode cX7_camera 11 = .ok (.iload_n 2, 1) := by decide +kernel
theorem dX7_camera_12 : decode cX7_camera 12 = .ok (.iconst 4, 1) := by decide +kernel
theorem dX7_camera_13 : decode cX7_camera 13 = .ok (.if_icmp .lt 5, 3) := by decide +kernel
theorem dX7_camera_16 : decode cX7_camera 16 = .ok (.iconst (-1), 1) := by decide +kernel
theorem dX7_camera_17 : decode cX7_camera 17 = .ok (.ireturn, 1) := by decide +kernel
theorem dX7_camera_18 : decode cX7_camera 18 = .ok (.aload_n 0, 1) := by decide +kernel
theorem dX7_camera_19 : decode cX7_camera 19 = .ok (.getfield 19, 3) := by decide +kernel
theorem dX7_camera_22 : decode cX7_camera 22 = .ok (.getfield 91, 3) := by decide +kernel
theorem dX7_camera_25 : decode cX7_camera 25 = .ok (.bipush 10, 2) := by decide +kernel
theorem dX7_camera_27 : decode cX7_camera 27 = .ok (.if_icmp .lt 6, 3) := by decide +kernel
theorem dX7_camera_30 : decode cX7_camera 30 = .ok (.bipush (-2), 2) := by decide +kernel
theorem dX7_camera_32 : decode cX7_camera 32 = .ok (.ireturn, 1) := by decide +kernel
theorem dX7_camera_33 : decode cX7_camera 33 = .ok (.aload_n 0, 1) := by decide +kernel
theorem dX7_camera_34 : decode cX7_camera 34 = .ok (.getfield 44, 3) := by decide +kernel
theorem dX7_camera_37 : decode cX7_camera 37 = .ok (.invokevirtual 60, 3) := by decide +kernel
theorem dX7_camera_40 : decode cX7_camera 40 = .ok (.aload_n 0, 1) := by decide +kernel
theorem dX7_camera_41 : decode cX7_camera 41 = .ok (.getfield 19, 3) := by decide +kernel
theorem dX7_camera_44 : decode cX7_camera 44 = .ok (.iload_n 1, 1) := by decide +kernel
theorem dX7_camera_45 : decode cX7_camera 45 = .ok (.iload_n 2, 1) := by decide +kernel
theorem dX7_camera_46 : decode cX7_camera 46 = .ok (.invokevirtual 94, 3) := by decide +kernel
theorem dX7_camera_49 : decode cX7_camera 49 = .ok (.ireturn, 1) := by decide +kernel
theorem dX7_board_0 : decode cX7_board 0 = .ok (.aload_n 0, 1) := by decide +kernel
theorem dX7_board_1 : decode cX7_board 1 = .ok (.iload_n 1, 1) := by decide +kernel
theorem dX7_board_2 : decode cX7_board 2 = .ok (.invokevirtual 97, 3) := by decide +kernel
theorem dX7_board_5 : decode cX7_board 5 = .ok (.ifCond .eq 34, 3) := by decide +kernel
theorem dX7_board_8 : decode cX7_board 8 = .ok (.iload_n 3, 1) := by decide +kernel
theorem dX7_board_9 : decode cX7_board 9 = .ok (.invokestatic 100, 3) := by decide +kernel
theorem dX7_board_12 : decode cX7_board 12 = .ok (.ifCond .eq 27, 3) := by decide +kernel
theorem dX7_board_15 : decode cX7_board 15 = .ok (.iload_n 2, 1) := by decide +kernel
theorem dX7_board_16 : decode cX7_board 16 = .ok (.iconst 1, 1) := by decide +kernel
theorem dX7_board_17 : decode cX7_board 17 = .ok (.if_icmp .lt 22, 3) := by decide +kernel
theorem dX7_board_20 : decode cX7_board 20 = .ok (.iload_n 2, 1) := by decide +kernel
theorem dX7_board_21 : decode cX7_board 21 = .ok (.bipush 7, 2) := by decide +kernel
theorem dX7_board_23 : decode cX7_board 23 = .ok (.if_icmp .gt 16, 3) := by decide +kernel
theorem dX7_board_26 : decode cX7_board 26 = .ok (.iload 4, 2) := by decide +kernel
theorem dX7_board_28 : decode cX7_board 28 = .ok (.ifCond .lt 11, 3) := by decide +kernel
theorem dX7_board_31 : decode cX7_board 31 = .ok (.iload 4, 2) := by decide +kernel
theorem dX7_board_33 : decode cX7_board 33 = .ok (.sipush 200, 3) := by decide +kernel
theorem dX7_board_36 : decode cX7_board 36 = .ok (.if_icmp .le 5, 3) := by decide +kernel
theorem dX7_board_39 : decode cX7_board 39 = .ok (.iconst (-1), 1) := by decide +kernel
theorem dX7_board_40 : decode cX7_board 40 = .ok (.ireturn, 1) := by decide +kernel
theorem dX7_board_41 : decode cX7_board 41 = .ok (.aload_n 0, 1) := by decide +kernel
theorem dX7_board_42 : decode cX7_board 42 = .ok (.getfield 26, 3) := by decide +kernel
theorem dX7_board_45 : decode cX7_board 45 = .ok (.getfield 103, 3) := by decide +kernel
theorem dX7_board_48 : decode cX7_board 48 = .ok (.bipush 8, 2) := by decide +kernel
theorem dX7_board_50 : decode cX7_board 50 = .ok (.if_icmp .lt 6, 3) := by decide +kernel
theorem dX7_board_53 : decode cX7_board 53 = .ok (.bipush (-2), 2) := by decide +kernel
theorem dX7_board_55 : decode cX7_board 55 = .ok (.ireturn, 1) := by decide +kernel
theorem dX7_board_56 : decode cX7_board 56 = .ok (.aload_n 0, 1) := by decide +kernel
theorem dX7_board_57 : decode cX7_board 57 = .ok (.getfield 44, 3) := by decide +kernel
theorem dX7_board_60 : decode cX7_board 60 = .ok (.invokevirtual 60, 3) := by decide +kernel
theorem dX7_board_63 : decode cX7_board 63 = .ok (.aload_n 0, 1) := by decide +kernel
theorem dX7_board_64 : decode cX7_board 64 = .ok (.getfield 26, 3) := by decide +kernel
theorem dX7_board_67 : decode cX7_board 67 = .ok (.iload_n 1, 1) := by decide +kernel
theorem dX7_board_68 : decode cX7_board 68 = .ok (.iload_n 2, 1) := by decide +kernel
theorem dX7_board_69 : decode cX7_board 69 = .ok (.iload_n 3, 1) := by decide +kernel
theorem dX7_board_70 : decode cX7_board 70 = .ok (.iload 4, 2) := by decide +kernel
theorem dX7_board_72 : decode cX7_board 72 = .ok (.invokevirtual 106, 3) := by decide +kernel
theorem dX7_board_75 : decode cX7_board 75 = .ok (.ireturn, 1) := by decide +kernel
theorem dX7_drop_0 : decode cX7_drop 0 = .ok (.aload_n 0, 1) := by decide +kernel
theorem dX7_drop_1 : decode cX7_drop 1 = .ok (.getfield 26, 3) := by decide +kernel
theorem dX7_drop_4 : decode cX7_drop 4 = .ok (.getfield 103, 3) := by decide +kernel
theorem dX7_drop_7 : decode cX7_drop 7 = .ok (.ifCond .ne 6, 3) := by decide +kernel
theorem dX7_drop_10 : decode cX7_drop 10 = .ok (.bipush (-3), 2) := by decide +kernel
theorem dX7_drop_12 : decode cX7_drop 12 = .ok (.ireturn, 1) := by decide +kernel
theorem dX7_drop_13 : decode cX7_drop 13 = .ok (.aload_n 0, 1) := by decide +kernel
theorem dX7_drop_14 : decode cX7_drop 14 = .ok (.getfield 44, 3) := by decide +kernel
theorem dX7_drop_17 : decode cX7_drop 17 = .ok (.invokevirtual 60, 3) := by decide +kernel
theorem dX7_drop_20 : decode cX7_drop 20 = .ok (.aload_n 0, 1) := by decide +kernel
theorem dX7_drop_21 : decode cX7_drop 21 = .ok (.getfield 26, 3) := by decide +kernel
theorem dX7_drop_24 : decode cX7_drop 24 = .ok (.dup, 1) := by decide +kernel
theorem dX7_drop_25 : decode cX7_drop 25 = .ok (.getfield 103, 3) := by decide +kernel
theorem dX7_drop_28 : decode cX7_drop 28 = .ok (.iconst 1, 1) := by decide +kernel
theorem dX7_drop_29 : decode cX7_drop 29 = .ok (.isub, 1) := by decide +kernel
theorem dX7_drop_30 : decode cX7_drop 30 = .ok (.putfield 103, 3) := by decide +kernel
theorem dX7_drop_33 : decode cX7_drop 33 = .ok (.aload_n 0, 1) := by decide +kernel
theorem dX7_drop_34 : decode cX7_drop 34 = .ok (.getfield 26, 3) := by decide +kernel
theorem dX7_drop_37 : decode cX7_drop 37 = .ok (.getfield 103, 3) := by decide +kernel
theorem dX7_drop_40 : decode cX7_drop 40 = .ok (.ireturn, 1) := by decide +kernel
theorem dX7_rate_0 : decode cX7_rate 0 = .ok (.iload_n 1, 1) := by decide +kernel
theorem dX7_rate_1 : decode cX7_rate 1 = .ok (.iconst 1, 1) := by decide +kernel
theorem dX7_rate_2 : decode cX7_rate 2 = .ok (.if_icmp .lt 9, 3) := by decide +kernel
theorem dX7_rate_5 : decode cX7_rate 5 = .ok (.iload_n 1, 1) := by decide +kernel
theorem dX7_rate_6 : decode cX7_rate 6 = .ok (.bipush 20, 2) := by decide +kernel
theorem dX7_rate_8 : decode cX7_rate 8 = .ok (.if_icmp .le 5, 3) := by decide +kernel
theorem dX7_rate_11 : decode cX7_rate 11 = .ok (.iconst (-1), 1) := by decide +kernel
theorem dX7_rate_12 : decode cX7_rate 12 = .ok (.ireturn, 1) := by decide +kernel
theorem dX7_rate_13 : decode cX7_rate 13 = .ok (.aload_n 0, 1) := by decide +kernel
theorem dX7_rate_14 : decode cX7_rate 14 = .ok (.getfield 26, 3) := by decide +kernel
theorem dX7_rate_17 : decode cX7_rate 17 = .ok (.getfield 109, 3) := by decide +kernel
theorem dX7_rate_20 : decode cX7_rate 20 = .ok (.istore_n 2, 1) := by decide +kernel
theorem dX7_rate_21 : decode cX7_rate 21 = .ok (.aload_n 0, 1) := by decide +kernel
theorem dX7_rate_22 : decode cX7_rate 22 = .ok (.getfield 26, 3) := by decide +kernel
theorem dX7_rate_25 : decode cX7_rate 25 = .ok (.iload_n 1, 1) := by decide +kernel
theorem dX7_rate_26 : decode cX7_rate 26 = .ok (.putfield 109, 3) := by decide +kernel
theorem dX7_rate_29 : decode cX7_rate 29 = .ok (.iload_n 2, 1) := by decide +kernel
theorem dX7_rate_30 : decode cX7_rate 30 = .ok (.ireturn, 1) := by decide +kernel
theorem dX7_where_0 : decode cX7_where 0 = .ok (.aload_n 0, 1) := by decide +kernel
theorem dX7_where_1 : decode cX7_where 1 = .ok (.iload_n 1, 1) := by decide +kernel
theorem dX7_where_2 : decode cX7_where 2 = .ok (.invokevirtual 67, 3) := by decide +kernel
theorem dX7_where_5 : decode cX7_where 5 = .ok (.ifCond .eq 10, 3) := by decide +kernel
theorem dX7_where_8 : decode cX7_where 8 = .ok (.iload_n 2, 1) := by decide +kernel
theorem dX7_where_9 : decode cX7_where 9 = .ok (.invokestatic 70, 3) := by decide +kernel
theorem dX7_where_12 : decode cX7_where 12 = .ok (.ifCond .ne 5, 3) := by decide +kernel
theorem dX7_where_15 : decode cX7_where 15 = .ok (.iconst (-1), 1) := by decide +kernel
theorem dX7_where_16 : decode cX7_where 16 = .ok (.ireturn, 1) := by decide +kernel
theorem dX7_where_17 : decode cX7_where 17 = .ok (.aload_n 0, 1) := by decide +kernel
theorem dX7_where_18 : decode cX7_where 18 = .ok (.getfield 10, 3) := by decide +kernel
theorem dX7_where_21 : decode cX7_where 21 = .ok (.iload_n 1, 1) := by decide +kernel
theorem dX7_where_22 : decode cX7_where 22 = .ok (.iload_n 2, 1) := by decide +kernel
theorem dX7_where_23 : decode cX7_where 23 = .ok (.invokevirtual 112, 3) := by decide +kernel
theorem dX7_where_26 : decode cX7_where 26 = .ok (.ireturn, 1) := by decide +kernel
theorem dX7_hidden_0 : decode cX7_hidden 0 = .ok (.aload_n 0, 1) := by decide +kernel
theorem dX7_hidden_1 : decode cX7_hidden 1 = .ok (.iload_n 1, 1) := by decide +kernel
theorem dX7_hidden_2 : decode cX7_hidden 2 = .ok (.invokevirtual 67, 3) := by decide +kernel
theorem dX7_hidden_5 : decode cX7_hidden 5 = .ok (.ifCond .eq 17, 3) := by decide +kernel
theorem dX7_hidden_8 : decode cX7_hidden 8 = .ok (.iload_n 2, 1) := by decide +kernel
theorem dX7_hidden_9 : decode cX7_hidden 9 = .ok (.invokestatic 70, 3) := by decide +kernel
theorem dX7_hidden_12 : decode cX7_hidden 12 = .ok (.ifCond .eq 10, 3) := by decide +kernel
theorem dX7_hidden_15 : decode cX7_hidden 15 = .ok (.iload_n 3, 1) := by decide +kernel
theorem dX7_hidden_16 : decode cX7_hidden 16 = .ok (.invokestatic 52, 3) := by decide +kernel
theorem dX7_hidden_19 : decode cX7_hidden 19 = .ok (.ifCond .ne 5, 3) := by decide +kernel
theorem dX7_hidden_22 : decode cX7_hidden 22 = .ok (.iconst (-1), 1) := by decide +kernel
theorem dX7_hidden_23 : decode cX7_hidden 23 = .ok (.ireturn, 1) := by decide +kernel
theorem dX7_hidden_24 : decode cX7_hidden 24 = .ok (.aload_n 0, 1) := by decide +kernel
theorem dX7_hidden_25 : decode cX7_hidden 25 = .ok (.getfield 10, 3) := by decide +kernel
theorem dX7_hidden_28 : decode cX7_hidden 28 = .ok (.iload_n 1, 1) := by decide +kernel
theorem dX7_hidden_29 : decode cX7_hidden 29 = .ok (.iload_n 2, 1) := by decide +kernel
theorem dX7_hidden_30 : decode cX7_hidden 30 = .ok (.iload_n 3, 1) := by decide +kernel
theorem dX7_hidden_31 : decode cX7_hidden 31 = .ok (.invokevirtual 115, 3) := by decide +kernel
theorem dX7_hidden_34 : decode cX7_hidden 34 = .ok (.ifCond .eq 7, 3) := by decide +kernel
theorem dX7_hidden_37 : decode cX7_hidden 37 = .ok (.iconst 1, 1) := by decide +kernel
theorem dX7_hidden_38 : decode cX7_hidden 38 = .ok (.goto 4, 3) := by decide +kernel
theorem dX7_hidden_41 : decode cX7_hidden 41 = .ok (.iconst 0, 1) := by decide +kernel
theorem dX7_hidden_42 : decode cX7_hidden 42 = .ok (.ireturn, 1) := by decide +kernel
theorem dX7_sees_0 : decode cX7_sees 0 = .ok (.aload_n 0, 1) := by decide +kernel
theorem dX7_sees_1 : decode cX7_sees 1 = .ok (.iload_n 1, 1) := by decide +kernel
theorem dX7_sees_2 : decode cX7_sees 2 = .ok (.invokevirtual 119, 3) := by decide +kernel
theorem dX7_sees_5 : decode cX7_sees 5 = .ok (.ifCond .eq 27, 3) := by decide +kernel
theorem dX7_sees_8 : decode cX7_sees 8 = .ok (.aload_n 0, 1) := by decide +kernel
theorem dX7_sees_9 : decode cX7_sees 9 = .ok (.iload_n 2, 1) := by decide +kernel
theorem dX7_sees_10 : decode cX7_sees 10 = .ok (.invokevirtual 67, 3) := by decide +kernel
theorem dX7_sees_13 : decode cX7_sees 13 = .ok (.ifCond .eq 19, 3) := by decide +kernel
theorem dX7_sees_16 : decode cX7_sees 16 = .ok (.aload_n 0, 1) := by decide +kernel
theorem dX7_sees_17 : decode cX7_sees 17 = .ok (.iload_n 3, 1) := by decide +kernel
theorem dX7_sees_18 : decode cX7_sees 18 = .ok (.invokevirtual 67, 3) := by decide +kernel
theorem dX7_sees_21 : decode cX7_sees 21 = .ok (.ifCond .eq 11, 3) := by decide +kernel
theorem dX7_sees_24 : decode cX7_sees 24 = .ok (.iload 4, 2) := by decide +kernel
theorem dX7_sees_26 : decode cX7_sees 26 = .ok (.invokestatic 70, 3) := by decide +kernel
theorem dX7_sees_29 : decode cX7_sees 29 = .ok (.ifCond .ne 5, 3) := by decide +kernel
theorem dX7_sees_32 : decode cX7_sees 32 = .ok (.iconst (-1), 1) := by decide +kernel
theorem dX7_sees_33 : decode cX7_sees 33 = .ok (.ireturn, 1) := by decide +kernel
theorem dX7_sees_34 : decode cX7_sees 34 = .ok (.aload_n 0, 1) := by decide +kernel
theorem dX7_sees_35 : decode cX7_sees 35 = .ok (.getfield 19, 3) := by decide +kernel
theorem dX7_sees_38 : decode cX7_sees 38 = .ok (.getfield 122, 3) := by decide +kernel
theorem dX7_sees_41 : decode cX7_sees 41 = .ok (.iload_n 1, 1) := by decide +kernel
theorem dX7_sees_42 : decode cX7_sees 42 = .ok (.iaload, 1) := by decide +kernel
theorem dX7_sees_43 : decode cX7_sees 43 = .ok (.istore 5, 2) := by decide +kernel
theorem dX7_sees_45 : decode cX7_sees 45 = .ok (.iload 5, 2) := by decide +kernel
theorem dX7_sees_47 : decode cX7_sees 47 = .ok (.aload_n 0, 1) := by decide +kernel
theorem dX7_sees_48 : decode cX7_sees 48 = .ok (.getfield 10, 3) := by decide +kernel
theorem dX7_sees_51 : decode cX7_sees 51 = .ok (.iload_n 2, 1) := by decide +kernel
theorem dX7_sees_52 : decode cX7_sees 52 = .ok (.iload 4, 2) := by decide +kernel
theorem dX7_sees_54 : decode cX7_sees 54 = .ok (.invokevirtual 112, 3) := by decide +kernel
theorem dX7_sees_57 : decode cX7_sees 57 = .ok (.aload_n 0, 1) := by decide +kernel
theorem dX7_sees_58 : decode cX7_sees 58 = .ok (.getfield 10, 3) := by decide +kernel
theorem dX7_sees_61 : decode cX7_sees 61 = .ok (.iload_n 3, 1) := by decide +kernel
theorem dX7_sees_62 : decode cX7_sees 62 = .ok (.iload 4, 2) := by decide +kernel
theorem dX7_sees_64 : decode cX7_sees 64 = .ok (.invokevirtual 112, 3) := by decide +kernel
theorem dX7_sees_67 : decode cX7_sees 67 = .ok (.invokestatic 125, 3) := by decide +kernel
theorem dX7_sees_70 : decode cX7_sees 70 = .ok (.istore 6, 2) := by decide +kernel
theorem dX7_sees_72 : decode cX7_sees 72 = .ok (.iload 6, 2) := by decide +kernel
theorem dX7_sees_74 : decode cX7_sees 74 = .ok (.ifCond .eq 22, 3) := by decide +kernel
theorem dX7_sees_77 : decode cX7_sees 77 = .ok (.aload_n 0, 1) := by decide +kernel
theorem dX7_sees_78 : decode cX7_sees 78 = .ok (.getfield 10, 3) := by decide +kernel
theorem dX7_sees_81 : decode cX7_sees 81 = .ok (.iload_n 3, 1) := by decide +kernel
theorem dX7_sees_82 : decode cX7_sees 82 = .ok (.iload 4, 2) := by decide +kernel
theorem dX7_sees_84 : decode cX7_sees 84 = .ok (.iload 5, 2) := by decide +kernel
theorem dX7_sees_86 : decode cX7_sees 86 = .ok (.invokevirtual 115, 3) := by decide +kernel
theorem dX7_sees_89 : decode cX7_sees 89 = .ok (.ifCond .ne 7, 3) := by decide +kernel
theorem dX7_sees_92 : decode cX7_sees 92 = .ok (.iconst 1, 1) := by decide +kernel
theorem dX7_sees_93 : decode cX7_sees 93 = .ok (.goto 4, 3) := by decide +kernel
theorem dX7_sees_96 : decode cX7_sees 96 = .ok (.iconst 0, 1) := by decide +kernel
theorem dX7_sees_97 : decode cX7_sees 97 = .ok (.ireturn, 1) := by decide +kernel
theorem dX7_size_0 : decode cX7_size 0 = .ok (.aload_n 0, 1) := by decide +kernel
theorem dX7_size_1 : decode cX7_size 1 = .ok (.iload_n 1, 1) := by decide +kernel
theorem dX7_size_2 : decode cX7_size 2 = .ok (.invokevirtual 119, 3) := by decide +kernel
theorem dX7_size_5 : decode cX7_size 5 = .ok (.ifCond .eq 18, 3) := by decide +kernel
theorem dX7_size_8 : decode cX7_size 8 = .ok (.aload_n 0, 1) := by decide +kernel
theorem dX7_size_9 : decode cX7_size 9 = .ok (.iload_n 2, 1) := by decide +kernel
theorem dX7_size_10 : decode cX7_size 10 = .ok (.invokevirtual 67, 3) := by decide +kernel
theorem dX7_size_13 : decode cX7_size 13 = .ok (.ifCond .eq 10, 3) := by decide +kernel
theorem dX7_size_16 : decode cX7_size 16 = .ok (.iload_n 3, 1) := by decide +kernel
theorem dX7_size_17 : decode cX7_size 17 = .ok (.invokestatic 70, 3) := by decide +kernel
theorem dX7_size_20 : decode cX7_size 20 = .ok (.ifCond .ne 5, 3) := by decide +kernel
theorem dX7_size_23 : decode cX7_size 23 = .ok (.iconst (-1), 1) := by decide +kernel
theorem dX7_size_24 : decode cX7_size 24 = .ok (.ireturn, 1) := by decide +kernel
theorem dX7_size_25 : decode cX7_size 25 = .ok (.aload_n 0, 1) := by decide +kernel
theorem dX7_size_26 : decode cX7_size 26 = .ok (.getfield 19, 3) := by decide +kernel
theorem dX7_size_29 : decode cX7_size 29 = .ok (.getfield 122, 3) := by decide +kernel
theorem dX7_size_32 : decode cX7_size 32 = .ok (.iload_n 1, 1) := by decide +kernel
theorem dX7_size_33 : decode cX7_size 33 = .ok (.iaload, 1) := by decide +kernel
theorem dX7_size_34 : decode cX7_size 34 = .ok (.aload_n 0, 1) := by decide +kernel
theorem dX7_size_35 : decode cX7_size 35 = .ok (.getfield 10, 3) := by decide +kernel
theorem dX7_size_38 : decode cX7_size 38 = .ok (.iload_n 2, 1) := by decide +kernel
theorem dX7_size_39 : decode cX7_size 39 = .ok (.iload_n 3, 1) := by decide +kernel
theorem dX7_size_40 : decode cX7_size 40 = .ok (.invokevirtual 112, 3) := by decide +kernel
theorem dX7_size_43 : decode cX7_size 43 = .ok (.invokestatic 130, 3) := by decide +kernel
theorem dX7_size_46 : decode cX7_size 46 = .ok (.ireturn, 1) := by decide +kernel
theorem dX7_views_0 : decode cX7_views 0 = .ok (.aload_n 0, 1) := by decide +kernel
theorem dX7_views_1 : decode cX7_views 1 = .ok (.iload_n 1, 1) := by decide +kernel
theorem dX7_views_2 : decode cX7_views 2 = .ok (.invokevirtual 67, 3) := by decide +kernel
theorem dX7_views_5 : decode cX7_views 5 = .ok (.ifCond .eq 10, 3) := by decide +kernel
theorem dX7_views_8 : decode cX7_views 8 = .ok (.iload_n 2, 1) := by decide +kernel
theorem dX7_views_9 : decode cX7_views 9 = .ok (.invokestatic 70, 3) := by decide +kernel
theorem dX7_views_12 : decode cX7_views 12 = .ok (.ifCond .ne 5, 3) := by decide +kernel
theorem dX7_views_15 : decode cX7_views 15 = .ok (.iconst (-1), 1) := by decide +kernel
theorem dX7_views_16 : decode cX7_views 16 = .ok (.ireturn, 1) := by decide +kernel
theorem dX7_views_17 : decode cX7_views 17 = .ok (.iconst 0, 1) := by decide +kernel
theorem dX7_views_18 : decode cX7_views 18 = .ok (.istore_n 3, 1) := by decide +kernel
theorem dX7_views_19 : decode cX7_views 19 = .ok (.iconst 0, 1) := by decide +kernel
theorem dX7_views_20 : decode cX7_views 20 = .ok (.istore 4, 2) := by decide +kernel
theorem dX7_views_22 : decode cX7_views 22 = .ok (.iload 4, 2) := by decide +kernel
theorem dX7_views_24 : decode cX7_views 24 = .ok (.bipush 32, 2) := by decide +kernel
theorem dX7_views_26 : decode cX7_views 26 = .ok (.if_icmp .ge 48, 3) := by decide +kernel
theorem dX7_views_29 : decode cX7_views 29 = .ok (.iconst 0, 1) := by decide +kernel
theorem dX7_views_30 : decode cX7_views 30 = .ok (.istore 5, 2) := by decide +kernel
theorem dX7_views_32 : decode cX7_views 32 = .ok (.iload 5, 2) := by decide +kernel
theorem dX7_views_34 : decode cX7_views 34 = .ok (.bipush 32, 2) := by decide +kernel
theorem dX7_views_36 : decode cX7_views 36 = .ok (.if_icmp .ge 32, 3) := by decide +kernel
theorem dX7_views_39 : decode cX7_views 39 = .ok (.aload_n 0, 1) := by decide +kernel
theorem dX7_views_40 : decode cX7_views 40 = .ok (.getfield 10, 3) := by decide +kernel
theorem dX7_views_43 : decode cX7_views 43 = .ok (.iload_n 1, 1) := by decide +kernel
theorem dX7_views_44 : decode cX7_views 44 = .ok (.iload_n 2, 1) := by decide +kernel
theorem dX7_views_45 : decode cX7_views 45 = .ok (.bipush 100, 2) := by decide +kernel
theorem dX7_views_47 : decode cX7_views 47 = .ok (.iload 4, 2) := by decide +kernel
theorem dX7_views_49 : decode cX7_views 49 = .ok (.imul, 1) := by decide +kernel
theorem dX7_views_50 : decode cX7_views 50 = .ok (.iload 5, 2) := by decide +kernel
theorem dX7_views_52 : decode cX7_views 52 = .ok (.iadd, 1) := by decide +kernel
theorem dX7_views_53 : decode cX7_views 53 = .ok (.invokevirtual 115, 3) := by decide +kernel
theorem dX7_views_56 : decode cX7_views 56 = .ok (.ifCond .ne 6, 3) := by decide +kernel
theorem dX7_views_59 : decode cX7_views 59 = .ok (.iinc 3 1, 3) := by decide +kernel
theorem dX7_views_62 : decode cX7_views 62 = .ok (.iinc 5 1, 3) := by decide +kernel
theorem dX7_views_65 : decode cX7_views 65 = .ok (.goto (-33), 3) := by decide +kernel
theorem dX7_views_68 : decode cX7_views 68 = .ok (.iinc 4 1, 3) := by decide +kernel
theorem dX7_views_71 : decode cX7_views 71 = .ok (.goto (-49), 3) := by decide +kernel
theorem dX7_views_74 : decode cX7_views 74 = .ok (.iload_n 3, 1) := by decide +kernel
theorem dX7_views_75 : decode cX7_views 75 = .ok (.ireturn, 1) := by decide +kernel
theorem dX7_gives_0 : decode cX7_gives 0 = .ok (.aload_n 0, 1) := by decide +kernel
theorem dX7_gives_1 : decode cX7_gives 1 = .ok (.iload_n 1, 1) := by decide +kernel
theorem dX7_gives_2 : decode cX7_gives 2 = .ok (.invokevirtual 119, 3) := by decide +kernel
theorem dX7_gives_5 : decode cX7_gives 5 = .ok (.ifCond .eq 11, 3) := by decide +kernel
theorem dX7_gives_8 : decode cX7_gives 8 = .ok (.aload_n 0, 1) := by decide +kernel
theorem dX7_gives_9 : decode cX7_gives 9 = .ok (.iload_n 2, 1) := by decide +kernel
theorem dX7_gives_10 : decode cX7_gives 10 = .ok (.invokevirtual 133, 3) := by decide +kernel
theorem dX7_gives_13 : decode cX7_gives 13 = .ok (.ifCond .ne 5, 3) := by decide +kernel
theorem dX7_gives_16 : decode cX7_gives 16 = .ok (.iconst (-1), 1) := by decide +kernel
theorem dX7_gives_17 : decode cX7_gives 17 = .ok (.ireturn, 1) := by decide +kernel
theorem dX7_gives_18 : decode cX7_gives 18 = .ok (.aload_n 0, 1) := by decide +kernel
theorem dX7_gives_19 : decode cX7_gives 19 = .ok (.getfield 35, 3) := by decide +kernel
theorem dX7_gives_22 : decode cX7_gives 22 = .ok (.aload_n 0, 1) := by decide +kernel
theorem dX7_gives_23 : decode cX7_gives 23 = .ok (.getfield 19, 3) := by decide +kernel
theorem dX7_gives_26 : decode cX7_gives 26 = .ok (.getfield 122, 3) := by decide +kernel
theorem dX7_gives_29 : decode cX7_gives 29 = .ok (.iload_n 1, 1) := by decide +kernel
theorem dX7_gives_30 : decode cX7_gives 30 = .ok (.iaload, 1) := by decide +kernel
theorem dX7_gives_31 : decode cX7_gives 31 = .ok (.aload_n 0, 1) := by decide +kernel
theorem dX7_gives_32 : decode cX7_gives 32 = .ok (.getfield 26, 3) := by decide +kernel
theorem dX7_gives_35 : decode cX7_gives 35 = .ok (.getfield 136, 3) := by decide +kernel
theorem dX7_gives_38 : decode cX7_gives 38 = .ok (.iload_n 2, 1) := by decide +kernel
theorem dX7_gives_39 : decode cX7_gives 39 = .ok (.aaload, 1) := by decide +kernel
theorem dX7_gives_40 : decode cX7_gives 40 = .ok (.invokevirtual 140, 3) := by decide +kernel
theorem dX7_gives_43 : decode cX7_gives 43 = .ok (.ifCond .ne 7, 3) := by decide +kernel
theorem dX7_gives_46 : decode cX7_gives 46 = .ok (.iconst 1, 1) := by decide +kernel
theorem dX7_gives_47 : decode cX7_gives 47 = .ok (.goto 4, 3) := by decide +kernel
theorem dX7_gives_50 : decode cX7_gives 50 = .ok (.iconst 0, 1) := by decide +kernel
theorem dX7_gives_51 : decode cX7_gives 51 = .ok (.ireturn, 1) := by decide +kernel
theorem dX7_why_0 : decode cX7_why 0 = .ok (.aload_n 0, 1) := by decide +kernel
theorem dX7_why_1 : decode cX7_why 1 = .ok (.iload_n 1, 1) := by decide +kernel
theorem dX7_why_2 : decode cX7_why 2 = .ok (.invokevirtual 119, 3) := by decide +kernel
theorem dX7_why_5 : decode cX7_why 5 = .ok (.ifCond .eq 11, 3) := by decide +kernel
theorem dX7_why_8 : decode cX7_why 8 = .ok (.aload_n 0, 1) := by decide +kernel
theorem dX7_why_9 : decode cX7_why 9 = .ok (.iload_n 2, 1) := by decide +kernel
theorem dX7_why_10 : decode cX7_why 10 = .ok (.invokevirtual 133, 3) := by decide +kernel
theorem dX7_why_13 : decode cX7_why 13 = .ok (.ifCond .ne 5, 3) := by decide +kernel
theorem dX7_why_16 : decode cX7_why 16 = .ok (.iconst (-1), 1) := by decide +kernel
theorem dX7_why_17 : decode cX7_why 17 = .ok (.ireturn, 1) := by decide +kernel
theorem dX7_why_18 : decode cX7_why 18 = .ok (.aload_n 0, 1) := by decide +kernel
theorem dX7_why_19 : decode cX7_why 19 = .ok (.getfield 35, 3) := by decide +kernel
theorem dX7_why_22 : decode cX7_why 22 = .ok (.aload_n 0, 1) := by decide +kernel
theorem dX7_why_23 : decode cX7_why 23 = .ok (.getfield 19, 3) := by decide +kernel
theorem dX7_why_26 : decode cX7_why 26 = .ok (.getfield 122, 3) := by decide +kernel
theorem dX7_why_29 : decode cX7_why 29 = .ok (.iload_n 1, 1) := by decide +kernel
theorem dX7_why_30 : decode cX7_why 30 = .ok (.iaload, 1) := by decide +kernel
theorem dX7_why_31 : decode cX7_why 31 = .ok (.aload_n 0, 1) := by decide +kernel
theorem dX7_why_32 : decode cX7_why 32 = .ok (.getfield 26, 3) := by decide +kernel
theorem dX7_why_35 : decode cX7_why 35 = .ok (.getfield 136, 3) := by decide +kernel
theorem dX7_why_38 : decode cX7_why 38 = .ok (.iload_n 2, 1) := by decide +kernel
theorem dX7_why_39 : decode cX7_why 39 = .ok (.aaload, 1) := by decide +kernel
theorem dX7_why_40 : decode cX7_why 40 = .ok (.invokevirtual 140, 3) := by decide +kernel
theorem dX7_why_43 : decode cX7_why 43 = .ok (.ireturn, 1) := by decide +kernel
theorem dX7_side_0 : decode cX7_side 0 = .ok (.aload_n 0, 1) := by decide +kernel
theorem dX7_side_1 : decode cX7_side 1 = .ok (.iload_n 1, 1) := by decide +kernel
theorem dX7_side_2 : decode cX7_side 2 = .ok (.invokevirtual 119, 3) := by decide +kernel
theorem dX7_side_5 : decode cX7_side 5 = .ok (.ifCond .eq 27, 3) := by decide +kernel
theorem dX7_side_8 : decode cX7_side 8 = .ok (.aload_n 0, 1) := by decide +kernel
theorem dX7_side_9 : decode cX7_side 9 = .ok (.iload_n 2, 1) := by decide +kernel
theorem dX7_side_10 : decode cX7_side 10 = .ok (.invokevirtual 133, 3) := by decide +kernel
theorem dX7_side_13 : decode cX7_side 13 = .ok (.ifCond .eq 19, 3) := by decide +kernel
theorem dX7_side_16 : decode cX7_side 16 = .ok (.aload_n 0, 1) := by decide +kernel
theorem dX7_side_17 : decode cX7_side 17 = .ok (.getfield 26, 3) := by decide +kernel
theorem dX7_side_20 : decode cX7_side 20 = .ok (.getfield 136, 3) := by decide +kernel
theorem dX7_side_23 : decode cX7_side 23 = .ok (.iload_n 2, 1) := by decide +kernel
theorem dX7_side_24 : decode cX7_side 24 = .ok (.aaload, 1) := by decide +kernel
theorem dX7_side_25 : decode cX7_side 25 = .ok (.getfield 144, 3) := by decide +kernel
theorem dX7_side_28 : decode cX7_side 28 = .ok (.iconst 1, 1) := by decide +kernel
theorem dX7_side_29 : decode cX7_side 29 = .ok (.if_icmp .eq 6, 3) := by decide +kernel
theorem dX7_side_32 : decode cX7_side 32 = .ok (.bipush (-9), 2) := by decide +kernel
theorem dX7_side_34 : decode cX7_side 34 = .ok (.ireturn, 1) := by decide +kernel
theorem dX7_side_35 : decode cX7_side 35 = .ok (.aload_n 0, 1) := by decide +kernel
theorem dX7_side_36 : decode cX7_side 36 = .ok (.getfield 35, 3) := by decide +kernel
theorem dX7_side_39 : decode cX7_side 39 = .ok (.aload_n 0, 1) := by decide +kernel
theorem dX7_side_40 : decode cX7_side 40 = .ok (.getfield 19, 3) := by decide +kernel
theorem dX7_side_43 : decode cX7_side 43 = .ok (.getfield 122, 3) := by decide +kernel
theorem dX7_side_46 : decode cX7_side 46 = .ok (.iload_n 1, 1) := by decide +kernel
theorem dX7_side_47 : decode cX7_side 47 = .ok (.iaload, 1) := by decide +kernel
theorem dX7_side_48 : decode cX7_side 48 = .ok (.aload_n 0, 1) := by decide +kernel
theorem dX7_side_49 : decode cX7_side 49 = .ok (.getfield 26, 3) := by decide +kernel
theorem dX7_side_52 : decode cX7_side 52 = .ok (.getfield 136, 3) := by decide +kernel
theorem dX7_side_55 : decode cX7_side 55 = .ok (.iload_n 2, 1) := by decide +kernel
theorem dX7_side_56 : decode cX7_side 56 = .ok (.aaload, 1) := by decide +kernel
theorem dX7_side_57 : decode cX7_side 57 = .ok (.invokevirtual 149, 3) := by decide +kernel
theorem dX7_side_60 : decode cX7_side 60 = .ok (.ireturn, 1) := by decide +kernel
theorem dX7_length_0 : decode cX7_length 0 = .ok (.aload_n 0, 1) := by decide +kernel
theorem dX7_length_1 : decode cX7_length 1 = .ok (.iload_n 1, 1) := by decide +kernel
theorem dX7_length_2 : decode cX7_length 2 = .ok (.invokevirtual 133, 3) := by decide +kernel
theorem dX7_length_5 : decode cX7_length 5 = .ok (.ifCond .ne 5, 3) := by decide +kernel
theorem dX7_length_8 : decode cX7_length 8 = .ok (.iconst (-1), 1) := by decide +kernel
theorem dX7_length_9 : decode cX7_length 9 = .ok (.ireturn, 1) := by decide +kernel
theorem dX7_length_10 : decode cX7_length 10 = .ok (.aload_n 0, 1) := by decide +kernel
theorem dX7_length_11 : decode cX7_length 11 = .ok (.getfield 26, 3) := by decide +kernel
theorem dX7_length_14 : decode cX7_length 14 = .ok (.iload_n 1, 1) := by decide +kernel
theorem dX7_length_15 : decode cX7_length 15 = .ok (.invokevirtual 152, 3) := by decide +kernel
theorem dX7_length_18 : decode cX7_length 18 = .ok (.ireturn, 1) := by decide +kernel
theorem dX7_fewest_0 : decode cX7_fewest 0 = .ok (.aload_n 0, 1) := by decide +kernel
theorem dX7_fewest_1 : decode cX7_fewest 1 = .ok (.getfield 44, 3) := by decide +kernel
theorem dX7_fewest_4 : decode cX7_fewest 4 = .ok (.invokevirtual 155, 3) := by decide +kernel
theorem dX7_fewest_7 : decode cX7_fewest 7 = .ok (.aload_n 0, 1) := by decide +kernel
theorem dX7_fewest_8 : decode cX7_fewest 8 = .ok (.getfield 44, 3) := by decide +kernel
theorem dX7_fewest_11 : decode cX7_fewest 11 = .ok (.getfield 158, 3) := by decide +kernel
theorem dX7_fewest_14 : decode cX7_fewest 14 = .ok (.ireturn, 1) := by decide +kernel
theorem dX7_plan_0 : decode cX7_plan 0 = .ok (.aload_n 0, 1) := by decide +kernel
theorem dX7_plan_1 : decode cX7_plan 1 = .ok (.iload_n 1, 1) := by decide +kernel
theorem dX7_plan_2 : decode cX7_plan 2 = .ok (.invokevirtual 133, 3) := by decide +kernel
theorem dX7_plan_5 : decode cX7_plan 5 = .ok (.ifCond .ne 5, 3) := by decide +kernel
theorem dX7_plan_8 : decode cX7_plan 8 = .ok (.iconst (-1), 1) := by decide +kernel
theorem dX7_plan_9 : decode cX7_plan 9 = .ok (.ireturn, 1) := by decide +kernel
theorem dX7_plan_10 : decode cX7_plan 10 = .ok (.aload_n 0, 1) := by decide +kernel
theorem dX7_plan_11 : decode cX7_plan 11 = .ok (.getfield 44, 3) := by decide +kernel
theorem dX7_plan_14 : decode cX7_plan 14 = .ok (.invokevirtual 155, 3) := by decide +kernel
theorem dX7_plan_17 : decode cX7_plan 17 = .ok (.aload_n 0, 1) := by decide +kernel
theorem dX7_plan_18 : decode cX7_plan 18 = .ok (.getfield 44, 3) := by decide +kernel
theorem dX7_plan_21 : decode cX7_plan 21 = .ok (.getfield 158, 3) := by decide +kernel
theorem dX7_plan_24 : decode cX7_plan 24 = .ok (.ifCond .ge 8, 3) := by decide +kernel
theorem dX7_plan_27 : decode cX7_plan 27 = .ok (.bipush (-5), 2) := by decide +kernel
theorem dX7_plan_29 : decode cX7_plan 29 = .ok (.goto 12, 3) := by decide +kernel
theorem dX7_plan_32 : decode cX7_plan 32 = .ok (.aload_n 0, 1) := by decide +kernel
theorem dX7_plan_33 : decode cX7_plan 33 = .ok (.getfield 44, 3) := by decide +kernel
theorem dX7_plan_36 : decode cX7_plan 36 = .ok (.getfield 161, 3) := by decide +kernel
theorem dX7_plan_39 : decode cX7_plan 39 = .ok (.iload_n 1, 1) := by decide +kernel
theorem dX7_plan_40 : decode cX7_plan 40 = .ok (.iaload, 1) := by decide +kernel
theorem dX7_plan_41 : decode cX7_plan 41 = .ok (.ireturn, 1) := by decide +kernel
theorem dX7_swings_0 : decode cX7_swings 0 = .ok (.aload_n 0, 1) := by decide +kernel
theorem dX7_swings_1 : decode cX7_swings 1 = .ok (.getfield 44, 3) := by decide +kernel
theorem dX7_swings_4 : decode cX7_swings 4 = .ok (.invokevirtual 155, 3) := by decide +kernel
theorem dX7_swings_7 : decode cX7_swings 7 = .ok (.aload_n 0, 1) := by decide +kernel
theorem dX7_swings_8 : decode cX7_swings 8 = .ok (.getfield 44, 3) := by decide +kernel
theorem dX7_swings_11 : decode cX7_swings 11 = .ok (.getfield 158, 3) := by decide +kernel
theorem dX7_swings_14 : decode cX7_swings 14 = .ok (.ifCond .ge 8, 3) := by decide +kernel
theorem dX7_swings_17 : decode cX7_swings 17 = .ok (.bipush (-5), 2) := by decide +kernel
theorem dX7_swings_19 : decode cX7_swings 19 = .ok (.goto 10, 3) := by decide +kernel
theorem dX7_swings_22 : decode cX7_swings 22 = .ok (.aload_n 0, 1) := by decide +kernel
theorem dX7_swings_23 : decode cX7_swings 23 = .ok (.getfield 44, 3) := by decide +kernel
theorem dX7_swings_26 : decode cX7_swings 26 = .ok (.invokevirtual 164, 3) := by decide +kernel
theorem dX7_swings_29 : decode cX7_swings 29 = .ok (.ireturn, 1) := by decide +kernel
theorem dX7_order_0 : decode cX7_order 0 = .ok (.aload_n 0, 1) := by decide +kernel
theorem dX7_order_1 : decode cX7_order 1 = .ok (.getfield 44, 3) := by decide +kernel
theorem dX7_order_4 : decode cX7_order 4 = .ok (.invokevirtual 155, 3) := by decide +kernel
theorem dX7_order_7 : decode cX7_order 7 = .ok (.iload_n 1, 1) := by decide +kernel
theorem dX7_order_8 : decode cX7_order 8 = .ok (.ifCond .lt 14, 3) := by decide +kernel
theorem dX7_order_11 : decode cX7_order 11 = .ok (.iload_n 1, 1) := by decide +kernel
theorem dX7_order_12 : decode cX7_order 12 = .ok (.aload_n 0, 1) := by decide +kernel
theorem dX7_order_13 : decode cX7_order 13 = .ok (.getfield 44, 3) := by decide +kernel
theorem dX7_order_16 : decode cX7_order 16 = .ok (.getfield 158, 3) := by decide +kernel
theorem dX7_order_19 : decode cX7_order 19 = .ok (.if_icmp .lt 7, 3) := by decide +kernel
theorem dX7_order_22 : decode cX7_order 22 = .ok (.iconst (-1), 1) := by decide +kernel
theorem dX7_order_23 : decode cX7_order 23 = .ok (.goto 12, 3) := by decide +kernel
theorem dX7_order_26 : decode cX7_order 26 = .ok (.aload_n 0, 1) := by decide +kernel
theorem dX7_order_27 : decode cX7_order 27 = .ok (.getfield 44, 3) := by decide +kernel
theorem dX7_order_30 : decode cX7_order 30 = .ok (.getfield 168, 3) := by decide +kernel
theorem dX7_order_33 : decode cX7_order 33 = .ok (.iload_n 1, 1) := by decide +kernel
theorem dX7_order_34 : decode cX7_order 34 = .ok (.iaload, 1) := by decide +kernel
theorem dX7_order_35 : decode cX7_order 35 = .ok (.ireturn, 1) := by decide +kernel
theorem dX7_crossings_0 : decode cX7_crossings 0 = .ok (.aload_n 0, 1) := by decide +kernel
theorem dX7_crossings_1 : decode cX7_crossings 1 = .ok (.getfield 171, 3) := by decide +kernel
theorem dX7_crossings_4 : decode cX7_crossings 4 = .ok (.istore_n 1, 1) := by decide +kernel
theorem dX7_crossings_5 : decode cX7_crossings 5 = .ok (.aload_n 0, 1) := by decide +kernel
theorem dX7_crossings_6 : decode cX7_crossings 6 = .ok (.iconst 0, 1) := by decide +kernel
theorem dX7_crossings_7 : decode cX7_crossings 7 = .ok (.putfield 171, 3) := by decide +kernel
theorem dX7_crossings_10 : decode cX7_crossings 10 = .ok (.iload_n 1, 1) := by decide +kernel
theorem dX7_crossings_11 : decode cX7_crossings 11 = .ok (.aload_n 0, 1) := by decide +kernel
theorem dX7_crossings_12 : decode cX7_crossings 12 = .ok (.getfield 26, 3) := by decide +kernel
theorem dX7_crossings_15 : decode cX7_crossings 15 = .ok (.getfield 103, 3) := by decide +kernel
theorem dX7_crossings_18 : decode cX7_crossings 18 = .ok (.if_icmp .eq 6, 3) := by decide +kernel
theorem dX7_crossings_21 : decode cX7_crossings 21 = .ok (.bipush (-3), 2) := by decide +kernel
theorem dX7_crossings_23 : decode cX7_crossings 23 = .ok (.ireturn, 1) := by decide +kernel
theorem dX7_crossings_24 : decode cX7_crossings 24 = .ok (.iconst 0, 1) := by decide +kernel
theorem dX7_crossings_25 : decode cX7_crossings 25 = .ok (.istore_n 2, 1) := by decide +kernel
theorem dX7_crossings_26 : decode cX7_crossings 26 = .ok (.iload_n 2, 1) := by decide +kernel
theorem dX7_crossings_27 : decode cX7_crossings 27 = .ok (.iload_n 1, 1) := by decide +kernel
theorem dX7_crossings_28 : decode cX7_crossings 28 = .ok (.if_icmp .ge 45, 3) := by decide +kernel
theorem dX7_crossings_31 : decode cX7_crossings 31 = .ok (.aload_n 0, 1) := by decide +kernel
theorem dX7_crossings_32 : decode cX7_crossings 32 = .ok (.getfield 35, 3) := by decide +kernel
theorem dX7_crossings_35 : decode cX7_crossings 35 = .ok (.aload_n 0, 1) := by decide +kernel
theorem dX7_crossings_36 : decode cX7_crossings 36 = .ok (.getfield 19, 3) := by decide +kernel
theorem dX7_crossings_39 : decode cX7_crossings 39 = .ok (.getfield 122, 3) := by decide +kernel
theorem dX7_crossings_42 : decode cX7_crossings 42 = .ok (.aload_n 0, 1) := by decide +kernel
theorem dX7_crossings_43 : decode cX7_crossings 43 = .ok (.getfield 48, 3) := by decide +kernel
theorem dX7_crossings_46 : decode cX7_crossings 46 = .ok (.iload_n 2, 1) := by decide +kernel
theorem dX7_crossings_47 : decode cX7_crossings 47 = .ok (.iaload, 1) := by decide +kernel
theorem dX7_crossings_48 : decode cX7_crossings 48 = .ok (.iaload, 1) := by decide +kernel
theorem dX7_crossings_49 : decode cX7_crossings 49 = .ok (.aload_n 0, 1) := by decide +kernel
theorem dX7_crossings_50 : decode cX7_crossings 50 = .ok (.getfield 26, 3) := by decide +kernel
theorem dX7_crossings_53 : decode cX7_crossings 53 = .ok (.getfield 136, 3) := by decide +kernel
theorem dX7_crossings_56 : decode cX7_crossings 56 = .ok (.iload_n 2, 1) := by decide +kernel
theorem dX7_crossings_57 : decode cX7_crossings 57 = .ok (.aaload, 1) := by decide +kernel
theorem dX7_crossings_58 : decode cX7_crossings 58 = .ok (.invokevirtual 140, 3) := by decide +kernel
theorem dX7_crossings_61 : decode cX7_crossings 61 = .ok (.ifCond .eq 6, 3) := by decide +kernel
theorem dX7_crossings_64 : decode cX7_crossings 64 = .ok (.bipush (-3), 2) := by decide +kernel
theorem dX7_crossings_66 : decode cX7_crossings 66 = .ok (.ireturn, 1) := by decide +kernel
theorem dX7_crossings_67 : decode cX7_crossings 67 = .ok (.iinc 2 1, 3) := by decide +kernel
theorem dX7_crossings_70 : decode cX7_crossings 70 = .ok (.goto (-44), 3) := by decide +kernel
theorem dX7_crossings_73 : decode cX7_crossings 73 = .ok (.aload_n 0, 1) := by decide +kernel
theorem dX7_crossings_74 : decode cX7_crossings 74 = .ok (.iload_n 1, 1) := by decide +kernel
theorem dX7_crossings_75 : decode cX7_crossings 75 = .ok (.invokevirtual 174, 3) := by decide +kernel
theorem dX7_crossings_78 : decode cX7_crossings 78 = .ok (.ireturn, 1) := by decide +kernel
theorem dX7_list_0 : decode cX7_list 0 = .ok (.aload_n 0, 1) := by decide +kernel
theorem dX7_list_1 : decode cX7_list 1 = .ok (.iload_n 1, 1) := by decide +kernel
theorem dX7_list_2 : decode cX7_list 2 = .ok (.invokevirtual 119, 3) := by decide +kernel
theorem dX7_list_5 : decode cX7_list 5 = .ok (.ifCond .ne 5, 3) := by decide +kernel
theorem dX7_list_8 : decode cX7_list 8 = .ok (.iconst (-1), 1) := by decide +kernel
theorem dX7_list_9 : decode cX7_list 9 = .ok (.ireturn, 1) := by decide +kernel
theorem dX7_list_10 : decode cX7_list 10 = .ok (.aload_n 0, 1) := by decide +kernel
theorem dX7_list_11 : decode cX7_list 11 = .ok (.getfield 171, 3) := by decide +kernel
theorem dX7_list_14 : decode cX7_list 14 = .ok (.bipush 8, 2) := by decide +kernel
theorem dX7_list_16 : decode cX7_list 16 = .ok (.if_icmp .lt 6, 3) := by decide +kernel
theorem dX7_list_19 : decode cX7_list 19 = .ok (.bipush (-2), 2) := by decide +kernel
theorem dX7_list_21 : decode cX7_list 21 = .ok (.ireturn, 1) := by decide +kernel
theorem dX7_list_22 : decode cX7_list 22 = .ok (.aload_n 0, 1) := by decide +kernel
theorem dX7_list_23 : decode cX7_list 23 = .ok (.getfield 48, 3) := by decide +kernel
theorem dX7_list_26 : decode cX7_list 26 = .ok (.aload_n 0, 1) := by decide +kernel
theorem dX7_list_27 : decode cX7_list 27 = .ok (.getfield 171, 3) := by decide +kernel
theorem dX7_list_30 : decode cX7_list 30 = .ok (.iload_n 1, 1) := by decide +kernel
theorem dX7_list_31 : decode cX7_list 31 = .ok (.iastore, 1) := by decide +kernel
theorem dX7_list_32 : decode cX7_list 32 = .ok (.aload_n 0, 1) := by decide +kernel
theorem dX7_list_33 : decode cX7_list 33 = .ok (.dup, 1) := by decide +kernel
theorem dX7_list_34 : decode cX7_list 34 = .ok (.getfield 171, 3) := by decide +kernel
theorem dX7_list_37 : decode cX7_list 37 = .ok (.iconst 1, 1) := by decide +kernel
theorem dX7_list_38 : decode cX7_list 38 = .ok (.iadd, 1) := by decide +kernel
theorem dX7_list_39 : decode cX7_list 39 = .ok (.putfield 171, 3) := by decide +kernel
theorem dX7_list_42 : decode cX7_list 42 = .ok (.aload_n 0, 1) := by decide +kernel
theorem dX7_list_43 : decode cX7_list 43 = .ok (.getfield 171, 3) := by decide +kernel
theorem dX7_list_46 : decode cX7_list 46 = .ok (.ireturn, 1) := by decide +kernel
theorem dX7_run_0 : decode cX7_run 0 = .ok (.iconst 0, 1) := by decide +kernel
theorem dX7_run_1 : decode cX7_run 1 = .ok (.istore_n 1, 1) := by decide +kernel
theorem dX7_run_2 : decode cX7_run 2 = .ok (.iconst 0, 1) := by decide +kernel
theorem dX7_run_3 : decode cX7_run 3 = .ok (.istore_n 2, 1) := by decide +kernel
theorem dX7_run_4 : decode cX7_run 4 = .ok (.iload_n 2, 1) := by decide +kernel
theorem dX7_run_5 : decode cX7_run 5 = .ok (.aload_n 0, 1) := by decide +kernel
theorem dX7_run_6 : decode cX7_run 6 = .ok (.getfield 26, 3) := by decide +kernel
theorem dX7_run_9 : decode cX7_run 9 = .ok (.getfield 103, 3) := by decide +kernel
theorem dX7_run_12 : decode cX7_run 12 = .ok (.if_icmp .ge 20, 3) := by decide +kernel
theorem dX7_run_15 : decode cX7_run 15 = .ok (.iload_n 1, 1) := by decide +kernel
theorem dX7_run_16 : decode cX7_run 16 = .ok (.aload_n 0, 1) := by decide +kernel
theorem dX7_run_17 : decode cX7_run 17 = .ok (.getfield 26, 3) := by decide +kernel
theorem dX7_run_20 : decode cX7_run 20 = .ok (.iload_n 2, 1) := by decide +kernel
theorem dX7_run_21 : decode cX7_run 21 = .ok (.invokevirtual 152, 3) := by decide +kernel
theorem dX7_run_24 : decode cX7_run 24 = .ok (.iadd, 1) := by decide +kernel
theorem dX7_run_25 : decode cX7_run 25 = .ok (.istore_n 1, 1) := by decide +kernel
theorem dX7_run_26 : decode cX7_run 26 = .ok (.iinc 2 1, 3) := by decide +kernel
theorem dX7_run_29 : decode cX7_run 29 = .ok (.goto (-25), 3) := by decide +kernel
theorem dX7_run_32 : decode cX7_run 32 = .ok (.iload_n 1, 1) := by decide +kernel
theorem dX7_run_33 : decode cX7_run 33 = .ok (.ireturn, 1) := by decide +kernel
theorem dX7_frame_0 : decode cX7_frame 0 = .ok (.iload_n 1, 1) := by decide +kernel
theorem dX7_frame_1 : decode cX7_frame 1 = .ok (.ifCond .ge 5, 3) := by decide +kernel
theorem dX7_frame_4 : decode cX7_frame 4 = .ok (.iconst (-1), 1) := by decide +kernel
theorem dX7_frame_5 : decode cX7_frame 5 = .ok (.ireturn, 1) := by decide +kernel
theorem dX7_frame_6 : decode cX7_frame 6 = .ok (.iload_n 1, 1) := by decide +kernel
theorem dX7_frame_7 : decode cX7_frame 7 = .ok (.istore_n 2, 1) := by decide +kernel
theorem dX7_frame_8 : decode cX7_frame 8 = .ok (.iconst 0, 1) := by decide +kernel
theorem dX7_frame_9 : decode cX7_frame 9 = .ok (.istore_n 3, 1) := by decide +kernel
theorem dX7_frame_10 : decode cX7_frame 10 = .ok (.iload_n 3, 1) := by decide +kernel
theorem dX7_frame_11 : decode cX7_frame 11 = .ok (.aload_n 0, 1) := by decide +kernel
theorem dX7_frame_12 : decode cX7_frame 12 = .ok (.getfield 26, 3) := by decide +kernel
theorem dX7_frame_15 : decode cX7_frame 15 = .ok (.getfield 103, 3) := by decide +kernel
theorem dX7_frame_18 : decode cX7_frame 18 = .ok (.if_icmp .ge 32, 3) := by decide +kernel
theorem dX7_frame_21 : decode cX7_frame 21 = .ok (.aload_n 0, 1) := by decide +kernel
theorem dX7_frame_22 : decode cX7_frame 22 = .ok (.getfield 26, 3) := by decide +kernel
theorem dX7_frame_25 : decode cX7_frame 25 = .ok (.iload_n 3, 1) := by decide +kernel
theorem dX7_frame_26 : decode cX7_frame 26 = .ok (.invokevirtual 152, 3) := by decide +kernel
theorem dX7_frame_29 : decode cX7_frame 29 = .ok (.istore 4, 2) := by decide +kernel
theorem dX7_frame_31 : decode cX7_frame 31 = .ok (.iload_n 2, 1) := by decide +kernel
theorem dX7_frame_32 : decode cX7_frame 32 = .ok (.iload 4, 2) := by decide +kernel
theorem dX7_frame_34 : decode cX7_frame 34 = .ok (.if_icmp .ge 5, 3) := by decide +kernel
theorem dX7_frame_37 : decode cX7_frame 37 = .ok (.iload_n 3, 1) := by decide +kernel
theorem dX7_frame_38 : decode cX7_frame 38 = .ok (.ireturn, 1) := by decide +kernel
theorem dX7_frame_39 : decode cX7_frame 39 = .ok (.iload_n 2, 1) := by decide +kernel
theorem dX7_frame_40 : decode cX7_frame 40 = .ok (.iload 4, 2) := by decide +kernel
theorem dX7_frame_42 : decode cX7_frame 42 = .ok (.isub, 1) := by decide +kernel
theorem dX7_frame_43 : decode cX7_frame 43 = .ok (.istore_n 2, 1) := by decide +kernel
theorem dX7_frame_44 : decode cX7_frame 44 = .ok (.iinc 3 1, 3) := by decide +kernel
theorem dX7_frame_47 : decode cX7_frame 47 = .ok (.goto (-37), 3) := by decide +kernel
theorem dX7_frame_50 : decode cX7_frame 50 = .ok (.iconst (-1), 1) := by decide +kernel
theorem dX7_frame_51 : decode cX7_frame 51 = .ok (.ireturn, 1) := by decide +kernel
theorem dX7_count_0 : decode cX7_count 0 = .ok (.iload_n 1, 1) := by decide +kernel
theorem dX7_count_1 : decode cX7_count 1 = .ok (.tableswitch 72 0 4 #[35, 43, 51, 59, 67], 35) := by decide +kernel
theorem dX7_count_36 : decode cX7_count 36 = .ok (.aload_n 0, 1) := by decide +kernel
theorem dX7_count_37 : decode cX7_count 37 = .ok (.getfield 10, 3) := by decide +kernel
theorem dX7_count_40 : decode cX7_count 40 = .ok (.getfield 56, 3) := by decide +kernel
theorem dX7_count_43 : decode cX7_count 43 = .ok (.ireturn, 1) := by decide +kernel
theorem dX7_count_44 : decode cX7_count 44 = .ok (.aload_n 0, 1) := by decide +kernel
theorem dX7_count_45 : decode cX7_count 45 = .ok (.getfield 10, 3) := by decide +kernel
theorem dX7_count_48 : decode cX7_count 48 = .ok (.getfield 84, 3) := by decide +kernel
theorem dX7_count_51 : decode cX7_count 51 = .ok (.ireturn, 1) := by decide +kernel
theorem dX7_count_52 : decode cX7_count 52 = .ok (.aload_n 0, 1) := by decide +kernel
theorem dX7_count_53 : decode cX7_count 53 = .ok (.getfield 19, 3) := by decide +kernel
theorem dX7_count_56 : decode cX7_count 56 = .ok (.getfield 91, 3) := by decide +kernel
theorem dX7_count_59 : decode cX7_count 59 = .ok (.ireturn, 1) := by decide +kernel
theorem dX7_count_60 : decode cX7_count 60 = .ok (.aload_n 0, 1) := by decide +kernel
theorem dX7_count_61 : decode cX7_count 61 = .ok (.getfield 26, 3) := by decide +kernel
theorem dX7_count_64 : decode cX7_count 64 = .ok (.getfield 103, 3) := by decide +kernel
theorem dX7_count_67 : decode cX7_count 67 = .ok (.ireturn, 1) := by decide +kernel
theorem dX7_count_68 : decode cX7_count 68 = .ok (.aload_n 0, 1) := by decide +kernel
theorem dX7_count_69 : decode cX7_count 69 = .ok (.getfield 171, 3) := by decide +kernel
theorem dX7_count_72 : decode cX7_count 72 = .ok (.ireturn, 1) := by decide +kernel
theorem dX7_count_73 : decode cX7_count 73 = .ok (.iconst (-1), 1) := by decide +kernel
theorem dX7_count_74 : decode cX7_count 74 = .ok (.ireturn, 1) := by decide +kernel
theorem dX7_crossingsOfTold_0 : decode cX7_crossingsOfTold 0 = .ok (.iconst 0, 1) := by decide +kernel
theorem dX7_crossingsOfTold_1 : decode cX7_crossingsOfTold 1 = .ok (.istore_n 2, 1) := by decide +kernel
theorem dX7_crossingsOfTold_2 : decode cX7_crossingsOfTold 2 = .ok (.iconst 0, 1) := by decide +kernel
theorem dX7_crossingsOfTold_3 : decode cX7_crossingsOfTold 3 = .ok (.istore_n 3, 1) := by decide +kernel
theorem dX7_crossingsOfTold_4 : decode cX7_crossingsOfTold 4 = .ok (.iconst 0, 1) := by decide +kernel
theorem dX7_crossingsOfTold_5 : decode cX7_crossingsOfTold 5 = .ok (.istore 4, 2) := by decide +kernel
theorem dX7_crossingsOfTold_7 : decode cX7_crossingsOfTold 7 = .ok (.iload 4, 2) := by decide +kernel
theorem dX7_crossingsOfTold_9 : decode cX7_crossingsOfTold 9 = .ok (.iload_n 1, 1) := by decide +kernel
theorem dX7_crossingsOfTold_10 : decode cX7_crossingsOfTold 10 = .ok (.if_icmp .ge 77, 3) := by decide +kernel
theorem dX7_crossingsOfTold_13 : decode cX7_crossingsOfTold 13 = .ok (.aload_n 0, 1) := by decide +kernel
theorem dX7_crossingsOfTold_14 : decode cX7_crossingsOfTold 14 = .ok (.getfield 26, 3) := by decide +kernel
theorem dX7_crossingsOfTold_17 : decode cX7_crossingsOfTold 17 = .ok (.getfield 136, 3) := by decide +kernel
theorem dX7_crossingsOfTold_20 : decode cX7_crossingsOfTold 20 = .ok (.iload 4, 2) := by decide +kernel
theorem dX7_crossingsOfTold_22 : decode cX7_crossingsOfTold 22 = .ok (.aaload, 1) := by decide +kernel
theorem dX7_crossingsOfTold_23 : decode cX7_crossingsOfTold 23 = .ok (.astore 5, 2) := by decide +kernel
theorem dX7_crossingsOfTold_25 : decode cX7_crossingsOfTold 25 = .ok (.aload 5, 2) := by decide +kernel
theorem dX7_crossingsOfTold_27 : decode cX7_crossingsOfTold 27 = .ok (.getfield 144, 3) := by decide +kernel
theorem dX7_crossingsOfTold_30 : decode cX7_crossingsOfTold 30 = .ok (.iconst 1, 1) := by decide +kernel
theorem dX7_crossingsOfTold_31 : decode cX7_crossingsOfTold 31 = .ok (.if_icmp .ne 50, 3) := by decide +kernel
theorem dX7_crossingsOfTold_34 : decode cX7_crossingsOfTold 34 = .ok (.aload_n 0, 1) := by decide +kernel
theorem dX7_crossingsOfTold_35 : decode cX7_crossingsOfTold 35 = .ok (.getfield 35, 3) := by decide +kernel
theorem dX7_crossingsOfTold_38 : decode cX7_crossingsOfTold 38 = .ok (.aload_n 0, 1) := by decide +kernel
theorem dX7_crossingsOfTold_39 : decode cX7_crossingsOfTold 39 = .ok (.getfield 19, 3) := by decide +kernel
theorem dX7_crossingsOfTold_42 : decode cX7_crossingsOfTold 42 = .ok (.getfield 122, 3) := by decide +kernel
theorem dX7_crossingsOfTold_45 : decode cX7_crossingsOfTold 45 = .ok (.aload_n 0, 1) := by decide +kernel
theorem dX7_crossingsOfTold_46 : decode cX7_crossingsOfTold 46 = .ok (.getfield 48, 3) := by decide +kernel
theorem dX7_crossingsOfTold_49 : decode cX7_crossingsOfTold 49 = .ok (.iload 4, 2) := by decide +kernel
theorem dX7_crossingsOfTold_51 : decode cX7_crossingsOfTold 51 = .ok (.iaload, 1) := by decide +kernel
theorem dX7_crossingsOfTold_52 : decode cX7_crossingsOfTold 52 = .ok (.iaload, 1) := by decide +kernel
theorem dX7_crossingsOfTold_53 : decode cX7_crossingsOfTold 53 = .ok (.aload 5, 2) := by decide +kernel
theorem dX7_crossingsOfTold_55 : decode cX7_crossingsOfTold 55 = .ok (.invokevirtual 177, 3) := by decide +kernel
theorem dX7_crossingsOfTold_58 : decode cX7_crossingsOfTold 58 = .ok (.istore 6, 2) := by decide +kernel
theorem dX7_crossingsOfTold_60 : decode cX7_crossingsOfTold 60 = .ok (.aload 5, 2) := by decide +kernel
theorem dX7_crossingsOfTold_62 : decode cX7_crossingsOfTold 62 = .ok (.getfield 180, 3) := by decide +kernel
theorem dX7_crossingsOfTold_65 : decode cX7_crossingsOfTold 65 = .ok (.ifCond .eq 13, 3) := by decide +kernel
theorem dX7_crossingsOfTold_68 : decode cX7_crossingsOfTold 68 = .ok (.iload_n 3, 1) := by decide +kernel
theorem dX7_crossingsOfTold_69 : decode cX7_crossingsOfTold 69 = .ok (.iload 6, 2) := by decide +kernel
theorem dX7_crossingsOfTold_71 : decode cX7_crossingsOfTold 71 = .ok (.imul, 1) := by decide +kernel
theorem dX7_crossingsOfTold_72 : decode cX7_crossingsOfTold 72 = .ok (.ifCond .ge 6, 3) := by decide +kernel
theorem dX7_crossingsOfTold_75 : decode cX7_crossingsOfTold 75 = .ok (.iinc 2 1, 3) := by decide +kernel
theorem dX7_crossingsOfTold_78 : decode cX7_crossingsOfTold 78 = .ok (.iload 6, 2) := by decide +kernel
theorem dX7_crossingsOfTold_80 : decode cX7_crossingsOfTold 80 = .ok (.istore_n 3, 1) := by decide +kernel
theorem dX7_crossingsOfTold_81 : decode cX7_crossingsOfTold 81 = .ok (.iinc 4 1, 3) := by decide +kernel
theorem dX7_crossingsOfTold_84 : decode cX7_crossingsOfTold 84 = .ok (.goto (-77), 3) := by decide +kernel
theorem dX7_crossingsOfTold_87 : decode cX7_crossingsOfTold 87 = .ok (.iload_n 2, 1) := by decide +kernel
theorem dX7_crossingsOfTold_88 : decode cX7_crossingsOfTold 88 = .ok (.ireturn, 1) := by decide +kernel
theorem dX7_isPlace_0 : decode cX7_isPlace 0 = .ok (.iload_n 0, 1) := by decide +kernel
theorem dX7_isPlace_1 : decode cX7_isPlace 1 = .ok (.ifCond .lt 25, 3) := by decide +kernel
theorem dX7_isPlace_4 : decode cX7_isPlace 4 = .ok (.iload_n 0, 1) := by decide +kernel
theorem dX7_isPlace_5 : decode cX7_isPlace 5 = .ok (.bipush 100, 2) := by decide +kernel
theorem dX7_isPlace_7 : decode cX7_isPlace 7 = .ok (.idiv, 1) := by decide +kernel
theorem dX7_isPlace_8 : decode cX7_isPlace 8 = .ok (.bipush 32, 2) := by decide +kernel
theorem dX7_isPlace_10 : decode cX7_isPlace 10 = .ok (.if_icmp .ge 16, 3) := by decide +kernel
theorem dX7_isPlace_13 : decode cX7_isPlace 13 = .ok (.iload_n 0, 1) := by decide +kernel
theorem dX7_isPlace_14 : decode cX7_isPlace 14 = .ok (.bipush 100, 2) := by decide +kernel
theorem dX7_isPlace_16 : decode cX7_isPlace 16 = .ok (.irem, 1) := by decide +kernel
theorem dX7_isPlace_17 : decode cX7_isPlace 17 = .ok (.bipush 32, 2) := by decide +kernel
theorem dX7_isPlace_19 : decode cX7_isPlace 19 = .ok (.if_icmp .ge 7, 3) := by decide +kernel
theorem dX7_isPlace_22 : decode cX7_isPlace 22 = .ok (.iconst 1, 1) := by decide +kernel
theorem dX7_isPlace_23 : decode cX7_isPlace 23 = .ok (.goto 4, 3) := by decide +kernel
theorem dX7_isPlace_26 : decode cX7_isPlace 26 = .ok (.iconst 0, 1) := by decide +kernel
theorem dX7_isPlace_27 : decode cX7_isPlace 27 = .ok (.ireturn, 1) := by decide +kernel
theorem dX7_isTick_0 : decode cX7_isTick 0 = .ok (.iload_n 0, 1) := by decide +kernel
theorem dX7_isTick_1 : decode cX7_isTick 1 = .ok (.ifCond .lt 13, 3) := by decide +kernel
theorem dX7_isTick_4 : decode cX7_isTick 4 = .ok (.iload_n 0, 1) := by decide +kernel
theorem dX7_isTick_5 : decode cX7_isTick 5 = .ok (.bipush 60, 2) := by decide +kernel
theorem dX7_isTick_7 : decode cX7_isTick 7 = .ok (.if_icmp .ge 7, 3) := by decide +kernel
theorem dX7_isTick_10 : decode cX7_isTick 10 = .ok (.iconst 1, 1) := by decide +kernel
theorem dX7_isTick_11 : decode cX7_isTick 11 = .ok (.goto 4, 3) := by decide +kernel
theorem dX7_isTick_14 : decode cX7_isTick 14 = .ok (.iconst 0, 1) := by decide +kernel
theorem dX7_isTick_15 : decode cX7_isTick 15 = .ok (.ireturn, 1) := by decide +kernel
theorem dX7_isSpan_0 : decode cX7_isSpan 0 = .ok (.iload_n 0, 1) := by decide +kernel
theorem dX7_isSpan_1 : decode cX7_isSpan 1 = .ok (.ifCond .lt 28, 3) := by decide +kernel
theorem dX7_isSpan_4 : decode cX7_isSpan 4 = .ok (.iload_n 0, 1) := by decide +kernel
theorem dX7_isSpan_5 : decode cX7_isSpan 5 = .ok (.bipush 100, 2) := by decide +kernel
theorem dX7_isSpan_7 : decode cX7_isSpan 7 = .ok (.irem, 1) := by decide +kernel
theorem dX7_isSpan_8 : decode cX7_isSpan 8 = .ok (.invokestatic 70, 3) := by decide +kernel
theorem dX7_isSpan_11 : decode cX7_isSpan 11 = .ok (.ifCond .eq 18, 3) := by decide +kernel
theorem dX7_isSpan_14 : decode cX7_isSpan 14 = .ok (.iload_n 0, 1) := by decide +kernel
theorem dX7_isSpan_15 : decode cX7_isSpan 15 = .ok (.bipush 100, 2) := by decide +kernel
theorem dX7_isSpan_17 : decode cX7_isSpan 17 = .ok (.idiv, 1) := by decide +kernel
theorem dX7_isSpan_18 : decode cX7_isSpan 18 = .ok (.iload_n 0, 1) := by decide +kernel
theorem dX7_isSpan_19 : decode cX7_isSpan 19 = .ok (.bipush 100, 2) := by decide +kernel
theorem dX7_isSpan_21 : decode cX7_isSpan 21 = .ok (.irem, 1) := by decide +kernel
theorem dX7_isSpan_22 : decode cX7_isSpan 22 = .ok (.if_icmp .gt 7, 3) := by decide +kernel
theorem dX7_isSpan_25 : decode cX7_isSpan 25 = .ok (.iconst 1, 1) := by decide +kernel
theorem dX7_isSpan_26 : decode cX7_isSpan 26 = .ok (.goto 4, 3) := by decide +kernel
