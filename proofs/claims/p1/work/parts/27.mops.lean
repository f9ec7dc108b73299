theorem dX15_thing_0 : decode cX15_thing 0 = .ok (.aload_n 0, 1) := by decide +kernel
theorem dX15_thing_1 : decode cX15_thing 1 = .ok (.getfield 28, 3) := by decide +kernel
theorem dX15_thing_4 : decode cX15_thing 4 = .ok (.invokevirtual 183, 3) := by decide +kernel
theorem dX15_thing_7 : decode cX15_thing 7 = .ok (.astore_n 2, 1) := by decide +kernel
theorem dX15_thing_8 : decode cX15_thing 8 = .ok (.aload_n 2, 1) := by decide +kernel
theorem dX15_thing_9 : decode cX15_thing 9 = .ok (.invokeinterface 187 1, 5) := by decide +kernel
theorem dX15_thing_14 : decode cX15_thing 14 = .ok (.ifCond .eq 26, 3) := by decide +kernel
theorem dX15_thing_17 : decode cX15_thing 17 = .ok (.aload_n 2, 1) := by decide +kernel
theorem dX15_thing_18 : decode cX15_thing 18 = .ok (.invokeinterface 192 1, 5) := by decide +kernel
theorem dX15_thing_23 : decode cX15_thing 23 = .ok (.checkcast 213, 3) := by decide +kernel
theorem dX15_thing_26 : decode cX15_thing 26 = .ok (.astore_n 3, 1) := by decide +kernel
theorem dX15_thing_27 : decode cX15_thing 27 = .ok (.aload_n 3, 1) := by decide +kernel
theorem dX15_thing_28 : decode cX15_thing 28 = .ok (.getfield 231, 3) := by decide +kernel
theorem dX15_thing_31 : decode cX15_thing 31 = .ok (.iload_n 1, 1) := by decide +kernel
theorem dX15_thing_32 : decode cX15_thing 32 = .ok (.if_icmp .ne 5, 3) := by decide +kernel
theorem dX15_thing_35 : decode cX15_thing 35 = .ok (.aload_n 3, 1) := by decide +kernel
theorem dX15_thing_36 : decode cX15_thing 36 = .ok (.areturn, 1) := by decide +kernel
theorem dX15_thing_37 : decode cX15_thing 37 = .ok (.goto (-29), 3) := by decide +kernel
theorem dX15_thing_40 : decode cX15_thing 40 = .ok (.aconst_null, 1) := by decide +kernel
theorem dX15_thing_41 : decode cX15_thing 41 = .ok (.areturn, 1) := by decide +kernel
theorem dX15_isNoField_0 : decode cX15_isNoField 0 = .ok (.aload_n 0, 1) := by decide +kernel
theorem dX15_isNoField_1 : decode cX15_isNoField 1 = .ok (.aload_n 0, 1) := by decide +kernel
theorem dX15_isNoField_2 : decode cX15_isNoField 2 = .ok (.iload_n 1, 1) := by decide +kernel
theorem dX15_isNoField_3 : decode cX15_isNoField 3 = .ok (.invokevirtual 232, 3) := by decide +kernel
theorem dX15_isNoField_6 : decode cX15_isNoField 6 = .ok (.ifnull 38, 3) := by decide +kernel
theorem dX15_isNoField_9 : decode cX15_isNoField 9 = .ok (.iload_n 2, 1) := by decide +kernel
theorem dX15_isNoField_10 : decode cX15_isNoField 10 = .ok (.iconst 0, 1) := by decide +kernel
theorem dX15_isNoField_11 : decode cX15_isNoField 11 = .ok (.aload_n 0, 1) := by decide +kernel
theorem dX15_isNoField_12 : decode cX15_isNoField 12 = .ok (.getfield 21, 3) := by decide +kernel
theorem dX15_isNoField_15 : decode cX15_isNoField 15 = .ok (.aload_n 0, 1) := by decide +kernel
theorem dX15_isNoField_16 : decode cX15_isNoField 16 = .ok (.iload_n 1, 1) := by decide +kernel
theorem dX15_isNoField_17 : decode cX15_isNoField 17 = .ok (.invokevirtual 232, 3) := by decide +kernel
theorem dX15_isNoField_20 : decode cX15_isNoField 20 = .ok (.getfield 236, 3) := by decide +kernel
theorem dX15_isNoField_23 : decode cX15_isNoField 23 = .ok (.invokevirtual 70, 3) := by decide +kernel
theorem dX15_isNoField_26 : decode cX15_isNoField 26 = .ok (.checkcast 45, 3) := by decide +kernel
theorem dX15_isNoField_29 : decode cX15_isNoField 29 = .ok (.getfield 74, 3) := by decide +kernel
theorem dX15_isNoField_32 : decode cX15_isNoField 32 = .ok (.iconst 1, 1) := by decide +kernel
theorem dX15_isNoField_33 : decode cX15_isNoField 33 = .ok (.isub, 1) := by decide +kernel
theorem dX15_isNoField_34 : decode cX15_isNoField 34 = .ok (.invokestatic 62, 3) := by decide +kernel
theorem dX15_isNoField_37 : decode cX15_isNoField 37 = .ok (.ifCond .eq 7, 3) := by decide +kernel
theorem dX15_isNoField_40 : decode cX15_isNoField 40 = .ok (.iconst 0, 1) := by decide +kernel
theorem dX15_isNoField_41 : decode cX15_isNoField 41 = .ok (.goto 4, 3) := by decide +kernel
theorem dX15_isNoField_44 : decode cX15_isNoField 44 = .ok (.iconst 1, 1) := by decide +kernel
theorem dX15_isNoField_45 : decode cX15_isNoField 45 = .ok (.invokevirtual 77, 3) := by decide +kernel
theorem dX15_isNoField_48 : decode cX15_isNoField 48 = .ok (.ireturn, 1) := by decide +kernel
theorem dX15_reaches_0 : decode cX15_reaches 0 = .ok (.aload_n 1, 1) := by decide +kernel
theorem dX15_reaches_1 : decode cX15_reaches 1 = .ok (.ifnull 12, 3) := by decide +kernel
theorem dX15_reaches_4 : decode cX15_reaches 4 = .ok (.aload_n 1, 1) := by decide +kernel
theorem dX15_reaches_5 : decode cX15_reaches 5 = .ok (.getfield 228, 3) := by decide +kernel
theorem dX15_reaches_8 : decode cX15_reaches 8 = .ok (.bipush 111, 2) := by decide +kernel
theorem dX15_reaches_10 : decode cX15_reaches 10 = .ok (.if_icmp .eq 7, 3) := by decide +kernel
theorem dX15_reaches_13 : decode cX15_reaches 13 = .ok (.aconst_null, 1) := by decide +kernel
theorem dX15_reaches_14 : decode cX15_reaches 14 = .ok (.goto 11, 3) := by decide +kernel
theorem dX15_reaches_17 : decode cX15_reaches 17 = .ok (.aload_n 0, 1) := by decide +kernel
theorem dX15_reaches_18 : decode cX15_reaches 18 = .ok (.aload_n 1, 1) := by decide +kernel
theorem dX15_reaches_19 : decode cX15_reaches 19 = .ok (.getfield 225, 3) := by decide +kernel
theorem dX15_reaches_22 : decode cX15_reaches 22 = .ok (.invokevirtual 232, 3) := by decide +kernel
theorem dX15_reaches_25 : decode cX15_reaches 25 = .ok (.astore_n 2, 1) := by decide +kernel
theorem dX15_reaches_26 : decode cX15_reaches 26 = .ok (.aload_n 2, 1) := by decide +kernel
theorem dX15_reaches_27 : decode cX15_reaches 27 = .ok (.ifnull 10, 3) := by decide +kernel
theorem dX15_reaches_30 : decode cX15_reaches 30 = .ok (.aload_n 2, 1) := by decide +kernel
theorem dX15_reaches_31 : decode cX15_reaches 31 = .ok (.getfield 242, 3) := by decide +kernel
theorem dX15_reaches_34 : decode cX15_reaches 34 = .ok (.ifCond .eq 5, 3) := by decide +kernel
theorem dX15_reaches_37 : decode cX15_reaches 37 = .ok (.iconst 0, 1) := by decide +kernel
theorem dX15_reaches_38 : decode cX15_reaches 38 = .ok (.ireturn, 1) := by decide +kernel
theorem dX15_reaches_39 : decode cX15_reaches 39 = .ok (.aload_n 2, 1) := by decide +kernel
theorem dX15_reaches_40 : decode cX15_reaches 40 = .ok (.iconst 1, 1) := by decide +kernel
theorem dX15_reaches_41 : decode cX15_reaches 41 = .ok (.putfield 242, 3) := by decide +kernel
theorem dX15_reaches_44 : decode cX15_reaches 44 = .ok (.iconst 1, 1) := by decide +kernel
theorem dX15_reaches_45 : decode cX15_reaches 45 = .ok (.ireturn, 1) := by decide +kernel
theorem dX15_isThere_0 : decode cX15_isThere 0 = .ok (.aload_n 1, 1) := by decide +kernel
theorem dX15_isThere_1 : decode cX15_isThere 1 = .ok (.ifnull 23, 3) := by decide +kernel
theorem dX15_isThere_4 : decode cX15_isThere 4 = .ok (.aload_n 1, 1) := by decide +kernel
theorem dX15_isThere_5 : decode cX15_isThere 5 = .ok (.getfield 228, 3) := by decide +kernel
theorem dX15_isThere_8 : decode cX15_isThere 8 = .ok (.bipush 111, 2) := by decide +kernel
theorem dX15_isThere_10 : decode cX15_isThere 10 = .ok (.if_icmp .ne 14, 3) := by decide +kernel
theorem dX15_isThere_13 : decode cX15_isThere 13 = .ok (.aload_n 0, 1) := by decide +kernel
theorem dX15_isThere_14 : decode cX15_isThere 14 = .ok (.aload_n 1, 1) := by decide +kernel
theorem dX15_isThere_15 : decode cX15_isThere 15 = .ok (.getfield 225, 3) := by decide +kernel
theorem dX15_isThere_18 : decode cX15_isThere 18 = .ok (.invokevirtual 232, 3) := by decide +kernel
theorem dX15_isThere_21 : decode cX15_isThere 21 = .ok (.ifnull 7, 3) := by decide +kernel
theorem dX15_isThere_24 : decode cX15_isThere 24 = .ok (.iconst 1, 1) := by decide +kernel
theorem dX15_isThere_25 : decode cX15_isThere 25 = .ok (.goto 4, 3) := by decide +kernel
theorem dX15_isThere_28 : decode cX15_isThere 28 = .ok (.iconst 0, 1) := by decide +kernel
theorem dX15_isThere_29 : decode cX15_isThere 29 = .ok (.ireturn, 1) := by decide +kernel
theorem dX15_classOf__0 : decode cX15_classOf_ 0 = .ok (.aload_n 1, 1) := by decide +kernel
theorem dX15_classOf__1 : decode cX15_classOf_ 1 = .ok (.getfield 228, 3) := by decide +kernel
theorem dX15_classOf__4 : decode cX15_classOf_ 4 = .ok (.bipush 110, 2) := by decide +kernel
theorem dX15_classOf__6 : decode cX15_classOf_ 6 = .ok (.if_icmp .ne 7, 3) := by decide +kernel
theorem dX15_classOf__9 : decode cX15_classOf_ 9 = .ok (.iconst 1, 1) := by decide +kernel
theorem dX15_classOf__10 : decode cX15_classOf_ 10 = .ok (.goto 27, 3) := by decide +kernel
theorem dX15_classOf__13 : decode cX15_classOf_ 13 = .ok (.aload_n 1, 1) := by decide +kernel
theorem dX15_classOf__14 : decode cX15_classOf_ 14 = .ok (.getfield 228, 3) := by decide +kernel
theorem dX15_classOf__17 : decode cX15_classOf_ 17 = .ok (.bipush 117, 2) := by decide +kernel
theorem dX15_classOf__19 : decode cX15_classOf_ 19 = .ok (.if_icmp .ne 7, 3) := by decide +kernel
theorem dX15_classOf__22 : decode cX15_classOf_ 22 = .ok (.iconst 2, 1) := by decide +kernel
theorem dX15_classOf__23 : decode cX15_classOf_ 23 = .ok (.goto 14, 3) := by decide +kernel
theorem dX15_classOf__26 : decode cX15_classOf_ 26 = .ok (.aload_n 0, 1) := by decide +kernel
theorem dX15_classOf__27 : decode cX15_classOf_ 27 = .ok (.aload_n 1, 1) := by decide +kernel
theorem dX15_classOf__28 : decode cX15_classOf_ 28 = .ok (.getfield 225, 3) := by decide +kernel
theorem dX15_classOf__31 : decode cX15_classOf_ 31 = .ok (.invokevirtual 232, 3) := by decide +kernel
theorem dX15_classOf__34 : decode cX15_classOf_ 34 = .ok (.getfield 236, 3) := by decide +kernel
theorem dX15_classOf__37 : decode cX15_classOf_ 37 = .ok (.ireturn, 1) := by decide +kernel
theorem dX15_classOf_0 : decode cX15_classOf 0 = .ok (.aload_n 0, 1) := by decide +kernel
theorem dX15_classOf_1 : decode cX15_classOf 1 = .ok (.aload_n 0, 1) := by decide +kernel
theorem dX15_classOf_2 : decode cX15_classOf 2 = .ok (.iload_n 1, 1) := by decide +kernel
theorem dX15_classOf_3 : decode cX15_classOf 3 = .ok (.invokevirtual 232, 3) := by decide +kernel
theorem dX15_classOf_6 : decode cX15_classOf 6 = .ok (.ifnonnull 7, 3) := by decide +kernel
theorem dX15_classOf_9 : decode cX15_classOf 9 = .ok (.iconst 1, 1) := by decide +kernel
theorem dX15_classOf_10 : decode cX15_classOf 10 = .ok (.goto 4, 3) := by decide +kernel
theorem dX15_classOf_13 : decode cX15_classOf 13 = .ok (.iconst 0, 1) := by decide +kernel
theorem dX15_classOf_14 : decode cX15_classOf 14 = .ok (.invokevirtual 77, 3) := by decide +kernel
theorem dX15_classOf_17 : decode cX15_classOf 17 = .ok (.ifCond .eq 7, 3) := by decide +kernel
theorem dX15_classOf_20 : decode cX15_classOf 20 = .ok (.iconst 0, 1) := by decide +kernel
theorem dX15_classOf_21 : decode cX15_classOf 21 = .ok (.goto 11, 3) := by decide +kernel
theorem dX15_classOf_24 : decode cX15_classOf 24 = .ok (.aload_n 0, 1) := by decide +kernel
theorem dX15_classOf_25 : decode cX15_classOf 25 = .ok (.iload_n 1, 1) := by decide +kernel
theorem dX15_classOf_26 : decode cX15_classOf 26 = .ok (.invokevirtual 232, 3) := by decide +kernel
theorem dX15_classOf_29 : decode cX15_classOf 29 = .ok (.getfield 236, 3) := by decide +kernel
theorem dX15_classOf_32 : decode cX15_classOf 32 = .ok (.ireturn, 1) := by decide +kernel
theorem dX15_fieldKind_0 : decode cX15_fieldKind 0 = .ok (.aload_n 0, 1) := by decide +kernel
theorem dX15_fieldKind_1 : decode cX15_fieldKind 1 = .ok (.iload_n 1, 1) := by decide +kernel
theorem dX15_fieldKind_2 : decode cX15_fieldKind 2 = .ok (.iload_n 2, 1) := by decide +kernel
theorem dX15_fieldKind_3 : decode cX15_fieldKind 3 = .ok (.invokevirtual 237, 3) := by decide +kernel
theorem dX15_fieldKind_6 : decode cX15_fieldKind 6 = .ok (.ifCond .eq 7, 3) := by decide +kernel
theorem dX15_fieldKind_9 : decode cX15_fieldKind 9 = .ok (.iconst 0, 1) := by decide +kernel
theorem dX15_fieldKind_10 : decode cX15_fieldKind 10 = .ok (.goto 16, 3) := by decide +kernel
theorem dX15_fieldKind_13 : decode cX15_fieldKind 13 = .ok (.aload_n 0, 1) := by decide +kernel
theorem dX15_fieldKind_14 : decode cX15_fieldKind 14 = .ok (.iload_n 1, 1) := by decide +kernel
theorem dX15_fieldKind_15 : decode cX15_fieldKind 15 = .ok (.invokevirtual 232, 3) := by decide +kernel
theorem dX15_fieldKind_18 : decode cX15_fieldKind 18 = .ok (.getfield 240, 3) := by decide +kernel
theorem dX15_fieldKind_21 : decode cX15_fieldKind 21 = .ok (.iload_n 2, 1) := by decide +kernel
theorem dX15_fieldKind_22 : decode cX15_fieldKind 22 = .ok (.aaload, 1) := by decide +kernel
theorem dX15_fieldKind_23 : decode cX15_fieldKind 23 = .ok (.getfield 228, 3) := by decide +kernel
theorem dX15_fieldKind_26 : decode cX15_fieldKind 26 = .ok (.ireturn, 1) := by decide +kernel
theorem dX15_fieldValue_0 : decode cX15_fieldValue 0 = .ok (.aload_n 0, 1) := by decide +kernel
theorem dX15_fieldValue_1 : decode cX15_fieldValue 1 = .ok (.iload_n 1, 1) := by decide +kernel
theorem dX15_fieldValue_2 : decode cX15_fieldValue 2 = .ok (.iload_n 2, 1) := by decide +kernel
theorem dX15_fieldValue_3 : decode cX15_fieldValue 3 = .ok (.invokevirtual 237, 3) := by decide +kernel
theorem dX15_fieldValue_6 : decode cX15_fieldValue 6 = .ok (.ifCond .eq 7, 3) := by decide +kernel
theorem dX15_fieldValue_9 : decode cX15_fieldValue 9 = .ok (.iconst 0, 1) := by decide +kernel
theorem dX15_fieldValue_10 : decode cX15_fieldValue 10 = .ok (.goto 16, 3) := by decide +kernel
theorem dX15_fieldValue_13 : decode cX15_fieldValue 13 = .ok (.aload_n 0, 1) := by decide +kernel
theorem dX15_fieldValue_14 : decode cX15_fieldValue 14 = .ok (.iload_n 1, 1) := by decide +kernel
theorem dX15_fieldValue_15 : decode cX15_fieldValue 15 = .ok (.invokevirtual 232, 3) := by decide +kernel
theorem dX15_fieldValue_18 : decode cX15_fieldValue 18 = .ok (.getfield 240, 3) := by decide +kernel
theorem dX15_fieldValue_21 : decode cX15_fieldValue 21 = .ok (.iload_n 2, 1) := by decide +kernel
theorem dX15_fieldValue_22 : decode cX15_fieldValue 22 = .ok (.aaload, 1) := by decide +kernel
theorem dX15_fieldValue_23 : decode cX15_fieldValue 23 = .ok (.getfield 225, 3) := by decide +kernel
theorem dX15_fieldValue_26 : decode cX15_fieldValue 26 = .ok (.ireturn, 1) := by decide +kernel
theorem dX15_classes_0 : decode cX15_classes 0 = .ok (.aload_n 0, 1) := by decide +kernel
theorem dX15_classes_1 : decode cX15_classes 1 = .ok (.iconst 0, 1) := by decide +kernel
theorem dX15_classes_2 : decode cX15_classes 2 = .ok (.putfield 54, 3) := by decide +kernel
theorem dX15_classes_5 : decode cX15_classes 5 = .ok (.aload_n 0, 1) := by decide +kernel
theorem dX15_classes_6 : decode cX15_classes 6 = .ok (.getfield 21, 3) := by decide +kernel
theorem dX15_classes_9 : decode cX15_classes 9 = .ok (.invokevirtual 58, 3) := by decide +kernel
theorem dX15_classes_12 : decode cX15_classes 12 = .ok (.ireturn, 1) := by decide +kernel
theorem dX15_wipe_0 : decode cX15_wipe 0 = .ok (.aload_n 0, 1) := by decide +kernel
theorem dX15_wipe_1 : decode cX15_wipe 1 = .ok (.iconst 0, 1) := by decide +kernel
theorem dX15_wipe_2 : decode cX15_wipe 2 = .ok (.putfield 54, 3) := by decide +kernel
theorem dX15_wipe_5 : decode cX15_wipe 5 = .ok (.aload_n 0, 1) := by decide +kernel
theorem dX15_wipe_6 : decode cX15_wipe 6 = .ok (.getfield 25, 3) := by decide +kernel
theorem dX15_wipe_9 : decode cX15_wipe 9 = .ok (.invokevirtual 58, 3) := by decide +kernel
theorem dX15_wipe_12 : decode cX15_wipe 12 = .ok (.istore_n 1, 1) := by decide +kernel
theorem dX15_wipe_13 : decode cX15_wipe 13 = .ok (.aload_n 0, 1) := by decide +kernel
theorem dX15_wipe_14 : decode cX15_wipe 14 = .ok (.getfield 25, 3) := by decide +kernel
theorem dX15_wipe_17 : decode cX15_wipe 17 = .ok (.invokevirtual 93, 3) := by decide +kernel
theorem dX15_wipe_20 : decode cX15_wipe 20 = .ok (.iload_n 1, 1) := by decide +kernel
theorem dX15_wipe_21 : decode cX15_wipe 21 = .ok (.ireturn, 1) := by decide +kernel
theorem dX15_things_0 : decode cX15_things 0 = .ok (.aload_n 0, 1) := by decide +kernel
theorem dX15_things_1 : decode cX15_things 1 = .ok (.iconst 0, 1) := by decide +kernel
theorem dX15_things_2 : decode cX15_things 2 = .ok (.putfield 54, 3) := by decide +kernel
theorem dX15_things_5 : decode cX15_things 5 = .ok (.aload_n 0, 1) := by decide +kernel
theorem dX15_things_6 : decode cX15_things 6 = .ok (.getfield 28, 3) := by decide +kernel
theorem dX15_things_9 : decode cX15_things 9 = .ok (.invokevirtual 58, 3) := by decide +kernel
theorem dX15_things_12 : decode cX15_things 12 = .ok (.ireturn, 1) := by decide +kernel
theorem dX15_state_0 : decode cX15_state 0 = .ok (.aload_n 0, 1) := by decide +kernel
theorem dX15_state_1 : decode cX15_state 1 = .ok (.iconst 0, 1) := by decide +kernel
theorem dX15_state_2 : decode cX15_state 2 = .ok (.putfield 54, 3) := by decide +kernel
theorem dX15_state_5 : decode cX15_state 5 = .ok (.aload_n 0, 1) := by decide +kernel
theorem dX15_state_6 : decode cX15_state 6 = .ok (.getfield 41, 3) := by decide +kernel
theorem dX15_state_9 : decode cX15_state 9 = .ok (.ireturn, 1) := by decide +kernel
theorem dX15_steps_0 : decode cX15_steps 0 = .ok (.aload_n 0, 1) := by decide +kernel
theorem dX15_steps_1 : decode cX15_steps 1 = .ok (.iconst 0, 1) := by decide +kernel
theorem dX15_steps_2 : decode cX15_steps 2 = .ok (.putfield 54, 3) := by decide +kernel
theorem dX15_steps_5 : decode cX15_steps 5 = .ok (.aload_n 0, 1) := by decide +kernel
theorem dX15_steps_6 : decode cX15_steps 6 = .ok (.getfield 336, 3) := by decide +kernel
theorem dX15_steps_9 : decode cX15_steps 9 = .ok (.ireturn, 1) := by decide +kernel
theorem dX15_frames_0 : decode cX15_frames 0 = .ok (.aload_n 0, 1) := by decide +kernel
theorem dX15_frames_1 : decode cX15_frames 1 = .ok (.iconst 0, 1) := by decide +kernel
theorem dX15_frames_2 : decode cX15_frames 2 = .ok (.putfield 54, 3) := by decide +kernel
theorem dX15_frames_5 : decode cX15_frames 5 = .ok (.aload_n 0, 1) := by decide +kernel
theorem dX15_frames_6 : decode cX15_frames 6 = .ok (.getfield 31, 3) := by decide +kernel
theorem dX15_frames_9 : decode cX15_frames 9 = .ok (.invokevirtual 58, 3) := by decide +kernel
theorem dX15_frames_12 : decode cX15_frames 12 = .ok (.ireturn, 1) := by decide +kernel
theorem dX15_written_0 : decode cX15_written 0 = .ok (.aload_n 0, 1) := by decide +kernel
theorem dX15_written_1 : decode cX15_written 1 = .ok (.iconst 0, 1) := by decide +kernel
theorem dX15_written_2 : decode cX15_written 2 = .ok (.putfield 54, 3) := by decide +kernel
theorem dX15_written_5 : decode cX15_written 5 = .ok (.aload_n 0, 1) := by decide +kernel
theorem dX15_written_6 : decode cX15_written 6 = .ok (.getfield 34, 3) := by decide +kernel
theorem dX15_written_9 : decode cX15_written 9 = .ok (.invokevirtual 58, 3) := by decide +kernel
theorem dX15_written_12 : decode cX15_written 12 = .ok (.ireturn, 1) := by decide +kernel
theorem dX15_collect_0 : decode cX15_collect 0 = .ok (.aload_n 0, 1) := by decide +kernel
theorem dX15_collect_1 : decode cX15_collect 1 = .ok (.iconst 0, 1) := by decide +kernel
theorem dX15_collect_2 : decode cX15_collect 2 = .ok (.putfield 54, 3) := by decide +kernel
theorem dX15_collect_5 : decode cX15_collect 5 = .ok (.aload_n 0, 1) := by decide +kernel
theorem dX15_collect_6 : decode cX15_collect 6 = .ok (.getfield 28, 3) := by decide +kernel
theorem dX15_collect_9 : decode cX15_collect 9 = .ok (.invokevirtual 183, 3) := by decide +kernel
theorem dX15_collect_12 : decode cX15_collect 12 = .ok (.astore_n 1, 1) := by decide +kernel
theorem dX15_collect_13 : decode cX15_collect 13 = .ok (.aload_n 1, 1) := by decide +kernel
theorem dX15_collect_14 : decode cX15_collect 14 = .ok (.invokeinterface 187 1, 5) := by decide +kernel
theorem dX15_collect_19 : decode cX15_collect 19 = .ok (.ifCond .eq 21, 3) := by decide +kernel
theorem dX15_collect_22 : decode cX15_collect 22 = .ok (.aload_n 1, 1) := by decide +kernel
theorem dX15_collect_23 : decode cX15_collect 23 = .ok (.invokeinterface 192 1, 5) := by decide +kernel
theorem dX15_collect_28 : decode cX15_collect 28 = .ok (.checkcast 213, 3) := by decide +kernel
theorem dX15_collect_31 : decode cX15_collect 31 = .ok (.astore_n 2, 1) := by decide +kernel
theorem dX15_collect_32 : decode cX15_collect 32 = .ok (.aload_n 2, 1) := by decide +kernel
theorem dX15_collect_33 : decode cX15_collect 33 = .ok (.iconst 0, 1) := by decide +kernel
theorem dX15_collect_34 : decode cX15_collect 34 = .ok (.putfield 242, 3) := by decide +kernel
theorem dX15_collect_37 : decode cX15_collect 37 = .ok (.goto (-24), 3) := by decide +kernel
theorem dX15_collect_40 : decode cX15_collect 40 = .ok (.aload_n 0, 1) := by decide +kernel
theorem dX15_collect_41 : decode cX15_collect 41 = .ok (.getfield 37, 3) := by decide +kernel
theorem dX15_collect_44 : decode cX15_collect 44 = .ok (.astore_n 1, 1) := by decide +kernel
theorem dX15_collect_45 : decode cX15_collect 45 = .ok (.aload_n 1, 1) := by decide +kernel
theorem dX15_collect_46 : decode cX15_collect 46 = .ok (.arraylength, 1) := by decide +kernel
theorem dX15_collect_47 : decode cX15_collect 47 = .ok (.istore_n 2, 1) := by decide +kernel
theorem dX15_collect_48 : decode cX15_collect 48 = .ok (.iconst 0, 1) := by decide +kernel
theorem dX15_collect_49 : decode cX15_collect 49 = .ok (.istore_n 3, 1) := by decide +kernel
theorem dX15_collect_50 : decode cX15_collect 50 = .ok (.iload_n 3, 1) := by decide +kernel
theorem dX15_collect_51 : decode cX15_collect 51 = .ok (.iload_n 2, 1) := by decide +kernel
theorem dX15_collect_52 : decode cX15_collect 52 = .ok (.if_icmp .ge 21, 3) := by decide +kernel
theorem dX15_collect_55 : decode cX15_collect 55 = .ok (.aload_n 1, 1) := by decide +kernel
theorem dX15_collect_56 : decode cX15_collect 56 = .ok (.iload_n 3, 1) := by decide +kernel
theorem dX15_collect_57 : decode cX15_collect 57 = .ok (.aaload, 1) := by decide +kernel
theorem dX15_collect_58 : decode cX15_collect 58 = .ok (.astore 4, 2) := by decide +kernel
theorem dX15_collect_60 : decode cX15_collect 60 = .ok (.aload_n 0, 1) := by decide +kernel
theorem dX15_collect_61 : decode cX15_collect 61 = .ok (.aload 4, 2) := by decide +kernel
theorem dX15_collect_63 : decode cX15_collect 63 = .ok (.invokevirtual 245, 3) := by decide +kernel
theorem dX15_collect_66 : decode cX15_collect 66 = .ok (.pop, 1) := by decide +kernel
theorem dX15_collect_67 : decode cX15_collect 67 = .ok (.iinc 3 1, 3) := by decide +kernel
theorem dX15_collect_70 : decode cX15_collect 70 = .ok (.goto (-20), 3) := by decide +kernel
theorem dX15_collect_73 : decode cX15_collect 73 = .ok (.aload_n 0, 1) := by decide +kernel
theorem dX15_collect_74 : decode cX15_collect 74 = .ok (.aload_n 0, 1) := by decide +kernel
theorem dX15_collect_75 : decode cX15_collect 75 = .ok (.getfield 249, 3) := by decide +kernel
theorem dX15_collect_78 : decode cX15_collect 78 = .ok (.invokevirtual 245, 3) := by decide +kernel
theorem dX15_collect_81 : decode cX15_collect 81 = .ok (.pop, 1) := by decide +kernel
theorem dX15_collect_82 : decode cX15_collect 82 = .ok (.aload_n 0, 1) := by decide +kernel
theorem dX15_collect_83 : decode cX15_collect 83 = .ok (.getfield 31, 3) := by decide +kernel
theorem dX15_collect_86 : decode cX15_collect 86 = .ok (.invokevirtual 183, 3) := by decide +kernel
theorem dX15_collect_89 : decode cX15_collect 89 = .ok (.astore_n 1, 1) := by decide +kernel
theorem dX15_collect_90 : decode cX15_collect 90 = .ok (.aload_n 1, 1) := by decide +kernel
theorem dX15_collect_91 : decode cX15_collect 91 = .ok (.invokeinterface 187 1, 5) := by decide +kernel
theorem dX15_collect_96 : decode cX15_collect 96 = .ok (.ifCond .eq 139, 3) := by decide +kernel
theorem dX15_collect_99 : decode cX15_collect 99 = .ok (.aload_n 1, 1) := by decide +kernel
theorem dX15_collect_100 : decode cX15_collect 100 = .ok (.invokeinterface 192 1, 5) := by decide +kernel
theorem dX15_collect_105 : decode cX15_collect 105 = .ok (.checkcast 252, 3) := by decide +kernel
theorem dX15_collect_108 : decode cX15_collect 108 = .ok (.astore_n 2, 1) := by decide +kernel
theorem dX15_collect_109 : decode cX15_collect 109 = .ok (.aload_n 0, 1) := by decide +kernel
theorem dX15_collect_110 : decode cX15_collect 110 = .ok (.aload_n 2, 1) := by decide +kernel
theorem dX15_collect_111 : decode cX15_collect 111 = .ok (.getfield 254, 3) := by decide +kernel
theorem dX15_collect_114 : decode cX15_collect 114 = .ok (.invokevirtual 245, 3) := by decide +kernel
theorem dX15_collect_117 : decode cX15_collect 117 = .ok (.pop, 1) := by decide +kernel
theorem dX15_collect_118 : decode cX15_collect 118 = .ok (.aload_n 2, 1) := by decide +kernel
theorem dX15_collect_119 : decode cX15_collect 119 = .ok (.getfield 257, 3) := by decide +kernel
theorem dX15_collect_122 : decode cX15_collect 122 = .ok (.astore_n 3, 1) := by decide +kernel
theorem dX15_collect_123 : decode cX15_collect 123 = .ok (.aload_n 3, 1) := by decide +kernel
theorem dX15_collect_124 : decode cX15_collect 124 = .ok (.arraylength, 1) := by decide +kernel
theorem dX15_collect_125 : decode cX15_collect 125 = .ok (.istore 4, 2) := by decide +kernel
theorem dX15_collect_127 : decode cX15_collect 127 = .ok (.iconst 0, 1) := by decide +kernel
theorem dX15_collect_128 : decode cX15_collect 128 = .ok (.istore 5, 2) := by decide +kernel
theorem dX15_collect_130 : decode cX15_collect 130 = .ok (.iload 5, 2) := by decide +kernel
theorem dX15_collect_132 : decode cX15_collect 132 = .ok (.iload 4, 2) := by decide +kernel
theorem dX15_collect_134 : decode cX15_collect 134 = .ok (.if_icmp .ge 22, 3) := by decide +kernel
theorem dX15_collect_137 : decode cX15_collect 137 = .ok (.aload_n 3, 1) := by decide +kernel
theorem dX15_collect_138 : decode cX15_collect 138 = .ok (.iload 5, 2) := by decide +kernel
theorem dX15_collect_140 : decode cX15_collect 140 = .ok (.aaload, 1) := by decide +kernel
theorem dX15_collect_141 : decode cX15_collect 141 = .ok (.astore 6, 2) := by decide +kernel
theorem dX15_collect_143 : decode cX15_collect 143 = .ok (.aload_n 0, 1) := by decide +kernel
theorem dX15_collect_144 : decode cX15_collect 144 = .ok (.aload 6, 2) := by decide +kernel
theorem dX15_collect_146 : decode cX15_collect 146 = .ok (.invokevirtual 245, 3) := by decide +kernel
theorem dX15_collect_149 : decode cX15_collect 149 = .ok (.pop, 1) := by decide +kernel
theorem dX15_collect_150 : decode cX15_collect 150 = .ok (.iinc 5 1, 3) := by decide +kernel
theorem dX15_collect_153 : decode cX15_collect 153 = .ok (.goto (-23), 3) := by decide +kernel
theorem dX15_collect_156 : decode cX15_collect 156 = .ok (.aload_n 2, 1) := by decide +kernel
theorem dX15_collect_157 : decode cX15_collect 157 = .ok (.getfield 259, 3) := by decide +kernel
theorem dX15_collect_160 : decode cX15_collect 160 = .ok (.astore_n 3, 1) := by decide +kernel
theorem dX15_collect_161 : decode cX15_collect 161 = .ok (.aload_n 3, 1) := by decide +kernel
theorem dX15_collect_162 : decode cX15_collect 162 = .ok (.arraylength, 1) := by decide +kernel
theorem dX15_collect_163 : decode cX15_collect 163 = .ok (.istore 4, 2) := by decide +kernel
theorem dX15_collect_165 : decode cX15_collect 165 = .ok (.iconst 0, 1) := by decide +kernel
theorem dX15_collect_166 : decode cX15_collect 166 = .ok (.istore 5, 2) := by decide +kernel
theorem dX15_collect_168 : decode cX15_collect 168 = .ok (.iload 5, 2) := by decide +kernel
theorem dX15_collect_170 : decode cX15_collect 170 = .ok (.iload 4, 2) := by decide +kernel
theorem dX15_collect_172 : decode cX15_collect 172 = .ok (.if_icmp .ge 22, 3) := by decide +kernel
theorem dX15_collect_175 : decode cX15_collect 175 = .ok (.aload_n 3, 1) := by decide +kernel
theorem dX15_collect_176 : decode cX15_collect 176 = .ok (.iload 5, 2) := by decide +kernel
theorem dX15_collect_178 : decode cX15_collect 178 = .ok (.aaload, 1) := by decide +kernel
theorem dX15_collect_179 : decode cX15_collect 179 = .ok (.astore 6, 2) := by decide +kernel
theorem dX15_collect_181 : decode cX15_collect 181 = .ok (.aload_n 0, 1) := by decide +kernel
theorem dX15_collect_182 : decode cX15_collect 182 = .ok (.aload 6, 2) := by decide +kernel
theorem dX15_collect_184 : decode cX15_collect 184 = .ok (.invokevirtual 245, 3) := by decide +kernel
theorem dX15_collect_187 : decode cX15_collect 187 = .ok (.pop, 1) := by decide +kernel
theorem dX15_collect_188 : decode cX15_collect 188 = .ok (.iinc 5 1, 3) := by decide +kernel
theorem dX15_collect_191 : decode cX15_collect 191 = .ok (.goto (-23), 3) := by decide +kernel
theorem dX15_collect_194 : decode cX15_collect 194 = .ok (.aload_n 2, 1) := by decide +kernel
theorem dX15_collect_195 : decode cX15_collect 195 = .ok (.getfield 261, 3) := by decide +kernel
theorem dX15_collect_198 : decode cX15_collect 198 = .ok (.invokevirtual 183, 3) := by decide +kernel
theorem dX15_collect_201 : decode cX15_collect 201 = .ok (.astore_n 3, 1) := by decide +kernel
theorem dX15_collect_202 : decode cX15_collect 202 = .ok (.aload_n 3, 1) := by decide +kernel
theorem dX15_collect_203 : decode cX15_collect 203 = .ok (.invokeinterface 187 1, 5) := by decide +kernel
theorem dX15_collect_208 : decode cX15_collect 208 = .ok (.ifCond .eq 24, 3) := by decide +kernel
theorem dX15_collect_211 : decode cX15_collect 211 = .ok (.aload_n 3, 1) := by decide +kernel
theorem dX15_collect_212 : decode cX15_collect 212 = .ok (.invokeinterface 192 1, 5) := by decide +kernel
theorem dX15_collect_217 : decode cX15_collect 217 = .ok (.checkcast 7, 3) := by decide +kernel
theorem dX15_collect_220 : decode cX15_collect 220 = .ok (.astore 4, 2) := by decide +kernel
theorem dX15_collect_222 : decode cX15_collect 222 = .ok (.aload_n 0, 1) := by decide +kernel
theorem dX15_collect_223 : decode cX15_collect 223 = .ok (.aload 4, 2) := by decide +kernel
theorem dX15_collect_225 : decode cX15_collect 225 = .ok (.invokevirtual 245, 3) := by decide +kernel
theorem dX15_collect_228 : decode cX15_collect 228 = .ok (.pop, 1) := by decide +kernel
theorem dX15_collect_229 : decode cX15_collect 229 = .ok (.goto (-27), 3) := by decide +kernel
theorem dX15_collect_232 : decode cX15_collect 232 = .ok (.goto (-142), 3) := by decide +kernel
theorem dX15_collect_235 : decode cX15_collect 235 = .ok (.iconst 1, 1) := by decide +kernel
theorem dX15_collect_236 : decode cX15_collect 236 = .ok (.istore_n 1, 1) := by decide +kernel
theorem dX15_collect_237 : decode cX15_collect 237 = .ok (.iload_n 1, 1) := by decide +kernel
theorem dX15_collect_238 : decode cX15_collect 238 = .ok (.ifCond .eq 75, 3) := by decide +kernel
theorem dX15_collect_241 : decode cX15_collect 241 = .ok (.iconst 0, 1) := by decide +kernel
theorem dX15_collect_242 : decode cX15_collect 242 = .ok (.istore_n 1, 1) := by decide +kernel
theorem dX15_collect_243 : decode cX15_collect 243 = .ok (.aload_n 0, 1) := by decide +kernel
theorem dX15_collect_244 : decode cX15_collect 244 = .ok (.getfield 28, 3) := by decide +kernel
theorem dX15_collect_247 : decode cX15_collect 247 = .ok (.invokevirtual 183, 3) := by decide +kernel
theorem dX15_collect_250 : decode cX15_collect 250 = .ok (.astore_n 2, 1) := by decide +kernel
theorem dX15_collect_251 : decode cX15_collect 251 = .ok (.aload_n 2, 1) := by decide +kernel
theorem dX15_collect_252 : decode cX15_collect 252 = .ok (.invokeinterface 187 1, 5) := by decide +kernel
theorem dX15_collect_257 : decode cX15_collect 257 = .ok (.ifCond .eq 53, 3) := by decide +kernel
theorem dX15_collect_260 : decode cX15_collect 260 = .ok (.aload_n 2, 1) := by decide +kernel
theorem dX15_collect_261 : decode cX15_collect 261 = .ok (.invokeinterface 192 1, 5) := by decide +kernel
theorem dX15_collect_266 : decode cX15_collect 266 = .ok (.checkcast 213, 3) := by decide +kernel
theorem dX15_collect_269 : decode cX15_collect 269 = .ok (.astore_n 3, 1) := by decide +kernel
theorem dX15_collect_270 : decode cX15_collect 270 = .ok (.iconst 0, 1) := by decide +kernel
theorem dX15_collect_271 : decode cX15_collect 271 = .ok (.istore 4, 2) := by decide +kernel
theorem dX15_collect_273 : decode cX15_collect 273 = .ok (.aload_n 3, 1) := by decide +kernel
theorem dX15_collect_274 : decode cX15_collect 274 = .ok (.getfield 242, 3) := by decide +kernel
theorem dX15_collect_277 : decode cX15_collect 277 = .ok (.ifCond .eq 30, 3) := by decide +kernel
theorem dX15_collect_280 : decode cX15_collect 280 = .ok (.iload 4, 2) := by decide +kernel
theorem dX15_collect_282 : decode cX15_collect 282 = .ok (.bipush 8, 2) := by decide +kernel
theorem dX15_collect_284 : decode cX15_collect 284 = .ok (.if_icmp .ge 23, 3) := by decide +kernel
theorem dX15_collect_287 : decode cX15_collect 287 = .ok (.iload_n 1, 1) := by decide +kernel
theorem dX15_collect_288 : decode cX15_collect 288 = .ok (.aload_n 0, 1) := by decide +kernel
theorem dX15_collect_289 : decode cX15_collect 289 = .ok (.aload_n 3, 1) := by decide +kernel
theorem dX15_collect_290 : decode cX15_collect 290 = .ok (.getfield 240, 3) := by decide +kernel
theorem dX15_collect_293 : decode cX15_collect 293 = .ok (.iload 4, 2) := by decide +kernel
theorem dX15_collect_295 : decode cX15_collect 295 = .ok (.aaload, 1) := by decide +kernel
theorem dX15_collect_296 : decode cX15_collect 296 = .ok (.invokevirtual 245, 3) := by decide +kernel
theorem dX15_collect_299 : decode cX15_collect 299 = .ok (.ior, 1) := by decide +kernel
theorem dX15_collect_300 : decode cX15_collect 300 = .ok (.istore_n 1, 1) := by decide +kernel
theorem dX15_collect_301 : decode cX15_collect 301 = .ok (.iinc 4 1, 3) := by decide +kernel
theorem dX15_collect_304 : decode cX15_collect 304 = .ok (.goto (-31), 3) := by decide +kernel
theorem dX15_collect_307 : decode cX15_collect 307 = .ok (.goto (-56), 3) := by decide +kernel
theorem dX15_collect_310 : decode cX15_collect 310 = .ok (.goto (-73), 3) := by decide +kernel
theorem dX15_collect_313 : decode cX15_collect 313 = .ok (.aload_n 0, 1) := by decide +kernel
theorem dX15_collect_314 : decode cX15_collect 314 = .ok (.getfield 28, 3) := by decide +kernel
theorem dX15_collect_317 : decode cX15_collect 317 = .ok (.invokevirtual 58, 3) := by decide +kernel
theorem dX15_collect_320 : decode cX15_collect 320 = .ok (.istore_n 2, 1) := by decide +kernel
theorem dX15_collect_321 : decode cX15_collect 321 = .ok (.new 18, 3) := by decide +kernel
theorem dX15_collect_324 : decode cX15_collect 324 = .ok (.dup, 1) := by decide +kernel
theorem dX15_collect_325 : decode cX15_collect 325 = .ok (.invokespecial 20, 3) := by decide +kernel
theorem dX15_collect_328 : decode cX15_collect 328 = .ok (.astore_n 3, 1) := by decide +kernel
theorem dX15_collect_329 : decode cX15_collect 329 = .ok (.aload_n 0, 1) := by decide +kernel
theorem dX15_collect_330 : decode cX15_collect 330 = .ok (.getfield 28, 3) := by decide +kernel
theorem dX15_collect_333 : decode cX15_collect 333 = .ok (.invokevirtual 183, 3) := by decide +kernel
theorem dX15_collect_336 : decode cX15_collect 336 = .ok (.astore 4, 2) := by decide +kernel
theorem dX15_collect_338 : decode cX15_collect 338 = .ok (.aload 4, 2) := by decide +kernel
theorem dX15_collect_340 : decode cX15_collect 340 = .ok (.invokeinterface 187 1, 5) := by decide +kernel
theorem dX15_collect_345 : decode cX15_collect 345 = .ok (.ifCond .eq 33, 3) := by decide +kernel
theorem dX15_collect_348 : decode cX15_collect 348 = .ok (.aload 4, 2) := by decide +kernel
theorem dX15_collect_350 : decode cX15_collect 350 = .ok (.invokeinterface 192 1, 5) := by decide +kernel
theorem dX15_collect_355 : decode cX15_collect 355 = .ok (.checkcast 213, 3) := by decide +kernel
theorem dX15_collect_358 : decode cX15_collect 358 = .ok (.astore 5, 2) := by decide +kernel
theorem dX15_collect_360 : decode cX15_collect 360 = .ok (.aload 5, 2) := by decide +kernel
theorem dX15_collect_362 : decode cX15_collect 362 = .ok (.getfield 242, 3) := by decide +kernel
theorem dX15_collect_365 : decode cX15_collect 365 = .ok (.ifCond .eq 10, 3) := by decide +kernel
theorem dX15_collect_368 : decode cX15_collect 368 = .ok (.aload_n 3, 1) := by decide +kernel
theorem dX15_collect_369 : decode cX15_collect 369 = .ok (.aload 5, 2) := by decide +kernel
theorem dX15_collect_371 : decode cX15_collect 371 = .ok (.invokevirtual 50, 3) := by decide +kernel
theorem dX15_collect_374 : decode cX15_collect 374 = .ok (.pop, 1) := by decide +kernel
theorem dX15_collect_375 : decode cX15_collect 375 = .ok (.goto (-37), 3) := by decide +kernel
theorem dX15_collect_378 : decode cX15_collect 378 = .ok (.aload_n 0, 1) := by decide +kernel
theorem dX15_collect_379 : decode cX15_collect 379 = .ok (.getfield 28, 3) := by decide +kernel
theorem dX15_collect_382 : decode cX15_collect 382 = .ok (.invokevirtual 93, 3) := by decide +kernel
theorem dX15_collect_385 : decode cX15_collect 385 = .ok (.aload_n 0, 1) := by decide +kernel
theorem dX15_collect_386 : decode cX15_collect 386 = .ok (.getfield 28, 3) := by decide +kernel
theorem dX15_collect_389 : decode cX15_collect 389 = .ok (.aload_n 3, 1) := by decide +kernel
theorem dX15_collect_390 : decode cX15_collect 390 = .ok (.invokevirtual 151, 3) := by decide +kernel
theorem dX15_collect_393 : decode cX15_collect 393 = .ok (.pop, 1) := by decide +kernel
theorem dX15_collect_394 : decode cX15_collect 394 = .ok (.iload_n 2, 1) := by decide +kernel
theorem dX15_collect_395 : decode cX15_collect 395 = .ok (.aload_n 0, 1) := by decide +kernel
theorem dX15_collect_396 : decode cX15_collect 396 = .ok (.getfield 28, 3) := by decide +kernel
theorem dX15_collect_399 : decode cX15_collect 399 = .ok (.invokevirtual 58, 3) := by decide +kernel
theorem dX15_collect_402 : decode cX15_collect 402 = .ok (.isub, 1) := by decide +kernel
theorem dX15_collect_403 : decode cX15_collect 403 = .ok (.ireturn, 1) := by decide +kernel
theorem dX15_end_0 : decode cX15_end 0 = .ok (.aload_n 0, 1) := by decide +kernel
theorem dX15_end_1 : decode cX15_end 1 = .ok (.aload_n 0, 1) := by decide +kernel
theorem dX15_end_2 : decode cX15_end 2 = .ok (.getfield 31, 3) := by decide +kernel
theorem dX15_end_5 : decode cX15_end 5 = .ok (.invokevirtual 155, 3) := by decide +kernel
theorem dX15_end_8 : decode cX15_end 8 = .ok (.ifCond .eq 7, 3) := by decide +kernel
theorem dX15_end_11 : decode cX15_end 11 = .ok (.iconst 1, 1) := by decide +kernel
theorem dX15_end_12 : decode cX15_end 12 = .ok (.goto 4, 3) := by decide +kernel
theorem dX15_end_15 : decode cX15_end 15 = .ok (.iconst 0, 1) := by decide +kernel
theorem dX15_end_16 : decode cX15_end 16 = .ok (.invokevirtual 77, 3) := by decide +kernel
theorem dX15_end_19 : decode cX15_end 19 = .ok (.ifCond .eq 5, 3) := by decide +kernel
theorem dX15_end_22 : decode cX15_end 22 = .ok (.iconst 0, 1) := by decide +kernel
theorem dX15_end_23 : decode cX15_end 23 = .ok (.ireturn, 1) := by decide +kernel
theorem dX15_end_24 : decode cX15_end 24 = .ok (.aload_n 0, 1) := by decide +kernel
theorem dX15_end_25 : decode cX15_end 25 = .ok (.getfield 31, 3) := by decide +kernel
theorem dX15_end_28 : decode cX15_end 28 = .ok (.invokevirtual 58, 3) := by decide +kernel
theorem dX15_end_31 : decode cX15_end 31 = .ok (.istore_n 1, 1) := by decide +kernel
theorem dX15_end_32 : decode cX15_end 32 = .ok (.aload_n 0, 1) := by decide +kernel
theorem dX15_end_33 : decode cX15_end 33 = .ok (.getfield 31, 3) := by decide +kernel
theorem dX15_end_36 : decode cX15_end 36 = .ok (.invokevirtual 93, 3) := by decide +kernel
theorem dX15_end_39 : decode cX15_end 39 = .ok (.aload_n 0, 1) := by decide +kernel
theorem dX15_end_40 : decode cX15_end 40 = .ok (.bipush 45, 2) := by decide +kernel
theorem dX15_end_42 : decode cX15_end 42 = .ok (.putfield 41, 3) := by decide +kernel
theorem dX15_end_45 : decode cX15_end 45 = .ok (.aload_n 0, 1) := by decide +kernel
theorem dX15_end_46 : decode cX15_end 46 = .ok (.iconst 0, 1) := by decide +kernel
theorem dX15_end_47 : decode cX15_end 47 = .ok (.putfield 271, 3) := by decide +kernel
theorem dX15_end_50 : decode cX15_end 50 = .ok (.iload_n 1, 1) := by decide +kernel
theorem dX15_end_51 : decode cX15_end 51 = .ok (.ireturn, 1) := by decide +kernel
theorem dX15_reason_0 : decode cX15_reason 0 = .ok (.aload_n 0, 1) := by decide +kernel
theorem dX15_reason_1 : decode cX15_reason 1 = .ok (.aload_n 0, 1) := by decide +kernel
theorem dX15_reason_2 : decode cX15_reason 2 = .ok (.getfield 41, 3) := by decide +kernel
theorem dX15_reason_5 : decode cX15_reason 5 = .ok (.bipush 120, 2) := by decide +kernel
theorem dX15_reason_7 : decode cX15_reason 7 = .ok (.if_icmp .ne 7, 3) := by decide +kernel
theorem dX15_reason_10 : decode cX15_reason 10 = .ok (.iconst 0, 1) := by decide +kernel
theorem dX15_reason_11 : decode cX15_reason 11 = .ok (.goto 4, 3) := by decide +kernel
theorem dX15_reason_14 : decode cX15_reason 14 = .ok (.iconst 1, 1) := by decide +kernel
theorem dX15_reason_15 : decode cX15_reason 15 = .ok (.invokevirtual 77, 3) := by decide +kernel
theorem dX15_reason_18 : decode cX15_reason 18 = .ok (.ifCond .eq 7, 3) := by decide +kernel
theorem dX15_reason_21 : decode cX15_reason 21 = .ok (.iconst 0, 1) := by decide +kernel
theorem dX15_reason_22 : decode cX15_reason 22 = .ok (.goto 7, 3) := by decide +kernel
theorem dX15_reason_25 : decode cX15_reason 25 = .ok (.aload_n 0, 1) := by decide +kernel
theorem dX15_reason_26 : decode cX15_reason 26 = .ok (.getfield 271, 3) := by decide +kernel
theorem dX15_reason_29 : decode cX15_reason 29 = .ok (.ireturn, 1) := by decide +kernel
theorem dX15_answerKind_0 : decode cX15_answerKind 0 = .ok (.aload_n 0, 1) := by decide +kernel
theorem dX15_answerKind_1 : decode cX15_answerKind 1 = .ok (.aload_n 0, 1) := by decide +kernel
theorem dX15_answerKind_2 : decode cX15_answerKind 2 = .ok (.getfield 41, 3) := by decide +kernel
theorem dX15_answerKind_5 : decode cX15_answerKind 5 = .ok (.bipush 114, 2) := by decide +kernel
theorem dX15_answerKind_7 : decode cX15_answerKind 7 = .ok (.if_icmp .ne 7, 3) := by decide +kernel
theorem dX15_answerKind_10 : decode cX15_answerKind 10 = .ok (.iconst 0, 1) := by decide +kernel
theorem dX15_answerKind_11 : decode cX15_answerKind 11 = .ok (.goto 4, 3) := by decide +kernel
theorem dX15_answerKind_14 : decode cX15_answerKind 14 = .ok (.iconst 1, 1) := by decide +kernel
theorem dX15_answerKind_15 : decode cX15_answerKind 15 = .ok (.invokevirtual 77, 3) := by decide +kernel
theorem dX15_answerKind_18 : decode cX15_answerKind 18 = .ok (.ifCond .eq 7, 3) := by decide +kernel
theorem dX15_answerKind_21 : decode cX15_answerKind 21 = .ok (.iconst 0, 1) := by decide +kernel
theorem dX15_answerKind_22 : decode cX15_answerKind 22 = .ok (.goto 10, 3) := by decide +kernel
theorem dX15_answerKind_25 : decode cX15_answerKind 25 = .ok (.aload_n 0, 1) := by decide +kernel
theorem dX15_answerKind_26 : decode cX15_answerKind 26 = .ok (.getfield 249, 3) := by decide +kernel
theorem dX15_answerKind_29 : decode cX15_answerKind 29 = .ok (.getfield 228, 3) := by decide +kernel
theorem dX15_answerKind_32 : decode cX15_answerKind 32 = .ok (.ireturn, 1) := by decide +kernel
theorem dX15_answer_0 : decode cX15_answer 0 = .ok (.aload_n 0, 1) := by decide +kernel
theorem dX15_answer_1 : decode cX15_answer 1 = .ok (.aload_n 0, 1) := by decide +kernel
theorem dX15_answer_2 : decode cX15_answer 2 = .ok (.getfield 41, 3) := by decide +kernel
theorem dX15_answer_5 : decode cX15_answer 5 = .ok (.bipush 114, 2) := by decide +kernel
theorem dX15_answer_7 : decode cX15_answer 7 = .ok (.if_icmp .ne 7, 3) := by decide +kernel
theorem dX15_answer_10 : decode cX15_answer 10 = .ok (.iconst 0, 1) := by decide +kernel
theorem dX15_answer_11 : decode cX15_answer 11 = .ok (.goto 4, 3) := by decide +kernel
theorem dX15_answer_14 : decode cX15_answer 14 = .ok (.iconst 1, 1) := by decide +kernel
theorem dX15_answer_15 : decode cX15_answer 15 = .ok (.invokevirtual 77, 3) := by decide +kernel
theorem dX15_answer_18 : decode cX15_answer 18 = .ok (.ifCond .eq 7, 3) := by decide +kernel
theorem dX15_answer_21 : decode cX15_answer 21 = .ok (.iconst 0, 1) := by decide +kernel
theorem dX15_answer_22 : decode cX15_answer 22 = .ok (.goto 10, 3) := by decide +kernel
theorem dX15_answer_25 : decode cX15_answer 25 = .ok (.aload_n 0, 1) := by decide +kernel
theorem dX15_answer_26 : decode cX15_answer 26 = .ok (.getfield 249, 3) := by decide +kernel
theorem dX15_answer_29 : decode cX15_answer 29 = .ok (.getfield 225, 3) := by decide +kernel
theorem dX15_answer_32 : decode cX15_answer 32 = .ok (.ireturn, 1) := by decide +kernel
theorem dX15_isFrame_0 : decode cX15_isFrame 0 = .ok (.iload_n 1, 1) := by decide +kernel
theorem dX15_isFrame_1 : decode cX15_isFrame 1 = .ok (.iconst 0, 1) := by decide +kernel
theorem dX15_isFrame_2 : decode cX15_isFrame 2 = .ok (.aload_n 0, 1) := by decide +kernel
theorem dX15_isFrame_3 : decode cX15_isFrame 3 = .ok (.getfield 31, 3) := by decide +kernel
theorem dX15_isFrame_6 : decode cX15_isFrame 6 = .ok (.invokevirtual 58, 3) := by decide +kernel
theorem dX15_isFrame_9 : decode cX15_isFrame 9 = .ok (.iconst 1, 1) := by decide +kernel
theorem dX15_isFrame_10 : decode cX15_isFrame 10 = .ok (.isub, 1) := by decide +kernel
theorem dX15_isFrame_11 : decode cX15_isFrame 11 = .ok (.invokestatic 62, 3) := by decide +kernel
theorem dX15_isFrame_14 : decode cX15_isFrame 14 = .ok (.ireturn, 1) := by decide +kernel
theorem dX15_frame_0 : decode cX15_frame 0 = .ok (.aload_n 0, 1) := by decide +kernel
theorem dX15_frame_1 : decode cX15_frame 1 = .ok (.aload_n 0, 1) := by decide +kernel
theorem dX15_frame_2 : decode cX15_frame 2 = .ok (.iload_n 1, 1) := by decide +kernel
theorem dX15_frame_3 : decode cX15_frame 3 = .ok (.invokevirtual 339, 3) := by decide +kernel
theorem dX15_frame_6 : decode cX15_frame 6 = .ok (.ifCond .ne 7, 3) := by decide +kernel
theorem dX15_frame_9 : decode cX15_frame 9 = .ok (.iconst 1, 1) := by decide +kernel
theorem dX15_frame_10 : decode cX15_frame 10 = .ok (.goto 18, 3) := by decide +kernel
theorem dX15_frame_13 : decode cX15_frame 13 = .ok (.ldc_w 342, 3) := by decide +kernel
theorem dX15_frame_16 : decode cX15_frame 16 = .ok (.iload_n 2, 1) := by decide +kernel
theorem dX15_frame_17 : decode cX15_frame 17 = .ok (.invokevirtual 82, 3) := by decide +kernel
theorem dX15_frame_20 : decode cX15_frame 20 = .ok (.ifCond .ge 7, 3) := by decide +kernel
theorem dX15_frame_23 : decode cX15_frame 23 = .ok (.iconst 2, 1) := by decide +kernel
theorem dX15_frame_24 : decode cX15_frame 24 = .ok (.goto 4, 3) := by decide +kernel
theorem dX15_frame_27 : decode cX15_frame 27 = .ok (.iconst 0, 1) := by decide +kernel
theorem dX15_frame_28 : decode cX15_frame 28 = .ok (.invokevirtual 77, 3) := by decide +kernel
theorem dX15_frame_31 : decode cX15_frame 31 = .ok (.ifCond .eq 5, 3) := by decide +kernel
theorem dX15_frame_34 : decode cX15_frame 34 = .ok (.iconst 0, 1) := by decide +kernel
theorem dX15_frame_35 : decode cX15_frame 35 = .ok (.ireturn, 1) := by decide +kernel
theorem dX15_frame_36 : decode cX15_frame 36 = .ok (.aload_n 0, 1) := by decide +kernel
theorem dX15_frame_37 : decode cX15_frame 37 = .ok (.getfield 31, 3) := by decide +kernel
theorem dX15_frame_40 : decode cX15_frame 40 = .ok (.iload_n 1, 1) := by decide +kernel
theorem dX15_frame_41 : decode cX15_frame 41 = .ok (.invokevirtual 70, 3) := by decide +kernel
theorem dX15_frame_44 : decode cX15_frame 44 = .ok (.checkcast 252, 3) := by decide +kernel
theorem dX15_frame_47 : decode cX15_frame 47 = .ok (.astore_n 3, 1) := by decide +kernel
theorem dX15_frame_48 : decode cX15_frame 48 = .ok (.iload_n 2, 1) := by decide +kernel
theorem dX15_frame_49 : decode cX15_frame 49 = .ok (.bipush 99, 2) := by decide +kernel
theorem dX15_frame_51 : decode cX15_frame 51 = .ok (.if_icmp .ne 13, 3) := by decide +kernel
theorem dX15_frame_54 : decode cX15_frame 54 = .ok (.aload_n 3, 1) := by decide +kernel
theorem dX15_frame_55 : decode cX15_frame 55 = .ok (.getfield 294, 3) := by decide +kernel
theorem dX15_frame_58 : decode cX15_frame 58 = .ok (.getfield 119, 3) := by decide +kernel
theorem dX15_frame_61 : decode cX15_frame 61 = .ok (.goto 39, 3) := by decide +kernel
theorem dX15_frame_64 : decode cX15_frame 64 = .ok (.iload_n 2, 1) := by decide +kernel
theorem dX15_frame_65 : decode cX15_frame 65 = .ok (.bipush 115, 2) := by decide +kernel
theorem dX15_frame_67 : decode cX15_frame 67 = .ok (.if_icmp .ne 13, 3) := by decide +kernel
theorem dX15_frame_70 : decode cX15_frame 70 = .ok (.aload_n 3, 1) := by decide +kernel
theorem dX15_frame_71 : decode cX15_frame 71 = .ok (.getfield 294, 3) := by decide +kernel
theorem dX15_frame_74 : decode cX15_frame 74 = .ok (.getfield 344, 3) := by decide +kernel
theorem dX15_frame_77 : decode cX15_frame 77 = .ok (.goto 23, 3) := by decide +kernel
theorem dX15_frame_80 : decode cX15_frame 80 = .ok (.iload_n 2, 1) := by decide +kernel
theorem dX15_frame_81 : decode cX15_frame 81 = .ok (.bipush 114, 2) := by decide +kernel
theorem dX15_frame_83 : decode cX15_frame 83 = .ok (.if_icmp .ne 10, 3) := by decide +kernel
theorem dX15_frame_86 : decode cX15_frame 86 = .ok (.aload_n 3, 1) := by decide +kernel
theorem dX15_frame_87 : decode cX15_frame 87 = .ok (.getfield 291, 3) := by decide +kernel
theorem dX15_frame_90 : decode cX15_frame 90 = .ok (.goto 10, 3) := by decide +kernel
theorem dX15_frame_93 : decode cX15_frame 93 = .ok (.aload_n 3, 1) := by decide +kernel
theorem dX15_frame_94 : decode cX15_frame 94 = .ok (.getfield 261, 3) := by decide +kernel
theorem dX15_frame_97 : decode cX15_frame 97 = .ok (.invokevirtual 58, 3) := by decide +kernel
theorem dX15_frame_100 : decode cX15_frame 100 = .ok (.ireturn, 1) := by decide +kernel
theorem dX15_slotOf_0 : decode cX15_slotOf 0 = .ok (.aload_n 0, 1) := by decide +kernel
theorem dX15_slotOf_1 : decode cX15_slotOf 1 = .ok (.aload_n 0, 1) := by decide +kernel
theorem dX15_slotOf_2 : decode cX15_slotOf 2 = .ok (.iload_n 1, 1) := by decide +kernel
theorem dX15_slotOf_3 : decode cX15_slotOf 3 = .ok (.invokevirtual 339, 3) := by decide +kernel
theorem dX15_slotOf_6 : decode cX15_slotOf 6 = .ok (.ifCond .ne 7, 3) := by decide +kernel
theorem dX15_slotOf_9 : decode cX15_slotOf 9 = .ok (.iconst 1, 1) := by decide +kernel
theorem dX15_slotOf_10 : decode cX15_slotOf 10 = .ok (.goto 18, 3) := by decide +kernel
theorem dX15_slotOf_13 : decode cX15_slotOf 13 = .ok (.ldc_w 347, 3) := by decide +kernel
theorem dX15_slotOf_16 : decode cX15_slotOf 16 = .ok (.iload_n 2, 1) := by decide +kernel
theorem dX15_slotOf_17 : decode cX15_slotOf 17 = .ok (.invokevirtual 82, 3) := by decide +kernel
theorem dX15_slotOf_20 : decode cX15_slotOf 20 = .ok (.ifCond .ge 7, 3) := by decide +kernel
theorem dX15_slotOf_23 : decode cX15_slotOf 23 = .ok (.iconst 2, 1) := by decide +kernel
theorem dX15_slotOf_24 : decode cX15_slotOf 24 = .ok (.goto 4, 3) := by decide +kernel
theorem dX15_slotOf_27 : decode cX15_slotOf 27 = .ok (.iconst 0, 1) := by decide +kernel
theorem dX15_slotOf_28 : decode cX15_slotOf 28 = .ok (.invokevirtual 77, 3) := by decide +kernel
theorem dX15_slotOf_31 : decode cX15_slotOf 31 = .ok (.ifCond .eq 5, 3) := by decide +kernel
theorem dX15_slotOf_34 : decode cX15_slotOf 34 = .ok (.aconst_null, 1) := by decide +kernel
theorem dX15_slotOf_35 : decode cX15_slotOf 35 = .ok (.areturn, 1) := by decide +kernel
theorem dX15_slotOf_36 : decode cX15_slotOf 36 = .ok (.aload_n 0, 1) := by decide +kernel
theorem dX15_slotOf_37 : decode cX15_slotOf 37 = .ok (.getfield 31, 3) := by decide +kernel
theorem dX15_slotOf_40 : decode cX15_slotOf 40 = .ok (.iload_n 1, 1) := by decide +kernel
theorem dX15_slotOf_41 : decode cX15_slotOf 41 = .ok (.invokevirtual 70, 3) := by decide +kernel
theorem dX15_slotOf_44 : decode cX15_slotOf 44 = .ok (.checkcast 252, 3) := by decide +kernel
theorem dX15_slotOf_47 : decode cX15_slotOf 47 = .ok (.astore 4, 2) := by decide +kernel
theorem dX15_slotOf_49 : decode cX15_slotOf 49 = .ok (.iload_n 2, 1) := by decide +kernel
theorem dX15_slotOf_50 : decode cX15_slotOf 50 = .ok (.bipush 115, 2) := by decide +kernel
theorem dX15_slotOf_52 : decode cX15_slotOf 52 = .ok (.if_icmp .ne 9, 3) := by decide +kernel
theorem dX15_slotOf_55 : decode cX15_slotOf 55 = .ok (.aload 4, 2) := by decide +kernel
theorem dX15_slotOf_57 : decode cX15_slotOf 57 = .ok (.getfield 254, 3) := by decide +kernel
theorem dX15_slotOf_60 : decode cX15_slotOf 60 = .ok (.areturn, 1) := by decide +kernel
theorem dX15_slotOf_61 : decode cX15_slotOf 61 = .ok (.iload_n 2, 1) := by decide +kernel
theorem dX15_slotOf_62 : decode cX15_slotOf 62 = .ok (.bipush 97, 2) := by decide +kernel
theorem dX15_slotOf_64 : decode cX15_slotOf 64 = .ok (.if_icmp .ne 12, 3) := by decide +kernel
theorem dX15_slotOf_67 : decode cX15_slotOf 67 = .ok (.aload 4, 2) := by decide +kernel
theorem dX15_slotOf_69 : decode cX15_slotOf 69 = .ok (.getfield 257, 3) := by decide +kernel
theorem dX15_slotOf_72 : decode cX15_slotOf 72 = .ok (.arraylength, 1) := by decide +kernel
theorem dX15_slotOf_73 : decode cX15_slotOf 73 = .ok (.goto 26, 3) := by decide +kernel
theorem dX15_slotOf_76 : decode cX15_slotOf 76 = .ok (.iload_n 2, 1) := by decide +kernel
theorem dX15_slotOf_77 : decode cX15_slotOf 77 = .ok (.bipush 116, 2) := by decide +kernel
theorem dX15_slotOf_79 : decode cX15_slotOf 79 = .ok (.if_icmp .ne 12, 3) := by decide +kernel
theorem dX15_slotOf_82 : decode cX15_slotOf 82 = .ok (.aload 4, 2) := by decide +kernel
theorem dX15_slotOf_84 : decode cX15_slotOf 84 = .ok (.getfield 259, 3) := by decide +kernel
theorem dX15_slotOf_87 : decode cX15_slotOf 87 = .ok (.arraylength, 1) := by decide +kernel
theorem dX15_slotOf_88 : decode cX15_slotOf 88 = .ok (.goto 11, 3) := by decide +kernel
theorem dX15_slotOf_91 : decode cX15_slotOf 91 = .ok (.aload 4, 2) := by decide +kernel
theorem dX15_slotOf_93 : decode cX15_slotOf 93 = .ok (.getfield 261, 3) := by decide +kernel
theorem dX15_slotOf_96 : decode cX15_slotOf 96 = .ok (.invokevirtual 58, 3) := by decide +kernel
theorem dX15_slotOf_99 : decode cX15_slotOf 99 = .ok (.istore 5, 2) := by decide +kernel
theorem dX15_slotOf_101 : decode cX15_slotOf 101 = .ok (.aload_n 0, 1) := by decide +kernel
theorem dX15_slotOf_102 : decode cX15_slotOf 102 = .ok (.iload_n 3, 1) := by decide +kernel
theorem dX15_slotOf_103 : decode cX15_slotOf 103 = .ok (.iconst 0, 1) := by decide +kernel
theorem dX15_slotOf_104 : decode cX15_slotOf 104 = .ok (.iload 5, 2) := by decide +kernel
theorem dX15_slotOf_106 : decode cX15_slotOf 106 = .ok (.iconst 1, 1) := by decide +kernel
theorem dX15_slotOf_107 : decode cX15_slotOf 107 = .ok (.isub, 1) := by decide +kernel
theorem dX15_slotOf_108 : decode cX15_slotOf 108 = .ok (.invokestatic 62, 3) := by decide +kernel
theorem dX15_slotOf_111 : decode cX15_slotOf 111 = .ok (.ifCond .eq 7, 3) := by decide +kernel
theorem dX15_slotOf_114 : decode cX15_slotOf 114 = .ok (.iconst 0, 1) := by decide +kernel
theorem dX15_slotOf_115 : decode cX15_slotOf 115 = .ok (.goto 4, 3) := by decide +kernel
theorem dX15_slotOf_118 : decode cX15_slotOf 118 = .ok (.iconst 3, 1) := by decide +kernel
theorem dX15_slotOf_119 : decode cX15_slotOf 119 = .ok (.invokevirtual 77, 3) := by decide +kernel
theorem dX15_slotOf_122 : decode cX15_slotOf 122 = .ok (.ifCond .eq 5, 3) := by decide +kernel
theorem dX15_slotOf_125 : decode cX15_slotOf 125 = .ok (.aconst_null, 1) := by decide +kernel
theorem dX15_slotOf_126 : decode cX15_slotOf 126 = .ok (.areturn, 1) := by decide +kernel
theorem dX15_slotOf_127 : decode cX15_slotOf 127 = .ok (.iload_n 2, 1) := by decide +kernel
theorem dX15_slotOf_128 : decode cX15_slotOf 128 = .ok (.bipush 97, 2) := by decide +kernel
theorem dX15_slotOf_130 : decode cX15_slotOf 130 = .ok (.if_icmp .ne 13, 3) := by decide +kernel
theorem dX15_slotOf_133 : decode cX15_slotOf 133 = .ok (.aload 4, 2) := by decide +kernel
theorem dX15_slotOf_135 : decode cX15_slotOf 135 = .ok (.getfield 257, 3) := by decide +kernel
theorem dX15_slotOf_138 : decode cX15_slotOf 138 = .ok (.iload_n 3, 1) := by decide +kernel
theorem dX15_slotOf_139 : decode cX15_slotOf 139 = .ok (.aaload, 1) := by decide +kernel
theorem dX15_slotOf_140 : decode cX15_slotOf 140 = .ok (.goto 31, 3) := by decide +kernel
theorem dX15_slotOf_143 : decode cX15_slotOf 143 = .ok (.iload_n 2, 1) := by decide +kernel
theorem dX15_slotOf_144 : decode cX15_slotOf 144 = .ok (.bipush 116, 2) := by decide +kernel
theorem dX15_slotOf_146 : decode cX15_slotOf 146 = .ok (.if_icmp .ne 13, 3) := by decide +kernel
theorem dX15_slotOf_149 : decode cX15_slotOf 149 = .ok (.aload 4, 2) := by decide +kernel
theorem dX15_slotOf_151 : decode cX15_slotOf 151 = .ok (.getfield 259, 3) := by decide +kernel
theorem dX15_slotOf_154 : decode cX15_slotOf 154 = .ok (.iload_n 3, 1) := by decide +kernel
theorem dX15_slotOf_155 : decode cX15_slotOf 155 = .ok (.aaload, 1) := by decide +kernel
theorem dX15_slotOf_156 : decode cX15_slotOf 156 = .ok (.goto 15, 3) := by decide +kernel
theorem dX15_slotOf_159 : decode cX15_slotOf 159 = .ok (.aload 4, 2) := by decide +kernel
theorem dX15_slotOf_161 : decode cX15_slotOf 161 = .ok (.getfield 261, 3) := by decide +kernel
theorem dX15_slotOf_164 : decode cX15_slotOf 164 = .ok (.iload_n 3, 1) := by decide +kernel
theorem dX15_slotOf_165 : decode cX15_slotOf 165 = .ok (.invokevirtual 70, 3) := by decide +kernel
theorem dX15_slotOf_168 : decode cX15_slotOf 168 = .ok (.checkcast 7, 3) := by decide +kernel
theorem dX15_slotOf_171 : decode cX15_slotOf 171 = .ok (.areturn, 1) := by decide +kernel
theorem dX15_slotKind_0 : decode cX15_slotKind 0 = .ok (.aload_n 0, 1) := by decide +kernel
theorem dX15_slotKind_1 : decode cX15_slotKind 1 = .ok (.iload_n 1, 1) := by decide +kernel
theorem dX15_slotKind_2 : decode cX15_slotKind 2 = .ok (.iload_n 2, 1) := by decide +kernel
theorem dX15_slotKind_3 : decode cX15_slotKind 3 = .ok (.iload_n 3, 1) := by decide +kernel
theorem dX15_slotKind_4 : decode cX15_slotKind 4 = .ok (.invokevirtual 349, 3) := by decide +kernel
theorem dX15_slotKind_7 : decode cX15_slotKind 7 = .ok (.astore 4, 2) := by decide +kernel
theorem dX15_slotKind_9 : decode cX15_slotKind 9 = .ok (.aload 4, 2) := by decide +kernel
theorem dX15_slotKind_11 : decode cX15_slotKind 11 = .ok (.ifnonnull 7, 3) := by decide +kernel
theorem dX15_slotKind_14 : decode cX15_slotKind 14 = .ok (.iconst 0, 1) := by decide +kernel
theorem dX15_slotKind_15 : decode cX15_slotKind 15 = .ok (.goto 8, 3) := by decide +kernel
theorem dX15_slotKind_18 : decode cX15_slotKind 18 = .ok (.aload 4, 2) := by decide +kernel
theorem dX15_slotKind_20 : decode cX15_slotKind 20 = .ok (.getfield 228, 3) := by decide +kernel
theorem dX15_slotKind_23 : decode cX15_slotKind 23 = .ok (.ireturn, 1) := by decide +kernel
theorem dX15_slot_0 : decode cX15_slot 0 = .ok (.aload_n 0, 1) := by decide +kernel
theorem dX15_slot_1 : decode cX15_slot 1 = .ok (.iload_n 1, 1) := by decide +kernel
theorem dX15_slot_2 : decode cX15_slot 2 = .ok (.iload_n 2, 1) := by decide +kernel
theorem dX15_slot_3 : decode cX15_slot 3 = .ok (.iload_n 3, 1) := by decide +kernel
theorem dX15_slot_4 : decode cX15_slot 4 = .ok (.invokevirtual 349, 3) := by decide +kernel
theorem dX15_slot_7 : decode cX15_slot 7 = .ok (.astore 4, 2) := by decide +kernel
theorem dX15_slot_9 : decode cX15_slot 9 = .ok (.aload 4, 2) := by decide +kernel
theorem dX15_slot_11 : decode cX15_slot 11 = .ok (.ifnonnull 7, 3) := by decide +kernel
theorem dX15_slot_14 : decode cX15_slot 14 = .ok (.iconst 0, 1) := by decide +kernel
theorem dX15_slot_15 : decode cX15_slot 15 = .ok (.goto 8, 3) := by decide +kernel
theorem dX15_slot_18 : decode cX15_slot 18 = .ok (.aload 4, 2) := by decide +kernel
theorem dX15_slot_20 : decode cX15_slot 20 = .ok (.getfield 225, 3) := by decide +kernel
theorem dX15_slot_23 : decode cX15_slot 23 = .ok (.ireturn, 1) := by decide +kernel
theorem dX15_isNotWritten_0 : decode cX15_isNotWritten 0 = .ok (.aload_n 0, 1) := by decide +kernel
theorem dX15_isNotWritten_1 : decode cX15_isNotWritten 1 = .ok (.iload_n 1, 1) := by decide +kernel
theorem dX15_isNotWritten_2 : decode cX15_isNotWritten 2 = .ok (.iconst 0, 1) := by decide +kernel
theorem dX15_isNotWritten_3 : decode cX15_isNotWritten 3 = .ok (.aload_n 0, 1) := by decide +kernel
theorem dX15_isNotWritten_4 : decode cX15_isNotWritten 4 = .ok (.getfield 34, 3) := by decide +kernel
theorem dX15_isNotWritten_7 : decode cX15_isNotWritten 7 = .ok (.invokevirtual 58, 3) := by decide +kernel
theorem dX15_isNotWritten_10 : decode cX15_isNotWritten 10 = .ok (.iconst 1, 1) := by decide +kernel
theorem dX15_isNotWritten_11 : decode cX15_isNotWritten 11 = .ok (.isub, 1) := by decide +kernel
theorem dX15_isNotWritten_12 : decode cX15_isNotWritten 12 = .ok (.invokestatic 62, 3) := by decide +kernel
theorem dX15_isNotWritten_15 : decode cX15_isNotWritten 15 = .ok (.ifCond .eq 7, 3) := by decide +kernel
theorem dX15_isNotWritten_18 : decode cX15_isNotWritten 18 = .ok (.iconst 0, 1) := by decide +kernel
theorem dX15_isNotWritten_19 : decode cX15_isNotWritten 19 = .ok (.goto 4, 3) := by decide +kernel
theorem dX15_isNotWritten_22 : decode cX15_isNotWritten 22 = .ok (.iconst 1, 1) := by decide +kernel
theorem dX15_isNotWritten_23 : decode cX15_isNotWritten 23 = .ok (.invokevirtual 77, 3) := by decide +kernel
theorem dX15_isNotWritten_26 : decode cX15_isNotWritten 26 = .ok (.ireturn, 1) := by decide +kernel
theorem dX15_writtenKind_0 : decode cX15_writtenKind 0 = .ok (.aload_n 0, 1) := by decide +kernel
theorem dX15_writtenKind_1 : decode cX15_writtenKind 1 = .ok (.iload_n 1, 1) := by decide +kernel
theorem dX15_writtenKind_2 : decode cX15_writtenKind 2 = .ok (.invokevirtual 353, 3) := by decide +kernel
theorem dX15_writtenKind_5 : decode cX15_writtenKind 5 = .ok (.ifCond .eq 7, 3) := by decide +kernel
theorem dX15_writtenKind_8 : decode cX15_writtenKind 8 = .ok (.iconst 0, 1) := by decide +kernel
theorem dX15_writtenKind_9 : decode cX15_writtenKind 9 = .ok (.goto 17, 3) := by decide +kernel
theorem dX15_writtenKind_12 : decode cX15_writtenKind 12 = .ok (.aload_n 0, 1) := by decide +kernel
theorem dX15_writtenKind_13 : decode cX15_writtenKind 13 = .ok (.getfield 34, 3) := by decide +kernel
theorem dX15_writtenKind_16 : decode cX15_writtenKind 16 = .ok (.iload_n 1, 1) := by decide +kernel
theorem dX15_writtenKind_17 : decode cX15_writtenKind 17 = .ok (.invokevirtual 70, 3) := by decide +kernel
theorem dX15_writtenKind_20 : decode cX15_writtenKind 20 = .ok (.checkcast 7, 3) := by decide +kernel
theorem dX15_writtenKind_23 : decode cX15_writtenKind 23 = .ok (.getfield 228, 3) := by decide +kernel
theorem dX15_writtenKind_26 : decode cX15_writtenKind 26 = .ok (.ireturn, 1) := by decide +kernel
theorem dX15_writtenValue_0 : decode cX15_writtenValue 0 = .ok (.aload_n 0, 1) := by decide +kernel
theorem dX15_writtenValue_1 : decode cX15_writtenValue 1 = .ok (.iload_n 1, 1) := by decide +kernel
theorem dX15_writtenValue_2 : decode cX15_writtenValue 2 = .ok (.invokevirtual 353, 3) := by decide +kernel
theorem dX15_writtenValue_5 : decode cX15_writtenValue 5 = .ok (.ifCond .eq 7, 3) := by decide +kernel
theorem dX15_writtenValue_8 : decode cX15_writtenValue 8 = .ok (.iconst 0, 1) := by decide +kernel
theorem dX15_writtenValue_9 : decode cX15_writtenValue 9 = .ok (.goto 17, 3) := by decide +kernel
theorem dX15_writtenValue_12 : decode cX15_writtenValue 12 = .ok (.aload_n 0, 1) := by decide +kernel
theorem dX15_writtenValue_13 : decode cX15_writtenValue 13 = .ok (.getfield 34, 3) := by decide +kernel
theorem dX15_writtenValue_16 : decode cX15_writtenValue 16 = .ok (.iload_n 1, 1) := by decide +kernel
theorem dX15_writtenValue_17 : decode cX15_writtenValue 17 = .ok (.invokevirtual 70, 3) := by decide +kernel
theorem dX15_writtenValue_20 : decode cX15_writtenValue 20 = .ok (.checkcast 7, 3) := by decide +kernel
theorem dX15_writtenValue_23 : decode cX15_writtenValue 23 = .ok (.getfield 225, 3) := by decide +kernel
theorem dX15_writtenValue_26 : decode cX15_writtenValue 26 = .ok (.ireturn, 1) := by decide +kernel
theorem dX15_go_0 : decode cX15_go 0 = .ok (.aload_n 0, 1) := by decide +kernel
theorem dX15_go_1 : decode cX15_go 1 = .ok (.iload_n 1, 1) := by decide +kernel
theorem dX15_go_2 : decode cX15_go 2 = .ok (.iconst 1, 1) := by decide +kernel
theorem dX15_go_3 : decode cX15_go 3 = .ok (.sipush 500, 3) := by decide +kernel
theorem dX15_go_6 : decode cX15_go 6 = .ok (.invokestatic 62, 3) := by decide +kernel
theorem dX15_go_9 : decode cX15_go 9 = .ok (.ifCond .ne 7, 3) := by decide +kernel
theorem dX15_go_12 : decode cX15_go 12 = .ok (.iconst 1, 1) := by decide +kernel
theorem dX15_go_13 : decode cX15_go 13 = .ok (.goto 17, 3) := by decide +kernel
theorem dX15_go_16 : decode cX15_go 16 = .ok (.aload_n 0, 1) := by decide +kernel
theorem dX15_go_17 : decode cX15_go 17 = .ok (.getfield 41, 3) := by decide +kernel
theorem dX15_go_20 : decode cX15_go 20 = .ok (.bipush 115, 2) := by decide +kernel
theorem dX15_go_22 : decode cX15_go 22 = .ok (.if_icmp .eq 7, 3) := by decide +kernel
theorem dX15_go_25 : decode cX15_go 25 = .ok (.iconst 2, 1) := by decide +kernel
theorem dX15_go_26 : decode cX15_go 26 = .ok (.goto 4, 3) := by decide +kernel
theorem dX15_go_29 : decode cX15_go 29 = .ok (.iconst 0, 1) := by decide +kernel
theorem dX15_go_30 : decode cX15_go 30 = .ok (.invokevirtual 77, 3) := by decide +kernel
theorem dX15_go_33 : decode cX15_go 33 = .ok (.ifCond .eq 5, 3) := by decide +kernel
theorem dX15_go_36 : decode cX15_go 36 = .ok (.iconst 0, 1) := by decide +kernel
theorem dX15_go_37 : decode cX15_go 37 = .ok (.ireturn, 1) := by decide +kernel
theorem dX15_go_38 : decode cX15_go 38 = .ok (.iconst 0, 1) := by decide +kernel
theorem dX15_go_39 : decode cX15_go 39 = .ok (.istore_n 2, 1) := by decide +kernel
theorem dX15_go_40 : decode cX15_go 40 = .ok (.aload_n 0, 1) := by decide +kernel
theorem dX15_go_41 : decode cX15_go 41 = .ok (.getfield 41, 3) := by decide +kernel
theorem dX15_go_44 : decode cX15_go 44 = .ok (.bipush 115, 2) := by decide +kernel
theorem dX15_go_46 : decode cX15_go 46 = .ok (.if_icmp .ne 37, 3) := by decide +kernel
theorem dX15_go_49 : decode cX15_go 49 = .ok (.iload_n 2, 1) := by decide +kernel
theorem dX15_go_50 : decode cX15_go 50 = .ok (.iload_n 1, 1) := by decide +kernel
theorem dX15_go_51 : decode cX15_go 51 = .ok (.if_icmp .lt 10, 3) := by decide +kernel
theorem dX15_go_54 : decode cX15_go 54 = .ok (.aload_n 0, 1) := by decide +kernel
theorem dX15_go_55 : decode cX15_go 55 = .ok (.invokevirtual 330, 3) := by decide +kernel
theorem dX15_go_58 : decode cX15_go 58 = .ok (.ifCond .ne 25, 3) := by decide +kernel
theorem dX15_go_61 : decode cX15_go 61 = .ok (.iload_n 2, 1) := by decide +kernel
theorem dX15_go_62 : decode cX15_go 62 = .ok (.aload_n 0, 1) := by decide +kernel
theorem dX15_go_63 : decode cX15_go 63 = .ok (.invokevirtual 330, 3) := by decide +kernel
theorem dX15_go_66 : decode cX15_go 66 = .ok (.ifCond .eq 7, 3) := by decide +kernel
theorem dX15_go_69 : decode cX15_go 69 = .ok (.iconst 1, 1) := by decide +kernel
theorem dX15_go_70 : decode cX15_go 70 = .ok (.goto 4, 3) := by decide +kernel
theorem dX15_go_73 : decode cX15_go 73 = .ok (.iconst 0, 1) := by decide +kernel
theorem dX15_go_74 : decode cX15_go 74 = .ok (.iadd, 1) := by decide +kernel
theorem dX15_go_75 : decode cX15_go 75 = .ok (.istore_n 2, 1) := by decide +kernel
theorem dX15_go_76 : decode cX15_go 76 = .ok (.aload_n 0, 1) := by decide +kernel
theorem dX15_go_77 : decode cX15_go 77 = .ok (.invokevirtual 333, 3) := by decide +kernel
theorem dX15_go_80 : decode cX15_go 80 = .ok (.goto (-40), 3) := by decide +kernel
theorem dX15_go_83 : decode cX15_go 83 = .ok (.aload_n 0, 1) := by decide +kernel
theorem dX15_go_84 : decode cX15_go 84 = .ok (.dup, 1) := by decide +kernel
theorem dX15_go_85 : decode cX15_go 85 = .ok (.getfield 336, 3) := by decide +kernel
theorem dX15_go_88 : decode cX15_go 88 = .ok (.iload_n 2, 1) := by decide +kernel
theorem dX15_go_89 : decode cX15_go 89 = .ok (.iadd, 1) := by decide +kernel
theorem dX15_go_90 : decode cX15_go 90 = .ok (.putfield 336, 3) := by decide +kernel
theorem dX15_go_93 : decode cX15_go 93 = .ok (.iload_n 2, 1) := by decide +kernel
theorem dX15_go_94 : decode cX15_go 94 = .ok (.ireturn, 1) := by decide +kernel
theorem dX15_begin_0 : decode cX15_begin 0 = .ok (.aload_n 0, 1) := by decide +kernel
theorem dX15_begin_1 : decode cX15_begin 1 = .ok (.iload_n 1, 1) := by decide +kernel
theorem dX15_begin_2 : decode cX15_begin 2 = .ok (.invokestatic 207, 3) := by decide +kernel
theorem dX15_begin_5 : decode cX15_begin 5 = .ok (.ifCond .eq 13, 3) := by decide +kernel
theorem dX15_begin_8 : decode cX15_begin 8 = .ok (.iload_n 2, 1) := by decide +kernel
theorem dX15_begin_9 : decode cX15_begin 9 = .ok (.iconst 0, 1) := by decide +kernel
theorem dX15_begin_10 : decode cX15_begin 10 = .ok (.bipush 15, 2) := by decide +kernel
theorem dX15_begin_12 : decode cX15_begin 12 = .ok (.invokestatic 62, 3) := by decide +kernel
theorem dX15_begin_15 : decode cX15_begin 15 = .ok (.ifCond .ne 7, 3) := by decide +kernel
theorem dX15_begin_18 : decode cX15_begin 18 = .ok (.iconst 1, 1) := by decide +kernel
theorem dX15_begin_19 : decode cX15_begin 19 = .ok (.goto 30, 3) := by decide +kernel
theorem dX15_begin_22 : decode cX15_begin 22 = .ok (.iload_n 3, 1) := by decide +kernel
theorem dX15_begin_23 : decode cX15_begin 23 = .ok (.iconst 0, 1) := by decide +kernel
theorem dX15_begin_24 : decode cX15_begin 24 = .ok (.iconst 2, 1) := by decide +kernel
theorem dX15_begin_25 : decode cX15_begin 25 = .ok (.invokestatic 62, 3) := by decide +kernel
theorem dX15_begin_28 : decode cX15_begin 28 = .ok (.ifCond .ne 7, 3) := by decide +kernel
theorem dX15_begin_31 : decode cX15_begin 31 = .ok (.iconst 2, 1) := by decide +kernel
theorem dX15_begin_32 : decode cX15_begin 32 = .ok (.goto 17, 3) := by decide +kernel
theorem dX15_begin_35 : decode cX15_begin 35 = .ok (.aload_n 0, 1) := by decide +kernel
theorem dX15_begin_36 : decode cX15_begin 36 = .ok (.getfield 41, 3) := by decide +kernel
theorem dX15_begin_39 : decode cX15_begin 39 = .ok (.bipush 115, 2) := by decide +kernel
theorem dX15_begin_41 : decode cX15_begin 41 = .ok (.if_icmp .ne 7, 3) := by decide +kernel
theorem dX15_begin_44 : decode cX15_begin 44 = .ok (.iconst 3, 1) := by decide +kernel
theorem dX15_begin_45 : decode cX15_begin 45 = .ok (.goto 4, 3) := by decide +kernel
theorem dX15_begin_48 : decode cX15_begin 48 = .ok (.iconst 0, 1) := by decide +kernel
theorem dX15_begin_49 : decode cX15_begin 49 = .ok (.invokevirtual 77, 3) := by decide +kernel
theorem dX15_begin_52 : decode cX15_begin 52 = .ok (.ifCond .eq 5, 3) := by decide +kernel
theorem dX15_begin_55 : decode cX15_begin 55 = .ok (.iconst 0, 1) := by decide +kernel
theorem dX15_begin_56 : decode cX15_begin 56 = .ok (.ireturn, 1) := by decide +kernel
theorem dX15_begin_57 : decode cX15_begin 57 = .ok (.aload_n 0, 1) := by decide +kernel
theorem dX15_begin_58 : decode cX15_begin 58 = .ok (.aload_n 0, 1) := by decide +kernel
theorem dX15_begin_59 : decode cX15_begin 59 = .ok (.aload_n 0, 1) := by decide +kernel
theorem dX15_begin_60 : decode cX15_begin 60 = .ok (.getfield 37, 3) := by decide +kernel
theorem dX15_begin_63 : decode cX15_begin 63 = .ok (.iload_n 1, 1) := by decide +kernel
theorem dX15_begin_64 : decode cX15_begin 64 = .ok (.aaload, 1) := by decide +kernel
theorem dX15_begin_65 : decode cX15_begin 65 = .ok (.invokevirtual 267, 3) := by decide +kernel
theorem dX15_begin_68 : decode cX15_begin 68 = .ok (.iload_n 2, 1) := by decide +kernel
theorem dX15_begin_69 : decode cX15_begin 69 = .ok (.invokevirtual 180, 3) := by decide +kernel
theorem dX15_begin_72 : decode cX15_begin 72 = .ok (.astore 6, 2) := by decide +kernel
theorem dX15_begin_74 : decode cX15_begin 74 = .ok (.aload_n 0, 1) := by decide +kernel
theorem dX15_begin_75 : decode cX15_begin 75 = .ok (.aload 6, 2) := by decide +kernel
theorem dX15_begin_77 : decode cX15_begin 77 = .ok (.ifnull 12, 3) := by decide +kernel
theorem dX15_begin_80 : decode cX15_begin 80 = .ok (.aload 6, 2) := by decide +kernel
theorem dX15_begin_82 : decode cX15_begin 82 = .ok (.getfield 111, 3) := by decide +kernel
theorem dX15_begin_85 : decode cX15_begin 85 = .ok (.iload_n 3, 1) := by decide +kernel
theorem dX15_begin_86 : decode cX15_begin 86 = .ok (.if_icmp .eq 7, 3) := by decide +kernel
theorem dX15_begin_89 : decode cX15_begin 89 = .ok (.iconst 4, 1) := by decide +kernel
theorem dX15_begin_90 : decode cX15_begin 90 = .ok (.goto 4, 3) := by decide +kernel
theorem dX15_begin_93 : decode cX15_begin 93 = .ok (.iconst 0, 1) := by decide +kernel
theorem dX15_begin_94 : decode cX15_begin 94 = .ok (.invokevirtual 77, 3) := by decide +kernel
theorem dX15_begin_97 : decode cX15_begin 97 = .ok (.ifCond .eq 5, 3) := by decide +kernel
theorem dX15_begin_100 : decode cX15_begin 100 = .ok (.iconst 0, 1) := by decide +kernel
theorem dX15_begin_101 : decode cX15_begin 101 = .ok (.ireturn, 1) := by decide +kernel
theorem dX15_begin_102 : decode cX15_begin 102 = .ok (.iload_n 3, 1) := by decide +kernel
theorem dX15_begin_103 : decode cX15_begin 103 = .ok (.anewarray 7, 3) := by decide +kernel
theorem dX15_begin_106 : decode cX15_begin 106 = .ok (.astore 7, 2) := by decide +kernel
theorem dX15_begin_108 : decode cX15_begin 108 = .ok (.iconst 0, 1) := by decide +kernel
theorem dX15_begin_109 : decode cX15_begin 109 = .ok (.istore 8, 2) := by decide +kernel
theorem dX15_begin_111 : decode cX15_begin 111 = .ok (.iload 8, 2) := by decide +kernel
theorem dX15_begin_113 : decode cX15_begin 113 = .ok (.iload_n 3, 1) := by decide +kernel
theorem dX15_begin_114 : decode cX15_begin 114 = .ok (.if_icmp .ge 35, 3) := by decide +kernel
theorem dX15_begin_117 : decode cX15_begin 117 = .ok (.aload 7, 2) := by decide +kernel
theorem dX15_begin_119 : decode cX15_begin 119 = .ok (.iload 8, 2) := by decide +kernel
theorem dX15_begin_121 : decode cX15_begin 121 = .ok (.new 7, 3) := by decide +kernel
theorem dX15_begin_124 : decode cX15_begin 124 = .ok (.dup, 1) := by decide +kernel
theorem dX15_begin_125 : decode cX15_begin 125 = .ok (.bipush 110, 2) := by decide +kernel
theorem dX15_begin_127 : decode cX15_begin 127 = .ok (.iload 8, 2) := by decide +kernel
theorem dX15_begin_129 : decode cX15_begin 129 = .ok (.ifCond .ne 8, 3) := by decide +kernel
theorem dX15_begin_132 : decode cX15_begin 132 = .ok (.iload 4, 2) := by decide +kernel
theorem dX15_begin_134 : decode cX15_begin 134 = .ok (.goto 5, 3) := by decide +kernel
theorem dX15_begin_137 : decode cX15_begin 137 = .ok (.iload 5, 2) := by decide +kernel
theorem dX15_begin_139 : decode cX15_begin 139 = .ok (.invokespecial 9, 3) := by decide +kernel
theorem dX15_begin_142 : decode cX15_begin 142 = .ok (.aastore, 1) := by decide +kernel
theorem dX15_begin_143 : decode cX15_begin 143 = .ok (.iinc 8 1, 3) := by decide +kernel
theorem dX15_begin_146 : decode cX15_begin 146 = .ok (.goto (-35), 3) := by decide +kernel
theorem dX15_begin_149 : decode cX15_begin 149 = .ok (.aload_n 0, 1) := by decide +kernel
theorem dX15_begin_150 : decode cX15_begin 150 = .ok (.getfield 31, 3) := by decide +kernel
theorem dX15_begin_153 : decode cX15_begin 153 = .ok (.invokevirtual 93, 3) := by decide +kernel
theorem dX15_begin_156 : decode cX15_begin 156 = .ok (.aload_n 0, 1) := by decide +kernel
theorem dX15_begin_157 : decode cX15_begin 157 = .ok (.aconst_null, 1) := by decide +kernel
theorem dX15_begin_158 : decode cX15_begin 158 = .ok (.putfield 249, 3) := by decide +kernel
theorem dX15_begin_161 : decode cX15_begin 161 = .ok (.aload_n 0, 1) := by decide +kernel
theorem dX15_begin_162 : decode cX15_begin 162 = .ok (.iconst 0, 1) := by decide +kernel
theorem dX15_begin_163 : decode cX15_begin 163 = .ok (.putfield 271, 3) := by decide +kernel
theorem dX15_begin_166 : decode cX15_begin 166 = .ok (.aload_n 0, 1) := by decide +kernel
theorem dX15_begin_167 : decode cX15_begin 167 = .ok (.bipush 115, 2) := by decide +kernel
theorem dX15_begin_169 : decode cX15_begin 169 = .ok (.putfield 41, 3) := by decide +kernel
theorem dX15_begin_172 : decode cX15_begin 172 = .ok (.aload_n 0, 1) := by decide +kernel
theorem dX15_begin_173 : decode cX15_begin 173 = .ok (.aload 6, 2) := by decide +kernel
theorem dX15_begin_175 : decode cX15_begin 175 = .ok (.aload_n 0, 1) := by decide +kernel
theorem dX15_begin_176 : decode cX15_begin 176 = .ok (.getfield 37, 3) := by decide +kernel
theorem dX15_begin_179 : decode cX15_begin 179 = .ok (.iload_n 1, 1) := by decide +kernel
theorem dX15_begin_180 : decode cX15_begin 180 = .ok (.aaload, 1) := by decide +kernel
theorem dX15_begin_181 : decode cX15_begin 181 = .ok (.aload 7, 2) := by decide +kernel
theorem dX15_begin_183 : decode cX15_begin 183 = .ok (.invokevirtual 274, 3) := by decide +kernel
theorem dX15_begin_186 : decode cX15_begin 186 = .ok (.aload 6, 2) := by decide +kernel
theorem dX15_begin_188 : decode cX15_begin 188 = .ok (.getfield 119, 3) := by decide +kernel
theorem dX15_begin_191 : decode cX15_begin 191 = .ok (.ireturn, 1) := by decide +kernel
section SITES
variable {p : Program} {l : Launch} {e : Env} {R : Room} {s : State} {m : MethodId} {args : Array Value} {below : List Frame} {meth : Method} {c : Code} {H : Heap} {locs : List Loc} {cells slots : Nat} {Q : State → Prop}
variable {pc : Nat} {ls : Array Slot} {rest : List Value} {D : va_G} {ar : Nat → ClassId} {κ : Nat → Nat} {A : Nat → Prop} {a : Nat} {H0 : Heap} {G : gW} {nz nL : Nat} {cc : ByteArray}
theorem m_7_215 : (Cond.code yJx4a65c_iterator_32c93 cJx4a65c_iterator_32c93 1 (some (.object "java/util/Iterator"))) ∈ lwA := lwA_mk (ck_7 _ (List.mem_of_getElem? (i := 215) rfl)) rfl
theorem m_7_212 : (Cond.methodLink RX15 183 yJx4a65c_iterator_32c93) ∈ lwA := lwA_mk (ck_7 _ (List.mem_of_getElem? (i := 212) rfl)) rfl
theorem m_7_213 : (Cond.instanceMethod yJx4a65c_iterator_32c93) ∈ lwA := lwA_mk (ck_7 _ (List.mem_of_getElem? (i := 213) rfl)) rfl
theorem m_7_214 : (Cond.selects RJx4a65c yJx4a65c_iterator_32c93 yJx4a65c_iterator_32c93) ∈ lwA := lwA_mk (ck_7 _ (List.mem_of_getElem? (i := 214) rfl)) rfl
theorem k_RX15_183 {args : Array Value} {s : State} {R rm : Room} (hts : ∀ w ∈ lwA, w.before args s = true) (hR : rm.frames + 1 ≤ R.frames ∧ 8 + (1 + 11) + rm.locals ≤ R.locals) : CallW R s args RX15 RJx4a65c 183 yJx4a65c_iterator_32c93 cJx4a65c_iterator_32c93 1 (some (.object "java/util/Iterator")) (lwC yJx4a65c_iterator_32c93 cJx4a65c_iterator_32c93 1 (some (.object "java/util/Iterator"))) rm rm.cells rm.slots 0 := cwV 0 hts (gdV m_7_212 m_7_213 m_7_214 m_1_9 m_7_215) rfl rfl rfl (by decide +kernel) hR
theorem m_8_4 : (Cond.code yJx35411_hasNext_aae02 cJx35411_hasNext_aae02 1 (some .boolean)) ∈ lwA := lwA_mk (ck_8 _ (List.mem_of_getElem? (i := 4) rfl)) rfl
theorem m_7_236 : (Cond.methodLink RX15 187 ⟨"java/util/Iterator", "hasNext", "()Z"⟩) ∈ lwA := lwA_mk (ck_7 _ (List.mem_of_getElem? (i := 236) rfl)) rfl
theorem m_8_2 : (Cond.instanceMethod yJx35411_hasNext_aae02) ∈ lwA := lwA_mk (ck_8 _ (List.mem_of_getElem? (i := 2) rfl)) rfl
theorem m_8_0 : (Cond.selects RJx35411 ⟨"java/util/Iterator", "hasNext", "()Z"⟩ yJx35411_hasNext_aae02) ∈ lwA := lwA_mk (ck_8 _ (List.mem_of_getElem? (i := 0) rfl)) rfl
theorem kF_RX15_187_2 {args : Array Value} {s : State} {R rm : Room} (hts : ∀ w ∈ lwA, w.before args s = true) (hF : va_Fw RJx35411 ⟨"java/util/Iterator", "hasNext", "()Z"⟩ yJx35411_hasNext_aae02 s) (hR : rm.frames + 1 ≤ R.frames ∧ 8 + (1 + 11) + rm.locals ≤ R.locals) : va_CI R s args RX15 RJx35411 187 ⟨"java/util/Iterator", "hasNext", "()Z"⟩ yJx35411_hasNext_aae02 cJx35411_hasNext_aae02 1 (some .boolean) (lwC yJx35411_hasNext_aae02 cJx35411_hasNext_aae02 1 (some .boolean)) rm rm.cells rm.slots 0 := va_cwF 0 hts (gdF m_7_236 m_8_0 m_8_2 m_1_36 m_8_4) rfl rfl rfl hF (by decide +kernel) hR
theorem m_8_98 : (Cond.code yX15_thing cX15_thing 4 (some (.object "SendhouseModel$Thing"))) ∈ lwA := lwA_mk (ck_8 _ (List.mem_of_getElem? (i := 98) rfl)) rfl
theorem m_8_95 : (Cond.methodLink RX15 232 yX15_thing) ∈ lwA := lwA_mk (ck_8 _ (List.mem_of_getElem? (i := 95) rfl)) rfl
theorem m_8_97 : (Cond.instanceMethod yX15_thing) ∈ lwA := lwA_mk (ck_8 _ (List.mem_of_getElem? (i := 97) rfl)) rfl
theorem ms_51 : (Cond.selects RX15 yX15_thing yX15_thing) ∈ lwA := lwA_mk (List.mem_append_left _ (List.mem_of_getElem? (i := 51) rfl)) rfl
theorem k_RX15_232 {args : Array Value} {s : State} {R rm : Room} (hts : ∀ w ∈ lwA, w.before args s = true) (hR : rm.frames + 1 ≤ R.frames ∧ 8 + (4 + 11) + rm.locals ≤ R.locals) : CallW R s args RX15 RX15 232 yX15_thing cX15_thing 4 (some (.object "SendhouseModel$Thing")) (lwC yX15_thing cX15_thing 4 (some (.object "SendhouseModel$Thing"))) rm rm.cells rm.slots 1 := cwV 1 hts (gdV m_8_95 m_8_97 ms_51 m_1_12 m_8_98) rfl rfl rfl (by decide +kernel) hR
theorem m_8_106 : (Cond.code yX15_isNoField cX15_isNoField 3 (some .boolean)) ∈ lwA := lwA_mk (ck_8 _ (List.mem_of_getElem? (i := 106) rfl)) rfl
theorem m_8_103 : (Cond.methodLink RX15 237 yX15_isNoField) ∈ lwA := lwA_mk (ck_8 _ (List.mem_of_getElem? (i := 103) rfl)) rfl
theorem m_8_105 : (Cond.instanceMethod yX15_isNoField) ∈ lwA := lwA_mk (ck_8 _ (List.mem_of_getElem? (i := 105) rfl)) rfl
theorem ms_52 : (Cond.selects RX15 yX15_isNoField yX15_isNoField) ∈ lwA := lwA_mk (List.mem_append_left _ (List.mem_of_getElem? (i := 52) rfl)) rfl
theorem k_RX15_237 {args : Array Value} {s : State} {R rm : Room} (hts : ∀ w ∈ lwA, w.before args s = true) (hR : rm.frames + 1 ≤ R.frames ∧ 8 + (3 + 11) + rm.locals ≤ R.locals) : CallW R s args RX15 RX15 237 yX15_isNoField cX15_isNoField 3 (some .boolean) (lwC yX15_isNoField cX15_isNoField 3 (some .boolean)) rm rm.cells rm.slots 2 := cwV 2 hts (gdV m_8_103 m_8_105 ms_52 m_1_12 m_8_106) rfl rfl rfl (by decide +kernel) hR
theorem gf_RX15_25_19 {A9 : Nat → Prop} {H9 : Heap} {fs : List Value} {v : Value} (S : CallFix p m c cc nL s args lwA RX15) (hE : g_E D vwCl (gT ar) (EX1 κ) A9 s H9) (w : g_S D vwCl A H0 G H locs nz) (ha : G a = some (.inr (19, fs))) (hv : fs[2]? = some v) (hdg : decode cc pc = .ok (.getfield 25, 3)) (kk : W p l e R s m args below meth c H locs cells slots Q (F0 m (pc + 3) ls (v :: rest))) : W p l e R s m args below meth c H locs cells slots Q (F0 m pc ls (.ref a :: rest)) :=
  va_get (ci := 19) (C := RX15) (T := TX15) (N := 14) S.1 S.2.1 S.2.2.2.2 inA_RX15 S.2.2.2.1 hE.1 (g_1 w.1 ha) 0 rfl rfl 2 (by decide) (S.2.2.2.2 _ m_6_147) (fun _ h => h) hv hdg kk
theorem m_7_90 : (Cond.code yJx4a65c_clear_da8c8 cJx4a65c_clear_da8c8 4 none) ∈ lwA := lwA_mk (ck_7 _ (List.mem_of_getElem? (i := 90) rfl)) rfl
theorem m_7_87 : (Cond.methodLink RX15 93 yJx4a65c_clear_da8c8) ∈ lwA := lwA_mk (ck_7 _ (List.mem_of_getElem? (i := 87) rfl)) rfl
theorem m_7_88 : (Cond.instanceMethod yJx4a65c_clear_da8c8) ∈ lwA := lwA_mk (ck_7 _ (List.mem_of_getElem? (i := 88) rfl)) rfl
theorem m_7_89 : (Cond.selects RJx4a65c yJx4a65c_clear_da8c8 yJx4a65c_clear_da8c8) ∈ lwA := lwA_mk (ck_7 _ (List.mem_of_getElem? (i := 89) rfl)) rfl
theorem k_RX15_93 {args : Array Value} {s : State} {R rm : Room} (hts : ∀ w ∈ lwA, w.before args s = true) (hR : rm.frames + 1 ≤ R.frames ∧ 8 + (4 + 11) + rm.locals ≤ R.locals) : CallW R s args RX15 RJx4a65c 93 yJx4a65c_clear_da8c8 cJx4a65c_clear_da8c8 4 none (lwC yJx4a65c_clear_da8c8 cJx4a65c_clear_da8c8 4 none) rm rm.cells rm.slots 0 := cwV 0 hts (gdV m_7_87 m_7_88 m_7_89 m_1_9 m_7_90) rfl rfl rfl (by decide +kernel) hR
theorem gf_RX15_41_19 {A9 : Nat → Prop} {H9 : Heap} {fs : List Value} {v : Value} (S : CallFix p m c cc nL s args lwA RX15) (hE : g_E D vwCl (gT ar) (EX1 κ) A9 s H9) (w : g_S D vwCl A H0 G H locs nz) (ha : G a = some (.inr (19, fs))) (hv : fs[11]? = some v) (hdg : decode cc pc = .ok (.getfield 41, 3)) (kk : W p l e R s m args below meth c H locs cells slots Q (F0 m (pc + 3) ls (v :: rest))) : W p l e R s m args below meth c H locs cells slots Q (F0 m pc ls (.ref a :: rest)) :=
  va_get (ci := 19) (C := RX15) (T := TX15) (N := 14) S.1 S.2.1 S.2.2.2.2 inA_RX15 S.2.2.2.1 hE.1 (g_1 w.1 ha) 0 rfl rfl 11 (by decide) (S.2.2.2.2 _ m_6_156) (fun _ h => h) hv hdg kk
theorem m_6_155 : (Cond.fieldLink RX15 336 "SendhouseModel" "steps" "I") ∈ lwA := lwA_mk (ck_6 _ (List.mem_of_getElem? (i := 155) rfl)) rfl
theorem gf_RX15_336_19 {A9 : Nat → Prop} {H9 : Heap} {fs : List Value} {v : Value} (S : CallFix p m c cc nL s args lwA RX15) (hE : g_E D vwCl (gT ar) (EX1 κ) A9 s H9) (w : g_S D vwCl A H0 G H locs nz) (ha : G a = some (.inr (19, fs))) (hv : fs[10]? = some v) (hdg : decode cc pc = .ok (.getfield 336, 3)) (kk : W p l e R s m args below meth c H locs cells slots Q (F0 m (pc + 3) ls (v :: rest))) : W p l e R s m args below meth c H locs cells slots Q (F0 m pc ls (.ref a :: rest)) :=
  va_get (ci := 19) (C := RX15) (T := TX15) (N := 14) S.1 S.2.1 S.2.2.2.2 inA_RX15 S.2.2.2.1 hE.1 (g_1 w.1 ha) 0 rfl rfl 10 (by decide) (S.2.2.2.2 _ m_6_155) (fun _ h => h) hv hdg kk
theorem gf_RX15_31_19 {A9 : Nat → Prop} {H9 : Heap} {fs : List Value} {v : Value} (S : CallFix p m c cc nL s args lwA RX15) (hE : g_E D vwCl (gT ar) (EX1 κ) A9 s H9) (w : g_S D vwCl A H0 G H locs nz) (ha : G a = some (.inr (19, fs))) (hv : fs[4]? = some v) (hdg : decode cc pc = .ok (.getfield 31, 3)) (kk : W p l e R s m args below meth c H locs cells slots Q (F0 m (pc + 3) ls (v :: rest))) : W p l e R s m args below meth c H locs cells slots Q (F0 m pc ls (.ref a :: rest)) :=
  va_get (ci := 19) (C := RX15) (T := TX15) (N := 14) S.1 S.2.1 S.2.2.2.2 inA_RX15 S.2.2.2.1 hE.1 (g_1 w.1 ha) 0 rfl rfl 4 (by decide) (S.2.2.2.2 _ m_6_149) (fun _ h => h) hv hdg kk
theorem gf_RX15_34_19 {A9 : Nat → Prop} {H9 : Heap} {fs : List Value} {v : Value} (S : CallFix p m c cc nL s args lwA RX15) (hE : g_E D vwCl (gT ar) (EX1 κ) A9 s H9) (w : g_S D vwCl A H0 G H locs nz) (ha : G a = some (.inr (19, fs))) (hv : fs[5]? = some v) (hdg : decode cc pc = .ok (.getfield 34, 3)) (kk : W p l e R s m args below meth c H locs cells slots Q (F0 m (pc + 3) ls (v :: rest))) : W p l e R s m args below meth c H locs cells slots Q (F0 m pc ls (.ref a :: rest)) :=
  va_get (ci := 19) (C := RX15) (T := TX15) (N := 14) S.1 S.2.1 S.2.2.2.2 inA_RX15 S.2.2.2.1 hE.1 (g_1 w.1 ha) 0 rfl rfl 5 (by decide) (S.2.2.2.2 _ m_6_150) (fun _ h => h) hv hdg kk
theorem m_8_122 : (Cond.code yX15_reaches cX15_reaches 3 (some .boolean)) ∈ lwA := lwA_mk (ck_8 _ (List.mem_of_getElem? (i := 122) rfl)) rfl
theorem m_8_119 : (Cond.methodLink RX15 245 yX15_reaches) ∈ lwA := lwA_mk (ck_8 _ (List.mem_of_getElem? (i := 119) rfl)) rfl
theorem m_8_121 : (Cond.instanceMethod yX15_reaches) ∈ lwA := lwA_mk (ck_8 _ (List.mem_of_getElem? (i := 121) rfl)) rfl
theorem ms_53 : (Cond.selects RX15 yX15_reaches yX15_reaches) ∈ lwA := lwA_mk (List.mem_append_left _ (List.mem_of_getElem? (i := 53) rfl)) rfl
theorem k_RX15_245 {args : Array Value} {s : State} {R rm : Room} (hts : ∀ w ∈ lwA, w.before args s = true) (hR : rm.frames + 1 ≤ R.frames ∧ 8 + (3 + 11) + rm.locals ≤ R.locals) : CallW R s args RX15 RX15 245 yX15_reaches cX15_reaches 3 (some .boolean) (lwC yX15_reaches cX15_reaches 3 (some .boolean)) rm rm.cells rm.slots 1 := cwV 1 hts (gdV m_8_119 m_8_121 ms_53 m_1_12 m_8_122) rfl rfl rfl (by decide +kernel) hR
theorem m_6_158 : (Cond.fieldLink RX15 249 "SendhouseModel" "answer" "LSendhouseModel$Value;") ∈ lwA := lwA_mk (ck_6 _ (List.mem_of_getElem? (i := 158) rfl)) rfl
theorem gf_RX15_249_19 {A9 : Nat → Prop} {H9 : Heap} {fs : List Value} {v : Value} (S : CallFix p m c cc nL s args lwA RX15) (hE : g_E D vwCl (gT ar) (EX1 κ) A9 s H9) (w : g_S D vwCl A H0 G H locs nz) (ha : G a = some (.inr (19, fs))) (hv : fs[13]? = some v) (hdg : decode cc pc = .ok (.getfield 249, 3)) (kk : W p l e R s m args below meth c H locs cells slots Q (F0 m (pc + 3) ls (v :: rest))) : W p l e R s m args below meth c H locs cells slots Q (F0 m pc ls (.ref a :: rest)) :=
  va_get (ci := 19) (C := RX15) (T := TX15) (N := 14) S.1 S.2.1 S.2.2.2.2 inA_RX15 S.2.2.2.1 hE.1 (g_1 w.1 ha) 0 rfl rfl 13 (by decide) (S.2.2.2.2 _ m_6_158) (fun _ h => h) hv hdg kk
theorem m_7_143 : (Cond.code yJx4a65c_addAll_f0b43 cJx4a65c_addAll_f0b43 6 (some .boolean)) ∈ lwA := lwA_mk (ck_7 _ (List.mem_of_getElem? (i := 143) rfl)) rfl
theorem m_7_140 : (Cond.methodLink RX15 151 yJx4a65c_addAll_f0b43) ∈ lwA := lwA_mk (ck_7 _ (List.mem_of_getElem? (i := 140) rfl)) rfl
theorem m_7_141 : (Cond.instanceMethod yJx4a65c_addAll_f0b43) ∈ lwA := lwA_mk (ck_7 _ (List.mem_of_getElem? (i := 141) rfl)) rfl
theorem m_7_142 : (Cond.selects RJx4a65c yJx4a65c_addAll_f0b43 yJx4a65c_addAll_f0b43) ∈ lwA := lwA_mk (ck_7 _ (List.mem_of_getElem? (i := 142) rfl)) rfl
theorem k_RX15_151 {args : Array Value} {s : State} {R rm : Room} (hts : ∀ w ∈ lwA, w.before args s = true) (hR : rm.frames + 1 ≤ R.frames ∧ 8 + (6 + 11) + rm.locals ≤ R.locals) : CallW R s args RX15 RJx4a65c 151 yJx4a65c_addAll_f0b43 cJx4a65c_addAll_f0b43 6 (some .boolean) (lwC yJx4a65c_addAll_f0b43 cJx4a65c_addAll_f0b43 6 (some .boolean)) rm rm.cells rm.slots 1 := cwV 1 hts (gdV m_7_140 m_7_141 m_7_142 m_1_9 m_7_143) rfl rfl rfl (by decide +kernel) hR
theorem m_7_158 : (Cond.code yJx4a65c_isEmpty_aae02 cJx4a65c_isEmpty_aae02 1 (some .boolean)) ∈ lwA := lwA_mk (ck_7 _ (List.mem_of_getElem? (i := 158) rfl)) rfl
theorem m_7_155 : (Cond.methodLink RX15 155 yJx4a65c_isEmpty_aae02) ∈ lwA := lwA_mk (ck_7 _ (List.mem_of_getElem? (i := 155) rfl)) rfl
theorem m_7_156 : (Cond.instanceMethod yJx4a65c_isEmpty_aae02) ∈ lwA := lwA_mk (ck_7 _ (List.mem_of_getElem? (i := 156) rfl)) rfl
theorem m_7_157 : (Cond.selects RJx4a65c yJx4a65c_isEmpty_aae02 yJx4a65c_isEmpty_aae02) ∈ lwA := lwA_mk (ck_7 _ (List.mem_of_getElem? (i := 157) rfl)) rfl
theorem k_RX15_155 {args : Array Value} {s : State} {R rm : Room} (hts : ∀ w ∈ lwA, w.before args s = true) (hR : rm.frames + 1 ≤ R.frames ∧ 8 + (1 + 11) + rm.locals ≤ R.locals) : CallW R s args RX15 RJx4a65c 155 yJx4a65c_isEmpty_aae02 cJx4a65c_isEmpty_aae02 1 (some .boolean) (lwC yJx4a65c_isEmpty_aae02 cJx4a65c_isEmpty_aae02 1 (some .boolean)) rm rm.cells rm.slots 0 := cwV 0 hts (gdV m_7_155 m_7_156 m_7_157 m_1_9 m_7_158) rfl rfl rfl (by decide +kernel) hR
theorem m_9_35 : (Cond.code yX15_isFrame cX15_isFrame 2 (some .boolean)) ∈ lwA := lwA_mk (ck_9 _ (List.mem_of_getElem? (i := 35) rfl)) rfl
theorem m_9_32 : (Cond.methodLink RX15 339 yX15_isFrame) ∈ lwA := lwA_mk (ck_9 _ (List.mem_of_getElem? (i := 32) rfl)) rfl
theorem m_9_34 : (Cond.instanceMethod yX15_isFrame) ∈ lwA := lwA_mk (ck_9 _ (List.mem_of_getElem? (i := 34) rfl)) rfl
theorem ms_65 : (Cond.selects RX15 yX15_isFrame yX15_isFrame) ∈ lwA := lwA_mk (List.mem_append_left _ (List.mem_of_getElem? (i := 65) rfl)) rfl
theorem k_RX15_339 {args : Array Value} {s : State} {R rm : Room} (hts : ∀ w ∈ lwA, w.before args s = true) (hR : rm.frames + 1 ≤ R.frames ∧ 8 + (2 + 11) + rm.locals ≤ R.locals) : CallW R s args RX15 RX15 339 yX15_isFrame cX15_isFrame 2 (some .boolean) (lwC yX15_isFrame cX15_isFrame 2 (some .boolean)) rm rm.cells rm.slots 1 := cwV 1 hts (gdV m_9_32 m_9_34 ms_65 m_1_12 m_9_35) rfl rfl rfl (by decide +kernel) hR
theorem m_9_44 : (Cond.code yX15_slotOf cX15_slotOf 6 (some (.object "SendhouseModel$Value"))) ∈ lwA := lwA_mk (ck_9 _ (List.mem_of_getElem? (i := 44) rfl)) rfl
theorem m_9_41 : (Cond.methodLink RX15 349 yX15_slotOf) ∈ lwA := lwA_mk (ck_9 _ (List.mem_of_getElem? (i := 41) rfl)) rfl
theorem m_9_43 : (Cond.instanceMethod yX15_slotOf) ∈ lwA := lwA_mk (ck_9 _ (List.mem_of_getElem? (i := 43) rfl)) rfl
theorem ms_66 : (Cond.selects RX15 yX15_slotOf yX15_slotOf) ∈ lwA := lwA_mk (List.mem_append_left _ (List.mem_of_getElem? (i := 66) rfl)) rfl
theorem k_RX15_349 {args : Array Value} {s : State} {R rm : Room} (hts : ∀ w ∈ lwA, w.before args s = true) (hR : rm.frames + 1 ≤ R.frames ∧ 8 + (6 + 11) + rm.locals ≤ R.locals) : CallW R s args RX15 RX15 349 yX15_slotOf cX15_slotOf 6 (some (.object "SendhouseModel$Value")) (lwC yX15_slotOf cX15_slotOf 6 (some (.object "SendhouseModel$Value"))) rm rm.cells rm.slots 3 := cwV 3 hts (gdV m_9_41 m_9_43 ms_66 m_1_12 m_9_44) rfl rfl rfl (by decide +kernel) hR
theorem m_9_61 : (Cond.code yX15_isNotWritten cX15_isNotWritten 2 (some .boolean)) ∈ lwA := lwA_mk (ck_9 _ (List.mem_of_getElem? (i := 61) rfl)) rfl
theorem m_9_58 : (Cond.methodLink RX15 353 yX15_isNotWritten) ∈ lwA := lwA_mk (ck_9 _ (List.mem_of_getElem? (i := 58) rfl)) rfl
theorem m_9_60 : (Cond.instanceMethod yX15_isNotWritten) ∈ lwA := lwA_mk (ck_9 _ (List.mem_of_getElem? (i := 60) rfl)) rfl
theorem ms_67 : (Cond.selects RX15 yX15_isNotWritten yX15_isNotWritten) ∈ lwA := lwA_mk (List.mem_append_left _ (List.mem_of_getElem? (i := 67) rfl)) rfl
theorem k_RX15_353 {args : Array Value} {s : State} {R rm : Room} (hts : ∀ w ∈ lwA, w.before args s = true) (hR : rm.frames + 1 ≤ R.frames ∧ 8 + (2 + 11) + rm.locals ≤ R.locals) : CallW R s args RX15 RX15 353 yX15_isNotWritten cX15_isNotWritten 2 (some .boolean) (lwC yX15_isNotWritten cX15_isNotWritten 2 (some .boolean)) rm rm.cells rm.slots 1 := cwV 1 hts (gdV m_9_58 m_9_60 ms_67 m_1_12 m_9_61) rfl rfl rfl (by decide +kernel) hR
theorem m_8_131 : (Cond.code yX15_classOf_ cX15_classOf_ 2 (some .int)) ∈ lwA := lwA_mk (ck_8 _ (List.mem_of_getElem? (i := 131) rfl)) rfl
theorem m_8_128 : (Cond.methodLink RX15 267 yX15_classOf_) ∈ lwA := lwA_mk (ck_8 _ (List.mem_of_getElem? (i := 128) rfl)) rfl
theorem m_8_130 : (Cond.instanceMethod yX15_classOf_) ∈ lwA := lwA_mk (ck_8 _ (List.mem_of_getElem? (i := 130) rfl)) rfl
theorem ms_54 : (Cond.selects RX15 yX15_classOf_ yX15_classOf_) ∈ lwA := lwA_mk (List.mem_append_left _ (List.mem_of_getElem? (i := 54) rfl)) rfl
theorem k_RX15_267 {args : Array Value} {s : State} {R rm : Room} (hts : ∀ w ∈ lwA, w.before args s = true) (hR : rm.frames + 1 ≤ R.frames ∧ 8 + (2 + 11) + rm.locals ≤ R.locals) : CallW R s args RX15 RX15 267 yX15_classOf_ cX15_classOf_ 2 (some .int) (lwC yX15_classOf_ cX15_classOf_ 2 (some .int)) rm rm.cells rm.slots 1 := cwV 1 hts (gdV m_8_128 m_8_130 ms_54 m_1_12 m_8_131) rfl rfl rfl (by decide +kernel) hR
end SITES
theorem K_go_n {n : Int32} : ¬ K_go n = 0 := by
  unfold K_go
  split
  · decide
  · split <;> decide
theorem K_begin_n {g se a : Int32} : ¬ K_begin g se a = 0 := by
  unfold K_begin
  split
  · decide
  · split
    · decide
    · split <;> decide
theorem K_told_n {cl se a t : Int32} : ¬ K_told cl se a t = 0 := by
  unfold K_told
  split
  · decide
  · split
    · decide
    · split
      · decide
      · split <;> decide
set_option maxHeartbeats 4000000 in
set_option maxRecDepth 100000 in
theorem c_thing (l : Launch) (D : va_G) (ar : Nat → ClassId) (κ : Nat → Nat) (G : gW) (sz : Nat) (y : Nat) (n : Int32) (g0 : Option Nat) (g1 : Option Nat) (g2 : Option Nat) (g4 : Option Nat) (g5 : Option Nat) (g6 : Option Nat) (g7 : Int32) (g8 : Int32) (g9 : Int32) (g10 : Int32) (g11 : Int32) (g12 : Int32) (g13 : Option Nat) (th : Nat) (mc0 : Int32) (ed : Option Nat) (hy : G y = some (.inr (19, [va_rf g0, va_rf g1, va_rf g2, .ref th, va_rf g4, va_rf g5, va_rf g6, .int g7, .int g8, .int g9, .int g10, .int g11, .int g12, va_rf g13]))) (hth : G th = some (.inr (3, [.int mc0, va_rf ed, .int 0]))) : Met l yX15_thing (lwC yX15_thing cX15_thing 4 (some (.object "SendhouseModel$Thing"))) (rD 4 1 4) (g_Pc D vwCl (gT ar) (EX1 κ) G sz [.ref y, .int n]) (g_Qq D vwCl (g_A G sz) (fun r u => r = none ∧ u = ((g_up G sz (.inr (2, [.int 0, .int (-1), .int mc0, .ref th]))), sz + 1))) 1 4 (g_A G sz) := by
  refine g_ofW (by decide +kernel) (Nat.le_of_ble_eq_true rfl) ?_
  intro p e s m below meth c ls S hr hlk hin hE w hl
  have hx := S.1
  have hb := S.2.1
  have hl : lv_has ls 4 [(0, .ref y), (1, .int n)] := hl
  have lt_hy : y < sz := g_ltn w hy
  have lt_hth : th < sz := g_ltn w hth
  refine lv_aload_n hx hb dX15_thing_0 rfl (lv_at hl 0 rfl) ?_
  refine gf_RX15_28_19 S hE w hy rfl dX15_thing_1 ?_
  refine g_callq w (g_runV (As := []) (rest := []) S hE w hl (c_iterator l D ar κ G sz th mc0 ed 0 hth) (k_RX15_183 S.2.2.2.2 ⟨Nat.le_of_ble_eq_true rfl, Nat.le_of_ble_eq_true rfl⟩) hth rfl rfl rfl rfl (Nat.le_of_ble_eq_true rfl) dX15_thing_4 ⟨Nat.le_of_ble_eq_true rfl, Nat.le_of_ble_eq_true rfl⟩) (fun r u H locs hp hnz w => ?_)
  obtain ⟨rfl, rfl⟩ := hp
  dsimp only at w
  refine lv_astore_n (lv' := [(2, .ref sz), (0, .ref y), (1, .int n)]) hx hb dX15_thing_7 rfl hl (by decide) rfl (fun ls hl => ?_)
  refine lv_aload_n hx hb dX15_thing_8 rfl (lv_at hl 0 rfl) ?_
  refine g_callFi w (g_runF (As := []) (rest := []) S hE w hl (c_hasNext l D ar κ (g_up G sz (.inr (2, [.int 0, .int (-1), .int mc0, .ref th]))) (sz + 1) sz 0 (-1) th mc0 ed 0 g_up_s (g_up_o (by omega) hth)) (kF_RX15_187_2 S.2.2.2.2 (hE.2.1.2.1 _ (List.mem_of_getElem? (i := 1) rfl)) ⟨Nat.le_of_ble_eq_true rfl, Nat.le_of_ble_eq_true rfl⟩) g_up_s rfl rfl rfl rfl (Nat.le_of_ble_eq_true rfl) dX15_thing_9 ⟨Nat.le_of_ble_eq_true rfl, Nat.le_of_ble_eq_true rfl⟩) (fun r u H locs hp hnz w => ?_)
  obtain ⟨rfl, rfl⟩ := hp
  rw [show (if (0 : Int32) = 0 then (0 : Int32) else 1) = 0 from by decide]
  dsimp only at w
  refine lv_if_eq (tgt := 40) hx hb dX15_thing_14 (by decide) (fun _ => ?_) (fun c => absurd (by decide) c)
  refine lv_null hx hb dX15_thing_40 ?_
  exact g_qret (r := none) hx hb hr (Or.inl ⟨_, rfl⟩) hlk w (Nat.le_of_ble_eq_true rfl) (Nat.le_of_ble_eq_true rfl) dX15_thing_41 ⟨rfl, rfl⟩
set_option maxHeartbeats 4000000 in
set_option maxRecDepth 100000 in
theorem c_isNoField (l : Launch) (D : va_G) (ar : Nat → ClassId) (κ : Nat → Nat) (G : gW) (sz : Nat) (y : Nat) (n : Int32) (f : Int32) (g0 : Option Nat) (g1 : Option Nat) (g2 : Option Nat) (g4 : Option Nat) (g5 : Option Nat) (g6 : Option Nat) (g7 : Int32) (g8 : Int32) (g9 : Int32) (g10 : Int32) (g11 : Int32) (g12 : Int32) (g13 : Option Nat) (th : Nat) (mc0 : Int32) (ed : Option Nat) (hy : G y = some (.inr (19, [va_rf g0, va_rf g1, va_rf g2, .ref th, va_rf g4, va_rf g5, va_rf g6, .int g7, .int g8, .int g9, .int g10, .int g11, .int g12, va_rf g13]))) (hth : G th = some (.inr (3, [.int mc0, va_rf ed, .int 0]))) : Met l yX15_isNoField (lwC yX15_isNoField cX15_isNoField 3 (some .boolean)) (rD 5 1 4) (g_Pc D vwCl (gT ar) (EX1 κ) G sz [.ref y, .int n, .int f]) (g_Qi D vwCl (g_A G sz) (fun r u => r = 1 ∧ u = ((g_up (g_up G sz (.inr (2, [.int 0, .int (-1), .int mc0, .ref th]))) y (.inr (19, [va_rf g0, va_rf g1, va_rf g2, .ref th, va_rf g4, va_rf g5, va_rf g6, .int 1, .int g8, .int g9, .int g10, .int g11, .int g12, va_rf g13]))), sz + 1))) 1 4 (g_A G sz) := by
  refine g_ofW (by decide +kernel) (Nat.le_of_ble_eq_true rfl) ?_
  intro p e s m below meth c ls S hr hlk hin hE w hl
  have hx := S.1
  have hb := S.2.1
  have hl : lv_has ls 3 [(0, .ref y), (1, .int n), (2, .int f)] := hl
  have lt_hy : y < sz := g_ltn w hy
  have lt_hth : th < sz := g_ltn w hth
  refine lv_aload_n hx hb dX15_isNoField_0 rfl (lv_at hl 0 rfl) ?_
  refine lv_aload_n hx hb dX15_isNoField_1 rfl (lv_at hl 0 rfl) ?_
  refine lv_iload_n hx hb dX15_isNoField_2 rfl (lv_at hl 1 rfl) ?_
  refine g_callq w (g_runV (As := [.int n]) (rest := [.ref y]) S hE w hl (c_thing l D ar κ G sz y n g0 g1 g2 g4 g5 g6 g7 g8 g9 g10 g11 g12 g13 th mc0 ed hy hth) (k_RX15_232 S.2.2.2.2 ⟨Nat.le_of_ble_eq_true rfl, Nat.le_of_ble_eq_true rfl⟩) hy rfl rfl rfl rfl (Nat.le_of_ble_eq_true rfl) dX15_isNoField_3 ⟨Nat.le_of_ble_eq_true rfl, Nat.le_of_ble_eq_true rfl⟩) (fun r u H locs hp hnz w => ?_)
  obtain ⟨rfl, rfl⟩ := hp
  dsimp only at w
  refine lv_ifnullN (tgt := 44) hx hb dX15_isNoField_6 (by decide) ?_
  refine lv_iconst (v := 1) hx hb dX15_isNoField_44 (by decide) ?_
  refine g_calli w (g_runV (As := [.int 1]) (rest := []) S hE w hl (c_isWrong l D ar κ (g_up G sz (.inr (2, [.int 0, .int (-1), .int mc0, .ref th]))) (sz + 1) y 1 g0 g1 g2 (some th) g4 g5 g6 g7 g8 g9 g10 g11 g12 g13 (g_up_o (by omega) hy)) (k_RX15_77 S.2.2.2.2 ⟨Nat.le_of_ble_eq_true rfl, Nat.le_of_ble_eq_true rfl⟩) (g_up_o (by omega) hy) rfl rfl rfl rfl (Nat.le_of_ble_eq_true rfl) dX15_isNoField_45 ⟨Nat.le_of_ble_eq_true rfl, Nat.le_of_ble_eq_true rfl⟩) (fun r u H locs hp hnz w => ?_)
  obtain ⟨rfl, rfl⟩ := hp
  rw [show (if (1 : Int32) = 0 then (0 : Int32) else 1) = 1 from by decide]
  dsimp only at w
  exact g_zret hx hb hr hlk w (Nat.le_of_ble_eq_true rfl) (Nat.le_of_ble_eq_true rfl) dX15_isNoField_48 rfl ⟨rfl, rfl⟩
set_option maxHeartbeats 4000000 in
set_option maxRecDepth 100000 in
theorem c_reaches_v (l : Launch) (D : va_G) (ar : Nat → ClassId) (κ : Nat → Nat) (G : gW) (sz : Nat) (y : Nat) (v : Nat) (n0 : Int32) (hv : G v = some (.inr (18, [.int 117, .int n0]))) : Met l yX15_reaches (lwC yX15_reaches cX15_reaches 3 (some .boolean)) (rD 2 0 0) (g_Pc D vwCl (gT ar) (EX1 κ) G sz [.ref y, .ref v]) (g_Qi D vwCl (g_A G sz) (fun r u => r = 0 ∧ u = (G, sz))) 0 0 (g_A G sz) := by
  refine g_ofW (by decide +kernel) (Nat.le_of_ble_eq_true rfl) ?_
  intro p e s m below meth c ls S hr hlk hin hE w hl
  have hx := S.1
  have hb := S.2.1
  have hl : lv_has ls 3 [(0, .ref y), (1, .ref v)] := hl
  have lt_hv : v < sz := g_ltn w hv
  refine lv_aload_n hx hb dX15_reaches_0 rfl (lv_at hl 1 rfl) ?_
  refine lv_ifnull hx hb dX15_reaches_1 ?_
  refine lv_aload_n hx hb dX15_reaches_4 rfl (lv_at hl 1 rfl) ?_
  refine gf_RX15_228_18 S hE w hv rfl dX15_reaches_5 ?_
  refine lv_bipush (v := 111) hx hb dX15_reaches_8 (by decide) ?_
  refine lv_icmp_eq (tgt := 17) hx hb dX15_reaches_10 (by decide) (fun c => absurd c (by decide)) (fun _ => ?_)
  refine lv_null hx hb dX15_reaches_13 ?_
  refine lv_goto (tgt := 25) hx hb dX15_reaches_14 (by decide) ?_
  refine lv_astore_nN (lv' := [(2, .null), (0, .ref y), (1, .ref v)]) hx hb dX15_reaches_25 rfl hl (by decide) rfl (fun ls hl => ?_)
  refine lv_aload_nN hx hb dX15_reaches_26 rfl (lv_at hl 0 rfl) ?_
  refine lv_ifnullN (tgt := 37) hx hb dX15_reaches_27 (by decide) ?_
  refine lv_iconst (v := 0) hx hb dX15_reaches_37 (by decide) ?_
  exact g_zret hx hb hr hlk w (Nat.le_of_ble_eq_true rfl) (Nat.le_of_ble_eq_true rfl) dX15_reaches_38 rfl ⟨rfl, rfl⟩
set_option maxHeartbeats 4000000 in
set_option maxRecDepth 100000 in
theorem c_reaches_0 (l : Launch) (D : va_G) (ar : Nat → ClassId) (κ : Nat → Nat) (G : gW) (sz : Nat) (y : Nat) : Met l yX15_reaches (lwC yX15_reaches cX15_reaches 3 (some .boolean)) (rD 2 0 0) (g_Pc D vwCl (gT ar) (EX1 κ) G sz [.ref y, .null]) (g_Qi D vwCl (g_A G sz) (fun r u => r = 0 ∧ u = (G, sz))) 0 0 (g_A G sz) := by
  refine g_ofW (by decide +kernel) (Nat.le_of_ble_eq_true rfl) ?_
  intro p e s m below meth c ls S hr hlk hin hE w hl
  have hx := S.1
  have hb := S.2.1
  have hl : lv_has ls 3 [(0, .ref y), (1, .null)] := hl
  refine lv_aload_nN hx hb dX15_reaches_0 rfl (lv_at hl 1 rfl) ?_
  refine lv_ifnullN (tgt := 13) hx hb dX15_reaches_1 (by decide) ?_
  refine lv_null hx hb dX15_reaches_13 ?_
  refine lv_goto (tgt := 25) hx hb dX15_reaches_14 (by decide) ?_
  refine lv_astore_nN (lv' := [(2, .null), (0, .ref y), (1, .null)]) hx hb dX15_reaches_25 rfl hl (by decide) rfl (fun ls hl => ?_)
  refine lv_aload_nN hx hb dX15_reaches_26 rfl (lv_at hl 0 rfl) ?_
  refine lv_ifnullN (tgt := 37) hx hb dX15_reaches_27 (by decide) ?_
  refine lv_iconst (v := 0) hx hb dX15_reaches_37 (by decide) ?_
  exact g_zret hx hb hr hlk w (Nat.le_of_ble_eq_true rfl) (Nat.le_of_ble_eq_true rfl) dX15_reaches_38 rfl ⟨rfl, rfl⟩
set_option maxHeartbeats 4000000 in
set_option maxRecDepth 100000 in
theorem c_isThere_v (l : Launch) (D : va_G) (ar : Nat → ClassId) (κ : Nat → Nat) (G : gW) (sz : Nat) (y : Nat) (v : Nat) (n0 : Int32) (hv : G v = some (.inr (18, [.int 117, .int n0]))) : Met l yX15_isThere (lwC yX15_isThere cX15_isThere 2 (some .boolean)) (rD 2 0 0) (g_Pc D vwCl (gT ar) (EX1 κ) G sz [.ref y, .ref v]) (g_Qi D vwCl (g_A G sz) (fun r u => r = 1 ∧ u = (G, sz))) 0 0 (g_A G sz) := by
  refine g_ofW (by decide +kernel) (Nat.le_of_ble_eq_true rfl) ?_
  intro p e s m below meth c ls S hr hlk hin hE w hl
  have hx := S.1
  have hb := S.2.1
  have hl : lv_has ls 2 [(0, .ref y), (1, .ref v)] := hl
  have lt_hv : v < sz := g_ltn w hv
  refine lv_aload_n hx hb dX15_isThere_0 rfl (lv_at hl 1 rfl) ?_
  refine lv_ifnull hx hb dX15_isThere_1 ?_
  refine lv_aload_n hx hb dX15_isThere_4 rfl (lv_at hl 1 rfl) ?_
  refine gf_RX15_228_18 S hE w hv rfl dX15_isThere_5 ?_
  refine lv_bipush (v := 111) hx hb dX15_isThere_8 (by decide) ?_
  refine lv_icmp_ne (tgt := 24) hx hb dX15_isThere_10 (by decide) (fun _ => ?_) (fun c => absurd c (by decide))
  refine lv_iconst (v := 1) hx hb dX15_isThere_24 (by decide) ?_
  refine lv_goto (tgt := 29) hx hb dX15_isThere_25 (by decide) ?_
  exact g_zret hx hb hr hlk w (Nat.le_of_ble_eq_true rfl) (Nat.le_of_ble_eq_true rfl) dX15_isThere_29 rfl ⟨rfl, rfl⟩
set_option maxHeartbeats 4000000 in
set_option maxRecDepth 100000 in
theorem c_isThere_0 (l : Launch) (D : va_G) (ar : Nat → ClassId) (κ : Nat → Nat) (G : gW) (sz : Nat) (y : Nat) : Met l yX15_isThere (lwC yX15_isThere cX15_isThere 2 (some .boolean)) (rD 2 0 0) (g_Pc D vwCl (gT ar) (EX1 κ) G sz [.ref y, .null]) (g_Qi D vwCl (g_A G sz) (fun r u => r = 1 ∧ u = (G, sz))) 0 0 (g_A G sz) := by
  refine g_ofW (by decide +kernel) (Nat.le_of_ble_eq_true rfl) ?_
  intro p e s m below meth c ls S hr hlk hin hE w hl
  have hx := S.1
  have hb := S.2.1
  have hl : lv_has ls 2 [(0, .ref y), (1, .null)] := hl
  refine lv_aload_nN hx hb dX15_isThere_0 rfl (lv_at hl 1 rfl) ?_
  refine lv_ifnullN (tgt := 24) hx hb dX15_isThere_1 (by decide) ?_
  refine lv_iconst (v := 1) hx hb dX15_isThere_24 (by decide) ?_
  refine lv_goto (tgt := 29) hx hb dX15_isThere_25 (by decide) ?_
  exact g_zret hx hb hr hlk w (Nat.le_of_ble_eq_true rfl) (Nat.le_of_ble_eq_true rfl) dX15_isThere_29 rfl ⟨rfl, rfl⟩
set_option maxHeartbeats 4000000 in
set_option maxRecDepth 100000 in
theorem c_classOf_ (l : Launch) (D : va_G) (ar : Nat → ClassId) (κ : Nat → Nat) (G : gW) (sz : Nat) (y : Nat) (v : Nat) (n0 : Int32) (hv : G v = some (.inr (18, [.int 117, .int n0]))) : Met l yX15_classOf_ (lwC yX15_classOf_ cX15_classOf_ 2 (some .int)) (rD 2 0 0) (g_Pc D vwCl (gT ar) (EX1 κ) G sz [.ref y, .ref v]) (g_Qi D vwCl (g_A G sz) (fun r u => r = 2 ∧ u = (G, sz))) 0 0 (g_A G sz) := by
  refine g_ofW (by decide +kernel) (Nat.le_of_ble_eq_true rfl) ?_
  intro p e s m below meth c ls S hr hlk hin hE w hl
  have hx := S.1
  have hb := S.2.1
  have hl : lv_has ls 2 [(0, .ref y), (1, .ref v)] := hl
  have lt_hv : v < sz := g_ltn w hv
  refine lv_aload_n hx hb dX15_classOf__0 rfl (lv_at hl 1 rfl) ?_
  refine gf_RX15_228_18 S hE w hv rfl dX15_classOf__1 ?_
  refine lv_bipush (v := 110) hx hb dX15_classOf__4 (by decide) ?_
  refine lv_icmp_ne (tgt := 13) hx hb dX15_classOf__6 (by decide) (fun _ => ?_) (fun c => absurd c (by decide))
  refine lv_aload_n hx hb dX15_classOf__13 rfl (lv_at hl 1 rfl) ?_
  refine gf_RX15_228_18 S hE w hv rfl dX15_classOf__14 ?_
  refine lv_bipush (v := 117) hx hb dX15_classOf__17 (by decide) ?_
  refine lv_icmp_ne (tgt := 26) hx hb dX15_classOf__19 (by decide) (fun c => absurd (by decide) c) (fun _ => ?_)
  refine lv_iconst (v := 2) hx hb dX15_classOf__22 (by decide) ?_
  refine lv_goto (tgt := 37) hx hb dX15_classOf__23 (by decide) ?_
  exact g_iret hx hb hr hlk w (Nat.le_of_ble_eq_true rfl) (Nat.le_of_ble_eq_true rfl) dX15_classOf__37 ⟨rfl, rfl⟩
set_option maxHeartbeats 4000000 in
set_option maxRecDepth 100000 in
theorem m_classOf (l : Launch) (D : va_G) (ar : Nat → ClassId) (κ : Nat → Nat) (G : gW) (sz : Nat) (y : Nat) (n : Int32) (q : Nat) (t : Int32) (hM : FM ar κ G y q t) : Met l yX15_classOf (lwC yX15_classOf cX15_classOf 2 (some .int)) (rD 6 1 4) (g_Pc D vwCl (gT ar) (EX1 κ) G sz [.ref y, .int n]) (g_Qi D vwCl (g_A G sz) (fun r u => ((1 : Int32) = 0 → r = 0) ∧ TH y (1) u)) 1 4 (g_A G sz) := by
  refine g_ofW (by decide +kernel) (Nat.le_of_ble_eq_true rfl) ?_
  intro p e s m below meth c ls S hr hlk hin hE w hl
  have hx := S.1
  have hb := S.2.1
  have hl : lv_has ls 2 [(0, .ref y), (1, .int n)] := hl
  obtain ⟨hyq, m0, m1, m2, m3, m4, m5, m6, m7, m8, m9, m10, m11, m12, m13, m14⟩ := id hM
  have lt13 : q + 13 < sz := g_ltn w m14
  refine lv_aload_n hx hb dX15_classOf_0 rfl (lv_at hl 0 rfl) ?_
  refine lv_aload_n hx hb dX15_classOf_1 rfl (lv_at hl 0 rfl) ?_
  refine lv_iload_n hx hb dX15_classOf_2 rfl (lv_at hl 1 rfl) ?_
  refine g_callq w (g_runV (As := [.int n]) (rest := [.ref y]) S hE w hl (c_thing l D ar κ G sz y n (some q) (some (q + 1)) (some (q + 2)) (some (q + 4)) (some (q + 5)) (some (q + 6)) t 0 0 0 45 0 none (q + 3) 0 (some (κ 0)) m0 m4) (k_RX15_232 S.2.2.2.2 ⟨Nat.le_of_ble_eq_true rfl, Nat.le_of_ble_eq_true rfl⟩) m0 rfl rfl rfl rfl (Nat.le_of_ble_eq_true rfl) dX15_classOf_3 ⟨Nat.le_of_ble_eq_true rfl, Nat.le_of_ble_eq_true rfl⟩) (fun r u H locs hp hnz w => ?_)
  obtain ⟨rfl, rfl⟩ := hp
  dsimp only at w
  refine lv_ifnonnullN hx hb dX15_classOf_6 ?_
  refine lv_iconst (v := 1) hx hb dX15_classOf_9 (by decide) ?_
  refine lv_goto (tgt := 14) hx hb dX15_classOf_10 (by decide) ?_
  refine g_calli w (g_runV (As := [.int 1]) (rest := []) S hE w hl (c_isWrong l D ar κ (g_up G sz (.inr (2, [.int 0, .int (-1), .int 0, .ref (q + 3)]))) (sz + 1) y 1 (some q) (some (q + 1)) (some (q + 2)) (some (q + 3)) (some (q + 4)) (some (q + 5)) (some (q + 6)) t 0 0 0 45 0 none (g_up_o (by omega) m0)) (k_RX15_77 S.2.2.2.2 ⟨Nat.le_of_ble_eq_true rfl, Nat.le_of_ble_eq_true rfl⟩) (g_up_o (by omega) m0) rfl rfl rfl rfl (Nat.le_of_ble_eq_true rfl) dX15_classOf_14 ⟨Nat.le_of_ble_eq_true rfl, Nat.le_of_ble_eq_true rfl⟩) (fun r u H locs hp hnz w => ?_)
  obtain ⟨rfl, rfl⟩ := hp
  rw [show (if (1 : Int32) = 0 then (0 : Int32) else 1) = 1 from by decide]
  dsimp only at w
  refine lv_if_eq (tgt := 24) hx hb dX15_classOf_17 (by decide) (fun c => absurd c (by decide)) (fun _ => ?_)
  refine lv_iconst (v := 0) hx hb dX15_classOf_20 (by decide) ?_
  refine lv_goto (tgt := 32) hx hb dX15_classOf_21 (by decide) ?_
  exact g_iret hx hb hr hlk w (Nat.le_of_ble_eq_true rfl) (Nat.le_of_ble_eq_true rfl) dX15_classOf_32 ⟨(nz_first (T := 1) rfl (by decide)), TH_mk (T := 1) g_up_s rfl rfl⟩
set_option maxHeartbeats 4000000 in
set_option maxRecDepth 100000 in
theorem m_fieldKind (l : Launch) (D : va_G) (ar : Nat → ClassId) (κ : Nat → Nat) (G : gW) (sz : Nat) (y : Nat) (n : Int32) (f : Int32) (q : Nat) (t : Int32) (hM : FM ar κ G y q t) : Met l yX15_fieldKind (lwC yX15_fieldKind cX15_fieldKind 3 (some .char)) (rD 6 1 4) (g_Pc D vwCl (gT ar) (EX1 κ) G sz [.ref y, .int n, .int f]) (g_Qi D vwCl (g_A G sz) (fun r u => ((1 : Int32) = 0 → r = 0) ∧ TH y (1) u)) 1 4 (g_A G sz) := by
  refine g_ofW (by decide +kernel) (Nat.le_of_ble_eq_true rfl) ?_
  intro p e s m below meth c ls S hr hlk hin hE w hl
  have hx := S.1
  have hb := S.2.1
  have hl : lv_has ls 3 [(0, .ref y), (1, .int n), (2, .int f)] := hl
  obtain ⟨hyq, m0, m1, m2, m3, m4, m5, m6, m7, m8, m9, m10, m11, m12, m13, m14⟩ := id hM
  have lt13 : q + 13 < sz := g_ltn w m14
  refine lv_aload_n hx hb dX15_fieldKind_0 rfl (lv_at hl 0 rfl) ?_
  refine lv_iload_n hx hb dX15_fieldKind_1 rfl (lv_at hl 1 rfl) ?_
  refine lv_iload_n hx hb dX15_fieldKind_2 rfl (lv_at hl 2 rfl) ?_
  refine g_calli w (g_runV (As := [.int n, .int f]) (rest := []) S hE w hl (c_isNoField l D ar κ G sz y n f (some q) (some (q + 1)) (some (q + 2)) (some (q + 4)) (some (q + 5)) (some (q + 6)) t 0 0 0 45 0 none (q + 3) 0 (some (κ 0)) m0 m4) (k_RX15_237 S.2.2.2.2 ⟨Nat.le_of_ble_eq_true rfl, Nat.le_of_ble_eq_true rfl⟩) m0 rfl rfl rfl rfl (Nat.le_of_ble_eq_true rfl) dX15_fieldKind_3 ⟨Nat.le_of_ble_eq_true rfl, Nat.le_of_ble_eq_true rfl⟩) (fun r u H locs hp hnz w => ?_)
  obtain ⟨rfl, rfl⟩ := hp
  dsimp only at w
  refine lv_if_eq (tgt := 13) hx hb dX15_fieldKind_6 (by decide) (fun c => absurd c (by decide)) (fun _ => ?_)
  refine lv_iconst (v := 0) hx hb dX15_fieldKind_9 (by decide) ?_
  refine lv_goto (tgt := 26) hx hb dX15_fieldKind_10 (by decide) ?_
  exact g_zret hx hb hr hlk w (Nat.le_of_ble_eq_true rfl) (Nat.le_of_ble_eq_true rfl) dX15_fieldKind_26 rfl ⟨(nz_first (T := 1) rfl (by decide)), TH_mk (T := 1) g_up_s rfl rfl⟩
set_option maxHeartbeats 4000000 in
set_option maxRecDepth 100000 in
theorem m_fieldValue (l : Launch) (D : va_G) (ar : Nat → ClassId) (κ : Nat → Nat) (G : gW) (sz : Nat) (y : Nat) (n : Int32) (f : Int32) (q : Nat) (t : Int32) (hM : FM ar κ G y q t) : Met l yX15_fieldValue (lwC yX15_fieldValue cX15_fieldValue 3 (some .int)) (rD 6 1 4) (g_Pc D vwCl (gT ar) (EX1 κ) G sz [.ref y, .int n, .int f]) (g_Qi D vwCl (g_A G sz) (fun r u => ((1 : Int32) = 0 → r = 0) ∧ TH y (1) u)) 1 4 (g_A G sz) := by
  refine g_ofW (by decide +kernel) (Nat.le_of_ble_eq_true rfl) ?_
  intro p e s m below meth c ls S hr hlk hin hE w hl
  have hx := S.1
  have hb := S.2.1
  have hl : lv_has ls 3 [(0, .ref y), (1, .int n), (2, .int f)] := hl
  obtain ⟨hyq, m0, m1, m2, m3, m4, m5, m6, m7, m8, m9, m10, m11, m12, m13, m14⟩ := id hM
  have lt13 : q + 13 < sz := g_ltn w m14
  refine lv_aload_n hx hb dX15_fieldValue_0 rfl (lv_at hl 0 rfl) ?_
  refine lv_iload_n hx hb dX15_fieldValue_1 rfl (lv_at hl 1 rfl) ?_
  refine lv_iload_n hx hb dX15_fieldValue_2 rfl (lv_at hl 2 rfl) ?_
  refine g_calli w (g_runV (As := [.int n, .int f]) (rest := []) S hE w hl (c_isNoField l D ar κ G sz y n f (some q) (some (q + 1)) (some (q + 2)) (some (q + 4)) (some (q + 5)) (some (q + 6)) t 0 0 0 45 0 none (q + 3) 0 (some (κ 0)) m0 m4) (k_RX15_237 S.2.2.2.2 ⟨Nat.le_of_ble_eq_true rfl, Nat.le_of_ble_eq_true rfl⟩) m0 rfl rfl rfl rfl (Nat.le_of_ble_eq_true rfl) dX15_fieldValue_3 ⟨Nat.le_of_ble_eq_true rfl, Nat.le_of_ble_eq_true rfl⟩) (fun r u H locs hp hnz w => ?_)
  obtain ⟨rfl, rfl⟩ := hp
  dsimp only at w
  refine lv_if_eq (tgt := 13) hx hb dX15_fieldValue_6 (by decide) (fun c => absurd c (by decide)) (fun _ => ?_)
  refine lv_iconst (v := 0) hx hb dX15_fieldValue_9 (by decide) ?_
  refine lv_goto (tgt := 26) hx hb dX15_fieldValue_10 (by decide) ?_
  exact g_iret hx hb hr hlk w (Nat.le_of_ble_eq_true rfl) (Nat.le_of_ble_eq_true rfl) dX15_fieldValue_26 ⟨(nz_first (T := 1) rfl (by decide)), TH_mk (T := 1) g_up_s rfl rfl⟩
set_option maxHeartbeats 4000000 in
set_option maxRecDepth 100000 in
theorem m_classes (l : Launch) (D : va_G) (ar : Nat → ClassId) (κ : Nat → Nat) (G : gW) (sz : Nat) (y : Nat) (q : Nat) (t : Int32) (hM : FM ar κ G y q t) : Met l yX15_classes (lwC yX15_classes cX15_classes 1 (some .int)) (rD 5 0 0) (g_Pc D vwCl (gT ar) (EX1 κ) G sz [.ref y]) (g_Qi D vwCl (g_A G sz) (fun r u => r = 3)) 0 0 (g_A G sz) := by
  refine g_ofW (by decide +kernel) (Nat.le_of_ble_eq_true rfl) ?_
  intro p e s m below meth c ls S hr hlk hin hE w hl
  have hx := S.1
  have hb := S.2.1
  have hl : lv_has ls 1 [(0, .ref y)] := hl
  obtain ⟨hyq, m0, m1, m2, m3, m4, m5, m6, m7, m8, m9, m10, m11, m12, m13, m14⟩ := id hM
  have lt13 : q + 13 < sz := g_ltn w m14
  refine lv_aload_n hx hb dX15_classes_0 rfl (lv_at hl 0 rfl) ?_
  refine lv_iconst (v := 0) hx hb dX15_classes_1 (by decide) ?_
  refine pf_RX15_54_19 (fs1 := [.ref q, .ref (q + 1), .ref (q + 2), .ref (q + 3), .ref (q + 4), .ref (q + 5), .ref (q + 6), .int 0, .int 0, .int 0, .int 0, .int 45, .int 0, .null]) S hE w m0 rfl rfl (Nat.le_of_ble_eq_true rfl) rfl dX15_classes_2 (fun H locs w => ?_)
  refine lv_aload_n hx hb dX15_classes_5 rfl (lv_at hl 0 rfl) ?_
  refine gf_RX15_21_19 S hE w g_up_s rfl dX15_classes_6 ?_
  refine g_calli w (g_runV (As := []) (rest := []) S hE w hl (c_size l D ar κ (g_up G y (.inr (19, [.ref q, .ref (q + 1), .ref (q + 2), .ref (q + 3), .ref (q + 4), .ref (q + 5), .ref (q + 6), .int 0, .int 0, .int 0, .int 0, .int 45, .int 0, .null]))) sz (q + 1) 3 (some (q + 9)) 3 (g_up_o (g_nx m2 m0 (by simp)) m2)) (k_RX15_58 S.2.2.2.2 ⟨Nat.le_of_ble_eq_true rfl, Nat.le_of_ble_eq_true rfl⟩) (g_up_o (g_nx m2 m0 (by simp)) m2) rfl rfl rfl rfl (Nat.le_of_ble_eq_true rfl) dX15_classes_9 ⟨Nat.le_of_ble_eq_true rfl, Nat.le_of_ble_eq_true rfl⟩) (fun r u H locs hp hnz w => ?_)
  obtain ⟨rfl, rfl⟩ := hp
  dsimp only at w
  exact g_iret hx hb hr hlk w (Nat.le_of_ble_eq_true rfl) (Nat.le_of_ble_eq_true rfl) dX15_classes_12 rfl
set_option maxHeartbeats 4000000 in
set_option maxRecDepth 100000 in
theorem m_wipe (l : Launch) (D : va_G) (ar : Nat → ClassId) (κ : Nat → Nat) (G : gW) (sz : Nat) (y : Nat) (q : Nat) (t : Int32) (hM : FM ar κ G y q t) : Met l yX15_wipe (lwC yX15_wipe cX15_wipe 2 (some .int)) (rD 5 0 0) (g_Pc D vwCl (gT ar) (EX1 κ) G sz [.ref y]) (g_Qi D vwCl (g_A G sz) (fun r u => r = 0)) 0 0 (g_A G sz) := by
  refine g_ofW (by decide +kernel) (Nat.le_of_ble_eq_true rfl) ?_
  intro p e s m below meth c ls S hr hlk hin hE w hl
  have hx := S.1
  have hb := S.2.1
  have hl : lv_has ls 2 [(0, .ref y)] := hl
  obtain ⟨hyq, m0, m1, m2, m3, m4, m5, m6, m7, m8, m9, m10, m11, m12, m13, m14⟩ := id hM
  have lt13 : q + 13 < sz := g_ltn w m14
  refine lv_aload_n hx hb dX15_wipe_0 rfl (lv_at hl 0 rfl) ?_
  refine lv_iconst (v := 0) hx hb dX15_wipe_1 (by decide) ?_
  refine pf_RX15_54_19 (fs1 := [.ref q, .ref (q + 1), .ref (q + 2), .ref (q + 3), .ref (q + 4), .ref (q + 5), .ref (q + 6), .int 0, .int 0, .int 0, .int 0, .int 45, .int 0, .null]) S hE w m0 rfl rfl (Nat.le_of_ble_eq_true rfl) rfl dX15_wipe_2 (fun H locs w => ?_)
  refine lv_aload_n hx hb dX15_wipe_5 rfl (lv_at hl 0 rfl) ?_
  refine gf_RX15_25_19 S hE w g_up_s rfl dX15_wipe_6 ?_
  refine g_calli w (g_runV (As := []) (rest := []) S hE w hl (c_size l D ar κ (g_up G y (.inr (19, [.ref q, .ref (q + 1), .ref (q + 2), .ref (q + 3), .ref (q + 4), .ref (q + 5), .ref (q + 6), .int 0, .int 0, .int 0, .int 0, .int 45, .int 0, .null]))) sz (q + 2) 0 (some (κ 0)) 0 (g_up_o (g_nx m3 m0 (by simp)) m3)) (k_RX15_58 S.2.2.2.2 ⟨Nat.le_of_ble_eq_true rfl, Nat.le_of_ble_eq_true rfl⟩) (g_up_o (g_nx m3 m0 (by simp)) m3) rfl rfl rfl rfl (Nat.le_of_ble_eq_true rfl) dX15_wipe_9 ⟨Nat.le_of_ble_eq_true rfl, Nat.le_of_ble_eq_true rfl⟩) (fun r u H locs hp hnz w => ?_)
  obtain ⟨rfl, rfl⟩ := hp
  dsimp only at w
  refine lv_istore_n (lv' := [(1, .int 0), (0, .ref y)]) hx hb dX15_wipe_12 rfl hl (by decide) rfl (fun ls hl => ?_)
  refine lv_aload_n hx hb dX15_wipe_13 rfl (lv_at hl 1 rfl) ?_
  refine gf_RX15_25_19 S hE w g_up_s rfl dX15_wipe_14 ?_
  refine g_callv w (g_runV (As := []) (rest := []) S hE w hl (c_clear0 l D ar κ (g_up G y (.inr (19, [.ref q, .ref (q + 1), .ref (q + 2), .ref (q + 3), .ref (q + 4), .ref (q + 5), .ref (q + 6), .int 0, .int 0, .int 0, .int 0, .int 45, .int 0, .null]))) sz (q + 2) 0 (g_up_o (g_nx m3 m0 (by simp)) m3)) (k_RX15_93 S.2.2.2.2 ⟨Nat.le_of_ble_eq_true rfl, Nat.le_of_ble_eq_true rfl⟩) (g_up_o (g_nx m3 m0 (by simp)) m3) rfl rfl rfl rfl (Nat.le_of_ble_eq_true rfl) dX15_wipe_17 ⟨Nat.le_of_ble_eq_true rfl, Nat.le_of_ble_eq_true rfl⟩) (fun u H locs hp hnz w => ?_)
  obtain rfl := hp
  dsimp only at w
  rw [show ((0 + 1) : Int32) = 1 from by decide +kernel] at w
  refine lv_iload_n hx hb dX15_wipe_20 rfl (lv_at hl 0 rfl) ?_
  exact g_iret hx hb hr hlk w (Nat.le_of_ble_eq_true rfl) (Nat.le_of_ble_eq_true rfl) dX15_wipe_21 rfl
set_option maxHeartbeats 4000000 in
set_option maxRecDepth 100000 in
theorem m_things (l : Launch) (D : va_G) (ar : Nat → ClassId) (κ : Nat → Nat) (G : gW) (sz : Nat) (y : Nat) (q : Nat) (t : Int32) (hM : FM ar κ G y q t) : Met l yX15_things (lwC yX15_things cX15_things 1 (some .int)) (rD 5 0 0) (g_Pc D vwCl (gT ar) (EX1 κ) G sz [.ref y]) (g_Qi D vwCl (g_A G sz) (fun r u => r = 0)) 0 0 (g_A G sz) := by
  refine g_ofW (by decide +kernel) (Nat.le_of_ble_eq_true rfl) ?_
  intro p e s m below meth c ls S hr hlk hin hE w hl
  have hx := S.1
  have hb := S.2.1
  have hl : lv_has ls 1 [(0, .ref y)] := hl
  obtain ⟨hyq, m0, m1, m2, m3, m4, m5, m6, m7, m8, m9, m10, m11, m12, m13, m14⟩ := id hM
  have lt13 : q + 13 < sz := g_ltn w m14
  refine lv_aload_n hx hb dX15_things_0 rfl (lv_at hl 0 rfl) ?_
  refine lv_iconst (v := 0) hx hb dX15_things_1 (by decide) ?_
  refine pf_RX15_54_19 (fs1 := [.ref q, .ref (q + 1), .ref (q + 2), .ref (q + 3), .ref (q + 4), .ref (q + 5), .ref (q + 6), .int 0, .int 0, .int 0, .int 0, .int 45, .int 0, .null]) S hE w m0 rfl rfl (Nat.le_of_ble_eq_true rfl) rfl dX15_things_2 (fun H locs w => ?_)
  refine lv_aload_n hx hb dX15_things_5 rfl (lv_at hl 0 rfl) ?_
  refine gf_RX15_28_19 S hE w g_up_s rfl dX15_things_6 ?_
  refine g_calli w (g_runV (As := []) (rest := []) S hE w hl (c_size l D ar κ (g_up G y (.inr (19, [.ref q, .ref (q + 1), .ref (q + 2), .ref (q + 3), .ref (q + 4), .ref (q + 5), .ref (q + 6), .int 0, .int 0, .int 0, .int 0, .int 45, .int 0, .null]))) sz (q + 3) 0 (some (κ 0)) 0 (g_up_o (g_nx m4 m0 (by simp)) m4)) (k_RX15_58 S.2.2.2.2 ⟨Nat.le_of_ble_eq_true rfl, Nat.le_of_ble_eq_true rfl⟩) (g_up_o (g_nx m4 m0 (by simp)) m4) rfl rfl rfl rfl (Nat.le_of_ble_eq_true rfl) dX15_things_9 ⟨Nat.le_of_ble_eq_true rfl, Nat.le_of_ble_eq_true rfl⟩) (fun r u H locs hp hnz w => ?_)
  obtain ⟨rfl, rfl⟩ := hp
  dsimp only at w
  exact g_iret hx hb hr hlk w (Nat.le_of_ble_eq_true rfl) (Nat.le_of_ble_eq_true rfl) dX15_things_12 rfl
set_option maxHeartbeats 4000000 in
set_option maxRecDepth 100000 in
theorem m_state (l : Launch) (D : va_G) (ar : Nat → ClassId) (κ : Nat → Nat) (G : gW) (sz : Nat) (y : Nat) (q : Nat) (t : Int32) (hM : FM ar κ G y q t) : Met l yX15_state (lwC yX15_state cX15_state 1 (some .char)) (rD 5 0 0) (g_Pc D vwCl (gT ar) (EX1 κ) G sz [.ref y]) (g_Qi D vwCl (g_A G sz) (fun r u => r = 45)) 0 0 (g_A G sz) := by
  refine g_ofW (by decide +kernel) (Nat.le_of_ble_eq_true rfl) ?_
  intro p e s m below meth c ls S hr hlk hin hE w hl
  have hx := S.1
  have hb := S.2.1
  have hl : lv_has ls 1 [(0, .ref y)] := hl
  obtain ⟨hyq, m0, m1, m2, m3, m4, m5, m6, m7, m8, m9, m10, m11, m12, m13, m14⟩ := id hM
  have lt13 : q + 13 < sz := g_ltn w m14
  refine lv_aload_n hx hb dX15_state_0 rfl (lv_at hl 0 rfl) ?_
  refine lv_iconst (v := 0) hx hb dX15_state_1 (by decide) ?_
  refine pf_RX15_54_19 (fs1 := [.ref q, .ref (q + 1), .ref (q + 2), .ref (q + 3), .ref (q + 4), .ref (q + 5), .ref (q + 6), .int 0, .int 0, .int 0, .int 0, .int 45, .int 0, .null]) S hE w m0 rfl rfl (Nat.le_of_ble_eq_true rfl) rfl dX15_state_2 (fun H locs w => ?_)
  refine lv_aload_n hx hb dX15_state_5 rfl (lv_at hl 0 rfl) ?_
  refine gf_RX15_41_19 S hE w g_up_s rfl dX15_state_6 ?_
  exact g_zret hx hb hr hlk w (Nat.le_of_ble_eq_true rfl) (Nat.le_of_ble_eq_true rfl) dX15_state_9 rfl rfl
set_option maxHeartbeats 4000000 in
set_option maxRecDepth 100000 in
theorem m_steps (l : Launch) (D : va_G) (ar : Nat → ClassId) (κ : Nat → Nat) (G : gW) (sz : Nat) (y : Nat) (q : Nat) (t : Int32) (hM : FM ar κ G y q t) : Met l yX15_steps (lwC yX15_steps cX15_steps 1 (some .int)) (rD 5 0 0) (g_Pc D vwCl (gT ar) (EX1 κ) G sz [.ref y]) (g_Qi D vwCl (g_A G sz) (fun r u => r = 0)) 0 0 (g_A G sz) := by
  refine g_ofW (by decide +kernel) (Nat.le_of_ble_eq_true rfl) ?_
  intro p e s m below meth c ls S hr hlk hin hE w hl
  have hx := S.1
  have hb := S.2.1
  have hl : lv_has ls 1 [(0, .ref y)] := hl
  obtain ⟨hyq, m0, m1, m2, m3, m4, m5, m6, m7, m8, m9, m10, m11, m12, m13, m14⟩ := id hM
  have lt13 : q + 13 < sz := g_ltn w m14
  refine lv_aload_n hx hb dX15_steps_0 rfl (lv_at hl 0 rfl) ?_
  refine lv_iconst (v := 0) hx hb dX15_steps_1 (by decide) ?_
  refine pf_RX15_54_19 (fs1 := [.ref q, .ref (q + 1), .ref (q + 2), .ref (q + 3), .ref (q + 4), .ref (q + 5), .ref (q + 6), .int 0, .int 0, .int 0, .int 0, .int 45, .int 0, .null]) S hE w m0 rfl rfl (Nat.le_of_ble_eq_true rfl) rfl dX15_steps_2 (fun H locs w => ?_)
  refine lv_aload_n hx hb dX15_steps_5 rfl (lv_at hl 0 rfl) ?_
  refine gf_RX15_336_19 S hE w g_up_s rfl dX15_steps_6 ?_
  exact g_iret hx hb hr hlk w (Nat.le_of_ble_eq_true rfl) (Nat.le_of_ble_eq_true rfl) dX15_steps_9 rfl
set_option maxHeartbeats 4000000 in
set_option maxRecDepth 100000 in
theorem m_frames (l : Launch) (D : va_G) (ar : Nat → ClassId) (κ : Nat → Nat) (G : gW) (sz : Nat) (y : Nat) (q : Nat) (t : Int32) (hM : FM ar κ G y q t) : Met l yX15_frames (lwC yX15_frames cX15_frames 1 (some .int)) (rD 5 0 0) (g_Pc D vwCl (gT ar) (EX1 κ) G sz [.ref y]) (g_Qi D vwCl (g_A G sz) (fun r u => r = 0)) 0 0 (g_A G sz) := by
  refine g_ofW (by decide +kernel) (Nat.le_of_ble_eq_true rfl) ?_
  intro p e s m below meth c ls S hr hlk hin hE w hl
  have hx := S.1
  have hb := S.2.1
  have hl : lv_has ls 1 [(0, .ref y)] := hl
  obtain ⟨hyq, m0, m1, m2, m3, m4, m5, m6, m7, m8, m9, m10, m11, m12, m13, m14⟩ := id hM
  have lt13 : q + 13 < sz := g_ltn w m14
  refine lv_aload_n hx hb dX15_frames_0 rfl (lv_at hl 0 rfl) ?_
  refine lv_iconst (v := 0) hx hb dX15_frames_1 (by decide) ?_
  refine pf_RX15_54_19 (fs1 := [.ref q, .ref (q + 1), .ref (q + 2), .ref (q + 3), .ref (q + 4), .ref (q + 5), .ref (q + 6), .int 0, .int 0, .int 0, .int 0, .int 45, .int 0, .null]) S hE w m0 rfl rfl (Nat.le_of_ble_eq_true rfl) rfl dX15_frames_2 (fun H locs w => ?_)
  refine lv_aload_n hx hb dX15_frames_5 rfl (lv_at hl 0 rfl) ?_
  refine gf_RX15_31_19 S hE w g_up_s rfl dX15_frames_6 ?_
  refine g_calli w (g_runV (As := []) (rest := []) S hE w hl (c_size l D ar κ (g_up G y (.inr (19, [.ref q, .ref (q + 1), .ref (q + 2), .ref (q + 3), .ref (q + 4), .ref (q + 5), .ref (q + 6), .int 0, .int 0, .int 0, .int 0, .int 45, .int 0, .null]))) sz (q + 4) 0 (some (κ 0)) 0 (g_up_o (g_nx m5 m0 (by simp)) m5)) (k_RX15_58 S.2.2.2.2 ⟨Nat.le_of_ble_eq_true rfl, Nat.le_of_ble_eq_true rfl⟩) (g_up_o (g_nx m5 m0 (by simp)) m5) rfl rfl rfl rfl (Nat.le_of_ble_eq_true rfl) dX15_frames_9 ⟨Nat.le_of_ble_eq_true rfl, Nat.le_of_ble_eq_true rfl⟩) (fun r u H locs hp hnz w => ?_)
  obtain ⟨rfl, rfl⟩ := hp
  dsimp only at w
  exact g_iret hx hb hr hlk w (Nat.le_of_ble_eq_true rfl) (Nat.le_of_ble_eq_true rfl) dX15_frames_12 rfl
set_option maxHeartbeats 4000000 in
set_option maxRecDepth 100000 in
theorem m_written (l : Launch) (D : va_G) (ar : Nat → ClassId) (κ : Nat → Nat) (G : gW) (sz : Nat) (y : Nat) (q : Nat) (t : Int32) (hM : FM ar κ G y q t) : Met l yX15_written (lwC yX15_written cX15_written 1 (some .int)) (rD 5 0 0) (g_Pc D vwCl (gT ar) (EX1 κ) G sz [.ref y]) (g_Qi D vwCl (g_A G sz) (fun r u => r = 0)) 0 0 (g_A G sz) := by
  refine g_ofW (by decide +kernel) (Nat.le_of_ble_eq_true rfl) ?_
  intro p e s m below meth c ls S hr hlk hin hE w hl
  have hx := S.1
  have hb := S.2.1
  have hl : lv_has ls 1 [(0, .ref y)] := hl
  obtain ⟨hyq, m0, m1, m2, m3, m4, m5, m6, m7, m8, m9, m10, m11, m12, m13, m14⟩ := id hM
  have lt13 : q + 13 < sz := g_ltn w m14
  refine lv_aload_n hx hb dX15_written_0 rfl (lv_at hl 0 rfl) ?_
  refine lv_iconst (v := 0) hx hb dX15_written_1 (by decide) ?_
  refine pf_RX15_54_19 (fs1 := [.ref q, .ref (q + 1), .ref (q + 2), .ref (q + 3), .ref (q + 4), .ref (q + 5), .ref (q + 6), .int 0, .int 0, .int 0, .int 0, .int 45, .int 0, .null]) S hE w m0 rfl rfl (Nat.le_of_ble_eq_true rfl) rfl dX15_written_2 (fun H locs w => ?_)
  refine lv_aload_n hx hb dX15_written_5 rfl (lv_at hl 0 rfl) ?_
  refine gf_RX15_34_19 S hE w g_up_s rfl dX15_written_6 ?_
  refine g_calli w (g_runV (As := []) (rest := []) S hE w hl (c_size l D ar κ (g_up G y (.inr (19, [.ref q, .ref (q + 1), .ref (q + 2), .ref (q + 3), .ref (q + 4), .ref (q + 5), .ref (q + 6), .int 0, .int 0, .int 0, .int 0, .int 45, .int 0, .null]))) sz (q + 5) 0 (some (κ 0)) 0 (g_up_o (g_nx m6 m0 (by simp)) m6)) (k_RX15_58 S.2.2.2.2 ⟨Nat.le_of_ble_eq_true rfl, Nat.le_of_ble_eq_true rfl⟩) (g_up_o (g_nx m6 m0 (by simp)) m6) rfl rfl rfl rfl (Nat.le_of_ble_eq_true rfl) dX15_written_9 ⟨Nat.le_of_ble_eq_true rfl, Nat.le_of_ble_eq_true rfl⟩) (fun r u H locs hp hnz w => ?_)
  obtain ⟨rfl, rfl⟩ := hp
  dsimp only at w
  exact g_iret hx hb hr hlk w (Nat.le_of_ble_eq_true rfl) (Nat.le_of_ble_eq_true rfl) dX15_written_12 rfl
set_option maxHeartbeats 4000000 in
set_option maxRecDepth 100000 in
theorem m_collect (l : Launch) (D : va_G) (ar : Nat → ClassId) (κ : Nat → Nat) (G : gW) (sz : Nat) (y : Nat) (q : Nat) (t : Int32) (hM : FM ar κ G y q t) : Met l yX15_collect (lwC yX15_collect cX15_collect 7 (some .int)) (rD 7 6 19) (g_Pc D vwCl (gT ar) (EX1 κ) G sz [.ref y]) (g_Qi D vwCl (g_A G sz) (fun r u => r = 0)) 6 19 (g_A G sz) := by
  refine g_ofW (by decide +kernel) (Nat.le_of_ble_eq_true rfl) ?_
  intro p e s m below meth c ls S hr hlk hin hE w hl
  have hx := S.1
  have hb := S.2.1
  have hl : lv_has ls 7 [(0, .ref y)] := hl
  obtain ⟨hyq, m0, m1, m2, m3, m4, m5, m6, m7, m8, m9, m10, m11, m12, m13, m14⟩ := id hM
  have lt13 : q + 13 < sz := g_ltn w m14
  refine lv_aload_n hx hb dX15_collect_0 rfl (lv_at hl 0 rfl) ?_
  refine lv_iconst (v := 0) hx hb dX15_collect_1 (by decide) ?_
  refine pf_RX15_54_19 (fs1 := [.ref q, .ref (q + 1), .ref (q + 2), .ref (q + 3), .ref (q + 4), .ref (q + 5), .ref (q + 6), .int 0, .int 0, .int 0, .int 0, .int 45, .int 0, .null]) S hE w m0 rfl rfl (Nat.le_of_ble_eq_true rfl) rfl dX15_collect_2 (fun H locs w => ?_)
  refine lv_aload_n hx hb dX15_collect_5 rfl (lv_at hl 0 rfl) ?_
  refine gf_RX15_28_19 S hE w g_up_s rfl dX15_collect_6 ?_
  refine g_callq w (g_runV (As := []) (rest := []) S hE w hl (c_iterator l D ar κ (g_up G y (.inr (19, [.ref q, .ref (q + 1), .ref (q + 2), .ref (q + 3), .ref (q + 4), .ref (q + 5), .ref (q + 6), .int 0, .int 0, .int 0, .int 0, .int 45, .int 0, .null]))) sz (q + 3) 0 (some (κ 0)) 0 (g_up_o (g_nx m4 m0 (by simp)) m4)) (k_RX15_183 S.2.2.2.2 ⟨Nat.le_of_ble_eq_true rfl, Nat.le_of_ble_eq_true rfl⟩) (g_up_o (g_nx m4 m0 (by simp)) m4) rfl rfl rfl rfl (Nat.le_of_ble_eq_true rfl) dX15_collect_9 ⟨Nat.le_of_ble_eq_true rfl, Nat.le_of_ble_eq_true rfl⟩) (fun r u H locs hp hnz w => ?_)
  obtain ⟨rfl, rfl⟩ := hp
  dsimp only at w
  refine lv_astore_n (lv' := [(1, .ref sz), (0, .ref y)]) hx hb dX15_collect_12 rfl hl (by decide) rfl (fun ls hl => ?_)
  refine lv_aload_n hx hb dX15_collect_13 rfl (lv_at hl 0 rfl) ?_
  refine g_callFi w (g_runF (As := []) (rest := []) S hE w hl (c_hasNext l D ar κ (g_up (g_up G y (.inr (19, [.ref q, .ref (q + 1), .ref (q + 2), .ref (q + 3), .ref (q + 4), .ref (q + 5), .ref (q + 6), .int 0, .int 0, .int 0, .int 0, .int 45, .int 0, .null]))) sz (.inr (2, [.int 0, .int (-1), .int 0, .ref (q + 3)]))) (sz + 1) sz 0 (-1) (q + 3) 0 (some (κ 0)) 0 g_up_s (g_up_o (by omega) (g_up_o (g_nx m4 m0 (by simp)) m4))) (kF_RX15_187_2 S.2.2.2.2 (hE.2.1.2.1 _ (List.mem_of_getElem? (i := 1) rfl)) ⟨Nat.le_of_ble_eq_true rfl, Nat.le_of_ble_eq_true rfl⟩) g_up_s rfl rfl rfl rfl (Nat.le_of_ble_eq_true rfl) dX15_collect_14 ⟨Nat.le_of_ble_eq_true rfl, Nat.le_of_ble_eq_true rfl⟩) (fun r u H locs hp hnz w => ?_)
  obtain ⟨rfl, rfl⟩ := hp
  rw [show (if (0 : Int32) = 0 then (0 : Int32) else 1) = 0 from by decide]
  dsimp only at w
  refine lv_if_eq (tgt := 40) hx hb dX15_collect_19 (by decide) (fun _ => ?_) (fun c => absurd (by decide) c)
  refine lv_aload_n hx hb dX15_collect_40 rfl (lv_at hl 1 rfl) ?_
  refine gf_RX15_37_19 S hE w (g_up_o (by omega) g_up_s) rfl dX15_collect_41 ?_
  refine lv_astore_n (lv' := [(1, .ref (q + 6)), (0, .ref y)]) hx hb dX15_collect_44 rfl hl (by decide) rfl (fun ls hl => ?_)
  refine lv_aload_n hx hb dX15_collect_45 rfl (lv_at hl 0 rfl) ?_
  refine va_alen (v := 8) hx hb hE.1 (g_1 w.1 (g_up_o (by omega) (g_up_o (g_nx m7 m0 (by simp)) m7))) 0 10 rfl rfl rfl dX15_collect_46 ?_
  refine lv_istore_n (lv' := [(2, .int 8), (1, .ref (q + 6)), (0, .ref y)]) hx hb dX15_collect_47 rfl hl (by decide) rfl (fun ls hl => ?_)
  refine lv_iconst (v := 0) hx hb dX15_collect_48 (by decide) ?_
  refine lv_istore_n (lv' := [(3, .int 0), (2, .int 8), (1, .ref (q + 6)), (0, .ref y)]) hx hb dX15_collect_49 rfl hl (by decide) rfl (fun ls hl => ?_)
  refine lv_iload_n hx hb dX15_collect_50 rfl (lv_at hl 0 rfl) ?_
  refine lv_iload_n hx hb dX15_collect_51 rfl (lv_at hl 1 rfl) ?_
  refine lv_icmp_ge (tgt := 73) hx hb dX15_collect_52 (by decide) (fun c => absurd c (by decide)) (fun _ => ?_)
  refine lv_aload_n hx hb dX15_collect_55 rfl (lv_at hl 2 rfl) ?_
  refine lv_iload_n hx hb dX15_collect_56 rfl (lv_at hl 0 rfl) ?_
  refine va_aldq hx hb hE.1 (g_1 w.1 (g_up_o (by omega) (g_up_o (g_nx m7 m0 (by simp)) m7))) 0 10 rfl rfl (vp_in_nI (n := 0) (by decide) (by decide)) dX15_collect_57 ?_
  rw [show (va_up (va_up (va_up (va_up (va_up (va_up (va_up (va_up (fun _ => none) (Int32.toNatClampNeg 0) (some q)) (Int32.toNatClampNeg 1) (some q)) (Int32.toNatClampNeg 2) (some q)) (Int32.toNatClampNeg 3) (some q)) (Int32.toNatClampNeg 4) (some q)) (Int32.toNatClampNeg 5) (some q)) (Int32.toNatClampNeg 6) (some q)) (Int32.toNatClampNeg 7) (some q)) (Int32.toNatClampNeg 0) = some q from rfl]
  show W p l e _ s m _ below meth c _ _ _ _ _ (F0 m _ ls (.ref q :: _))
  refine lv_astore (lv' := [(4, .ref q), (3, .int 0), (2, .int 8), (1, .ref (q + 6)), (0, .ref y)]) hx hb dX15_collect_58 hl (by decide) rfl (fun ls hl => ?_)
  refine lv_aload_n hx hb dX15_collect_60 rfl (lv_at hl 4 rfl) ?_
  refine lv_aload hx hb dX15_collect_61 (lv_at hl 0 rfl) ?_
  refine g_calli w (g_runV (As := [.ref q]) (rest := []) S hE w hl (c_reaches_v l D ar κ (g_up (g_up G y (.inr (19, [.ref q, .ref (q + 1), .ref (q + 2), .ref (q + 3), .ref (q + 4), .ref (q + 5), .ref (q + 6), .int 0, .int 0, .int 0, .int 0, .int 45, .int 0, .null]))) sz (.inr (2, [.int 0, .int (-1), .int 0, .ref (q + 3)]))) (sz + 1) y q 0 (g_up_o (by omega) (g_up_o (g_nx m1 m0 (by simp)) m1))) (k_RX15_245 S.2.2.2.2 ⟨Nat.le_of_ble_eq_true rfl, Nat.le_of_ble_eq_true rfl⟩) (g_up_o (by omega) g_up_s) rfl rfl rfl rfl (Nat.le_of_ble_eq_true rfl) dX15_collect_63 ⟨Nat.le_of_ble_eq_true rfl, Nat.le_of_ble_eq_true rfl⟩) (fun r u H locs hp hnz w => ?_)
  obtain ⟨rfl, rfl⟩ := hp
  dsimp only at w
  refine lv_pop hx hb dX15_collect_66 rfl ?_
  refine lv_iinc (v := 1) (lv' := [(3, .int 1), (4, .ref q), (2, .int 8), (1, .ref (q + 6)), (0, .ref y)]) hx hb dX15_collect_67 hl (k := 1) rfl (by decide) (by decide) rfl (fun ls hl => ?_)
  refine lv_goto (tgt := 50) hx hb dX15_collect_70 (by decide) ?_
  refine lv_iload_n hx hb dX15_collect_50 rfl (lv_at hl 0 rfl) ?_
  refine lv_iload_n hx hb dX15_collect_51 rfl (lv_at hl 2 rfl) ?_
  refine lv_icmp_ge (tgt := 73) hx hb dX15_collect_52 (by decide) (fun c => absurd c (by decide)) (fun _ => ?_)
  refine lv_aload_n hx hb dX15_collect_55 rfl (lv_at hl 3 rfl) ?_
  refine lv_iload_n hx hb dX15_collect_56 rfl (lv_at hl 0 rfl) ?_
  refine va_aldq hx hb hE.1 (g_1 w.1 (g_up_o (by omega) (g_up_o (g_nx m7 m0 (by simp)) m7))) 0 10 rfl rfl (vp_in_nI (n := 1) (by decide) (by decide)) dX15_collect_57 ?_
  rw [show (va_up (va_up (va_up (va_up (va_up (va_up (va_up (va_up (fun _ => none) (Int32.toNatClampNeg 0) (some q)) (Int32.toNatClampNeg 1) (some q)) (Int32.toNatClampNeg 2) (some q)) (Int32.toNatClampNeg 3) (some q)) (Int32.toNatClampNeg 4) (some q)) (Int32.toNatClampNeg 5) (some q)) (Int32.toNatClampNeg 6) (some q)) (Int32.toNatClampNeg 7) (some q)) (Int32.toNatClampNeg 1) = some q from rfl]
  show W p l e _ s m _ below meth c _ _ _ _ _ (F0 m _ ls (.ref q :: _))
  refine lv_astore (lv' := [(4, .ref q), (3, .int 1), (2, .int 8), (1, .ref (q + 6)), (0, .ref y)]) hx hb dX15_collect_58 hl (by decide) rfl (fun ls hl => ?_)
  refine lv_aload_n hx hb dX15_collect_60 rfl (lv_at hl 4 rfl) ?_
  refine lv_aload hx hb dX15_collect_61 (lv_at hl 0 rfl) ?_
  refine g_calli w (g_runV (As := [.ref q]) (rest := []) S hE w hl (c_reaches_v l D ar κ (g_up (g_up G y (.inr (19, [.ref q, .ref (q + 1), .ref (q + 2), .ref (q + 3), .ref (q + 4), .ref (q + 5), .ref (q + 6), .int 0, .int 0, .int 0, .int 0, .int 45, .int 0, .null]))) sz (.inr (2, [.int 0, .int (-1), .int 0, .ref (q + 3)]))) (sz + 1) y q 0 (g_up_o (by omega) (g_up_o (g_nx m1 m0 (by simp)) m1))) (k_RX15_245 S.2.2.2.2 ⟨Nat.le_of_ble_eq_true rfl, Nat.le_of_ble_eq_true rfl⟩) (g_up_o (by omega) g_up_s) rfl rfl rfl rfl (Nat.le_of_ble_eq_true rfl) dX15_collect_63 ⟨Nat.le_of_ble_eq_true rfl, Nat.le_of_ble_eq_true rfl⟩) (fun r u H locs hp hnz w => ?_)
  obtain ⟨rfl, rfl⟩ := hp
  dsimp only at w
  refine lv_pop hx hb dX15_collect_66 rfl ?_
  refine lv_iinc (v := 2) (lv' := [(3, .int 2), (4, .ref q), (2, .int 8), (1, .ref (q + 6)), (0, .ref y)]) hx hb dX15_collect_67 hl (k := 1) rfl (by decide) (by decide) rfl (fun ls hl => ?_)
  refine lv_goto (tgt := 50) hx hb dX15_collect_70 (by decide) ?_
  refine lv_iload_n hx hb dX15_collect_50 rfl (lv_at hl 0 rfl) ?_
  refine lv_iload_n hx hb dX15_collect_51 rfl (lv_at hl 2 rfl) ?_
  refine lv_icmp_ge (tgt := 73) hx hb dX15_collect_52 (by decide) (fun c => absurd c (by decide)) (fun _ => ?_)
  refine lv_aload_n hx hb dX15_collect_55 rfl (lv_at hl 3 rfl) ?_
  refine lv_iload_n hx hb dX15_collect_56 rfl (lv_at hl 0 rfl) ?_
  refine va_aldq hx hb hE.1 (g_1 w.1 (g_up_o (by omega) (g_up_o (g_nx m7 m0 (by simp)) m7))) 0 10 rfl rfl (vp_in_nI (n := 2) (by decide) (by decide)) dX15_collect_57 ?_
  rw [show (va_up (va_up (va_up (va_up (va_up (va_up (va_up (va_up (fun _ => none) (Int32.toNatClampNeg 0) (some q)) (Int32.toNatClampNeg 1) (some q)) (Int32.toNatClampNeg 2) (some q)) (Int32.toNatClampNeg 3) (some q)) (Int32.toNatClampNeg 4) (some q)) (Int32.toNatClampNeg 5) (some q)) (Int32.toNatClampNeg 6) (some q)) (Int32.toNatClampNeg 7) (some q)) (Int32.toNatClampNeg 2) = some q from rfl]
  show W p l e _ s m _ below meth c _ _ _ _ _ (F0 m _ ls (.ref q :: _))
  refine lv_astore (lv' := [(4, .ref q), (3, .int 2), (2, .int 8), (1, .ref (q + 6)), (0, .ref y)]) hx hb dX15_collect_58 hl (by decide) rfl (fun ls hl => ?_)
  refine lv_aload_n hx hb dX15_collect_60 rfl (lv_at hl 4 rfl) ?_
  refine lv_aload hx hb dX15_collect_61 (lv_at hl 0 rfl) ?_
  refine g_calli w (g_runV (As := [.ref q]) (rest := []) S hE w hl (c_reaches_v l D ar κ (g_up (g_up G y (.inr (19, [.ref q, .ref (q + 1), .ref (q + 2), .ref (q + 3), .ref (q + 4), .ref (q + 5), .ref (q + 6), .int 0, .int 0, .int 0, .int 0, .int 45, .int 0, .null]))) sz (.inr (2, [.int 0, .int (-1), .int 0, .ref (q + 3)]))) (sz + 1) y q 0 (g_up_o (by omega) (g_up_o (g_nx m1 m0 (by simp)) m1))) (k_RX15_245 S.2.2.2.2 ⟨Nat.le_of_ble_eq_true rfl, Nat.le_of_ble_eq_true rfl⟩) (g_up_o (by omega) g_up_s) rfl rfl rfl rfl (Nat.le_of_ble_eq_true rfl) dX15_collect_63 ⟨Nat.le_of_ble_eq_true rfl, Nat.le_of_ble_eq_true rfl⟩) (fun r u H locs hp hnz w => ?_)
  obtain ⟨rfl, rfl⟩ := hp
  dsimp only at w
  refine lv_pop hx hb dX15_collect_66 rfl ?_
  refine lv_iinc (v := 3) (lv' := [(3, .int 3), (4, .ref q), (2, .int 8), (1, .ref (q + 6)), (0, .ref y)]) hx hb dX15_collect_67 hl (k := 1) rfl (by decide) (by decide) rfl (fun ls hl => ?_)
  refine lv_goto (tgt := 50) hx hb dX15_collect_70 (by decide) ?_
  refine lv_iload_n hx hb dX15_collect_50 rfl (lv_at hl 0 rfl) ?_
  refine lv_iload_n hx hb dX15_collect_51 rfl (lv_at hl 2 rfl) ?_
  refine lv_icmp_ge (tgt := 73) hx hb dX15_collect_52 (by decide) (fun c => absurd c (by decide)) (fun _ => ?_)
  refine lv_aload_n hx hb dX15_collect_55 rfl (lv_at hl 3 rfl) ?_
  refine lv_iload_n hx hb dX15_collect_56 rfl (lv_at hl 0 rfl) ?_
  refine va_aldq hx hb hE.1 (g_1 w.1 (g_up_o (by omega) (g_up_o (g_nx m7 m0 (by simp)) m7))) 0 10 rfl rfl (vp_in_nI (n := 3) (by decide) (by decide)) dX15_collect_57 ?_
  rw [show (va_up (va_up (va_up (va_up (va_up (va_up (va_up (va_up (fun _ => none) (Int32.toNatClampNeg 0) (some q)) (Int32.toNatClampNeg 1) (some q)) (Int32.toNatClampNeg 2) (some q)) (Int32.toNatClampNeg 3) (some q)) (Int32.toNatClampNeg 4) (some q)) (Int32.toNatClampNeg 5) (some q)) (Int32.toNatClampNeg 6) (some q)) (Int32.toNatClampNeg 7) (some q)) (Int32.toNatClampNeg 3) = some q from rfl]
  show W p l e _ s m _ below meth c _ _ _ _ _ (F0 m _ ls (.ref q :: _))
  refine lv_astore (lv' := [(4, .ref q), (3, .int 3), (2, .int 8), (1, .ref (q + 6)), (0, .ref y)]) hx hb dX15_collect_58 hl (by decide) rfl (fun ls hl => ?_)
  refine lv_aload_n hx hb dX15_collect_60 rfl (lv_at hl 4 rfl) ?_
  refine lv_aload hx hb dX15_collect_61 (lv_at hl 0 rfl) ?_
  refine g_calli w (g_runV (As := [.ref q]) (rest := []) S hE w hl (c_reaches_v l D ar κ (g_up (g_up G y (.inr (19, [.ref q, .ref (q + 1), .ref (q + 2), .ref (q + 3), .ref (q + 4), .ref (q + 5), .ref (q + 6), .int 0, .int 0, .int 0, .int 0, .int 45, .int 0, .null]))) sz (.inr (2, [.int 0, .int (-1), .int 0, .ref (q + 3)]))) (sz + 1) y q 0 (g_up_o (by omega) (g_up_o (g_nx m1 m0 (by simp)) m1))) (k_RX15_245 S.2.2.2.2 ⟨Nat.le_of_ble_eq_true rfl, Nat.le_of_ble_eq_true rfl⟩) (g_up_o (by omega) g_up_s) rfl rfl rfl rfl (Nat.le_of_ble_eq_true rfl) dX15_collect_63 ⟨Nat.le_of_ble_eq_true rfl, Nat.le_of_ble_eq_true rfl⟩) (fun r u H locs hp hnz w => ?_)
  obtain ⟨rfl, rfl⟩ := hp
  dsimp only at w
  refine lv_pop hx hb dX15_collect_66 rfl ?_
  refine lv_iinc (v := 4) (lv' := [(3, .int 4), (4, .ref q), (2, .int 8), (1, .ref (q + 6)), (0, .ref y)]) hx hb dX15_collect_67 hl (k := 1) rfl (by decide) (by decide) rfl (fun ls hl => ?_)
  refine lv_goto (tgt := 50) hx hb dX15_collect_70 (by decide) ?_
  refine lv_iload_n hx hb dX15_collect_50 rfl (lv_at hl 0 rfl) ?_
  refine lv_iload_n hx hb dX15_collect_51 rfl (lv_at hl 2 rfl) ?_
  refine lv_icmp_ge (tgt := 73) hx hb dX15_collect_52 (by decide) (fun c => absurd c (by decide)) (fun _ => ?_)
  refine lv_aload_n hx hb dX15_collect_55 rfl (lv_at hl 3 rfl) ?_
  refine lv_iload_n hx hb dX15_collect_56 rfl (lv_at hl 0 rfl) ?_
  refine va_aldq hx hb hE.1 (g_1 w.1 (g_up_o (by omega) (g_up_o (g_nx m7 m0 (by simp)) m7))) 0 10 rfl rfl (vp_in_nI (n := 4) (by decide) (by decide)) dX15_collect_57 ?_
  rw [show (va_up (va_up (va_up (va_up (va_up (va_up (va_up (va_up (fun _ => none) (Int32.toNatClampNeg 0) (some q)) (Int32.toNatClampNeg 1) (some q)) (Int32.toNatClampNeg 2) (some q)) (Int32.toNatClampNeg 3) (some q)) (Int32.toNatClampNeg 4) (some q)) (Int32.toNatClampNeg 5) (some q)) (Int32.toNatClampNeg 6) (some q)) (Int32.toNatClampNeg 7) (some q)) (Int32.toNatClampNeg 4) = some q from rfl]
  show W p l e _ s m _ below meth c _ _ _ _ _ (F0 m _ ls (.ref q :: _))
  refine lv_astore (lv' := [(4, .ref q), (3, .int 4), (2, .int 8), (1, .ref (q + 6)), (0, .ref y)]) hx hb dX15_collect_58 hl (by decide) rfl (fun ls hl => ?_)
  refine lv_aload_n hx hb dX15_collect_60 rfl (lv_at hl 4 rfl) ?_
  refine lv_aload hx hb dX15_collect_61 (lv_at hl 0 rfl) ?_
  refine g_calli w (g_runV (As := [.ref q]) (rest := []) S hE w hl (c_reaches_v l D ar κ (g_up (g_up G y (.inr (19, [.ref q, .ref (q + 1), .ref (q + 2), .ref (q + 3), .ref (q + 4), .ref (q + 5), .ref (q + 6), .int 0, .int 0, .int 0, .int 0, .int 45, .int 0, .null]))) sz (.inr (2, [.int 0, .int (-1), .int 0, .ref (q + 3)]))) (sz + 1) y q 0 (g_up_o (by omega) (g_up_o (g_nx m1 m0 (by simp)) m1))) (k_RX15_245 S.2.2.2.2 ⟨Nat.le_of_ble_eq_true rfl, Nat.le_of_ble_eq_true rfl⟩) (g_up_o (by omega) g_up_s) rfl rfl rfl rfl (Nat.le_of_ble_eq_true rfl) dX15_collect_63 ⟨Nat.le_of_ble_eq_true rfl, Nat.le_of_ble_eq_true rfl⟩) (fun r u H locs hp hnz w => ?_)
  obtain ⟨rfl, rfl⟩ := hp
  dsimp only at w
  refine lv_pop hx hb dX15_collect_66 rfl ?_
  refine lv_iinc (v := 5) (lv' := [(3, .int 5), (4, .ref q), (2, .int 8), (1, .ref (q + 6)), (0, .ref y)]) hx hb dX15_collect_67 hl (k := 1) rfl (by decide) (by decide) rfl (fun ls hl => ?_)
  refine lv_goto (tgt := 50) hx hb dX15_collect_70 (by decide) ?_
  refine lv_iload_n hx hb dX15_collect_50 rfl (lv_at hl 0 rfl) ?_
  refine lv_iload_n hx hb dX15_collect_51 rfl (lv_at hl 2 rfl) ?_
  refine lv_icmp_ge (tgt := 73) hx hb dX15_collect_52 (by decide) (fun c => absurd c (by decide)) (fun _ => ?_)
  refine lv_aload_n hx hb dX15_collect_55 rfl (lv_at hl 3 rfl) ?_
  refine lv_iload_n hx hb dX15_collect_56 rfl (lv_at hl 0 rfl) ?_
  refine va_aldq hx hb hE.1 (g_1 w.1 (g_up_o (by omega) (g_up_o (g_nx m7 m0 (by simp)) m7))) 0 10 rfl rfl (vp_in_nI (n := 5) (by decide) (by decide)) dX15_collect_57 ?_
  rw [show (va_up (va_up (va_up (va_up (va_up (va_up (va_up (va_up (fun _ => none) (Int32.toNatClampNeg 0) (some q)) (Int32.toNatClampNeg 1) (some q)) (Int32.toNatClampNeg 2) (some q)) (Int32.toNatClampNeg 3) (some q)) (Int32.toNatClampNeg 4) (some q)) (Int32.toNatClampNeg 5) (some q)) (Int32.toNatClampNeg 6) (some q)) (Int32.toNatClampNeg 7) (some q)) (Int32.toNatClampNeg 5) = some q from rfl]
  show W p l e _ s m _ below meth c _ _ _ _ _ (F0 m _ ls (.ref q :: _))
  refine lv_astore (lv' := [(4, .ref q), (3, .int 5), (2, .int 8), (1, .ref (q + 6)), (0, .ref y)]) hx hb dX15_collect_58 hl (by decide) rfl (fun ls hl => ?_)
  refine lv_aload_n hx hb dX15_collect_60 rfl (lv_at hl 4 rfl) ?_
  refine lv_aload hx hb dX15_collect_61 (lv_at hl 0 rfl) ?_
  refine g_calli w (g_runV (As := [.ref q]) (rest := []) S hE w hl (c_reaches_v l D ar κ (g_up (g_up G y (.inr (19, [.ref q, .ref (q + 1), .ref (q + 2), .ref (q + 3), .ref (q + 4), .ref (q + 5), .ref (q + 6), .int 0, .int 0, .int 0, .int 0, .int 45, .int 0, .null]))) sz (.inr (2, [.int 0, .int (-1), .int 0, .ref (q + 3)]))) (sz + 1) y q 0 (g_up_o (by omega) (g_up_o (g_nx m1 m0 (by simp)) m1))) (k_RX15_245 S.2.2.2.2 ⟨Nat.le_of_ble_eq_true rfl, Nat.le_of_ble_eq_true rfl⟩) (g_up_o (by omega) g_up_s) rfl rfl rfl rfl (Nat.le_of_ble_eq_true rfl) dX15_collect_63 ⟨Nat.le_of_ble_eq_true rfl, Nat.le_of_ble_eq_true rfl⟩) (fun r u H locs hp hnz w => ?_)
  obtain ⟨rfl, rfl⟩ := hp
  dsimp only at w
  refine lv_pop hx hb dX15_collect_66 rfl ?_
  refine lv_iinc (v := 6) (lv' := [(3, .int 6), (4, .ref q), (2, .int 8), (1, .ref (q + 6)), (0, .ref y)]) hx hb dX15_collect_67 hl (k := 1) rfl (by decide) (by decide) rfl (fun ls hl => ?_)
  refine lv_goto (tgt := 50) hx hb dX15_collect_70 (by decide) ?_
  refine lv_iload_n hx hb dX15_collect_50 rfl (lv_at hl 0 rfl) ?_
  refine lv_iload_n hx hb dX15_collect_51 rfl (lv_at hl 2 rfl) ?_
  refine lv_icmp_ge (tgt := 73) hx hb dX15_collect_52 (by decide) (fun c => absurd c (by decide)) (fun _ => ?_)
  refine lv_aload_n hx hb dX15_collect_55 rfl (lv_at hl 3 rfl) ?_
  refine lv_iload_n hx hb dX15_collect_56 rfl (lv_at hl 0 rfl) ?_
  refine va_aldq hx hb hE.1 (g_1 w.1 (g_up_o (by omega) (g_up_o (g_nx m7 m0 (by simp)) m7))) 0 10 rfl rfl (vp_in_nI (n := 6) (by decide) (by decide)) dX15_collect_57 ?_
  rw [show (va_up (va_up (va_up (va_up (va_up (va_up (va_up (va_up (fun _ => none) (Int32.toNatClampNeg 0) (some q)) (Int32.toNatClampNeg 1) (some q)) (Int32.toNatClampNeg 2) (some q)) (Int32.toNatClampNeg 3) (some q)) (Int32.toNatClampNeg 4) (some q)) (Int32.toNatClampNeg 5) (some q)) (Int32.toNatClampNeg 6) (some q)) (Int32.toNatClampNeg 7) (some q)) (Int32.toNatClampNeg 6) = some q from rfl]
  show W p l e _ s m _ below meth c _ _ _ _ _ (F0 m _ ls (.ref q :: _))
  refine lv_astore (lv' := [(4, .ref q), (3, .int 6), (2, .int 8), (1, .ref (q + 6)), (0, .ref y)]) hx hb dX15_collect_58 hl (by decide) rfl (fun ls hl => ?_)
  refine lv_aload_n hx hb dX15_collect_60 rfl (lv_at hl 4 rfl) ?_
  refine lv_aload hx hb dX15_collect_61 (lv_at hl 0 rfl) ?_
  refine g_calli w (g_runV (As := [.ref q]) (rest := []) S hE w hl (c_reaches_v l D ar κ (g_up (g_up G y (.inr (19, [.ref q, .ref (q + 1), .ref (q + 2), .ref (q + 3), .ref (q + 4), .ref (q + 5), .ref (q + 6), .int 0, .int 0, .int 0, .int 0, .int 45, .int 0, .null]))) sz (.inr (2, [.int 0, .int (-1), .int 0, .ref (q + 3)]))) (sz + 1) y q 0 (g_up_o (by omega) (g_up_o (g_nx m1 m0 (by simp)) m1))) (k_RX15_245 S.2.2.2.2 ⟨Nat.le_of_ble_eq_true rfl, Nat.le_of_ble_eq_true rfl⟩) (g_up_o (by omega) g_up_s) rfl rfl rfl rfl (Nat.le_of_ble_eq_true rfl) dX15_collect_63 ⟨Nat.le_of_ble_eq_true rfl, Nat.le_of_ble_eq_true rfl⟩) (fun r u H locs hp hnz w => ?_)
  obtain ⟨rfl, rfl⟩ := hp
  dsimp only at w
  refine lv_pop hx hb dX15_collect_66 rfl ?_
  refine lv_iinc (v := 7) (lv' := [(3, .int 7), (4, .ref q), (2, .int 8), (1, .ref (q + 6)), (0, .ref y)]) hx hb dX15_collect_67 hl (k := 1) rfl (by decide) (by decide) rfl (fun ls hl => ?_)
  refine lv_goto (tgt := 50) hx hb dX15_collect_70 (by decide) ?_
  refine lv_iload_n hx hb dX15_collect_50 rfl (lv_at hl 0 rfl) ?_
  refine lv_iload_n hx hb dX15_collect_51 rfl (lv_at hl 2 rfl) ?_
  refine lv_icmp_ge (tgt := 73) hx hb dX15_collect_52 (by decide) (fun c => absurd c (by decide)) (fun _ => ?_)
  refine lv_aload_n hx hb dX15_collect_55 rfl (lv_at hl 3 rfl) ?_
  refine lv_iload_n hx hb dX15_collect_56 rfl (lv_at hl 0 rfl) ?_
  refine va_aldq hx hb hE.1 (g_1 w.1 (g_up_o (by omega) (g_up_o (g_nx m7 m0 (by simp)) m7))) 0 10 rfl rfl (vp_in_nI (n := 7) (by decide) (by decide)) dX15_collect_57 ?_
  rw [show (va_up (va_up (va_up (va_up (va_up (va_up (va_up (va_up (fun _ => none) (Int32.toNatClampNeg 0) (some q)) (Int32.toNatClampNeg 1) (some q)) (Int32.toNatClampNeg 2) (some q)) (Int32.toNatClampNeg 3) (some q)) (Int32.toNatClampNeg 4) (some q)) (Int32.toNatClampNeg 5) (some q)) (Int32.toNatClampNeg 6) (some q)) (Int32.toNatClampNeg 7) (some q)) (Int32.toNatClampNeg 7) = some q from rfl]
  show W p l e _ s m _ below meth c _ _ _ _ _ (F0 m _ ls (.ref q :: _))
  refine lv_astore (lv' := [(4, .ref q), (3, .int 7), (2, .int 8), (1, .ref (q + 6)), (0, .ref y)]) hx hb dX15_collect_58 hl (by decide) rfl (fun ls hl => ?_)
  refine lv_aload_n hx hb dX15_collect_60 rfl (lv_at hl 4 rfl) ?_
  refine lv_aload hx hb dX15_collect_61 (lv_at hl 0 rfl) ?_
  refine g_calli w (g_runV (As := [.ref q]) (rest := []) S hE w hl (c_reaches_v l D ar κ (g_up (g_up G y (.inr (19, [.ref q, .ref (q + 1), .ref (q + 2), .ref (q + 3), .ref (q + 4), .ref (q + 5), .ref (q + 6), .int 0, .int 0, .int 0, .int 0, .int 45, .int 0, .null]))) sz (.inr (2, [.int 0, .int (-1), .int 0, .ref (q + 3)]))) (sz + 1) y q 0 (g_up_o (by omega) (g_up_o (g_nx m1 m0 (by simp)) m1))) (k_RX15_245 S.2.2.2.2 ⟨Nat.le_of_ble_eq_true rfl, Nat.le_of_ble_eq_true rfl⟩) (g_up_o (by omega) g_up_s) rfl rfl rfl rfl (Nat.le_of_ble_eq_true rfl) dX15_collect_63 ⟨Nat.le_of_ble_eq_true rfl, Nat.le_of_ble_eq_true rfl⟩) (fun r u H locs hp hnz w => ?_)
  obtain ⟨rfl, rfl⟩ := hp
  dsimp only at w
  refine lv_pop hx hb dX15_collect_66 rfl ?_
  refine lv_iinc (v := 8) (lv' := [(3, .int 8), (4, .ref q), (2, .int 8), (1, .ref (q + 6)), (0, .ref y)]) hx hb dX15_collect_67 hl (k := 1) rfl (by decide) (by decide) rfl (fun ls hl => ?_)
  refine lv_goto (tgt := 50) hx hb dX15_collect_70 (by decide) ?_
  refine lv_iload_n hx hb dX15_collect_50 rfl (lv_at hl 0 rfl) ?_
  refine lv_iload_n hx hb dX15_collect_51 rfl (lv_at hl 2 rfl) ?_
  refine lv_icmp_ge (tgt := 73) hx hb dX15_collect_52 (by decide) (fun _ => ?_) (fun c => absurd (by decide) c)
  refine lv_aload_n hx hb dX15_collect_73 rfl (lv_at hl 4 rfl) ?_
  refine lv_aload_n hx hb dX15_collect_74 rfl (lv_at hl 4 rfl) ?_
  refine gf_RX15_249_19 S hE w (g_up_o (by omega) g_up_s) rfl dX15_collect_75 ?_
  refine g_calli w (g_runV (As := [.null]) (rest := []) S hE w hl (c_reaches_0 l D ar κ (g_up (g_up G y (.inr (19, [.ref q, .ref (q + 1), .ref (q + 2), .ref (q + 3), .ref (q + 4), .ref (q + 5), .ref (q + 6), .int 0, .int 0, .int 0, .int 0, .int 45, .int 0, .null]))) sz (.inr (2, [.int 0, .int (-1), .int 0, .ref (q + 3)]))) (sz + 1) y) (k_RX15_245 S.2.2.2.2 ⟨Nat.le_of_ble_eq_true rfl, Nat.le_of_ble_eq_true rfl⟩) (g_up_o (by omega) g_up_s) rfl rfl rfl rfl (Nat.le_of_ble_eq_true rfl) dX15_collect_78 ⟨Nat.le_of_ble_eq_true rfl, Nat.le_of_ble_eq_true rfl⟩) (fun r u H locs hp hnz w => ?_)
  obtain ⟨rfl, rfl⟩ := hp
  dsimp only at w
  refine lv_pop hx hb dX15_collect_81 rfl ?_
  refine lv_aload_n hx hb dX15_collect_82 rfl (lv_at hl 4 rfl) ?_
  refine gf_RX15_31_19 S hE w (g_up_o (by omega) g_up_s) rfl dX15_collect_83 ?_
  refine g_callq w (g_runV (As := []) (rest := []) S hE w hl (c_iterator l D ar κ (g_up (g_up G y (.inr (19, [.ref q, .ref (q + 1), .ref (q + 2), .ref (q + 3), .ref (q + 4), .ref (q + 5), .ref (q + 6), .int 0, .int 0, .int 0, .int 0, .int 45, .int 0, .null]))) sz (.inr (2, [.int 0, .int (-1), .int 0, .ref (q + 3)]))) (sz + 1) (q + 4) 0 (some (κ 0)) 0 (g_up_o (by omega) (g_up_o (g_nx m5 m0 (by simp)) m5))) (k_RX15_183 S.2.2.2.2 ⟨Nat.le_of_ble_eq_true rfl, Nat.le_of_ble_eq_true rfl⟩) (g_up_o (by omega) (g_up_o (g_nx m5 m0 (by simp)) m5)) rfl rfl rfl rfl (Nat.le_of_ble_eq_true rfl) dX15_collect_86 ⟨Nat.le_of_ble_eq_true rfl, Nat.le_of_ble_eq_true rfl⟩) (fun r u H locs hp hnz w => ?_)
  obtain ⟨rfl, rfl⟩ := hp
  dsimp only at w
  refine lv_astore_n (lv' := [(1, .ref (sz + 1)), (3, .int 8), (4, .ref q), (2, .int 8), (0, .ref y)]) hx hb dX15_collect_89 rfl hl (by decide) rfl (fun ls hl => ?_)
  refine lv_aload_n hx hb dX15_collect_90 rfl (lv_at hl 0 rfl) ?_
  refine g_callFi w (g_runF (As := []) (rest := []) S hE w hl (c_hasNext l D ar κ (g_up (g_up (g_up G y (.inr (19, [.ref q, .ref (q + 1), .ref (q + 2), .ref (q + 3), .ref (q + 4), .ref (q + 5), .ref (q + 6), .int 0, .int 0, .int 0, .int 0, .int 45, .int 0, .null]))) sz (.inr (2, [.int 0, .int (-1), .int 0, .ref (q + 3)]))) (sz + 1) (.inr (2, [.int 0, .int (-1), .int 0, .ref (q + 4)]))) (sz + 2) (sz + 1) 0 (-1) (q + 4) 0 (some (κ 0)) 0 g_up_s (g_up_o (by omega) (g_up_o (by omega) (g_up_o (g_nx m5 m0 (by simp)) m5)))) (kF_RX15_187_2 S.2.2.2.2 (hE.2.1.2.1 _ (List.mem_of_getElem? (i := 1) rfl)) ⟨Nat.le_of_ble_eq_true rfl, Nat.le_of_ble_eq_true rfl⟩) g_up_s rfl rfl rfl rfl (Nat.le_of_ble_eq_true rfl) dX15_collect_91 ⟨Nat.le_of_ble_eq_true rfl, Nat.le_of_ble_eq_true rfl⟩) (fun r u H locs hp hnz w => ?_)
  obtain ⟨rfl, rfl⟩ := hp
  rw [show (if (0 : Int32) = 0 then (0 : Int32) else 1) = 0 from by decide]
  dsimp only at w
  refine lv_if_eq (tgt := 235) hx hb dX15_collect_96 (by decide) (fun _ => ?_) (fun c => absurd (by decide) c)
  refine lv_iconst (v := 1) hx hb dX15_collect_235 (by decide) ?_
  refine lv_istore_n (lv' := [(1, .int 1), (3, .int 8), (4, .ref q), (2, .int 8), (0, .ref y)]) hx hb dX15_collect_236 rfl hl (by decide) rfl (fun ls hl => ?_)
  refine lv_iload_n hx hb dX15_collect_237 rfl (lv_at hl 0 rfl) ?_
  refine lv_if_eq (tgt := 313) hx hb dX15_collect_238 (by decide) (fun c => absurd c (by decide)) (fun _ => ?_)
  refine lv_iconst (v := 0) hx hb dX15_collect_241 (by decide) ?_
  refine lv_istore_n (lv' := [(1, .int 0), (3, .int 8), (4, .ref q), (2, .int 8), (0, .ref y)]) hx hb dX15_collect_242 rfl hl (by decide) rfl (fun ls hl => ?_)
  refine lv_aload_n hx hb dX15_collect_243 rfl (lv_at hl 4 rfl) ?_
  refine gf_RX15_28_19 S hE w (g_up_o (by omega) (g_up_o (by omega) g_up_s)) rfl dX15_collect_244 ?_
  refine g_callq w (g_runV (As := []) (rest := []) S hE w hl (c_iterator l D ar κ (g_up (g_up (g_up G y (.inr (19, [.ref q, .ref (q + 1), .ref (q + 2), .ref (q + 3), .ref (q + 4), .ref (q + 5), .ref (q + 6), .int 0, .int 0, .int 0, .int 0, .int 45, .int 0, .null]))) sz (.inr (2, [.int 0, .int (-1), .int 0, .ref (q + 3)]))) (sz + 1) (.inr (2, [.int 0, .int (-1), .int 0, .ref (q + 4)]))) (sz + 2) (q + 3) 0 (some (κ 0)) 0 (g_up_o (by omega) (g_up_o (by omega) (g_up_o (g_nx m4 m0 (by simp)) m4)))) (k_RX15_183 S.2.2.2.2 ⟨Nat.le_of_ble_eq_true rfl, Nat.le_of_ble_eq_true rfl⟩) (g_up_o (by omega) (g_up_o (by omega) (g_up_o (g_nx m4 m0 (by simp)) m4))) rfl rfl rfl rfl (Nat.le_of_ble_eq_true rfl) dX15_collect_247 ⟨Nat.le_of_ble_eq_true rfl, Nat.le_of_ble_eq_true rfl⟩) (fun r u H locs hp hnz w => ?_)
  obtain ⟨rfl, rfl⟩ := hp
  dsimp only at w
  refine lv_astore_n (lv' := [(2, .ref (sz + 2)), (1, .int 0), (3, .int 8), (4, .ref q), (0, .ref y)]) hx hb dX15_collect_250 rfl hl (by decide) rfl (fun ls hl => ?_)
  refine lv_aload_n hx hb dX15_collect_251 rfl (lv_at hl 0 rfl) ?_
  refine g_callFi w (g_runF (As := []) (rest := []) S hE w hl (c_hasNext l D ar κ (g_up (g_up (g_up (g_up G y (.inr (19, [.ref q, .ref (q + 1), .ref (q + 2), .ref (q + 3), .ref (q + 4), .ref (q + 5), .ref (q + 6), .int 0, .int 0, .int 0, .int 0, .int 45, .int 0, .null]))) sz (.inr (2, [.int 0, .int (-1), .int 0, .ref (q + 3)]))) (sz + 1) (.inr (2, [.int 0, .int (-1), .int 0, .ref (q + 4)]))) (sz + 2) (.inr (2, [.int 0, .int (-1), .int 0, .ref (q + 3)]))) (sz + 3) (sz + 2) 0 (-1) (q + 3) 0 (some (κ 0)) 0 g_up_s (g_up_o (by omega) (g_up_o (by omega) (g_up_o (by omega) (g_up_o (g_nx m4 m0 (by simp)) m4))))) (kF_RX15_187_2 S.2.2.2.2 (hE.2.1.2.1 _ (List.mem_of_getElem? (i := 1) rfl)) ⟨Nat.le_of_ble_eq_true rfl, Nat.le_of_ble_eq_true rfl⟩) g_up_s rfl rfl rfl rfl (Nat.le_of_ble_eq_true rfl) dX15_collect_252 ⟨Nat.le_of_ble_eq_true rfl, Nat.le_of_ble_eq_true rfl⟩) (fun r u H locs hp hnz w => ?_)
  obtain ⟨rfl, rfl⟩ := hp
  rw [show (if (0 : Int32) = 0 then (0 : Int32) else 1) = 0 from by decide]
  dsimp only at w
  refine lv_if_eq (tgt := 310) hx hb dX15_collect_257 (by decide) (fun _ => ?_) (fun c => absurd (by decide) c)
  refine lv_goto (tgt := 237) hx hb dX15_collect_310 (by decide) ?_
  refine lv_iload_n hx hb dX15_collect_237 rfl (lv_at hl 1 rfl) ?_
  refine lv_if_eq (tgt := 313) hx hb dX15_collect_238 (by decide) (fun _ => ?_) (fun c => absurd (by decide) c)
  refine lv_aload_n hx hb dX15_collect_313 rfl (lv_at hl 4 rfl) ?_
  refine gf_RX15_28_19 S hE w (g_up_o (by omega) (g_up_o (by omega) (g_up_o (by omega) g_up_s))) rfl dX15_collect_314 ?_
  refine g_calli w (g_runV (As := []) (rest := []) S hE w hl (c_size l D ar κ (g_up (g_up (g_up (g_up G y (.inr (19, [.ref q, .ref (q + 1), .ref (q + 2), .ref (q + 3), .ref (q + 4), .ref (q + 5), .ref (q + 6), .int 0, .int 0, .int 0, .int 0, .int 45, .int 0, .null]))) sz (.inr (2, [.int 0, .int (-1), .int 0, .ref (q + 3)]))) (sz + 1) (.inr (2, [.int 0, .int (-1), .int 0, .ref (q + 4)]))) (sz + 2) (.inr (2, [.int 0, .int (-1), .int 0, .ref (q + 3)]))) (sz + 3) (q + 3) 0 (some (κ 0)) 0 (g_up_o (by omega) (g_up_o (by omega) (g_up_o (by omega) (g_up_o (g_nx m4 m0 (by simp)) m4))))) (k_RX15_58 S.2.2.2.2 ⟨Nat.le_of_ble_eq_true rfl, Nat.le_of_ble_eq_true rfl⟩) (g_up_o (by omega) (g_up_o (by omega) (g_up_o (by omega) (g_up_o (g_nx m4 m0 (by simp)) m4)))) rfl rfl rfl rfl (Nat.le_of_ble_eq_true rfl) dX15_collect_317 ⟨Nat.le_of_ble_eq_true rfl, Nat.le_of_ble_eq_true rfl⟩) (fun r u H locs hp hnz w => ?_)
  obtain ⟨rfl, rfl⟩ := hp
  dsimp only at w
  refine lv_istore_n (lv' := [(2, .int 0), (1, .int 0), (3, .int 8), (4, .ref q), (0, .ref y)]) hx hb dX15_collect_320 rfl hl (by decide) rfl (fun ls hl => ?_)
  refine nw_RX15_18 S hE w (Nat.le_of_ble_eq_true rfl) (Nat.le_of_ble_eq_true rfl) dX15_collect_321 (fun H w => ?_)
  refine lv_dup hx hb dX15_collect_324 rfl ?_
  refine g_callv w (g_runI (As := []) (rest := [.ref (sz + 3)]) S hE w hl (c_ArrayList_init l D ar κ (g_up (g_up (g_up (g_up (g_up G y (.inr (19, [.ref q, .ref (q + 1), .ref (q + 2), .ref (q + 3), .ref (q + 4), .ref (q + 5), .ref (q + 6), .int 0, .int 0, .int 0, .int 0, .int 45, .int 0, .null]))) sz (.inr (2, [.int 0, .int (-1), .int 0, .ref (q + 3)]))) (sz + 1) (.inr (2, [.int 0, .int (-1), .int 0, .ref (q + 4)]))) (sz + 2) (.inr (2, [.int 0, .int (-1), .int 0, .ref (q + 3)]))) (sz + 3) (.inr (3, [.int 0, .null, .int 0]))) (sz + 4) (sz + 3) g_up_s) (k_RX15_20 S.2.2.2.2 ⟨Nat.le_of_ble_eq_true rfl, Nat.le_of_ble_eq_true rfl⟩) rfl rfl (Nat.le_of_ble_eq_true rfl) dX15_collect_325 ⟨Nat.le_of_ble_eq_true rfl, Nat.le_of_ble_eq_true rfl⟩) (fun u H locs hp hnz w => ?_)
  obtain rfl := hp
  dsimp only at w
  have w := g_eqw w g_over
  refine lv_astore_n (lv' := [(3, .ref (sz + 3)), (2, .int 0), (1, .int 0), (4, .ref q), (0, .ref y)]) hx hb dX15_collect_328 rfl hl (by decide) rfl (fun ls hl => ?_)
  refine lv_aload_n hx hb dX15_collect_329 rfl (lv_at hl 4 rfl) ?_
  refine gf_RX15_28_19 S hE w (g_up_o (by omega) (g_up_o (by omega) (g_up_o (by omega) (g_up_o (by omega) g_up_s)))) rfl dX15_collect_330 ?_
  refine g_callq w (g_runV (As := []) (rest := []) S hE w hl (c_iterator l D ar κ (g_up (g_up (g_up (g_up (g_up G y (.inr (19, [.ref q, .ref (q + 1), .ref (q + 2), .ref (q + 3), .ref (q + 4), .ref (q + 5), .ref (q + 6), .int 0, .int 0, .int 0, .int 0, .int 45, .int 0, .null]))) sz (.inr (2, [.int 0, .int (-1), .int 0, .ref (q + 3)]))) (sz + 1) (.inr (2, [.int 0, .int (-1), .int 0, .ref (q + 4)]))) (sz + 2) (.inr (2, [.int 0, .int (-1), .int 0, .ref (q + 3)]))) (sz + 3) (.inr (3, [.int 0, .ref (κ 0), .int 0]))) (sz + 4) (q + 3) 0 (some (κ 0)) 0 (g_up_o (by omega) (g_up_o (by omega) (g_up_o (by omega) (g_up_o (by omega) (g_up_o (g_nx m4 m0 (by simp)) m4)))))) (k_RX15_183 S.2.2.2.2 ⟨Nat.le_of_ble_eq_true rfl, Nat.le_of_ble_eq_true rfl⟩) (g_up_o (by omega) (g_up_o (by omega) (g_up_o (by omega) (g_up_o (by omega) (g_up_o (g_nx m4 m0 (by simp)) m4))))) rfl rfl rfl rfl (Nat.le_of_ble_eq_true rfl) dX15_collect_333 ⟨Nat.le_of_ble_eq_true rfl, Nat.le_of_ble_eq_true rfl⟩) (fun r u H locs hp hnz w => ?_)
  obtain ⟨rfl, rfl⟩ := hp
  dsimp only at w
  refine lv_astore (lv' := [(4, .ref (sz + 4)), (3, .ref (sz + 3)), (2, .int 0), (1, .int 0), (0, .ref y)]) hx hb dX15_collect_336 hl (by decide) rfl (fun ls hl => ?_)
  refine lv_aload hx hb dX15_collect_338 (lv_at hl 0 rfl) ?_
  refine g_callFi w (g_runF (As := []) (rest := []) S hE w hl (c_hasNext l D ar κ (g_up (g_up (g_up (g_up (g_up (g_up G y (.inr (19, [.ref q, .ref (q + 1), .ref (q + 2), .ref (q + 3), .ref (q + 4), .ref (q + 5), .ref (q + 6), .int 0, .int 0, .int 0, .int 0, .int 45, .int 0, .null]))) sz (.inr (2, [.int 0, .int (-1), .int 0, .ref (q + 3)]))) (sz + 1) (.inr (2, [.int 0, .int (-1), .int 0, .ref (q + 4)]))) (sz + 2) (.inr (2, [.int 0, .int (-1), .int 0, .ref (q + 3)]))) (sz + 3) (.inr (3, [.int 0, .ref (κ 0), .int 0]))) (sz + 4) (.inr (2, [.int 0, .int (-1), .int 0, .ref (q + 3)]))) (sz + 5) (sz + 4) 0 (-1) (q + 3) 0 (some (κ 0)) 0 g_up_s (g_up_o (by omega) (g_up_o (by omega) (g_up_o (by omega) (g_up_o (by omega) (g_up_o (by omega) (g_up_o (g_nx m4 m0 (by simp)) m4))))))) (kF_RX15_187_2 S.2.2.2.2 (hE.2.1.2.1 _ (List.mem_of_getElem? (i := 1) rfl)) ⟨Nat.le_of_ble_eq_true rfl, Nat.le_of_ble_eq_true rfl⟩) g_up_s rfl rfl rfl rfl (Nat.le_of_ble_eq_true rfl) dX15_collect_340 ⟨Nat.le_of_ble_eq_true rfl, Nat.le_of_ble_eq_true rfl⟩) (fun r u H locs hp hnz w => ?_)
  obtain ⟨rfl, rfl⟩ := hp
  rw [show (if (0 : Int32) = 0 then (0 : Int32) else 1) = 0 from by decide]
  dsimp only at w
  refine lv_if_eq (tgt := 378) hx hb dX15_collect_345 (by decide) (fun _ => ?_) (fun c => absurd (by decide) c)
  refine lv_aload_n hx hb dX15_collect_378 rfl (lv_at hl 4 rfl) ?_
  refine gf_RX15_28_19 S hE w (g_up_o (by omega) (g_up_o (by omega) (g_up_o (by omega) (g_up_o (by omega) (g_up_o (by omega) g_up_s))))) rfl dX15_collect_379 ?_
  refine g_callv w (g_runV (As := []) (rest := []) S hE w hl (c_clear0 l D ar κ (g_up (g_up (g_up (g_up (g_up (g_up G y (.inr (19, [.ref q, .ref (q + 1), .ref (q + 2), .ref (q + 3), .ref (q + 4), .ref (q + 5), .ref (q + 6), .int 0, .int 0, .int 0, .int 0, .int 45, .int 0, .null]))) sz (.inr (2, [.int 0, .int (-1), .int 0, .ref (q + 3)]))) (sz + 1) (.inr (2, [.int 0, .int (-1), .int 0, .ref (q + 4)]))) (sz + 2) (.inr (2, [.int 0, .int (-1), .int 0, .ref (q + 3)]))) (sz + 3) (.inr (3, [.int 0, .ref (κ 0), .int 0]))) (sz + 4) (.inr (2, [.int 0, .int (-1), .int 0, .ref (q + 3)]))) (sz + 5) (q + 3) 0 (g_up_o (by omega) (g_up_o (by omega) (g_up_o (by omega) (g_up_o (by omega) (g_up_o (by omega) (g_up_o (g_nx m4 m0 (by simp)) m4))))))) (k_RX15_93 S.2.2.2.2 ⟨Nat.le_of_ble_eq_true rfl, Nat.le_of_ble_eq_true rfl⟩) (g_up_o (by omega) (g_up_o (by omega) (g_up_o (by omega) (g_up_o (by omega) (g_up_o (by omega) (g_up_o (g_nx m4 m0 (by simp)) m4)))))) rfl rfl rfl rfl (Nat.le_of_ble_eq_true rfl) dX15_collect_382 ⟨Nat.le_of_ble_eq_true rfl, Nat.le_of_ble_eq_true rfl⟩) (fun u H locs hp hnz w => ?_)
  obtain rfl := hp
  dsimp only at w
  rw [show ((0 + 1) : Int32) = 1 from by decide +kernel] at w
  refine lv_aload_n hx hb dX15_collect_385 rfl (lv_at hl 4 rfl) ?_
  refine gf_RX15_28_19 S hE w (g_up_o (g_nx m0 m4 (by simp)) (g_up_o (by omega) (g_up_o (by omega) (g_up_o (by omega) (g_up_o (by omega) (g_up_o (by omega) g_up_s)))))) rfl dX15_collect_386 ?_
  refine lv_aload_n hx hb dX15_collect_389 rfl (lv_at hl 1 rfl) ?_
  refine g_calli w (g_runV (As := [.ref (sz + 3)]) (rest := []) S hE w hl (c_addAll0 l D ar κ (g_up (g_up (g_up (g_up (g_up (g_up (g_up G y (.inr (19, [.ref q, .ref (q + 1), .ref (q + 2), .ref (q + 3), .ref (q + 4), .ref (q + 5), .ref (q + 6), .int 0, .int 0, .int 0, .int 0, .int 45, .int 0, .null]))) sz (.inr (2, [.int 0, .int (-1), .int 0, .ref (q + 3)]))) (sz + 1) (.inr (2, [.int 0, .int (-1), .int 0, .ref (q + 4)]))) (sz + 2) (.inr (2, [.int 0, .int (-1), .int 0, .ref (q + 3)]))) (sz + 3) (.inr (3, [.int 0, .ref (κ 0), .int 0]))) (sz + 4) (.inr (2, [.int 0, .int (-1), .int 0, .ref (q + 3)]))) (q + 3) (.inr (3, [.int 1, .ref (κ 0), .int 0]))) (sz + 5) (q + 3) (sz + 3) 1 (some (κ 0)) 0 0 g_up_s (g_up_o (by omega) (g_up_o (by omega) g_up_s)) (by omega)) (k_RX15_151 S.2.2.2.2 ⟨Nat.le_of_ble_eq_true rfl, Nat.le_of_ble_eq_true rfl⟩) g_up_s rfl rfl rfl rfl (Nat.le_of_ble_eq_true rfl) dX15_collect_390 ⟨Nat.le_of_ble_eq_true rfl, Nat.le_of_ble_eq_true rfl⟩) (fun r u H locs hp hnz w => ?_)
  obtain ⟨rfl, rfl⟩ := hp
  dsimp only at w
  have w := g_eqw w (g_inn g_over (by omega))
  rw [show ((1 + 1) : Int32) = 2 from by decide +kernel] at w
  refine lv_pop hx hb dX15_collect_393 rfl ?_
  refine lv_iload_n hx hb dX15_collect_394 rfl (lv_at hl 2 rfl) ?_
  refine lv_aload_n hx hb dX15_collect_395 rfl (lv_at hl 4 rfl) ?_
  refine gf_RX15_28_19 S hE w (g_up_o (by omega) (g_up_o (g_nx m0 m4 (by simp)) (g_up_o (by omega) (g_up_o (by omega) (g_up_o (by omega) (g_up_o (by omega) (g_up_o (by omega) g_up_s))))))) rfl dX15_collect_396 ?_
  refine g_calli w (g_runV (As := []) (rest := [.int 0]) S hE w hl (c_size l D ar κ (g_up (g_up (g_up (g_up (g_up (g_up (g_up (g_up G y (.inr (19, [.ref q, .ref (q + 1), .ref (q + 2), .ref (q + 3), .ref (q + 4), .ref (q + 5), .ref (q + 6), .int 0, .int 0, .int 0, .int 0, .int 45, .int 0, .null]))) sz (.inr (2, [.int 0, .int (-1), .int 0, .ref (q + 3)]))) (sz + 1) (.inr (2, [.int 0, .int (-1), .int 0, .ref (q + 4)]))) (sz + 2) (.inr (2, [.int 0, .int (-1), .int 0, .ref (q + 3)]))) (sz + 3) (.inr (3, [.int 0, .ref (κ 0), .int 0]))) (sz + 4) (.inr (2, [.int 0, .int (-1), .int 0, .ref (q + 3)]))) (q + 3) (.inr (3, [.int 2, .ref (κ 0), .int 0]))) (sz + 5) (.inl (ar 11, 0, .inr (.inr (.inr (.inr (fun _ => none))))))) (sz + 6) (q + 3) 2 (some (κ 0)) 0 (g_up_o (by omega) g_up_s)) (k_RX15_58 S.2.2.2.2 ⟨Nat.le_of_ble_eq_true rfl, Nat.le_of_ble_eq_true rfl⟩) (g_up_o (by omega) g_up_s) rfl rfl rfl rfl (Nat.le_of_ble_eq_true rfl) dX15_collect_399 ⟨Nat.le_of_ble_eq_true rfl, Nat.le_of_ble_eq_true rfl⟩) (fun r u H locs hp hnz w => ?_)
  obtain ⟨rfl, rfl⟩ := hp
  dsimp only at w
  refine lv_isub hx hb dX15_collect_402 ?_
  rw [show (0 - 0 : Int32) = 0 by decide +kernel]
  exact g_iret hx hb hr hlk w (Nat.le_of_ble_eq_true rfl) (Nat.le_of_ble_eq_true rfl) dX15_collect_403 rfl
set_option maxHeartbeats 4000000 in
set_option maxRecDepth 100000 in
theorem m_end (l : Launch) (D : va_G) (ar : Nat → ClassId) (κ : Nat → Nat) (G : gW) (sz : Nat) (y : Nat) (q : Nat) (t : Int32) (hM : FM ar κ G y q t) : Met l yX15_end (lwC yX15_end cX15_end 2 (some .int)) (rD 6 0 0) (g_Pc D vwCl (gT ar) (EX1 κ) G sz [.ref y]) (g_Qi D vwCl (g_A G sz) (fun r u => ((1 : Int32) = 0 → r = 0) ∧ TH y (1) u)) 0 0 (g_A G sz) := by
  refine g_ofW (by decide +kernel) (Nat.le_of_ble_eq_true rfl) ?_
  intro p e s m below meth c ls S hr hlk hin hE w hl
  have hx := S.1
  have hb := S.2.1
  have hl : lv_has ls 2 [(0, .ref y)] := hl
  obtain ⟨hyq, m0, m1, m2, m3, m4, m5, m6, m7, m8, m9, m10, m11, m12, m13, m14⟩ := id hM
  have lt13 : q + 13 < sz := g_ltn w m14
  refine lv_aload_n hx hb dX15_end_0 rfl (lv_at hl 0 rfl) ?_
  refine lv_aload_n hx hb dX15_end_1 rfl (lv_at hl 0 rfl) ?_
  refine gf_RX15_31_19 S hE w m0 rfl dX15_end_2 ?_
  refine g_calli w (g_runV (As := []) (rest := [.ref y]) S hE w hl (c_isEmpty0 l D ar κ G sz (q + 4) 0 (some (κ 0)) m5) (k_RX15_155 S.2.2.2.2 ⟨Nat.le_of_ble_eq_true rfl, Nat.le_of_ble_eq_true rfl⟩) m5 rfl rfl rfl rfl (Nat.le_of_ble_eq_true rfl) dX15_end_5 ⟨Nat.le_of_ble_eq_true rfl, Nat.le_of_ble_eq_true rfl⟩) (fun r u H locs hp hnz w => ?_)
  obtain ⟨rfl, rfl⟩ := hp
  dsimp only at w
  refine lv_if_eq (tgt := 15) hx hb dX15_end_8 (by decide) (fun c => absurd c (by decide)) (fun _ => ?_)
  refine lv_iconst (v := 1) hx hb dX15_end_11 (by decide) ?_
  refine lv_goto (tgt := 16) hx hb dX15_end_12 (by decide) ?_
  refine g_calli w (g_runV (As := [.int 1]) (rest := []) S hE w hl (c_isWrong l D ar κ G sz y 1 (some q) (some (q + 1)) (some (q + 2)) (some (q + 3)) (some (q + 4)) (some (q + 5)) (some (q + 6)) t 0 0 0 45 0 none m0) (k_RX15_77 S.2.2.2.2 ⟨Nat.le_of_ble_eq_true rfl, Nat.le_of_ble_eq_true rfl⟩) m0 rfl rfl rfl rfl (Nat.le_of_ble_eq_true rfl) dX15_end_16 ⟨Nat.le_of_ble_eq_true rfl, Nat.le_of_ble_eq_true rfl⟩) (fun r u H locs hp hnz w => ?_)
  obtain ⟨rfl, rfl⟩ := hp
  rw [show (if (1 : Int32) = 0 then (0 : Int32) else 1) = 1 from by decide]
  dsimp only at w
  refine lv_if_eq (tgt := 24) hx hb dX15_end_19 (by decide) (fun c => absurd c (by decide)) (fun _ => ?_)
  refine lv_iconst (v := 0) hx hb dX15_end_22 (by decide) ?_
  exact g_iret hx hb hr hlk w (Nat.le_of_ble_eq_true rfl) (Nat.le_of_ble_eq_true rfl) dX15_end_23 ⟨(nz_first (T := 1) rfl (by decide)), TH_mk (T := 1) g_up_s rfl rfl⟩
set_option maxHeartbeats 4000000 in
set_option maxRecDepth 100000 in
theorem m_reason (l : Launch) (D : va_G) (ar : Nat → ClassId) (κ : Nat → Nat) (G : gW) (sz : Nat) (y : Nat) (q : Nat) (t : Int32) (hM : FM ar κ G y q t) : Met l yX15_reason (lwC yX15_reason cX15_reason 1 (some .char)) (rD 6 0 0) (g_Pc D vwCl (gT ar) (EX1 κ) G sz [.ref y]) (g_Qi D vwCl (g_A G sz) (fun r u => ((1 : Int32) = 0 → r = 0) ∧ TH y (1) u)) 0 0 (g_A G sz) := by
  refine g_ofW (by decide +kernel) (Nat.le_of_ble_eq_true rfl) ?_
  intro p e s m below meth c ls S hr hlk hin hE w hl
  have hx := S.1
  have hb := S.2.1
  have hl : lv_has ls 1 [(0, .ref y)] := hl
  obtain ⟨hyq, m0, m1, m2, m3, m4, m5, m6, m7, m8, m9, m10, m11, m12, m13, m14⟩ := id hM
  have lt13 : q + 13 < sz := g_ltn w m14
  refine lv_aload_n hx hb dX15_reason_0 rfl (lv_at hl 0 rfl) ?_
  refine lv_aload_n hx hb dX15_reason_1 rfl (lv_at hl 0 rfl) ?_
  refine gf_RX15_41_19 S hE w m0 rfl dX15_reason_2 ?_
  refine lv_bipush (v := 120) hx hb dX15_reason_5 (by decide) ?_
  refine lv_icmp_ne (tgt := 14) hx hb dX15_reason_7 (by decide) (fun _ => ?_) (fun c => absurd c (by decide))
  refine lv_iconst (v := 1) hx hb dX15_reason_14 (by decide) ?_
  refine g_calli w (g_runV (As := [.int 1]) (rest := []) S hE w hl (c_isWrong l D ar κ G sz y 1 (some q) (some (q + 1)) (some (q + 2)) (some (q + 3)) (some (q + 4)) (some (q + 5)) (some (q + 6)) t 0 0 0 45 0 none m0) (k_RX15_77 S.2.2.2.2 ⟨Nat.le_of_ble_eq_true rfl, Nat.le_of_ble_eq_true rfl⟩) m0 rfl rfl rfl rfl (Nat.le_of_ble_eq_true rfl) dX15_reason_15 ⟨Nat.le_of_ble_eq_true rfl, Nat.le_of_ble_eq_true rfl⟩) (fun r u H locs hp hnz w => ?_)
  obtain ⟨rfl, rfl⟩ := hp
  rw [show (if (1 : Int32) = 0 then (0 : Int32) else 1) = 1 from by decide]
  dsimp only at w
  refine lv_if_eq (tgt := 25) hx hb dX15_reason_18 (by decide) (fun c => absurd c (by decide)) (fun _ => ?_)
  refine lv_iconst (v := 0) hx hb dX15_reason_21 (by decide) ?_
  refine lv_goto (tgt := 29) hx hb dX15_reason_22 (by decide) ?_
  exact g_zret hx hb hr hlk w (Nat.le_of_ble_eq_true rfl) (Nat.le_of_ble_eq_true rfl) dX15_reason_29 rfl ⟨(nz_first (T := 1) rfl (by decide)), TH_mk (T := 1) g_up_s rfl rfl⟩
set_option maxHeartbeats 4000000 in
set_option maxRecDepth 100000 in
theorem m_answerKind (l : Launch) (D : va_G) (ar : Nat → ClassId) (κ : Nat → Nat) (G : gW) (sz : Nat) (y : Nat) (q : Nat) (t : Int32) (hM : FM ar κ G y q t) : Met l yX15_answerKind (lwC yX15_answerKind cX15_answerKind 1 (some .char)) (rD 6 0 0) (g_Pc D vwCl (gT ar) (EX1 κ) G sz [.ref y]) (g_Qi D vwCl (g_A G sz) (fun r u => ((1 : Int32) = 0 → r = 0) ∧ TH y (1) u)) 0 0 (g_A G sz) := by
  refine g_ofW (by decide +kernel) (Nat.le_of_ble_eq_true rfl) ?_
  intro p e s m below meth c ls S hr hlk hin hE w hl
  have hx := S.1
  have hb := S.2.1
  have hl : lv_has ls 1 [(0, .ref y)] := hl
  obtain ⟨hyq, m0, m1, m2, m3, m4, m5, m6, m7, m8, m9, m10, m11, m12, m13, m14⟩ := id hM
  have lt13 : q + 13 < sz := g_ltn w m14
  refine lv_aload_n hx hb dX15_answerKind_0 rfl (lv_at hl 0 rfl) ?_
  refine lv_aload_n hx hb dX15_answerKind_1 rfl (lv_at hl 0 rfl) ?_
  refine gf_RX15_41_19 S hE w m0 rfl dX15_answerKind_2 ?_
  refine lv_bipush (v := 114) hx hb dX15_answerKind_5 (by decide) ?_
  refine lv_icmp_ne (tgt := 14) hx hb dX15_answerKind_7 (by decide) (fun _ => ?_) (fun c => absurd c (by decide))
  refine lv_iconst (v := 1) hx hb dX15_answerKind_14 (by decide) ?_
  refine g_calli w (g_runV (As := [.int 1]) (rest := []) S hE w hl (c_isWrong l D ar κ G sz y 1 (some q) (some (q + 1)) (some (q + 2)) (some (q + 3)) (some (q + 4)) (some (q + 5)) (some (q + 6)) t 0 0 0 45 0 none m0) (k_RX15_77 S.2.2.2.2 ⟨Nat.le_of_ble_eq_true rfl, Nat.le_of_ble_eq_true rfl⟩) m0 rfl rfl rfl rfl (Nat.le_of_ble_eq_true rfl) dX15_answerKind_15 ⟨Nat.le_of_ble_eq_true rfl, Nat.le_of_ble_eq_true rfl⟩) (fun r u H locs hp hnz w => ?_)
  obtain ⟨rfl, rfl⟩ := hp
  rw [show (if (1 : Int32) = 0 then (0 : Int32) else 1) = 1 from by decide]
  dsimp only at w
  refine lv_if_eq (tgt := 25) hx hb dX15_answerKind_18 (by decide) (fun c => absurd c (by decide)) (fun _ => ?_)
  refine lv_iconst (v := 0) hx hb dX15_answerKind_21 (by decide) ?_
  refine lv_goto (tgt := 32) hx hb dX15_answerKind_22 (by decide) ?_
  exact g_zret hx hb hr hlk w (Nat.le_of_ble_eq_true rfl) (Nat.le_of_ble_eq_true rfl) dX15_answerKind_32 rfl ⟨(nz_first (T := 1) rfl (by decide)), TH_mk (T := 1) g_up_s rfl rfl⟩
set_option maxHeartbeats 4000000 in
set_option maxRecDepth 100000 in
theorem m_answer (l : Launch) (D : va_G) (ar : Nat → ClassId) (κ : Nat → Nat) (G : gW) (sz : Nat) (y : Nat) (q : Nat) (t : Int32) (hM : FM ar κ G y q t) : Met l yX15_answer (lwC yX15_answer cX15_answer 1 (some .int)) (rD 6 0 0) (g_Pc D vwCl (gT ar) (EX1 κ) G sz [.ref y]) (g_Qi D vwCl (g_A G sz) (fun r u => ((1 : Int32) = 0 → r = 0) ∧ TH y (1) u)) 0 0 (g_A G sz) := by
  refine g_ofW (by decide +kernel) (Nat.le_of_ble_eq_true rfl) ?_
  intro p e s m below meth c ls S hr hlk hin hE w hl
  have hx := S.1
  have hb := S.2.1
  have hl : lv_has ls 1 [(0, .ref y)] := hl
  obtain ⟨hyq, m0, m1, m2, m3, m4, m5, m6, m7, m8, m9, m10, m11, m12, m13, m14⟩ := id hM
  have lt13 : q + 13 < sz := g_ltn w m14
  refine lv_aload_n hx hb dX15_answer_0 rfl (lv_at hl 0 rfl) ?_
  refine lv_aload_n hx hb dX15_answer_1 rfl (lv_at hl 0 rfl) ?_
  refine gf_RX15_41_19 S hE w m0 rfl dX15_answer_2 ?_
  refine lv_bipush (v := 114) hx hb dX15_answer_5 (by decide) ?_
  refine lv_icmp_ne (tgt := 14) hx hb dX15_answer_7 (by decide) (fun _ => ?_) (fun c => absurd c (by decide))
  refine lv_iconst (v := 1) hx hb dX15_answer_14 (by decide) ?_
  refine g_calli w (g_runV (As := [.int 1]) (rest := []) S hE w hl (c_isWrong l D ar κ G sz y 1 (some q) (some (q + 1)) (some (q + 2)) (some (q + 3)) (some (q + 4)) (some (q + 5)) (some (q + 6)) t 0 0 0 45 0 none m0) (k_RX15_77 S.2.2.2.2 ⟨Nat.le_of_ble_eq_true rfl, Nat.le_of_ble_eq_true rfl⟩) m0 rfl rfl rfl rfl (Nat.le_of_ble_eq_true rfl) dX15_answer_15 ⟨Nat.le_of_ble_eq_true rfl, Nat.le_of_ble_eq_true rfl⟩) (fun r u H locs hp hnz w => ?_)
  obtain ⟨rfl, rfl⟩ := hp
  rw [show (if (1 : Int32) = 0 then (0 : Int32) else 1) = 1 from by decide]
  dsimp only at w
  refine lv_if_eq (tgt := 25) hx hb dX15_answer_18 (by decide) (fun c => absurd c (by decide)) (fun _ => ?_)
  refine lv_iconst (v := 0) hx hb dX15_answer_21 (by decide) ?_
  refine lv_goto (tgt := 32) hx hb dX15_answer_22 (by decide) ?_
  exact g_iret hx hb hr hlk w (Nat.le_of_ble_eq_true rfl) (Nat.le_of_ble_eq_true rfl) dX15_answer_32 ⟨(nz_first (T := 1) rfl (by decide)), TH_mk (T := 1) g_up_s rfl rfl⟩
set_option maxHeartbeats 4000000 in
set_option maxRecDepth 100000 in
theorem c_isFrame (l : Launch) (D : va_G) (ar : Nat → ClassId) (κ : Nat → Nat) (G : gW) (sz : Nat) (y : Nat) (n : Int32) (g0 : Option Nat) (g1 : Option Nat) (g2 : Option Nat) (g3 : Option Nat) (g5 : Option Nat) (g6 : Option Nat) (g7 : Int32) (g8 : Int32) (g9 : Int32) (g10 : Int32) (g11 : Int32) (g12 : Int32) (g13 : Option Nat) (fr : Nat) (mc0 : Int32) (ed : Option Nat) (hy : G y = some (.inr (19, [va_rf g0, va_rf g1, va_rf g2, va_rf g3, .ref fr, va_rf g5, va_rf g6, .int g7, .int g8, .int g9, .int g10, .int g11, .int g12, va_rf g13]))) (hth : G fr = some (.inr (3, [.int mc0, va_rf ed, .int 0]))) : Met l yX15_isFrame (lwC yX15_isFrame cX15_isFrame 2 (some .boolean)) (rD 3 0 0) (g_Pc D vwCl (gT ar) (EX1 κ) G sz [.ref y, .int n]) (g_Qi D vwCl (g_A G sz) (fun r u => r = 0 ∧ u = (G, sz))) 0 0 (g_A G sz) := by
  refine g_ofW (by decide +kernel) (Nat.le_of_ble_eq_true rfl) ?_
  intro p e s m below meth c ls S hr hlk hin hE w hl
  have hx := S.1
  have hb := S.2.1
  have hl : lv_has ls 2 [(0, .ref y), (1, .int n)] := hl
  have lt_hy : y < sz := g_ltn w hy
  have lt_hth : fr < sz := g_ltn w hth
  refine lv_iload_n hx hb dX15_isFrame_0 rfl (lv_at hl 1 rfl) ?_
  refine lv_iconst (v := 0) hx hb dX15_isFrame_1 (by decide) ?_
  refine lv_aload_n hx hb dX15_isFrame_2 rfl (lv_at hl 0 rfl) ?_
  refine gf_RX15_31_19 S hE w hy rfl dX15_isFrame_3 ?_
  refine g_calli w (g_runV (As := []) (rest := [.int 0, .int n]) S hE w hl (c_size l D ar κ G sz fr mc0 ed 0 hth) (k_RX15_58 S.2.2.2.2 ⟨Nat.le_of_ble_eq_true rfl, Nat.le_of_ble_eq_true rfl⟩) hth rfl rfl rfl rfl (Nat.le_of_ble_eq_true rfl) dX15_isFrame_6 ⟨Nat.le_of_ble_eq_true rfl, Nat.le_of_ble_eq_true rfl⟩) (fun r u H locs hp hnz w => ?_)
  obtain ⟨rfl, rfl⟩ := hp
  dsimp only at w
  refine lv_iconst (v := 1) hx hb dX15_isFrame_9 (by decide) ?_
  refine lv_isub hx hb dX15_isFrame_10 ?_
  rw [show (0 - 1 : Int32) = (-1) by decide +kernel]
  refine g_calli w (g_runS (As := [.int n, .int 0, .int (-1)]) (rest := []) S hE w hl (c_isBetween l D ar κ G sz n 0 (-1)) (k_RX15_62 S.2.2.2.2 ⟨Nat.le_of_ble_eq_true rfl, Nat.le_of_ble_eq_true rfl⟩) rfl rfl (Nat.le_of_ble_eq_true rfl) dX15_isFrame_11 ⟨Nat.le_of_ble_eq_true rfl, Nat.le_of_ble_eq_true rfl⟩) (fun r u H locs hp hnz w => ?_)
  obtain ⟨rfl, rfl⟩ := hp
  rw [show (isW n 0 (-1)) = 0 from isW_n (by decide)]
  dsimp only at w
  exact g_zret hx hb hr hlk w (Nat.le_of_ble_eq_true rfl) (Nat.le_of_ble_eq_true rfl) dX15_isFrame_14 rfl ⟨rfl, rfl⟩
set_option maxHeartbeats 4000000 in
set_option maxRecDepth 100000 in
theorem m_frame (l : Launch) (D : va_G) (ar : Nat → ClassId) (κ : Nat → Nat) (G : gW) (sz : Nat) (y : Nat) (n : Int32) (wh : Int32) (q : Nat) (t : Int32) (hM : FM ar κ G y q t) : Met l yX15_frame (lwC yX15_frame cX15_frame 4 (some .int)) (rD 6 0 0) (g_Pc D vwCl (gT ar) (EX1 κ) G sz [.ref y, .int n, .int wh]) (g_Qi D vwCl (g_A G sz) (fun r u => ((1 : Int32) = 0 → r = 0) ∧ TH y (1) u)) 0 0 (g_A G sz) := by
  refine g_ofW (by decide +kernel) (Nat.le_of_ble_eq_true rfl) ?_
  intro p e s m below meth c ls S hr hlk hin hE w hl
  have hx := S.1
  have hb := S.2.1
  have hl : lv_has ls 4 [(0, .ref y), (1, .int n), (2, .int wh)] := hl
  obtain ⟨hyq, m0, m1, m2, m3, m4, m5, m6, m7, m8, m9, m10, m11, m12, m13, m14⟩ := id hM
  have lt13 : q + 13 < sz := g_ltn w m14
  refine lv_aload_n hx hb dX15_frame_0 rfl (lv_at hl 0 rfl) ?_
  refine lv_aload_n hx hb dX15_frame_1 rfl (lv_at hl 0 rfl) ?_
  refine lv_iload_n hx hb dX15_frame_2 rfl (lv_at hl 1 rfl) ?_
  refine g_calli w (g_runV (As := [.int n]) (rest := [.ref y]) S hE w hl (c_isFrame l D ar κ G sz y n (some q) (some (q + 1)) (some (q + 2)) (some (q + 3)) (some (q + 5)) (some (q + 6)) t 0 0 0 45 0 none (q + 4) 0 (some (κ 0)) m0 m5) (k_RX15_339 S.2.2.2.2 ⟨Nat.le_of_ble_eq_true rfl, Nat.le_of_ble_eq_true rfl⟩) m0 rfl rfl rfl rfl (Nat.le_of_ble_eq_true rfl) dX15_frame_3 ⟨Nat.le_of_ble_eq_true rfl, Nat.le_of_ble_eq_true rfl⟩) (fun r u H locs hp hnz w => ?_)
  obtain ⟨rfl, rfl⟩ := hp
  dsimp only at w
  refine lv_if_ne (tgt := 13) hx hb dX15_frame_6 (by decide) (fun c => absurd (by decide) c) (fun _ => ?_)
  refine lv_iconst (v := 1) hx hb dX15_frame_9 (by decide) ?_
  refine lv_goto (tgt := 28) hx hb dX15_frame_10 (by decide) ?_
  refine g_calli w (g_runV (As := [.int 1]) (rest := []) S hE w hl (c_isWrong l D ar κ G sz y 1 (some q) (some (q + 1)) (some (q + 2)) (some (q + 3)) (some (q + 4)) (some (q + 5)) (some (q + 6)) t 0 0 0 45 0 none m0) (k_RX15_77 S.2.2.2.2 ⟨Nat.le_of_ble_eq_true rfl, Nat.le_of_ble_eq_true rfl⟩) m0 rfl rfl rfl rfl (Nat.le_of_ble_eq_true rfl) dX15_frame_28 ⟨Nat.le_of_ble_eq_true rfl, Nat.le_of_ble_eq_true rfl⟩) (fun r u H locs hp hnz w => ?_)
  obtain ⟨rfl, rfl⟩ := hp
  rw [show (if (1 : Int32) = 0 then (0 : Int32) else 1) = 1 from by decide]
  dsimp only at w
  refine lv_if_eq (tgt := 36) hx hb dX15_frame_31 (by decide) (fun c => absurd c (by decide)) (fun _ => ?_)
  refine lv_iconst (v := 0) hx hb dX15_frame_34 (by decide) ?_
  exact g_iret hx hb hr hlk w (Nat.le_of_ble_eq_true rfl) (Nat.le_of_ble_eq_true rfl) dX15_frame_35 ⟨(nz_first (T := 1) rfl (by decide)), TH_mk (T := 1) g_up_s rfl rfl⟩
set_option maxHeartbeats 4000000 in
set_option maxRecDepth 100000 in
theorem c_slotOf (l : Launch) (D : va_G) (ar : Nat → ClassId) (κ : Nat → Nat) (G : gW) (sz : Nat) (y : Nat) (n : Int32) (wh : Int32) (k : Int32) (g0 : Option Nat) (g1 : Option Nat) (g2 : Option Nat) (g3 : Option Nat) (g5 : Option Nat) (g6 : Option Nat) (g7 : Int32) (g8 : Int32) (g9 : Int32) (g10 : Int32) (g11 : Int32) (g12 : Int32) (g13 : Option Nat) (fr : Nat) (mc0 : Int32) (ed : Option Nat) (hy : G y = some (.inr (19, [va_rf g0, va_rf g1, va_rf g2, va_rf g3, .ref fr, va_rf g5, va_rf g6, .int g7, .int g8, .int g9, .int g10, .int g11, .int g12, va_rf g13]))) (hth : G fr = some (.inr (3, [.int mc0, va_rf ed, .int 0]))) : Met l yX15_slotOf (lwC yX15_slotOf cX15_slotOf 6 (some (.object "SendhouseModel$Value"))) (rD 5 0 0) (g_Pc D vwCl (gT ar) (EX1 κ) G sz [.ref y, .int n, .int wh, .int k]) (g_Qq D vwCl (g_A G sz) (fun r u => r = none ∧ u = ((g_up G y (.inr (19, [va_rf g0, va_rf g1, va_rf g2, va_rf g3, .ref fr, va_rf g5, va_rf g6, .int 1, .int g8, .int g9, .int g10, .int g11, .int g12, va_rf g13]))), sz))) 0 0 (g_A G sz) := by
  refine g_ofW (by decide +kernel) (Nat.le_of_ble_eq_true rfl) ?_
  intro p e s m below meth c ls S hr hlk hin hE w hl
  have hx := S.1
  have hb := S.2.1
  have hl : lv_has ls 6 [(0, .ref y), (1, .int n), (2, .int wh), (3, .int k)] := hl
  have lt_hy : y < sz := g_ltn w hy
  have lt_hth : fr < sz := g_ltn w hth
  refine lv_aload_n hx hb dX15_slotOf_0 rfl (lv_at hl 0 rfl) ?_
  refine lv_aload_n hx hb dX15_slotOf_1 rfl (lv_at hl 0 rfl) ?_
  refine lv_iload_n hx hb dX15_slotOf_2 rfl (lv_at hl 1 rfl) ?_
  refine g_calli w (g_runV (As := [.int n]) (rest := [.ref y]) S hE w hl (c_isFrame l D ar κ G sz y n g0 g1 g2 g3 g5 g6 g7 g8 g9 g10 g11 g12 g13 fr mc0 ed hy hth) (k_RX15_339 S.2.2.2.2 ⟨Nat.le_of_ble_eq_true rfl, Nat.le_of_ble_eq_true rfl⟩) hy rfl rfl rfl rfl (Nat.le_of_ble_eq_true rfl) dX15_slotOf_3 ⟨Nat.le_of_ble_eq_true rfl, Nat.le_of_ble_eq_true rfl⟩) (fun r u H locs hp hnz w => ?_)
  obtain ⟨rfl, rfl⟩ := hp
  dsimp only at w
  refine lv_if_ne (tgt := 13) hx hb dX15_slotOf_6 (by decide) (fun c => absurd (by decide) c) (fun _ => ?_)
  refine lv_iconst (v := 1) hx hb dX15_slotOf_9 (by decide) ?_
  refine lv_goto (tgt := 28) hx hb dX15_slotOf_10 (by decide) ?_
  refine g_calli w (g_runV (As := [.int 1]) (rest := []) S hE w hl (c_isWrong l D ar κ G sz y 1 g0 g1 g2 g3 (some fr) g5 g6 g7 g8 g9 g10 g11 g12 g13 hy) (k_RX15_77 S.2.2.2.2 ⟨Nat.le_of_ble_eq_true rfl, Nat.le_of_ble_eq_true rfl⟩) hy rfl rfl rfl rfl (Nat.le_of_ble_eq_true rfl) dX15_slotOf_28 ⟨Nat.le_of_ble_eq_true rfl, Nat.le_of_ble_eq_true rfl⟩) (fun r u H locs hp hnz w => ?_)
  obtain ⟨rfl, rfl⟩ := hp
  rw [show (if (1 : Int32) = 0 then (0 : Int32) else 1) = 1 from by decide]
  dsimp only at w
  refine lv_if_eq (tgt := 36) hx hb dX15_slotOf_31 (by decide) (fun c => absurd c (by decide)) (fun _ => ?_)
  refine lv_null hx hb dX15_slotOf_34 ?_
  exact g_qret (r := none) hx hb hr (Or.inl ⟨_, rfl⟩) hlk w (Nat.le_of_ble_eq_true rfl) (Nat.le_of_ble_eq_true rfl) dX15_slotOf_35 ⟨rfl, rfl⟩
set_option maxHeartbeats 4000000 in
set_option maxRecDepth 100000 in
theorem m_slotKind (l : Launch) (D : va_G) (ar : Nat → ClassId) (κ : Nat → Nat) (G : gW) (sz : Nat) (y : Nat) (n : Int32) (wh : Int32) (k : Int32) (q : Nat) (t : Int32) (hM : FM ar κ G y q t) : Met l yX15_slotKind (lwC yX15_slotKind cX15_slotKind 5 (some .char)) (rD 6 0 0) (g_Pc D vwCl (gT ar) (EX1 κ) G sz [.ref y, .int n, .int wh, .int k]) (g_Qi D vwCl (g_A G sz) (fun r u => ((1 : Int32) = 0 → r = 0) ∧ TH y (1) u)) 0 0 (g_A G sz) := by
  refine g_ofW (by decide +kernel) (Nat.le_of_ble_eq_true rfl) ?_
  intro p e s m below meth c ls S hr hlk hin hE w hl
  have hx := S.1
  have hb := S.2.1
  have hl : lv_has ls 5 [(0, .ref y), (1, .int n), (2, .int wh), (3, .int k)] := hl
  obtain ⟨hyq, m0, m1, m2, m3, m4, m5, m6, m7, m8, m9, m10, m11, m12, m13, m14⟩ := id hM
  have lt13 : q + 13 < sz := g_ltn w m14
  refine lv_aload_n hx hb dX15_slotKind_0 rfl (lv_at hl 0 rfl) ?_
  refine lv_iload_n hx hb dX15_slotKind_1 rfl (lv_at hl 1 rfl) ?_
  refine lv_iload_n hx hb dX15_slotKind_2 rfl (lv_at hl 2 rfl) ?_
  refine lv_iload_n hx hb dX15_slotKind_3 rfl (lv_at hl 3 rfl) ?_
  refine g_callq w (g_runV (As := [.int n, .int wh, .int k]) (rest := []) S hE w hl (c_slotOf l D ar κ G sz y n wh k (some q) (some (q + 1)) (some (q + 2)) (some (q + 3)) (some (q + 5)) (some (q + 6)) t 0 0 0 45 0 none (q + 4) 0 (some (κ 0)) m0 m5) (k_RX15_349 S.2.2.2.2 ⟨Nat.le_of_ble_eq_true rfl, Nat.le_of_ble_eq_true rfl⟩) m0 rfl rfl rfl rfl (Nat.le_of_ble_eq_true rfl) dX15_slotKind_4 ⟨Nat.le_of_ble_eq_true rfl, Nat.le_of_ble_eq_true rfl⟩) (fun r u H locs hp hnz w => ?_)
  obtain ⟨rfl, rfl⟩ := hp
  dsimp only at w
  refine lv_astoreN (lv' := [(4, .null), (0, .ref y), (1, .int n), (2, .int wh), (3, .int k)]) hx hb dX15_slotKind_7 hl (by decide) rfl (fun ls hl => ?_)
  refine lv_aloadN hx hb dX15_slotKind_9 (lv_at hl 0 rfl) ?_
  refine lv_ifnonnullN hx hb dX15_slotKind_11 ?_
  refine lv_iconst (v := 0) hx hb dX15_slotKind_14 (by decide) ?_
  refine lv_goto (tgt := 23) hx hb dX15_slotKind_15 (by decide) ?_
  exact g_zret hx hb hr hlk w (Nat.le_of_ble_eq_true rfl) (Nat.le_of_ble_eq_true rfl) dX15_slotKind_23 rfl ⟨(nz_first (T := 1) rfl (by decide)), TH_mk (T := 1) g_up_s rfl rfl⟩
set_option maxHeartbeats 4000000 in
set_option maxRecDepth 100000 in
theorem m_slot (l : Launch) (D : va_G) (ar : Nat → ClassId) (κ : Nat → Nat) (G : gW) (sz : Nat) (y : Nat) (n : Int32) (wh : Int32) (k : Int32) (q : Nat) (t : Int32) (hM : FM ar κ G y q t) : Met l yX15_slot (lwC yX15_slot cX15_slot 5 (some .int)) (rD 6 0 0) (g_Pc D vwCl (gT ar) (EX1 κ) G sz [.ref y, .int n, .int wh, .int k]) (g_Qi D vwCl (g_A G sz) (fun r u => ((1 : Int32) = 0 → r = 0) ∧ TH y (1) u)) 0 0 (g_A G sz) := by
  refine g_ofW (by decide +kernel) (Nat.le_of_ble_eq_true rfl) ?_
  intro p e s m below meth c ls S hr hlk hin hE w hl
  have hx := S.1
  have hb := S.2.1
  have hl : lv_has ls 5 [(0, .ref y), (1, .int n), (2, .int wh), (3, .int k)] := hl
  obtain ⟨hyq, m0, m1, m2, m3, m4, m5, m6, m7, m8, m9, m10, m11, m12, m13, m14⟩ := id hM
  have lt13 : q + 13 < sz := g_ltn w m14
  refine lv_aload_n hx hb dX15_slot_0 rfl (lv_at hl 0 rfl) ?_
  refine lv_iload_n hx hb dX15_slot_1 rfl (lv_at hl 1 rfl) ?_
  refine lv_iload_n hx hb dX15_slot_2 rfl (lv_at hl 2 rfl) ?_
  refine lv_iload_n hx hb dX15_slot_3 rfl (lv_at hl 3 rfl) ?_
  refine g_callq w (g_runV (As := [.int n, .int wh, .int k]) (rest := []) S hE w hl (c_slotOf l D ar κ G sz y n wh k (some q) (some (q + 1)) (some (q + 2)) (some (q + 3)) (some (q + 5)) (some (q + 6)) t 0 0 0 45 0 none (q + 4) 0 (some (κ 0)) m0 m5) (k_RX15_349 S.2.2.2.2 ⟨Nat.le_of_ble_eq_true rfl, Nat.le_of_ble_eq_true rfl⟩) m0 rfl rfl rfl rfl (Nat.le_of_ble_eq_true rfl) dX15_slot_4 ⟨Nat.le_of_ble_eq_true rfl, Nat.le_of_ble_eq_true rfl⟩) (fun r u H locs hp hnz w => ?_)
  obtain ⟨rfl, rfl⟩ := hp
  dsimp only at w
  refine lv_astoreN (lv' := [(4, .null), (0, .ref y), (1, .int n), (2, .int wh), (3, .int k)]) hx hb dX15_slot_7 hl (by decide) rfl (fun ls hl => ?_)
  refine lv_aloadN hx hb dX15_slot_9 (lv_at hl 0 rfl) ?_
  refine lv_ifnonnullN hx hb dX15_slot_11 ?_
  refine lv_iconst (v := 0) hx hb dX15_slot_14 (by decide) ?_
  refine lv_goto (tgt := 23) hx hb dX15_slot_15 (by decide) ?_
  exact g_iret hx hb hr hlk w (Nat.le_of_ble_eq_true rfl) (Nat.le_of_ble_eq_true rfl) dX15_slot_23 ⟨(nz_first (T := 1) rfl (by decide)), TH_mk (T := 1) g_up_s rfl rfl⟩
set_option maxHeartbeats 4000000 in
set_option maxRecDepth 100000 in
theorem c_isNotWritten (l : Launch) (D : va_G) (ar : Nat → ClassId) (κ : Nat → Nat) (G : gW) (sz : Nat) (y : Nat) (n : Int32) (g0 : Option Nat) (g1 : Option Nat) (g2 : Option Nat) (g3 : Option Nat) (g4 : Option Nat) (g6 : Option Nat) (g7 : Int32) (g8 : Int32) (g9 : Int32) (g10 : Int32) (g11 : Int32) (g12 : Int32) (g13 : Option Nat) (wr : Nat) (mc0 : Int32) (ed : Option Nat) (hy : G y = some (.inr (19, [va_rf g0, va_rf g1, va_rf g2, va_rf g3, va_rf g4, .ref wr, va_rf g6, .int g7, .int g8, .int g9, .int g10, .int g11, .int g12, va_rf g13]))) (hth : G wr = some (.inr (3, [.int mc0, va_rf ed, .int 0]))) : Met l yX15_isNotWritten (lwC yX15_isNotWritten cX15_isNotWritten 2 (some .boolean)) (rD 5 0 0) (g_Pc D vwCl (gT ar) (EX1 κ) G sz [.ref y, .int n]) (g_Qi D vwCl (g_A G sz) (fun r u => r = 1 ∧ u = ((g_up G y (.inr (19, [va_rf g0, va_rf g1, va_rf g2, va_rf g3, va_rf g4, .ref wr, va_rf g6, .int 1, .int g8, .int g9, .int g10, .int g11, .int g12, va_rf g13]))), sz))) 0 0 (g_A G sz) := by
  refine g_ofW (by decide +kernel) (Nat.le_of_ble_eq_true rfl) ?_
  intro p e s m below meth c ls S hr hlk hin hE w hl
  have hx := S.1
  have hb := S.2.1
  have hl : lv_has ls 2 [(0, .ref y), (1, .int n)] := hl
  have lt_hy : y < sz := g_ltn w hy
  have lt_hth : wr < sz := g_ltn w hth
  refine lv_aload_n hx hb dX15_isNotWritten_0 rfl (lv_at hl 0 rfl) ?_
  refine lv_iload_n hx hb dX15_isNotWritten_1 rfl (lv_at hl 1 rfl) ?_
  refine lv_iconst (v := 0) hx hb dX15_isNotWritten_2 (by decide) ?_
  refine lv_aload_n hx hb dX15_isNotWritten_3 rfl (lv_at hl 0 rfl) ?_
  refine gf_RX15_34_19 S hE w hy rfl dX15_isNotWritten_4 ?_
  refine g_calli w (g_runV (As := []) (rest := [.int 0, .int n, .ref y]) S hE w hl (c_size l D ar κ G sz wr mc0 ed 0 hth) (k_RX15_58 S.2.2.2.2 ⟨Nat.le_of_ble_eq_true rfl, Nat.le_of_ble_eq_true rfl⟩) hth rfl rfl rfl rfl (Nat.le_of_ble_eq_true rfl) dX15_isNotWritten_7 ⟨Nat.le_of_ble_eq_true rfl, Nat.le_of_ble_eq_true rfl⟩) (fun r u H locs hp hnz w => ?_)
  obtain ⟨rfl, rfl⟩ := hp
  dsimp only at w
  refine lv_iconst (v := 1) hx hb dX15_isNotWritten_10 (by decide) ?_
  refine lv_isub hx hb dX15_isNotWritten_11 ?_
  rw [show (0 - 1 : Int32) = (-1) by decide +kernel]
  refine g_calli w (g_runS (As := [.int n, .int 0, .int (-1)]) (rest := [.ref y]) S hE w hl (c_isBetween l D ar κ G sz n 0 (-1)) (k_RX15_62 S.2.2.2.2 ⟨Nat.le_of_ble_eq_true rfl, Nat.le_of_ble_eq_true rfl⟩) rfl rfl (Nat.le_of_ble_eq_true rfl) dX15_isNotWritten_12 ⟨Nat.le_of_ble_eq_true rfl, Nat.le_of_ble_eq_true rfl⟩) (fun r u H locs hp hnz w => ?_)
  obtain ⟨rfl, rfl⟩ := hp
  rw [show (isW n 0 (-1)) = 0 from isW_n (by decide)]
  dsimp only at w
  refine lv_if_eq (tgt := 22) hx hb dX15_isNotWritten_15 (by decide) (fun _ => ?_) (fun c => absurd (by decide) c)
  refine lv_iconst (v := 1) hx hb dX15_isNotWritten_22 (by decide) ?_
  refine g_calli w (g_runV (As := [.int 1]) (rest := []) S hE w hl (c_isWrong l D ar κ G sz y 1 g0 g1 g2 g3 g4 (some wr) g6 g7 g8 g9 g10 g11 g12 g13 hy) (k_RX15_77 S.2.2.2.2 ⟨Nat.le_of_ble_eq_true rfl, Nat.le_of_ble_eq_true rfl⟩) hy rfl rfl rfl rfl (Nat.le_of_ble_eq_true rfl) dX15_isNotWritten_23 ⟨Nat.le_of_ble_eq_true rfl, Nat.le_of_ble_eq_true rfl⟩) (fun r u H locs hp hnz w => ?_)
  obtain ⟨rfl, rfl⟩ := hp
  rw [show (if (1 : Int32) = 0 then (0 : Int32) else 1) = 1 from by decide]
  dsimp only at w
  exact g_zret hx hb hr hlk w (Nat.le_of_ble_eq_true rfl) (Nat.le_of_ble_eq_true rfl) dX15_isNotWritten_26 rfl ⟨rfl, rfl⟩
set_option maxHeartbeats 4000000 in
set_option maxRecDepth 100000 in
theorem m_writtenKind (l : Launch) (D : va_G) (ar : Nat → ClassId) (κ : Nat → Nat) (G : gW) (sz : Nat) (y : Nat) (n : Int32) (q : Nat) (t : Int32) (hM : FM ar κ G y q t) : Met l yX15_writtenKind (lwC yX15_writtenKind cX15_writtenKind 2 (some .char)) (rD 6 0 0) (g_Pc D vwCl (gT ar) (EX1 κ) G sz [.ref y, .int n]) (g_Qi D vwCl (g_A G sz) (fun r u => ((1 : Int32) = 0 → r = 0) ∧ TH y (1) u)) 0 0 (g_A G sz) := by
  refine g_ofW (by decide +kernel) (Nat.le_of_ble_eq_true rfl) ?_
  intro p e s m below meth c ls S hr hlk hin hE w hl
  have hx := S.1
  have hb := S.2.1
  have hl : lv_has ls 2 [(0, .ref y), (1, .int n)] := hl
  obtain ⟨hyq, m0, m1, m2, m3, m4, m5, m6, m7, m8, m9, m10, m11, m12, m13, m14⟩ := id hM
  have lt13 : q + 13 < sz := g_ltn w m14
  refine lv_aload_n hx hb dX15_writtenKind_0 rfl (lv_at hl 0 rfl) ?_
  refine lv_iload_n hx hb dX15_writtenKind_1 rfl (lv_at hl 1 rfl) ?_
  refine g_calli w (g_runV (As := [.int n]) (rest := []) S hE w hl (c_isNotWritten l D ar κ G sz y n (some q) (some (q + 1)) (some (q + 2)) (some (q + 3)) (some (q + 4)) (some (q + 6)) t 0 0 0 45 0 none (q + 5) 0 (some (κ 0)) m0 m6) (k_RX15_353 S.2.2.2.2 ⟨Nat.le_of_ble_eq_true rfl, Nat.le_of_ble_eq_true rfl⟩) m0 rfl rfl rfl rfl (Nat.le_of_ble_eq_true rfl) dX15_writtenKind_2 ⟨Nat.le_of_ble_eq_true rfl, Nat.le_of_ble_eq_true rfl⟩) (fun r u H locs hp hnz w => ?_)
  obtain ⟨rfl, rfl⟩ := hp
  dsimp only at w
  refine lv_if_eq (tgt := 12) hx hb dX15_writtenKind_5 (by decide) (fun c => absurd c (by decide)) (fun _ => ?_)
  refine lv_iconst (v := 0) hx hb dX15_writtenKind_8 (by decide) ?_
  refine lv_goto (tgt := 26) hx hb dX15_writtenKind_9 (by decide) ?_
  exact g_zret hx hb hr hlk w (Nat.le_of_ble_eq_true rfl) (Nat.le_of_ble_eq_true rfl) dX15_writtenKind_26 rfl ⟨(nz_first (T := 1) rfl (by decide)), TH_mk (T := 1) g_up_s rfl rfl⟩
set_option maxHeartbeats 4000000 in
set_option maxRecDepth 100000 in
theorem m_writtenValue (l : Launch) (D : va_G) (ar : Nat → ClassId) (κ : Nat → Nat) (G : gW) (sz : Nat) (y : Nat) (n : Int32) (q : Nat) (t : Int32) (hM : FM ar κ G y q t) : Met l yX15_writtenValue (lwC yX15_writtenValue cX15_writtenValue 2 (some .int)) (rD 6 0 0) (g_Pc D vwCl (gT ar) (EX1 κ) G sz [.ref y, .int n]) (g_Qi D vwCl (g_A G sz) (fun r u => ((1 : Int32) = 0 → r = 0) ∧ TH y (1) u)) 0 0 (g_A G sz) := by
  refine g_ofW (by decide +kernel) (Nat.le_of_ble_eq_true rfl) ?_
  intro p e s m below meth c ls S hr hlk hin hE w hl
  have hx := S.1
  have hb := S.2.1
  have hl : lv_has ls 2 [(0, .ref y), (1, .int n)] := hl
  obtain ⟨hyq, m0, m1, m2, m3, m4, m5, m6, m7, m8, m9, m10, m11, m12, m13, m14⟩ := id hM
  have lt13 : q + 13 < sz := g_ltn w m14
  refine lv_aload_n hx hb dX15_writtenValue_0 rfl (lv_at hl 0 rfl) ?_
  refine lv_iload_n hx hb dX15_writtenValue_1 rfl (lv_at hl 1 rfl) ?_
  refine g_calli w (g_runV (As := [.int n]) (rest := []) S hE w hl (c_isNotWritten l D ar κ G sz y n (some q) (some (q + 1)) (some (q + 2)) (some (q + 3)) (some (q + 4)) (some (q + 6)) t 0 0 0 45 0 none (q + 5) 0 (some (κ 0)) m0 m6) (k_RX15_353 S.2.2.2.2 ⟨Nat.le_of_ble_eq_true rfl, Nat.le_of_ble_eq_true rfl⟩) m0 rfl rfl rfl rfl (Nat.le_of_ble_eq_true rfl) dX15_writtenValue_2 ⟨Nat.le_of_ble_eq_true rfl, Nat.le_of_ble_eq_true rfl⟩) (fun r u H locs hp hnz w => ?_)
  obtain ⟨rfl, rfl⟩ := hp
  dsimp only at w
  refine lv_if_eq (tgt := 12) hx hb dX15_writtenValue_5 (by decide) (fun c => absurd c (by decide)) (fun _ => ?_)
  refine lv_iconst (v := 0) hx hb dX15_writtenValue_8 (by decide) ?_
  refine lv_goto (tgt := 26) hx hb dX15_writtenValue_9 (by decide) ?_
  exact g_iret hx hb hr hlk w (Nat.le_of_ble_eq_true rfl) (Nat.le_of_ble_eq_true rfl) dX15_writtenValue_26 ⟨(nz_first (T := 1) rfl (by decide)), TH_mk (T := 1) g_up_s rfl rfl⟩
set_option maxHeartbeats 4000000 in
set_option maxRecDepth 100000 in
theorem m_go (l : Launch) (D : va_G) (ar : Nat → ClassId) (κ : Nat → Nat) (G : gW) (sz : Nat) (y : Nat) (n : Int32) (q : Nat) (t : Int32) (hM : FM ar κ G y q t) : Met l yX15_go (lwC yX15_go cX15_go 3 (some .int)) (rD 6 0 0) (g_Pc D vwCl (gT ar) (EX1 κ) G sz [.ref y, .int n]) (g_Qi D vwCl (g_A G sz) (fun r u => ((K_go n : Int32) = 0 → r = 0) ∧ TH y (K_go n) u)) 0 0 (g_A G sz) := by
  refine g_ofW (by decide +kernel) (Nat.le_of_ble_eq_true rfl) ?_
  intro p e s m below meth c ls S hr hlk hin hE w hl
  have hx := S.1
  have hb := S.2.1
  have hl : lv_has ls 3 [(0, .ref y), (1, .int n)] := hl
  obtain ⟨hyq, m0, m1, m2, m3, m4, m5, m6, m7, m8, m9, m10, m11, m12, m13, m14⟩ := id hM
  have lt13 : q + 13 < sz := g_ltn w m14
  refine lv_aload_n hx hb dX15_go_0 rfl (lv_at hl 0 rfl) ?_
  refine lv_iload_n hx hb dX15_go_1 rfl (lv_at hl 1 rfl) ?_
  refine lv_iconst (v := 1) hx hb dX15_go_2 (by decide) ?_
  refine lv_sipush (v := 500) hx hb dX15_go_3 (by decide) ?_
  refine g_calli w (g_runS (As := [.int n, .int 1, .int 500]) (rest := [.ref y]) S hE w hl (c_isBetween l D ar κ G sz n 1 500) (k_RX15_62 S.2.2.2.2 ⟨Nat.le_of_ble_eq_true rfl, Nat.le_of_ble_eq_true rfl⟩) rfl rfl (Nat.le_of_ble_eq_true rfl) dX15_go_6 ⟨Nat.le_of_ble_eq_true rfl, Nat.le_of_ble_eq_true rfl⟩) (fun r u H locs hp hnz w => ?_)
  obtain ⟨rfl, rfl⟩ := hp
  dsimp only at w
  refine lv_if_ne (tgt := 16) hx hb dX15_go_9 (by decide) (fun c_9 => ?_) (fun c_9 => ?_)
  · refine lv_aload_n hx hb dX15_go_16 rfl (lv_at hl 0 rfl) ?_
    refine gf_RX15_41_19 S hE w m0 rfl dX15_go_17 ?_
    refine lv_bipush (v := 115) hx hb dX15_go_20 (by decide) ?_
    refine lv_icmp_eq (tgt := 29) hx hb dX15_go_22 (by decide) (fun c => absurd c (by decide)) (fun _ => ?_)
    refine lv_iconst (v := 2) hx hb dX15_go_25 (by decide) ?_
    refine lv_goto (tgt := 30) hx hb dX15_go_26 (by decide) ?_
    refine g_calli w (g_runV (As := [.int 2]) (rest := []) S hE w hl (c_isWrong l D ar κ G sz y 2 (some q) (some (q + 1)) (some (q + 2)) (some (q + 3)) (some (q + 4)) (some (q + 5)) (some (q + 6)) t 0 0 0 45 0 none m0) (k_RX15_77 S.2.2.2.2 ⟨Nat.le_of_ble_eq_true rfl, Nat.le_of_ble_eq_true rfl⟩) m0 rfl rfl rfl rfl (Nat.le_of_ble_eq_true rfl) dX15_go_30 ⟨Nat.le_of_ble_eq_true rfl, Nat.le_of_ble_eq_true rfl⟩) (fun r u H locs hp hnz w => ?_)
    obtain ⟨rfl, rfl⟩ := hp
    rw [show (if (2 : Int32) = 0 then (0 : Int32) else 1) = 1 from by decide]
    dsimp only at w
    refine lv_if_eq (tgt := 38) hx hb dX15_go_33 (by decide) (fun c => absurd c (by decide)) (fun _ => ?_)
    refine lv_iconst (v := 0) hx hb dX15_go_36 (by decide) ?_
    exact g_iret hx hb hr hlk w (Nat.le_of_ble_eq_true rfl) (Nat.le_of_ble_eq_true rfl) dX15_go_37 ⟨(fun h => absurd h K_go_n), TH_mk (T := 2) g_up_s rfl (by simp [K_go_W, isB03, isB13, isB23, isPl0, isPl1, isPl2, c_9])⟩
  · refine lv_iconst (v := 1) hx hb dX15_go_12 (by decide) ?_
    refine lv_goto (tgt := 30) hx hb dX15_go_13 (by decide) ?_
    refine g_calli w (g_runV (As := [.int 1]) (rest := []) S hE w hl (c_isWrong l D ar κ G sz y 1 (some q) (some (q + 1)) (some (q + 2)) (some (q + 3)) (some (q + 4)) (some (q + 5)) (some (q + 6)) t 0 0 0 45 0 none m0) (k_RX15_77 S.2.2.2.2 ⟨Nat.le_of_ble_eq_true rfl, Nat.le_of_ble_eq_true rfl⟩) m0 rfl rfl rfl rfl (Nat.le_of_ble_eq_true rfl) dX15_go_30 ⟨Nat.le_of_ble_eq_true rfl, Nat.le_of_ble_eq_true rfl⟩) (fun r u H locs hp hnz w => ?_)
    obtain ⟨rfl, rfl⟩ := hp
    rw [show (if (1 : Int32) = 0 then (0 : Int32) else 1) = 1 from by decide]
    dsimp only at w
    refine lv_if_eq (tgt := 38) hx hb dX15_go_33 (by decide) (fun c => absurd c (by decide)) (fun _ => ?_)
    refine lv_iconst (v := 0) hx hb dX15_go_36 (by decide) ?_
    exact g_iret hx hb hr hlk w (Nat.le_of_ble_eq_true rfl) (Nat.le_of_ble_eq_true rfl) dX15_go_37 ⟨(fun h => absurd h K_go_n), TH_mk (T := 1) g_up_s rfl (by simp [K_go_W, isB03, isB13, isB23, isPl0, isPl1, isPl2, c_9])⟩
set_option maxHeartbeats 4000000 in
set_option maxRecDepth 100000 in
theorem m_begin (l : Launch) (D : va_G) (ar : Nat → ClassId) (κ : Nat → Nat) (G : gW) (sz : Nat) (y : Nat) (g : Int32) (se : Int32) (a : Int32) (x1 : Int32) (y1 : Int32) (q : Nat) (t : Int32) (hM : FM ar κ G y q t) : Met l yX15_begin (lwC yX15_begin cX15_begin 9 (some .int)) (rD 7 0 0) (g_Pc D vwCl (gT ar) (EX1 κ) G sz [.ref y, .int g, .int se, .int a, .int x1, .int y1]) (g_Qi D vwCl (g_A G sz) (fun r u => ((K_begin g se a : Int32) = 0 → r = 0) ∧ TH y (K_begin g se a) u)) 0 0 (g_A G sz) := by
  refine g_ofW (by decide +kernel) (Nat.le_of_ble_eq_true rfl) ?_
  intro p e s m below meth c ls S hr hlk hin hE w hl
  have hx := S.1
  have hb := S.2.1
  have hl : lv_has ls 9 [(0, .ref y), (1, .int g), (2, .int se), (3, .int a), (4, .int x1), (5, .int y1)] := hl
  obtain ⟨hyq, m0, m1, m2, m3, m4, m5, m6, m7, m8, m9, m10, m11, m12, m13, m14⟩ := id hM
  have lt13 : q + 13 < sz := g_ltn w m14
  refine lv_aload_n hx hb dX15_begin_0 rfl (lv_at hl 0 rfl) ?_
  refine lv_iload_n hx hb dX15_begin_1 rfl (lv_at hl 1 rfl) ?_
  refine g_calli w (g_runS (As := [.int g]) (rest := [.ref y]) S hE w hl (c_isGlobal l D ar κ G sz g) (k_RX15_207 S.2.2.2.2 ⟨Nat.le_of_ble_eq_true rfl, Nat.le_of_ble_eq_true rfl⟩) rfl rfl (Nat.le_of_ble_eq_true rfl) dX15_begin_2 ⟨Nat.le_of_ble_eq_true rfl, Nat.le_of_ble_eq_true rfl⟩) (fun r u H locs hp hnz w => ?_)
  obtain ⟨rfl, rfl⟩ := hp
  dsimp only at w
  refine lv_if_eq (tgt := 18) hx hb dX15_begin_5 (by decide) (fun c_5 => ?_) (fun c_5 => ?_)
  · refine lv_iconst (v := 1) hx hb dX15_begin_18 (by decide) ?_
    refine lv_goto (tgt := 49) hx hb dX15_begin_19 (by decide) ?_
    refine g_calli w (g_runV (As := [.int 1]) (rest := []) S hE w hl (c_isWrong l D ar κ G sz y 1 (some q) (some (q + 1)) (some (q + 2)) (some (q + 3)) (some (q + 4)) (some (q + 5)) (some (q + 6)) t 0 0 0 45 0 none m0) (k_RX15_77 S.2.2.2.2 ⟨Nat.le_of_ble_eq_true rfl, Nat.le_of_ble_eq_true rfl⟩) m0 rfl rfl rfl rfl (Nat.le_of_ble_eq_true rfl) dX15_begin_49 ⟨Nat.le_of_ble_eq_true rfl, Nat.le_of_ble_eq_true rfl⟩) (fun r u H locs hp hnz w => ?_)
    obtain ⟨rfl, rfl⟩ := hp
    rw [show (if (1 : Int32) = 0 then (0 : Int32) else 1) = 1 from by decide]
    dsimp only at w
    refine lv_if_eq (tgt := 57) hx hb dX15_begin_52 (by decide) (fun c => absurd c (by decide)) (fun _ => ?_)
    refine lv_iconst (v := 0) hx hb dX15_begin_55 (by decide) ?_
    exact g_iret hx hb hr hlk w (Nat.le_of_ble_eq_true rfl) (Nat.le_of_ble_eq_true rfl) dX15_begin_56 ⟨(nz_first (T := 1) (by simp [K_begin, isB03, isB13, isB23, isPl0, isPl1, isPl2, c_5]) (by decide)), TH_mk (T := 1) g_up_s rfl (by simp [K_begin, isB03, isB13, isB23, isPl0, isPl1, isPl2, c_5])⟩
  · refine lv_iload_n hx hb dX15_begin_8 rfl (lv_at hl 2 rfl) ?_
    refine lv_iconst (v := 0) hx hb dX15_begin_9 (by decide) ?_
    refine lv_bipush (v := 15) hx hb dX15_begin_10 (by decide) ?_
    refine g_calli w (g_runS (As := [.int se, .int 0, .int 15]) (rest := [.ref y]) S hE w hl (c_isBetween l D ar κ G sz se 0 15) (k_RX15_62 S.2.2.2.2 ⟨Nat.le_of_ble_eq_true rfl, Nat.le_of_ble_eq_true rfl⟩) rfl rfl (Nat.le_of_ble_eq_true rfl) dX15_begin_12 ⟨Nat.le_of_ble_eq_true rfl, Nat.le_of_ble_eq_true rfl⟩) (fun r u H locs hp hnz w => ?_)
    obtain ⟨rfl, rfl⟩ := hp
    rw [show (isW se 0 15) = isB se 16 from isW_B rfl (by decide) (by decide)]
    dsimp only at w
    refine lv_if_ne (tgt := 22) hx hb dX15_begin_15 (by decide) (fun c_15 => ?_) (fun c_15 => ?_)
    · refine lv_iload_n hx hb dX15_begin_22 rfl (lv_at hl 3 rfl) ?_
      refine lv_iconst (v := 0) hx hb dX15_begin_23 (by decide) ?_
      refine lv_iconst (v := 2) hx hb dX15_begin_24 (by decide) ?_
      refine g_calli w (g_runS (As := [.int a, .int 0, .int 2]) (rest := [.ref y]) S hE w hl (c_isBetween l D ar κ G sz a 0 2) (k_RX15_62 S.2.2.2.2 ⟨Nat.le_of_ble_eq_true rfl, Nat.le_of_ble_eq_true rfl⟩) rfl rfl (Nat.le_of_ble_eq_true rfl) dX15_begin_25 ⟨Nat.le_of_ble_eq_true rfl, Nat.le_of_ble_eq_true rfl⟩) (fun r u H locs hp hnz w => ?_)
      obtain ⟨rfl, rfl⟩ := hp
      rw [show (isW a 0 2) = isB a 3 from isW_B rfl (by decide) (by decide)]
      dsimp only at w
      refine lv_if_ne (tgt := 35) hx hb dX15_begin_28 (by decide) (fun c_28 => ?_) (fun c_28 => ?_)
      · refine lv_aload_n hx hb dX15_begin_35 rfl (lv_at hl 0 rfl) ?_
        refine gf_RX15_41_19 S hE w m0 rfl dX15_begin_36 ?_
        refine lv_bipush (v := 115) hx hb dX15_begin_39 (by decide) ?_
        refine lv_icmp_ne (tgt := 48) hx hb dX15_begin_41 (by decide) (fun _ => ?_) (fun c => absurd c (by decide))
        refine lv_iconst (v := 0) hx hb dX15_begin_48 (by decide) ?_
        refine g_calli w (g_runV (As := [.int 0]) (rest := []) S hE w hl (c_isWrong l D ar κ G sz y 0 (some q) (some (q + 1)) (some (q + 2)) (some (q + 3)) (some (q + 4)) (some (q + 5)) (some (q + 6)) t 0 0 0 45 0 none m0) (k_RX15_77 S.2.2.2.2 ⟨Nat.le_of_ble_eq_true rfl, Nat.le_of_ble_eq_true rfl⟩) m0 rfl rfl rfl rfl (Nat.le_of_ble_eq_true rfl) dX15_begin_49 ⟨Nat.le_of_ble_eq_true rfl, Nat.le_of_ble_eq_true rfl⟩) (fun r u H locs hp hnz w => ?_)
        obtain ⟨rfl, rfl⟩ := hp
        rw [show (if (0 : Int32) = 0 then (0 : Int32) else 1) = 0 from by decide]
        dsimp only at w
        refine lv_if_eq (tgt := 57) hx hb dX15_begin_52 (by decide) (fun _ => ?_) (fun c => absurd (by decide) c)
        refine lv_aload_n hx hb dX15_begin_57 rfl (lv_at hl 0 rfl) ?_
        refine lv_aload_n hx hb dX15_begin_58 rfl (lv_at hl 0 rfl) ?_
        refine lv_aload_n hx hb dX15_begin_59 rfl (lv_at hl 0 rfl) ?_
        refine gf_RX15_37_19 S hE w g_up_s rfl dX15_begin_60 ?_
        refine lv_iload_n hx hb dX15_begin_63 rfl (lv_at hl 1 rfl) ?_
        refine va_aldq hx hb hE.1 (g_1 w.1 (g_up_o (g_nx m7 m0 (by simp)) m7)) 0 10 rfl rfl (vinB (n := 8) rfl (by decide) c_5) dX15_begin_64 ?_
        rw [show (va_up (va_up (va_up (va_up (va_up (va_up (va_up (va_up (fun _ => none) (Int32.toNatClampNeg 0) (some q)) (Int32.toNatClampNeg 1) (some q)) (Int32.toNatClampNeg 2) (some q)) (Int32.toNatClampNeg 3) (some q)) (Int32.toNatClampNeg 4) (some q)) (Int32.toNatClampNeg 5) (some q)) (Int32.toNatClampNeg 6) (some q)) (Int32.toNatClampNeg 7) (some q)) (Int32.toNatClampNeg g) = some q from gl8 (vinB (n := 8) rfl (by decide) c_5)]
        show W p l e _ s m _ below meth c _ _ _ _ _ (F0 m _ ls (.ref q :: _))
        refine g_calli w (g_runV (As := [.ref q]) (rest := [.ref y]) S hE w hl (c_classOf_ l D ar κ (g_up G y (.inr (19, [.ref q, .ref (q + 1), .ref (q + 2), .ref (q + 3), .ref (q + 4), .ref (q + 5), .ref (q + 6), .int 0, .int 0, .int 0, .int 0, .int 45, .int 0, .null]))) sz y q 0 (g_up_o (g_nx m1 m0 (by simp)) m1)) (k_RX15_267 S.2.2.2.2 ⟨Nat.le_of_ble_eq_true rfl, Nat.le_of_ble_eq_true rfl⟩) g_up_s rfl rfl rfl rfl (Nat.le_of_ble_eq_true rfl) dX15_begin_65 ⟨Nat.le_of_ble_eq_true rfl, Nat.le_of_ble_eq_true rfl⟩) (fun r u H locs hp hnz w => ?_)
        obtain ⟨rfl, rfl⟩ := hp
        dsimp only at w
        refine lv_iload_n hx hb dX15_begin_68 rfl (lv_at hl 2 rfl) ?_
        refine g_callq w (g_runV (As := [.int 2, .int se]) (rest := []) S hE w hl (c_found_2 l D ar κ (g_up G y (.inr (19, [.ref q, .ref (q + 1), .ref (q + 2), .ref (q + 3), .ref (q + 4), .ref (q + 5), .ref (q + 6), .int 0, .int 0, .int 0, .int 0, .int 45, .int 0, .null]))) sz y se q 0 g_up_s (g_up_o (g_nx m1 m0 (by simp)) m1) (g_up_o (g_nx m2 m0 (by simp)) m2) (g_up_o (g_nx m3 m0 (by simp)) m3) (g_up_o (g_nx m4 m0 (by simp)) m4) (g_up_o (g_nx m5 m0 (by simp)) m5) (g_up_o (g_nx m6 m0 (by simp)) m6) (g_up_o (g_nx m7 m0 (by simp)) m7) (g_up_o (g_nx m8 m0 (by simp)) m8) (g_up_o (g_nx m9 m0 (by simp)) m9) (g_up_o (g_nx m10 m0 (by simp)) m10) (g_up_o (g_nx m11 m0 (by simp)) m11) (g_up_o (g_nx m12 m0 (by simp)) m12) (g_up_o (g_nx m13 m0 (by simp)) m13) (g_up_o (g_nx m14 m0 (by simp)) m14) c_15) (k_RX15_180 S.2.2.2.2 ⟨Nat.le_of_ble_eq_true rfl, Nat.le_of_ble_eq_true rfl⟩) g_up_s rfl rfl rfl rfl (Nat.le_of_ble_eq_true rfl) dX15_begin_69 ⟨Nat.le_of_ble_eq_true rfl, Nat.le_of_ble_eq_true rfl⟩) (fun r u H locs hp hnz w => ?_)
        obtain ⟨rfl, rfl⟩ := hp
        dsimp only at w
        refine lv_astoreN (lv' := [(6, .null), (0, .ref y), (1, .int g), (2, .int se), (3, .int a), (4, .int x1), (5, .int y1)]) hx hb dX15_begin_72 hl (by decide) rfl (fun ls hl => ?_)
        refine lv_aload_n hx hb dX15_begin_74 rfl (lv_at hl 1 rfl) ?_
        refine lv_aloadN hx hb dX15_begin_75 (lv_at hl 0 rfl) ?_
        refine lv_ifnullN (tgt := 89) hx hb dX15_begin_77 (by decide) ?_
        refine lv_iconst (v := 4) hx hb dX15_begin_89 (by decide) ?_
        refine lv_goto (tgt := 94) hx hb dX15_begin_90 (by decide) ?_
        refine g_calli w (g_runV (As := [.int 4]) (rest := []) S hE w hl (c_isWrong l D ar κ (g_up G y (.inr (19, [.ref q, .ref (q + 1), .ref (q + 2), .ref (q + 3), .ref (q + 4), .ref (q + 5), .ref (q + 6), .int 0, .int 0, .int 0, .int 0, .int 45, .int 0, .null]))) sz y 4 (some q) (some (q + 1)) (some (q + 2)) (some (q + 3)) (some (q + 4)) (some (q + 5)) (some (q + 6)) 0 0 0 0 45 0 none g_up_s) (k_RX15_77 S.2.2.2.2 ⟨Nat.le_of_ble_eq_true rfl, Nat.le_of_ble_eq_true rfl⟩) g_up_s rfl rfl rfl rfl (Nat.le_of_ble_eq_true rfl) dX15_begin_94 ⟨Nat.le_of_ble_eq_true rfl, Nat.le_of_ble_eq_true rfl⟩) (fun r u H locs hp hnz w => ?_)
        obtain ⟨rfl, rfl⟩ := hp
        rw [show (if (4 : Int32) = 0 then (0 : Int32) else 1) = 1 from by decide]
        dsimp only at w
        have w := g_eqw w g_over
        refine lv_if_eq (tgt := 102) hx hb dX15_begin_97 (by decide) (fun c => absurd c (by decide)) (fun _ => ?_)
        refine lv_iconst (v := 0) hx hb dX15_begin_100 (by decide) ?_
        exact g_iret hx hb hr hlk w (Nat.le_of_ble_eq_true rfl) (Nat.le_of_ble_eq_true rfl) dX15_begin_101 ⟨(nz_first (T := 4) (by simp [K_begin, isB03, isB13, isB23, isPl0, isPl1, isPl2, c_5, c_15, c_28]) (by decide)), TH_mk (T := 4) g_up_s rfl (by simp [K_begin, isB03, isB13, isB23, isPl0, isPl1, isPl2, c_5, c_15, c_28])⟩
      · refine lv_iconst (v := 2) hx hb dX15_begin_31 (by decide) ?_
        refine lv_goto (tgt := 49) hx hb dX15_begin_32 (by decide) ?_
        refine g_calli w (g_runV (As := [.int 2]) (rest := []) S hE w hl (c_isWrong l D ar κ G sz y 2 (some q) (some (q + 1)) (some (q + 2)) (some (q + 3)) (some (q + 4)) (some (q + 5)) (some (q + 6)) t 0 0 0 45 0 none m0) (k_RX15_77 S.2.2.2.2 ⟨Nat.le_of_ble_eq_true rfl, Nat.le_of_ble_eq_true rfl⟩) m0 rfl rfl rfl rfl (Nat.le_of_ble_eq_true rfl) dX15_begin_49 ⟨Nat.le_of_ble_eq_true rfl, Nat.le_of_ble_eq_true rfl⟩) (fun r u H locs hp hnz w => ?_)
        obtain ⟨rfl, rfl⟩ := hp
        rw [show (if (2 : Int32) = 0 then (0 : Int32) else 1) = 1 from by decide]
        dsimp only at w
        refine lv_if_eq (tgt := 57) hx hb dX15_begin_52 (by decide) (fun c => absurd c (by decide)) (fun _ => ?_)
        refine lv_iconst (v := 0) hx hb dX15_begin_55 (by decide) ?_
        exact g_iret hx hb hr hlk w (Nat.le_of_ble_eq_true rfl) (Nat.le_of_ble_eq_true rfl) dX15_begin_56 ⟨(nz_first (T := 2) (by simp [K_begin, isB03, isB13, isB23, isPl0, isPl1, isPl2, c_5, c_15, c_28]) (by decide)), TH_mk (T := 2) g_up_s rfl (by simp [K_begin, isB03, isB13, isB23, isPl0, isPl1, isPl2, c_5, c_15, c_28])⟩
    · refine lv_iconst (v := 1) hx hb dX15_begin_18 (by decide) ?_
      refine lv_goto (tgt := 49) hx hb dX15_begin_19 (by decide) ?_
      refine g_calli w (g_runV (As := [.int 1]) (rest := []) S hE w hl (c_isWrong l D ar κ G sz y 1 (some q) (some (q + 1)) (some (q + 2)) (some (q + 3)) (some (q + 4)) (some (q + 5)) (some (q + 6)) t 0 0 0 45 0 none m0) (k_RX15_77 S.2.2.2.2 ⟨Nat.le_of_ble_eq_true rfl, Nat.le_of_ble_eq_true rfl⟩) m0 rfl rfl rfl rfl (Nat.le_of_ble_eq_true rfl) dX15_begin_49 ⟨Nat.le_of_ble_eq_true rfl, Nat.le_of_ble_eq_true rfl⟩) (fun r u H locs hp hnz w => ?_)
      obtain ⟨rfl, rfl⟩ := hp
      rw [show (if (1 : Int32) = 0 then (0 : Int32) else 1) = 1 from by decide]
      dsimp only at w
      refine lv_if_eq (tgt := 57) hx hb dX15_begin_52 (by decide) (fun c => absurd c (by decide)) (fun _ => ?_)
      refine lv_iconst (v := 0) hx hb dX15_begin_55 (by decide) ?_
      exact g_iret hx hb hr hlk w (Nat.le_of_ble_eq_true rfl) (Nat.le_of_ble_eq_true rfl) dX15_begin_56 ⟨(nz_first (T := 1) (by simp [K_begin, isB03, isB13, isB23, isPl0, isPl1, isPl2, c_5, c_15]) (by decide)), TH_mk (T := 1) g_up_s rfl (by simp [K_begin, isB03, isB13, isB23, isPl0, isPl1, isPl2, c_5, c_15])⟩
