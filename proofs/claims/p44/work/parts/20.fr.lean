theorem dX3_firstAt_0 : decode cX3_firstAt 0 = .ok (.iload_n 1, 1) := by decide +kernel
theorem dX3_firstAt_1 : decode cX3_firstAt 1 = .ok (.aload_n 0, 1) := by decide +kernel
theorem dX3_firstAt_2 : decode cX3_firstAt 2 = .ok (.getfield 15, 3) := by decide +kernel
theorem dX3_firstAt_5 : decode cX3_firstAt 5 = .ok (.arraylength, 1) := by decide +kernel
theorem dX3_firstAt_6 : decode cX3_firstAt 6 = .ok (.invokestatic 35, 3) := by decide +kernel
theorem dX3_firstAt_9 : decode cX3_firstAt 9 = .ok (.ifCond .eq 12, 3) := by decide +kernel
theorem dX3_firstAt_12 : decode cX3_firstAt 12 = .ok (.aload_n 0, 1) := by decide +kernel
theorem dX3_firstAt_13 : decode cX3_firstAt 13 = .ok (.getfield 15, 3) := by decide +kernel
theorem dX3_firstAt_16 : decode cX3_firstAt 16 = .ok (.iload_n 1, 1) := by decide +kernel
theorem dX3_firstAt_17 : decode cX3_firstAt 17 = .ok (.iaload, 1) := by decide +kernel
theorem dX3_firstAt_18 : decode cX3_firstAt 18 = .ok (.goto 4, 3) := by decide +kernel
theorem dX3_firstAt_21 : decode cX3_firstAt 21 = .ok (.iconst 0, 1) := by decide +kernel
theorem dX3_firstAt_22 : decode cX3_firstAt 22 = .ok (.ireturn, 1) := by decide +kernel
theorem dX3_secondAt_0 : decode cX3_secondAt 0 = .ok (.iload_n 1, 1) := by decide +kernel
theorem dX3_secondAt_1 : decode cX3_secondAt 1 = .ok (.aload_n 0, 1) := by decide +kernel
theorem dX3_secondAt_2 : decode cX3_secondAt 2 = .ok (.getfield 19, 3) := by decide +kernel
theorem dX3_secondAt_5 : decode cX3_secondAt 5 = .ok (.arraylength, 1) := by decide +kernel
theorem dX3_secondAt_6 : decode cX3_secondAt 6 = .ok (.invokestatic 35, 3) := by decide +kernel
theorem dX3_secondAt_9 : decode cX3_secondAt 9 = .ok (.ifCond .eq 12, 3) := by decide +kernel
theorem dX3_secondAt_12 : decode cX3_secondAt 12 = .ok (.aload_n 0, 1) := by decide +kernel
theorem dX3_secondAt_13 : decode cX3_secondAt 13 = .ok (.getfield 19, 3) := by decide +kernel
theorem dX3_secondAt_16 : decode cX3_secondAt 16 = .ok (.iload_n 1, 1) := by decide +kernel
theorem dX3_secondAt_17 : decode cX3_secondAt 17 = .ok (.iaload, 1) := by decide +kernel
theorem dX3_secondAt_18 : decode cX3_secondAt 18 = .ok (.goto 4, 3) := by decide +kernel
theorem dX3_secondAt_21 : decode cX3_secondAt 21 = .ok (.iconst 0, 1) := by decide +kernel
theorem dX3_secondAt_22 : decode cX3_secondAt 22 = .ok (.ireturn, 1) := by decide +kernel
theorem dX3_depthAt_0 : decode cX3_depthAt 0 = .ok (.iload_n 1, 1) := by decide +kernel
theorem dX3_depthAt_1 : decode cX3_depthAt 1 = .ok (.aload_n 0, 1) := by decide +kernel
theorem dX3_depthAt_2 : decode cX3_depthAt 2 = .ok (.getfield 22, 3) := by decide +kernel
theorem dX3_depthAt_5 : decode cX3_depthAt 5 = .ok (.arraylength, 1) := by decide +kernel
theorem dX3_depthAt_6 : decode cX3_depthAt 6 = .ok (.invokestatic 35, 3) := by decide +kernel
theorem dX3_depthAt_9 : decode cX3_depthAt 9 = .ok (.ifCond .eq 12, 3) := by decide +kernel
theorem dX3_depthAt_12 : decode cX3_depthAt 12 = .ok (.aload_n 0, 1) := by decide +kernel
theorem dX3_depthAt_13 : decode cX3_depthAt 13 = .ok (.getfield 22, 3) := by decide +kernel
theorem dX3_depthAt_16 : decode cX3_depthAt 16 = .ok (.iload_n 1, 1) := by decide +kernel
theorem dX3_depthAt_17 : decode cX3_depthAt 17 = .ok (.iaload, 1) := by decide +kernel
theorem dX3_depthAt_18 : decode cX3_depthAt 18 = .ok (.goto 4, 3) := by decide +kernel
theorem dX3_depthAt_21 : decode cX3_depthAt 21 = .ok (.iconst (-1), 1) := by decide +kernel
theorem dX3_depthAt_22 : decode cX3_depthAt 22 = .ok (.ireturn, 1) := by decide +kernel
theorem dX3_comeToAt_0 : decode cX3_comeToAt 0 = .ok (.iload_n 1, 1) := by decide +kernel
theorem dX3_comeToAt_1 : decode cX3_comeToAt 1 = .ok (.aload_n 0, 1) := by decide +kernel
theorem dX3_comeToAt_2 : decode cX3_comeToAt 2 = .ok (.getfield 25, 3) := by decide +kernel
theorem dX3_comeToAt_5 : decode cX3_comeToAt 5 = .ok (.arraylength, 1) := by decide +kernel
theorem dX3_comeToAt_6 : decode cX3_comeToAt 6 = .ok (.invokestatic 35, 3) := by decide +kernel
theorem dX3_comeToAt_9 : decode cX3_comeToAt 9 = .ok (.ifCond .eq 12, 3) := by decide +kernel
theorem dX3_comeToAt_12 : decode cX3_comeToAt 12 = .ok (.aload_n 0, 1) := by decide +kernel
theorem dX3_comeToAt_13 : decode cX3_comeToAt 13 = .ok (.getfield 25, 3) := by decide +kernel
theorem dX3_comeToAt_16 : decode cX3_comeToAt 16 = .ok (.iload_n 1, 1) := by decide +kernel
theorem dX3_comeToAt_17 : decode cX3_comeToAt 17 = .ok (.iaload, 1) := by decide +kernel
theorem dX3_comeToAt_18 : decode cX3_comeToAt 18 = .ok (.goto 4, 3) := by decide +kernel
theorem dX3_comeToAt_21 : decode cX3_comeToAt 21 = .ok (.iconst 0, 1) := by decide +kernel
theorem dX3_comeToAt_22 : decode cX3_comeToAt 22 = .ok (.ireturn, 1) := by decide +kernel
theorem dX3_letterAt_0 : decode cX3_letterAt 0 = .ok (.iload_n 1, 1) := by decide +kernel
theorem dX3_letterAt_1 : decode cX3_letterAt 1 = .ok (.aload_n 0, 1) := by decide +kernel
theorem dX3_letterAt_2 : decode cX3_letterAt 2 = .ok (.getfield 9, 3) := by decide +kernel
theorem dX3_letterAt_5 : decode cX3_letterAt 5 = .ok (.arraylength, 1) := by decide +kernel
theorem dX3_letterAt_6 : decode cX3_letterAt 6 = .ok (.invokestatic 35, 3) := by decide +kernel
theorem dX3_letterAt_9 : decode cX3_letterAt 9 = .ok (.ifCond .eq 12, 3) := by decide +kernel
theorem dX3_letterAt_12 : decode cX3_letterAt 12 = .ok (.aload_n 0, 1) := by decide +kernel
theorem dX3_letterAt_13 : decode cX3_letterAt 13 = .ok (.getfield 9, 3) := by decide +kernel
theorem dX3_letterAt_16 : decode cX3_letterAt 16 = .ok (.iload_n 1, 1) := by decide +kernel
theorem dX3_letterAt_17 : decode cX3_letterAt 17 = .ok (.caload, 1) := by decide +kernel
theorem dX3_letterAt_18 : decode cX3_letterAt 18 = .ok (.goto 5, 3) := by decide +kernel
theorem dX3_letterAt_21 : decode cX3_letterAt 21 = .ok (.bipush 114, 2) := by decide +kernel
theorem dX3_letterAt_23 : decode cX3_letterAt 23 = .ok (.ireturn, 1) := by decide +kernel
theorem dX3_takenBy_0 : decode cX3_takenBy 0 = .ok (.iload_n 0, 1) := by decide +kernel
theorem dX3_takenBy_1 : decode cX3_takenBy 1 = .ok (.lookupswitch 155 #[(42, 149), (43, 149), (45, 149), (47, 149), (60, 149), (61, 149), (77, 151), (97, 147), (99, 147), (102, 147), (103, 147), (106, 147), (109, 151), (110, 147), (115, 147), (116, 147), (117, 147)], 147) := by decide +kernel
theorem dX3_takenBy_148 : decode cX3_takenBy 148 = .ok (.iconst 0, 1) := by decide +kernel
theorem dX3_takenBy_149 : decode cX3_takenBy 149 = .ok (.ireturn, 1) := by decide +kernel
theorem dX3_takenBy_150 : decode cX3_takenBy 150 = .ok (.iconst 2, 1) := by decide +kernel
theorem dX3_takenBy_151 : decode cX3_takenBy 151 = .ok (.ireturn, 1) := by decide +kernel
theorem dX3_takenBy_152 : decode cX3_takenBy 152 = .ok (.iload_n 1, 1) := by decide +kernel
theorem dX3_takenBy_153 : decode cX3_takenBy 153 = .ok (.iconst 1, 1) := by decide +kernel
theorem dX3_takenBy_154 : decode cX3_takenBy 154 = .ok (.iadd, 1) := by decide +kernel
theorem dX3_takenBy_155 : decode cX3_takenBy 155 = .ok (.ireturn, 1) := by decide +kernel
theorem dX3_takenBy_156 : decode cX3_takenBy 156 = .ok (.iconst 1, 1) := by decide +kernel
theorem dX3_takenBy_157 : decode cX3_takenBy 157 = .ok (.ireturn, 1) := by decide +kernel
theorem dX3_putBy_0 : decode cX3_putBy 0 = .ok (.iload_n 0, 1) := by decide +kernel
theorem dX3_putBy_1 : decode cX3_putBy 1 = .ok (.lookupswitch 87 #[(70, 83), (71, 83), (84, 83), (100, 85), (106, 83), (112, 83), (114, 83), (119, 83), (121, 83)], 83) := by decide +kernel
theorem dX3_putBy_84 : decode cX3_putBy 84 = .ok (.iconst 0, 1) := by decide +kernel
theorem dX3_putBy_85 : decode cX3_putBy 85 = .ok (.ireturn, 1) := by decide +kernel
theorem dX3_putBy_86 : decode cX3_putBy 86 = .ok (.iconst 2, 1) := by decide +kernel
theorem dX3_putBy_87 : decode cX3_putBy 87 = .ok (.ireturn, 1) := by decide +kernel
theorem dX3_putBy_88 : decode cX3_putBy 88 = .ok (.iconst 1, 1) := by decide +kernel
theorem dX3_putBy_89 : decode cX3_putBy 89 = .ok (.ireturn, 1) := by decide +kernel
theorem dX1_cls_0 : decode cX1_cls 0 = .ok (.aload_n 0, 1) := by decide +kernel
theorem dX1_cls_1 : decode cX1_cls 1 = .ok (.getfield 21, 3) := by decide +kernel
theorem dX1_cls_4 : decode cX1_cls 4 = .ok (.ifnonnull 7, 3) := by decide +kernel
theorem dX1_cls_7 : decode cX1_cls 7 = .ok (.iconst 0, 1) := by decide +kernel
theorem dX1_cls_8 : decode cX1_cls 8 = .ok (.goto 10, 3) := by decide +kernel
theorem dX1_cls_11 : decode cX1_cls 11 = .ok (.aload_n 0, 1) := by decide +kernel
theorem dX1_cls_12 : decode cX1_cls 12 = .ok (.getfield 21, 3) := by decide +kernel
theorem dX1_cls_15 : decode cX1_cls 15 = .ok (.getfield 44, 3) := by decide +kernel
theorem dX1_cls_18 : decode cX1_cls 18 = .ok (.ireturn, 1) := by decide +kernel
theorem dX1_selector_0 : decode cX1_selector 0 = .ok (.aload_n 0, 1) := by decide +kernel
theorem dX1_selector_1 : decode cX1_selector 1 = .ok (.getfield 21, 3) := by decide +kernel
theorem dX1_selector_4 : decode cX1_selector 4 = .ok (.ifnonnull 7, 3) := by decide +kernel
theorem dX1_selector_7 : decode cX1_selector 7 = .ok (.iconst 0, 1) := by decide +kernel
theorem dX1_selector_8 : decode cX1_selector 8 = .ok (.goto 10, 3) := by decide +kernel
theorem dX1_selector_11 : decode cX1_selector 11 = .ok (.aload_n 0, 1) := by decide +kernel
theorem dX1_selector_12 : decode cX1_selector 12 = .ok (.getfield 21, 3) := by decide +kernel
theorem dX1_selector_15 : decode cX1_selector 15 = .ok (.getfield 49, 3) := by decide +kernel
theorem dX1_selector_18 : decode cX1_selector 18 = .ok (.ireturn, 1) := by decide +kernel
theorem dX1_letter_0 : decode cX1_letter 0 = .ok (.aload_n 0, 1) := by decide +kernel
theorem dX1_letter_1 : decode cX1_letter 1 = .ok (.getfield 21, 3) := by decide +kernel
theorem dX1_letter_4 : decode cX1_letter 4 = .ok (.ifnonnull 8, 3) := by decide +kernel
theorem dX1_letter_7 : decode cX1_letter 7 = .ok (.bipush 114, 2) := by decide +kernel
theorem dX1_letter_9 : decode cX1_letter 9 = .ok (.goto 17, 3) := by decide +kernel
theorem dX1_letter_12 : decode cX1_letter 12 = .ok (.aload_n 0, 1) := by decide +kernel
theorem dX1_letter_13 : decode cX1_letter 13 = .ok (.getfield 21, 3) := by decide +kernel
theorem dX1_letter_16 : decode cX1_letter 16 = .ok (.getfield 52, 3) := by decide +kernel
theorem dX1_letter_19 : decode cX1_letter 19 = .ok (.aload_n 0, 1) := by decide +kernel
theorem dX1_letter_20 : decode cX1_letter 20 = .ok (.getfield 31, 3) := by decide +kernel
theorem dX1_letter_23 : decode cX1_letter 23 = .ok (.invokevirtual 56, 3) := by decide +kernel
theorem dX1_letter_26 : decode cX1_letter 26 = .ok (.ireturn, 1) := by decide +kernel
theorem dX1_first_0 : decode cX1_first 0 = .ok (.aload_n 0, 1) := by decide +kernel
theorem dX1_first_1 : decode cX1_first 1 = .ok (.getfield 21, 3) := by decide +kernel
theorem dX1_first_4 : decode cX1_first 4 = .ok (.ifnonnull 7, 3) := by decide +kernel
theorem dX1_first_7 : decode cX1_first 7 = .ok (.iconst 0, 1) := by decide +kernel
theorem dX1_first_8 : decode cX1_first 8 = .ok (.goto 17, 3) := by decide +kernel
theorem dX1_first_11 : decode cX1_first 11 = .ok (.aload_n 0, 1) := by decide +kernel
theorem dX1_first_12 : decode cX1_first 12 = .ok (.getfield 21, 3) := by decide +kernel
theorem dX1_first_15 : decode cX1_first 15 = .ok (.getfield 52, 3) := by decide +kernel
theorem dX1_first_18 : decode cX1_first 18 = .ok (.aload_n 0, 1) := by decide +kernel
theorem dX1_first_19 : decode cX1_first 19 = .ok (.getfield 31, 3) := by decide +kernel
theorem dX1_first_22 : decode cX1_first 22 = .ok (.invokevirtual 62, 3) := by decide +kernel
theorem dX1_first_25 : decode cX1_first 25 = .ok (.ireturn, 1) := by decide +kernel
theorem dX1_second_0 : decode cX1_second 0 = .ok (.aload_n 0, 1) := by decide +kernel
theorem dX1_second_1 : decode cX1_second 1 = .ok (.getfield 21, 3) := by decide +kernel
theorem dX1_second_4 : decode cX1_second 4 = .ok (.ifnonnull 7, 3) := by decide +kernel
theorem dX1_second_7 : decode cX1_second 7 = .ok (.iconst 0, 1) := by decide +kernel
theorem dX1_second_8 : decode cX1_second 8 = .ok (.goto 17, 3) := by decide +kernel
theorem dX1_second_11 : decode cX1_second 11 = .ok (.aload_n 0, 1) := by decide +kernel
theorem dX1_second_12 : decode cX1_second 12 = .ok (.getfield 21, 3) := by decide +kernel
theorem dX1_second_15 : decode cX1_second 15 = .ok (.getfield 52, 3) := by decide +kernel
theorem dX1_second_18 : decode cX1_second 18 = .ok (.aload_n 0, 1) := by decide +kernel
theorem dX1_second_19 : decode cX1_second 19 = .ok (.getfield 31, 3) := by decide +kernel
theorem dX1_second_22 : decode cX1_second 22 = .ok (.invokevirtual 66, 3) := by decide +kernel
theorem dX1_second_25 : decode cX1_second 25 = .ok (.ireturn, 1) := by decide +kernel
theorem dX1_depthAsTold_0 : decode cX1_depthAsTold 0 = .ok (.aload_n 0, 1) := by decide +kernel
theorem dX1_depthAsTold_1 : decode cX1_depthAsTold 1 = .ok (.getfield 21, 3) := by decide +kernel
theorem dX1_depthAsTold_4 : decode cX1_depthAsTold 4 = .ok (.ifnonnull 7, 3) := by decide +kernel
theorem dX1_depthAsTold_7 : decode cX1_depthAsTold 7 = .ok (.iconst 0, 1) := by decide +kernel
theorem dX1_depthAsTold_8 : decode cX1_depthAsTold 8 = .ok (.goto 17, 3) := by decide +kernel
theorem dX1_depthAsTold_11 : decode cX1_depthAsTold 11 = .ok (.aload_n 0, 1) := by decide +kernel
theorem dX1_depthAsTold_12 : decode cX1_depthAsTold 12 = .ok (.getfield 21, 3) := by decide +kernel
theorem dX1_depthAsTold_15 : decode cX1_depthAsTold 15 = .ok (.getfield 52, 3) := by decide +kernel
theorem dX1_depthAsTold_18 : decode cX1_depthAsTold 18 = .ok (.aload_n 0, 1) := by decide +kernel
theorem dX1_depthAsTold_19 : decode cX1_depthAsTold 19 = .ok (.getfield 31, 3) := by decide +kernel
theorem dX1_depthAsTold_22 : decode cX1_depthAsTold 22 = .ok (.invokevirtual 69, 3) := by decide +kernel
theorem dX1_depthAsTold_25 : decode cX1_depthAsTold 25 = .ok (.ireturn, 1) := by decide +kernel
theorem dX1_push_0 : decode cX1_push 0 = .ok (.aload_n 0, 1) := by decide +kernel
theorem dX1_push_1 : decode cX1_push 1 = .ok (.getfield 35, 3) := by decide +kernel
theorem dX1_push_4 : decode cX1_push 4 = .ok (.aload_n 0, 1) := by decide +kernel
theorem dX1_push_5 : decode cX1_push 5 = .ok (.getfield 18, 3) := by decide +kernel
theorem dX1_push_8 : decode cX1_push 8 = .ok (.arraylength, 1) := by decide +kernel
theorem dX1_push_9 : decode cX1_push 9 = .ok (.invokestatic 72, 3) := by decide +kernel
theorem dX1_push_12 : decode cX1_push 12 = .ok (.ifCond .eq 23, 3) := by decide +kernel
theorem dX1_push_15 : decode cX1_push 15 = .ok (.aload_n 0, 1) := by decide +kernel
theorem dX1_push_16 : decode cX1_push 16 = .ok (.getfield 18, 3) := by decide +kernel
theorem dX1_push_19 : decode cX1_push 19 = .ok (.aload_n 0, 1) := by decide +kernel
theorem dX1_push_20 : decode cX1_push 20 = .ok (.getfield 35, 3) := by decide +kernel
theorem dX1_push_23 : decode cX1_push 23 = .ok (.lload_n 1, 1) := by decide +kernel
theorem dX1_push_24 : decode cX1_push 24 = .ok (.lastore, 1) := by decide +kernel
theorem dX1_push_25 : decode cX1_push 25 = .ok (.aload_n 0, 1) := by decide +kernel
theorem dX1_push_26 : decode cX1_push 26 = .ok (.dup, 1) := by decide +kernel
theorem dX1_push_27 : decode cX1_push 27 = .ok (.getfield 35, 3) := by decide +kernel
theorem dX1_push_30 : decode cX1_push 30 = .ok (.iconst 1, 1) := by decide +kernel
theorem dX1_push_31 : decode cX1_push 31 = .ok (.iadd, 1) := by decide +kernel
theorem dX1_push_32 : decode cX1_push 32 = .ok (.putfield 35, 3) := by decide +kernel
theorem dX1_push_35 : decode cX1_push 35 = .ok (.return_, 1) := by decide +kernel
theorem dX1_pop_0 : decode cX1_pop 0 = .ok (.aload_n 0, 1) := by decide +kernel
theorem dX1_pop_1 : decode cX1_pop 1 = .ok (.getfield 35, 3) := by decide +kernel
theorem dX1_pop_4 : decode cX1_pop 4 = .ok (.iconst 1, 1) := by decide +kernel
theorem dX1_pop_5 : decode cX1_pop 5 = .ok (.if_icmp .ge 7, 3) := by decide +kernel
theorem dX1_pop_8 : decode cX1_pop 8 = .ok (.ldc2_w 25, 3) := by decide +kernel
theorem dX1_pop_11 : decode cX1_pop 11 = .ok (.lreturn, 1) := by decide +kernel
theorem dX1_pop_12 : decode cX1_pop 12 = .ok (.aload_n 0, 1) := by decide +kernel
theorem dX1_pop_13 : decode cX1_pop 13 = .ok (.dup, 1) := by decide +kernel
theorem dX1_pop_14 : decode cX1_pop 14 = .ok (.getfield 35, 3) := by decide +kernel
theorem dX1_pop_17 : decode cX1_pop 17 = .ok (.iconst 1, 1) := by decide +kernel
theorem dX1_pop_18 : decode cX1_pop 18 = .ok (.isub, 1) := by decide +kernel
theorem dX1_pop_19 : decode cX1_pop 19 = .ok (.putfield 35, 3) := by decide +kernel
theorem dX1_pop_22 : decode cX1_pop 22 = .ok (.aload_n 0, 1) := by decide +kernel
theorem dX1_pop_23 : decode cX1_pop 23 = .ok (.getfield 18, 3) := by decide +kernel
theorem dX1_pop_26 : decode cX1_pop 26 = .ok (.aload_n 0, 1) := by decide +kernel
theorem dX1_pop_27 : decode cX1_pop 27 = .ok (.getfield 35, 3) := by decide +kernel
theorem dX1_pop_30 : decode cX1_pop 30 = .ok (.invokestatic 76, 3) := by decide +kernel
theorem dX1_pop_33 : decode cX1_pop 33 = .ok (.lreturn, 1) := by decide +kernel
theorem dX1_fromTop_0 : decode cX1_fromTop 0 = .ok (.aload_n 0, 1) := by decide +kernel
theorem dX1_fromTop_1 : decode cX1_fromTop 1 = .ok (.getfield 18, 3) := by decide +kernel
theorem dX1_fromTop_4 : decode cX1_fromTop 4 = .ok (.aload_n 0, 1) := by decide +kernel
theorem dX1_fromTop_5 : decode cX1_fromTop 5 = .ok (.getfield 35, 3) := by decide +kernel
theorem dX1_fromTop_8 : decode cX1_fromTop 8 = .ok (.iconst 1, 1) := by decide +kernel
theorem dX1_fromTop_9 : decode cX1_fromTop 9 = .ok (.isub, 1) := by decide +kernel
theorem dX1_fromTop_10 : decode cX1_fromTop 10 = .ok (.iload_n 1, 1) := by decide +kernel
theorem dX1_fromTop_11 : decode cX1_fromTop 11 = .ok (.isub, 1) := by decide +kernel
theorem dX1_fromTop_12 : decode cX1_fromTop 12 = .ok (.invokestatic 76, 3) := by decide +kernel
theorem dX1_fromTop_15 : decode cX1_fromTop 15 = .ok (.lreturn, 1) := by decide +kernel
theorem dX1_placesOf_0 : decode cX1_placesOf 0 = .ok (.iload_n 1, 1) := by decide +kernel
theorem dX1_placesOf_1 : decode cX1_placesOf 1 = .ok (.lookupswitch 65 #[(97, 27), (116, 46)], 27) := by decide +kernel
theorem dX1_placesOf_28 : decode cX1_placesOf 28 = .ok (.aload_n 0, 1) := by decide +kernel
theorem dX1_placesOf_29 : decode cX1_placesOf 29 = .ok (.getfield 21, 3) := by decide +kernel
theorem dX1_placesOf_32 : decode cX1_placesOf 32 = .ok (.ifnonnull 7, 3) := by decide +kernel
theorem dX1_placesOf_35 : decode cX1_placesOf 35 = .ok (.iconst 0, 1) := by decide +kernel
theorem dX1_placesOf_36 : decode cX1_placesOf 36 = .ok (.goto 10, 3) := by decide +kernel
theorem dX1_placesOf_39 : decode cX1_placesOf 39 = .ok (.aload_n 0, 1) := by decide +kernel
theorem dX1_placesOf_40 : decode cX1_placesOf 40 = .ok (.getfield 21, 3) := by decide +kernel
theorem dX1_placesOf_43 : decode cX1_placesOf 43 = .ok (.getfield 80, 3) := by decide +kernel
theorem dX1_placesOf_46 : decode cX1_placesOf 46 = .ok (.ireturn, 1) := by decide +kernel
theorem dX1_placesOf_47 : decode cX1_placesOf 47 = .ok (.aload_n 0, 1) := by decide +kernel
theorem dX1_placesOf_48 : decode cX1_placesOf 48 = .ok (.getfield 21, 3) := by decide +kernel
theorem dX1_placesOf_51 : decode cX1_placesOf 51 = .ok (.ifnonnull 7, 3) := by decide +kernel
theorem dX1_placesOf_54 : decode cX1_placesOf 54 = .ok (.iconst 0, 1) := by decide +kernel
theorem dX1_placesOf_55 : decode cX1_placesOf 55 = .ok (.goto 10, 3) := by decide +kernel
theorem dX1_placesOf_58 : decode cX1_placesOf 58 = .ok (.aload_n 0, 1) := by decide +kernel
theorem dX1_placesOf_59 : decode cX1_placesOf 59 = .ok (.getfield 21, 3) := by decide +kernel
theorem dX1_placesOf_62 : decode cX1_placesOf 62 = .ok (.getfield 82, 3) := by decide +kernel
theorem dX1_placesOf_65 : decode cX1_placesOf 65 = .ok (.ireturn, 1) := by decide +kernel
theorem dX1_placesOf_66 : decode cX1_placesOf 66 = .ok (.aload_n 0, 1) := by decide +kernel
theorem dX1_placesOf_67 : decode cX1_placesOf 67 = .ok (.getfield 35, 3) := by decide +kernel
theorem dX1_placesOf_70 : decode cX1_placesOf 70 = .ok (.ireturn, 1) := by decide +kernel
theorem dX1_placeOf_0 : decode cX1_placeOf 0 = .ok (.iload_n 1, 1) := by decide +kernel
theorem dX1_placeOf_1 : decode cX1_placeOf 1 = .ok (.lookupswitch 45 #[(97, 27), (116, 36)], 27) := by decide +kernel
theorem dX1_placeOf_28 : decode cX1_placeOf 28 = .ok (.aload_n 0, 1) := by decide +kernel
theorem dX1_placeOf_29 : decode cX1_placeOf 29 = .ok (.getfield 9, 3) := by decide +kernel
theorem dX1_placeOf_32 : decode cX1_placeOf 32 = .ok (.iload_n 2, 1) := by decide +kernel
theorem dX1_placeOf_33 : decode cX1_placeOf 33 = .ok (.invokestatic 76, 3) := by decide +kernel
theorem dX1_placeOf_36 : decode cX1_placeOf 36 = .ok (.lreturn, 1) := by decide +kernel
theorem dX1_placeOf_37 : decode cX1_placeOf 37 = .ok (.aload_n 0, 1) := by decide +kernel
theorem dX1_placeOf_38 : decode cX1_placeOf 38 = .ok (.getfield 15, 3) := by decide +kernel
theorem dX1_placeOf_41 : decode cX1_placeOf 41 = .ok (.iload_n 2, 1) := by decide +kernel
theorem dX1_placeOf_42 : decode cX1_placeOf 42 = .ok (.invokestatic 76, 3) := by decide +kernel
theorem dX1_placeOf_45 : decode cX1_placeOf 45 = .ok (.lreturn, 1) := by decide +kernel
theorem dX1_placeOf_46 : decode cX1_placeOf 46 = .ok (.aload_n 0, 1) := by decide +kernel
theorem dX1_placeOf_47 : decode cX1_placeOf 47 = .ok (.getfield 18, 3) := by decide +kernel
theorem dX1_placeOf_50 : decode cX1_placeOf 50 = .ok (.iload_n 2, 1) := by decide +kernel
theorem dX1_placeOf_51 : decode cX1_placeOf 51 = .ok (.invokestatic 76, 3) := by decide +kernel
theorem dX1_placeOf_54 : decode cX1_placeOf 54 = .ok (.lreturn, 1) := by decide +kernel
theorem dX1_places_0 : decode cX1_places 0 = .ok (.iconst 1, 1) := by decide +kernel
theorem dX1_places_1 : decode cX1_places 1 = .ok (.aload_n 0, 1) := by decide +kernel
theorem dX1_places_2 : decode cX1_places 2 = .ok (.bipush 97, 2) := by decide +kernel
theorem dX1_places_4 : decode cX1_places 4 = .ok (.invokevirtual 84, 3) := by decide +kernel
theorem dX1_places_7 : decode cX1_places 7 = .ok (.iadd, 1) := by decide +kernel
theorem dX1_places_8 : decode cX1_places 8 = .ok (.aload_n 0, 1) := by decide +kernel
theorem dX1_places_9 : decode cX1_places 9 = .ok (.bipush 116, 2) := by decide +kernel
theorem dX1_places_11 : decode cX1_places 11 = .ok (.invokevirtual 84, 3) := by decide +kernel
theorem dX1_places_14 : decode cX1_places 14 = .ok (.iadd, 1) := by decide +kernel
theorem dX1_places_15 : decode cX1_places 15 = .ok (.aload_n 0, 1) := by decide +kernel
theorem dX1_places_16 : decode cX1_places 16 = .ok (.getfield 35, 3) := by decide +kernel
theorem dX1_places_19 : decode cX1_places 19 = .ok (.iadd, 1) := by decide +kernel
theorem dX1_places_20 : decode cX1_places 20 = .ok (.ireturn, 1) := by decide +kernel
theorem dX1_place_0 : decode cX1_place 0 = .ok (.iload_n 1, 1) := by decide +kernel
theorem dX1_place_1 : decode cX1_place 1 = .ok (.iconst 1, 1) := by decide +kernel
theorem dX1_place_2 : decode cX1_place 2 = .ok (.isub, 1) := by decide +kernel
theorem dX1_place_3 : decode cX1_place 3 = .ok (.istore_n 2, 1) := by decide +kernel
theorem dX1_place_4 : decode cX1_place 4 = .ok (.iload_n 2, 1) := by decide +kernel
theorem dX1_place_5 : decode cX1_place 5 = .ok (.aload_n 0, 1) := by decide +kernel
theorem dX1_place_6 : decode cX1_place 6 = .ok (.bipush 97, 2) := by decide +kernel
theorem dX1_place_8 : decode cX1_place 8 = .ok (.invokevirtual 84, 3) := by decide +kernel
theorem dX1_place_11 : decode cX1_place 11 = .ok (.isub, 1) := by decide +kernel
theorem dX1_place_12 : decode cX1_place 12 = .ok (.istore_n 3, 1) := by decide +kernel
theorem dX1_place_13 : decode cX1_place 13 = .ok (.iload_n 1, 1) := by decide +kernel
theorem dX1_place_14 : decode cX1_place 14 = .ok (.ifCond .ne 8, 3) := by decide +kernel
theorem dX1_place_17 : decode cX1_place 17 = .ok (.aload_n 0, 1) := by decide +kernel
theorem dX1_place_18 : decode cX1_place 18 = .ok (.getfield 27, 3) := by decide +kernel
theorem dX1_place_21 : decode cX1_place 21 = .ok (.lreturn, 1) := by decide +kernel
theorem dX1_place_22 : decode cX1_place 22 = .ok (.iload_n 3, 1) := by decide +kernel
theorem dX1_place_23 : decode cX1_place 23 = .ok (.ifCond .ge 11, 3) := by decide +kernel
theorem dX1_place_26 : decode cX1_place 26 = .ok (.aload_n 0, 1) := by decide +kernel
theorem dX1_place_27 : decode cX1_place 27 = .ok (.bipush 97, 2) := by decide +kernel
theorem dX1_place_29 : decode cX1_place 29 = .ok (.iload_n 2, 1) := by decide +kernel
theorem dX1_place_30 : decode cX1_place 30 = .ok (.invokevirtual 88, 3) := by decide +kernel
theorem dX1_place_33 : decode cX1_place 33 = .ok (.lreturn, 1) := by decide +kernel
theorem dX1_place_34 : decode cX1_place 34 = .ok (.iload_n 3, 1) := by decide +kernel
theorem dX1_place_35 : decode cX1_place 35 = .ok (.aload_n 0, 1) := by decide +kernel
theorem dX1_place_36 : decode cX1_place 36 = .ok (.bipush 116, 2) := by decide +kernel
theorem dX1_place_38 : decode cX1_place 38 = .ok (.invokevirtual 84, 3) := by decide +kernel
theorem dX1_place_41 : decode cX1_place 41 = .ok (.if_icmp .ge 11, 3) := by decide +kernel
theorem dX1_place_44 : decode cX1_place 44 = .ok (.aload_n 0, 1) := by decide +kernel
theorem dX1_place_45 : decode cX1_place 45 = .ok (.bipush 116, 2) := by decide +kernel
theorem dX1_place_47 : decode cX1_place 47 = .ok (.iload_n 3, 1) := by decide +kernel
theorem dX1_place_48 : decode cX1_place 48 = .ok (.invokevirtual 88, 3) := by decide +kernel
theorem dX1_place_51 : decode cX1_place 51 = .ok (.lreturn, 1) := by decide +kernel
theorem dX1_place_52 : decode cX1_place 52 = .ok (.aload_n 0, 1) := by decide +kernel
theorem dX1_place_53 : decode cX1_place 53 = .ok (.bipush 112, 2) := by decide +kernel
theorem dX1_place_55 : decode cX1_place 55 = .ok (.iload_n 3, 1) := by decide +kernel
theorem dX1_place_56 : decode cX1_place 56 = .ok (.aload_n 0, 1) := by decide +kernel
theorem dX1_place_57 : decode cX1_place 57 = .ok (.bipush 116, 2) := by decide +kernel
theorem dX1_place_59 : decode cX1_place 59 = .ok (.invokevirtual 84, 3) := by decide +kernel
theorem dX1_place_62 : decode cX1_place 62 = .ok (.isub, 1) := by decide +kernel
theorem dX1_place_63 : decode cX1_place 63 = .ok (.invokevirtual 88, 3) := by decide +kernel
theorem dX1_place_66 : decode cX1_place 66 = .ok (.lreturn, 1) := by decide +kernel
theorem dX1_open_0 : decode cX1_open 0 = .ok (.aload_n 0, 1) := by decide +kernel
theorem dX1_open_1 : decode cX1_open 1 = .ok (.aload_n 1, 1) := by decide +kernel
theorem dX1_open_2 : decode cX1_open 2 = .ok (.putfield 21, 3) := by decide +kernel
theorem dX1_open_5 : decode cX1_open 5 = .ok (.aload_n 0, 1) := by decide +kernel
theorem dX1_open_6 : decode cX1_open 6 = .ok (.lload_n 2, 1) := by decide +kernel
theorem dX1_open_7 : decode cX1_open 7 = .ok (.putfield 27, 3) := by decide +kernel
theorem dX1_open_10 : decode cX1_open 10 = .ok (.aload_n 0, 1) := by decide +kernel
theorem dX1_open_11 : decode cX1_open 11 = .ok (.iconst 0, 1) := by decide +kernel
theorem dX1_open_12 : decode cX1_open 12 = .ok (.putfield 31, 3) := by decide +kernel
theorem dX1_open_15 : decode cX1_open 15 = .ok (.aload_n 0, 1) := by decide +kernel
theorem dX1_open_16 : decode cX1_open 16 = .ok (.iconst 0, 1) := by decide +kernel
theorem dX1_open_17 : decode cX1_open 17 = .ok (.putfield 35, 3) := by decide +kernel
theorem dX1_open_20 : decode cX1_open 20 = .ok (.aload_n 0, 1) := by decide +kernel
theorem dX1_open_21 : decode cX1_open 21 = .ok (.getfield 15, 3) := by decide +kernel
theorem dX1_open_24 : decode cX1_open 24 = .ok (.ldc2_w 25, 3) := by decide +kernel
theorem dX1_open_27 : decode cX1_open 27 = .ok (.invokestatic 38, 3) := by decide +kernel
theorem dX1_open_30 : decode cX1_open 30 = .ok (.return_, 1) := by decide +kernel
section SITES
variable {p : Program} {l : Launch} {e : Env} {R : Room} {s : State} {m : MethodId} {args : Array Value} {below : List Frame} {meth : Method} {c : Code} {H : Heap} {locs : List Loc} {cells slots : Nat} {Q : State → Prop}
variable {pc : Nat} {ls : Array Slot} {rest : List Value} {D : va_G} {ar : Nat → ClassId} {κ : Nat → Nat} {A : Nat → Prop} {a : Nat} {H0 : Heap} {G : gW} {nz nL : Nat} {cc : ByteArray}
theorem gf_RX3_22_9 {A9 : Nat → Prop} {H9 : Heap} {fs : List Value} {v : Value} (S : CallFix p m c cc nL s args lwA RX3) (hE : g_E D vwCl (gT ar) (EX1 κ) A9 s H9) (w : g_S D vwCl A H0 G H locs nz) (ha : G a = some (.inr (9, fs))) (hv : fs[3]? = some v) (hdg : decode cc pc = .ok (.getfield 22, 3)) (kk : W p l e R s m args below meth c H locs cells slots Q (F0 m (pc + 3) ls (v :: rest))) : W p l e R s m args below meth c H locs cells slots Q (F0 m pc ls (.ref a :: rest)) :=
  va_get (ci := 9) (C := RX3) (T := TX3) (N := 7) S.1 S.2.1 S.2.2.2.2 inA_RX3 S.2.2.2.1 hE.1 (g_1 w.1 ha) 0 rfl rfl 3 (by decide) (S.2.2.2.2 _ m_1_77) (fun _ h => h) hv hdg kk
theorem gf_RX3_25_9 {A9 : Nat → Prop} {H9 : Heap} {fs : List Value} {v : Value} (S : CallFix p m c cc nL s args lwA RX3) (hE : g_E D vwCl (gT ar) (EX1 κ) A9 s H9) (w : g_S D vwCl A H0 G H locs nz) (ha : G a = some (.inr (9, fs))) (hv : fs[4]? = some v) (hdg : decode cc pc = .ok (.getfield 25, 3)) (kk : W p l e R s m args below meth c H locs cells slots Q (F0 m (pc + 3) ls (v :: rest))) : W p l e R s m args below meth c H locs cells slots Q (F0 m pc ls (.ref a :: rest)) :=
  va_get (ci := 9) (C := RX3) (T := TX3) (N := 7) S.1 S.2.1 S.2.2.2.2 inA_RX3 S.2.2.2.1 hE.1 (g_1 w.1 ha) 0 rfl rfl 4 (by decide) (S.2.2.2.2 _ m_1_78) (fun _ h => h) hv hdg kk
theorem Ro_f_sl {v9 : Ro} {y9 : Nat → Int32} : (v9.sl y9).f = v9.f := rfl
theorem Ro_g_sl {v9 : Ro} {y9 : Nat → Int32} : (v9.sl y9).g = v9.g := rfl
theorem Ro_d_sl {v9 : Ro} {y9 : Nat → Int32} : (v9.sl y9).d = v9.d := rfl
theorem Ro_q_sl {v9 : Ro} {y9 : Nat → Int32} : (v9.sl y9).q = v9.q := rfl
theorem Ro_n_sl {v9 : Ro} {y9 : Nat → Int32} : (v9.sl y9).n = v9.n := rfl
theorem Ro_k_sl {v9 : Ro} {y9 : Nat → Int32} : (v9.sl y9).k = v9.k := rfl
theorem Ro_l_sf {v9 : Ro} {y9 : Nat → Int32} : (v9.sf y9).l = v9.l := rfl
theorem Ro_l_sl {v9 : Ro} {y9 : Nat → Int32} : (v9.sl y9).l = y9 := rfl
theorem Ro_g_sf {v9 : Ro} {y9 : Nat → Int32} : (v9.sf y9).g = v9.g := rfl
theorem Ro_d_sf {v9 : Ro} {y9 : Nat → Int32} : (v9.sf y9).d = v9.d := rfl
theorem Ro_q_sf {v9 : Ro} {y9 : Nat → Int32} : (v9.sf y9).q = v9.q := rfl
theorem Ro_n_sf {v9 : Ro} {y9 : Nat → Int32} : (v9.sf y9).n = v9.n := rfl
theorem Ro_k_sf {v9 : Ro} {y9 : Nat → Int32} : (v9.sf y9).k = v9.k := rfl
theorem Ro_l_sg {v9 : Ro} {y9 : Nat → Int32} : (v9.sg y9).l = v9.l := rfl
theorem Ro_f_sg {v9 : Ro} {y9 : Nat → Int32} : (v9.sg y9).f = v9.f := rfl
theorem Ro_f_sf {v9 : Ro} {y9 : Nat → Int32} : (v9.sf y9).f = y9 := rfl
theorem Ro_d_sg {v9 : Ro} {y9 : Nat → Int32} : (v9.sg y9).d = v9.d := rfl
theorem Ro_q_sg {v9 : Ro} {y9 : Nat → Int32} : (v9.sg y9).q = v9.q := rfl
theorem Ro_n_sg {v9 : Ro} {y9 : Nat → Int32} : (v9.sg y9).n = v9.n := rfl
theorem Ro_k_sg {v9 : Ro} {y9 : Nat → Int32} : (v9.sg y9).k = v9.k := rfl
theorem Ro_l_sn {v9 : Ro} {y9 : Int32} : (v9.sn y9).l = v9.l := rfl
theorem Ro_f_sn {v9 : Ro} {y9 : Int32} : (v9.sn y9).f = v9.f := rfl
theorem Ro_g_sn {v9 : Ro} {y9 : Int32} : (v9.sn y9).g = v9.g := rfl
theorem Ro_g_sg {v9 : Ro} {y9 : Nat → Int32} : (v9.sg y9).g = y9 := rfl
theorem Ro_d_sn {v9 : Ro} {y9 : Int32} : (v9.sn y9).d = v9.d := rfl
theorem Ro_q_sn {v9 : Ro} {y9 : Int32} : (v9.sn y9).q = v9.q := rfl
theorem gf_RX1_21_7 {A9 : Nat → Prop} {H9 : Heap} {fs : List Value} {v : Value} (S : CallFix p m c cc nL s args lwA RX1) (hE : g_E D vwCl (gT ar) (EX1 κ) A9 s H9) (w : g_S D vwCl A H0 G H locs nz) (ha : G a = some (.inr (7, fs))) (hv : fs[3]? = some v) (hdg : decode cc pc = .ok (.getfield 21, 3)) (kk : W p l e R s m args below meth c H locs cells slots Q (F0 m (pc + 3) ls (v :: rest))) : W p l e R s m args below meth c H locs cells slots Q (F0 m pc ls (.ref a :: rest)) :=
  va_get (ci := 7) (C := RX1) (T := TX1) (N := 7) S.1 S.2.1 S.2.2.2.2 inA_RX1 S.2.2.2.1 hE.1 (g_1 w.1 ha) 0 rfl rfl 3 (by decide) (S.2.2.2.2 _ m_1_223) (fun _ h => h) hv hdg kk
theorem inA_RX6 : ∀ w ∈ u_ws RX6 TX6 7, w ∈ lwA := gA_r _ [1470, 1472, 1474, 1476, 1478, 1480, 1482] (by decide +kernel) (by decide +kernel)
theorem gf_RX1_44_12 {A9 : Nat → Prop} {H9 : Heap} {fs : List Value} {v : Value} (S : CallFix p m c cc nL s args lwA RX1) (hE : g_E D vwCl (gT ar) (EX1 κ) A9 s H9) (w : g_S D vwCl A H0 G H locs nz) (ha : G a = some (.inr (12, fs))) (hv : fs[0]? = some v) (hdg : decode cc pc = .ok (.getfield 44, 3)) (kk : W p l e R s m args below meth c H locs cells slots Q (F0 m (pc + 3) ls (v :: rest))) : W p l e R s m args below meth c H locs cells slots Q (F0 m pc ls (.ref a :: rest)) :=
  va_getN (ci := 12) (C := RX6) (T := TX6) (N := 7) S.1 S.2.1 S.2.2.2.2 inA_RX6 S.2.2.2.1 hE.1 (g_1 w.1 ha) 0 rfl rfl 0 (by decide) (va_Nw.use rfl (hE.2.1.1 _ (ckN_1 _ (List.mem_of_getElem? (i := 27) rfl)))) (fun _ h => h) hv hdg kk
theorem gf_RX1_49_12 {A9 : Nat → Prop} {H9 : Heap} {fs : List Value} {v : Value} (S : CallFix p m c cc nL s args lwA RX1) (hE : g_E D vwCl (gT ar) (EX1 κ) A9 s H9) (w : g_S D vwCl A H0 G H locs nz) (ha : G a = some (.inr (12, fs))) (hv : fs[1]? = some v) (hdg : decode cc pc = .ok (.getfield 49, 3)) (kk : W p l e R s m args below meth c H locs cells slots Q (F0 m (pc + 3) ls (v :: rest))) : W p l e R s m args below meth c H locs cells slots Q (F0 m pc ls (.ref a :: rest)) :=
  va_getN (ci := 12) (C := RX6) (T := TX6) (N := 7) S.1 S.2.1 S.2.2.2.2 inA_RX6 S.2.2.2.1 hE.1 (g_1 w.1 ha) 0 rfl rfl 1 (by decide) (va_Nw.use rfl (hE.2.1.1 _ (ckN_1 _ (List.mem_of_getElem? (i := 29) rfl)))) (fun _ h => h) hv hdg kk
theorem gf_RX1_52_12 {A9 : Nat → Prop} {H9 : Heap} {fs : List Value} {v : Value} (S : CallFix p m c cc nL s args lwA RX1) (hE : g_E D vwCl (gT ar) (EX1 κ) A9 s H9) (w : g_S D vwCl A H0 G H locs nz) (ha : G a = some (.inr (12, fs))) (hv : fs[4]? = some v) (hdg : decode cc pc = .ok (.getfield 52, 3)) (kk : W p l e R s m args below meth c H locs cells slots Q (F0 m (pc + 3) ls (v :: rest))) : W p l e R s m args below meth c H locs cells slots Q (F0 m pc ls (.ref a :: rest)) :=
  va_getN (ci := 12) (C := RX6) (T := TX6) (N := 7) S.1 S.2.1 S.2.2.2.2 inA_RX6 S.2.2.2.1 hE.1 (g_1 w.1 ha) 0 rfl rfl 4 (by decide) (va_Nw.use rfl (hE.2.1.1 _ (ckN_1 _ (List.mem_of_getElem? (i := 33) rfl)))) (fun _ h => h) hv hdg kk
theorem gf_RX1_31_7 {A9 : Nat → Prop} {H9 : Heap} {fs : List Value} {v : Value} (S : CallFix p m c cc nL s args lwA RX1) (hE : g_E D vwCl (gT ar) (EX1 κ) A9 s H9) (w : g_S D vwCl A H0 G H locs nz) (ha : G a = some (.inr (7, fs))) (hv : fs[5]? = some v) (hdg : decode cc pc = .ok (.getfield 31, 3)) (kk : W p l e R s m args below meth c H locs cells slots Q (F0 m (pc + 3) ls (v :: rest))) : W p l e R s m args below meth c H locs cells slots Q (F0 m pc ls (.ref a :: rest)) :=
  va_get (ci := 7) (C := RX1) (T := TX1) (N := 7) S.1 S.2.1 S.2.2.2.2 inA_RX1 S.2.2.2.1 hE.1 (g_1 w.1 ha) 0 rfl rfl 5 (by decide) (S.2.2.2.2 _ m_1_226) (fun _ h => h) hv hdg kk
theorem m_3_149 : (Cond.code yX3_letterAt cX3_letterAt 2 (some .char)) ∈ lwA := lwA_mk (ck_3 _ (List.mem_of_getElem? (i := 149) rfl)) rfl
theorem m_3_146 : (Cond.methodLink RX1 56 yX3_letterAt) ∈ lwA := lwA_mk (ck_3 _ (List.mem_of_getElem? (i := 146) rfl)) rfl
theorem m_3_147 : (Cond.instanceMethod yX3_letterAt) ∈ lwA := lwA_mk (ck_3 _ (List.mem_of_getElem? (i := 147) rfl)) rfl
theorem m_3_148 : (Cond.selects RX3 yX3_letterAt yX3_letterAt) ∈ lwA := lwA_mk (ck_3 _ (List.mem_of_getElem? (i := 148) rfl)) rfl
theorem k_RX1_56 {args : Array Value} {s : State} {R rm : Room} (hts : ∀ w ∈ lwA, w.before args s = true) (hR : rm.frames + 1 ≤ R.frames ∧ 8 + (2 + 11) + rm.locals ≤ R.locals) : CallW R s args RX1 RX3 56 yX3_letterAt cX3_letterAt 2 (some .char) (lwC yX3_letterAt cX3_letterAt 2 (some .char)) rm rm.cells rm.slots 1 := cwV 1 hts (gdV m_3_146 m_3_147 m_3_148 m_1_3 m_3_149) rfl rfl rfl (by decide +kernel) hR
theorem m_3_158 : (Cond.code yX3_firstAt cX3_firstAt 2 (some .int)) ∈ lwA := lwA_mk (ck_3 _ (List.mem_of_getElem? (i := 158) rfl)) rfl
theorem m_3_155 : (Cond.methodLink RX1 62 yX3_firstAt) ∈ lwA := lwA_mk (ck_3 _ (List.mem_of_getElem? (i := 155) rfl)) rfl
theorem m_3_156 : (Cond.instanceMethod yX3_firstAt) ∈ lwA := lwA_mk (ck_3 _ (List.mem_of_getElem? (i := 156) rfl)) rfl
theorem m_3_157 : (Cond.selects RX3 yX3_firstAt yX3_firstAt) ∈ lwA := lwA_mk (ck_3 _ (List.mem_of_getElem? (i := 157) rfl)) rfl
theorem k_RX1_62 {args : Array Value} {s : State} {R rm : Room} (hts : ∀ w ∈ lwA, w.before args s = true) (hR : rm.frames + 1 ≤ R.frames ∧ 8 + (2 + 11) + rm.locals ≤ R.locals) : CallW R s args RX1 RX3 62 yX3_firstAt cX3_firstAt 2 (some .int) (lwC yX3_firstAt cX3_firstAt 2 (some .int)) rm rm.cells rm.slots 1 := cwV 1 hts (gdV m_3_155 m_3_156 m_3_157 m_1_3 m_3_158) rfl rfl rfl (by decide +kernel) hR
theorem m_3_239 : (Cond.code yX3_secondAt cX3_secondAt 2 (some .int)) ∈ lwA := lwA_mk (ck_3 _ (List.mem_of_getElem? (i := 239) rfl)) rfl
theorem m_3_236 : (Cond.methodLink RX1 66 yX3_secondAt) ∈ lwA := lwA_mk (ck_3 _ (List.mem_of_getElem? (i := 236) rfl)) rfl
theorem m_3_237 : (Cond.instanceMethod yX3_secondAt) ∈ lwA := lwA_mk (ck_3 _ (List.mem_of_getElem? (i := 237) rfl)) rfl
theorem m_3_238 : (Cond.selects RX3 yX3_secondAt yX3_secondAt) ∈ lwA := lwA_mk (ck_3 _ (List.mem_of_getElem? (i := 238) rfl)) rfl
theorem k_RX1_66 {args : Array Value} {s : State} {R rm : Room} (hts : ∀ w ∈ lwA, w.before args s = true) (hR : rm.frames + 1 ≤ R.frames ∧ 8 + (2 + 11) + rm.locals ≤ R.locals) : CallW R s args RX1 RX3 66 yX3_secondAt cX3_secondAt 2 (some .int) (lwC yX3_secondAt cX3_secondAt 2 (some .int)) rm rm.cells rm.slots 1 := cwV 1 hts (gdV m_3_236 m_3_237 m_3_238 m_1_3 m_3_239) rfl rfl rfl (by decide +kernel) hR
theorem m_7_48 : (Cond.code yX3_depthAt cX3_depthAt 2 (some .int)) ∈ lwA := lwA_mk (ck_7 _ (List.mem_of_getElem? (i := 48) rfl)) rfl
theorem ck_8 : ∀ w ∈ tables_1_8, w ∈ lw_tbl := fun _ h => List.mem_append_right _ (List.mem_append_right _ (List.mem_append_right _ (List.mem_append_right _ (List.mem_append_right _ (List.mem_append_right _ (List.mem_append_right _ (List.mem_append_right _ (h))))))))
theorem m_8_82 : (Cond.methodLink RX1 69 yX3_depthAt) ∈ lwA := lwA_mk (ck_8 _ (List.mem_of_getElem? (i := 82) rfl)) rfl
theorem m_7_46 : (Cond.instanceMethod yX3_depthAt) ∈ lwA := lwA_mk (ck_7 _ (List.mem_of_getElem? (i := 46) rfl)) rfl
theorem m_7_47 : (Cond.selects RX3 yX3_depthAt yX3_depthAt) ∈ lwA := lwA_mk (ck_7 _ (List.mem_of_getElem? (i := 47) rfl)) rfl
theorem k_RX1_69 {args : Array Value} {s : State} {R rm : Room} (hts : ∀ w ∈ lwA, w.before args s = true) (hR : rm.frames + 1 ≤ R.frames ∧ 8 + (2 + 11) + rm.locals ≤ R.locals) : CallW R s args RX1 RX3 69 yX3_depthAt cX3_depthAt 2 (some .int) (lwC yX3_depthAt cX3_depthAt 2 (some .int)) rm rm.cells rm.slots 1 := cwV 1 hts (gdV m_8_82 m_7_46 m_7_47 m_1_3 m_7_48) rfl rfl rfl (by decide +kernel) hR
theorem gf_RX1_35_7 {A9 : Nat → Prop} {H9 : Heap} {fs : List Value} {v : Value} (S : CallFix p m c cc nL s args lwA RX1) (hE : g_E D vwCl (gT ar) (EX1 κ) A9 s H9) (w : g_S D vwCl A H0 G H locs nz) (ha : G a = some (.inr (7, fs))) (hv : fs[6]? = some v) (hdg : decode cc pc = .ok (.getfield 35, 3)) (kk : W p l e R s m args below meth c H locs cells slots Q (F0 m (pc + 3) ls (v :: rest))) : W p l e R s m args below meth c H locs cells slots Q (F0 m pc ls (.ref a :: rest)) :=
  va_get (ci := 7) (C := RX1) (T := TX1) (N := 7) S.1 S.2.1 S.2.2.2.2 inA_RX1 S.2.2.2.1 hE.1 (g_1 w.1 ha) 0 rfl rfl 6 (by decide) (S.2.2.2.2 _ m_1_228) (fun _ h => h) hv hdg kk
theorem gf_RX1_18_7 {A9 : Nat → Prop} {H9 : Heap} {fs : List Value} {v : Value} (S : CallFix p m c cc nL s args lwA RX1) (hE : g_E D vwCl (gT ar) (EX1 κ) A9 s H9) (w : g_S D vwCl A H0 G H locs nz) (ha : G a = some (.inr (7, fs))) (hv : fs[2]? = some v) (hdg : decode cc pc = .ok (.getfield 18, 3)) (kk : W p l e R s m args below meth c H locs cells slots Q (F0 m (pc + 3) ls (v :: rest))) : W p l e R s m args below meth c H locs cells slots Q (F0 m pc ls (.ref a :: rest)) :=
  va_get (ci := 7) (C := RX1) (T := TX1) (N := 7) S.1 S.2.1 S.2.2.2.2 inA_RX1 S.2.2.2.1 hE.1 (g_1 w.1 ha) 0 rfl rfl 2 (by decide) (S.2.2.2.2 _ m_1_222) (fun _ h => h) hv hdg kk
theorem k_RX1_72 {args : Array Value} {s : State} {R rm : Room} (hts : ∀ w ∈ lwA, w.before args s = true) (hN : va_Nw (.methodLinkNest RX1 72 yX8_isBelow "Sendhouse") s) (hR : rm.frames + 1 ≤ R.frames ∧ 8 + (2 + 11) + rm.locals ≤ R.locals) : va_CN R s args RX1 72 yX8_isBelow "Sendhouse" cX8_isBelow 2 (some .boolean) (lwC yX8_isBelow cX8_isBelow 2 (some .boolean)) rm rm.cells rm.slots 2 ∧ (Cond.static yX8_isBelow).before args s = true ∧ True := ⟨va_cnB 2 hts (gd m_2_157) rfl rfl rfl hN (hts _ m_1_1) (by decide +kernel) hR, hts _ m_2_156, trivial⟩
theorem Fr_a_sp {v9 : Fr} {y9 : Nat → Int64} : (v9.sp y9).a = v9.a := rfl
theorem Fr_t_sp {v9 : Fr} {y9 : Nat → Int64} : (v9.sp y9).t = v9.t := rfl
theorem Fr_o_sp {v9 : Fr} {y9 : Nat → Int64} : (v9.sp y9).o = v9.o := rfl
theorem Fr_v_sp {v9 : Fr} {y9 : Nat → Int64} : (v9.sp y9).v = v9.v := rfl
theorem Fr_w_sp {v9 : Fr} {y9 : Nat → Int64} : (v9.sp y9).w = v9.w := rfl
theorem Fr_d_sp {v9 : Fr} {y9 : Nat → Int64} : (v9.sp y9).d = v9.d := rfl
theorem Fr_a_sd {v9 : Fr} {y9 : Int32} : (v9.sd y9).a = v9.a := rfl
theorem Fr_t_sd {v9 : Fr} {y9 : Int32} : (v9.sd y9).t = v9.t := rfl
theorem Fr_p_sd {v9 : Fr} {y9 : Int32} : (v9.sd y9).p = v9.p := rfl
theorem Fr_p_sp {v9 : Fr} {y9 : Nat → Int64} : (v9.sp y9).p = y9 := rfl
theorem m_3_20 : (Cond.code yX8_placeAt cX8_placeAt 2 (some .long)) ∈ lwA := lwA_mk (ck_3 _ (List.mem_of_getElem? (i := 20) rfl)) rfl
theorem m_3_19 : (Cond.static yX8_placeAt) ∈ lwA := lwA_mk (ck_3 _ (List.mem_of_getElem? (i := 19) rfl)) rfl
theorem k_RX1_76 {args : Array Value} {s : State} {R rm : Room} (hts : ∀ w ∈ lwA, w.before args s = true) (hN : va_Nw (.methodLinkNest RX1 76 yX8_placeAt "Sendhouse") s) (hR : rm.frames + 1 ≤ R.frames ∧ 8 + (2 + 11) + rm.locals ≤ R.locals) : va_CN R s args RX1 76 yX8_placeAt "Sendhouse" cX8_placeAt 2 (some .long) (lwC yX8_placeAt cX8_placeAt 2 (some .long)) rm rm.cells rm.slots 2 ∧ (Cond.static yX8_placeAt).before args s = true ∧ True := ⟨va_cnB 2 hts (gd m_3_20) rfl rfl rfl hN (hts _ m_1_1) (by decide +kernel) hR, hts _ m_3_19, trivial⟩
theorem gf_RX1_80_12 {A9 : Nat → Prop} {H9 : Heap} {fs : List Value} {v : Value} (S : CallFix p m c cc nL s args lwA RX1) (hE : g_E D vwCl (gT ar) (EX1 κ) A9 s H9) (w : g_S D vwCl A H0 G H locs nz) (ha : G a = some (.inr (12, fs))) (hv : fs[2]? = some v) (hdg : decode cc pc = .ok (.getfield 80, 3)) (kk : W p l e R s m args below meth c H locs cells slots Q (F0 m (pc + 3) ls (v :: rest))) : W p l e R s m args below meth c H locs cells slots Q (F0 m pc ls (.ref a :: rest)) :=
  va_getN (ci := 12) (C := RX6) (T := TX6) (N := 7) S.1 S.2.1 S.2.2.2.2 inA_RX6 S.2.2.2.1 hE.1 (g_1 w.1 ha) 0 rfl rfl 2 (by decide) (va_Nw.use rfl (hE.2.1.1 _ (ckN_1 _ (List.mem_of_getElem? (i := 30) rfl)))) (fun _ h => h) hv hdg kk
theorem gf_RX1_82_12 {A9 : Nat → Prop} {H9 : Heap} {fs : List Value} {v : Value} (S : CallFix p m c cc nL s args lwA RX1) (hE : g_E D vwCl (gT ar) (EX1 κ) A9 s H9) (w : g_S D vwCl A H0 G H locs nz) (ha : G a = some (.inr (12, fs))) (hv : fs[3]? = some v) (hdg : decode cc pc = .ok (.getfield 82, 3)) (kk : W p l e R s m args below meth c H locs cells slots Q (F0 m (pc + 3) ls (v :: rest))) : W p l e R s m args below meth c H locs cells slots Q (F0 m pc ls (.ref a :: rest)) :=
  va_getN (ci := 12) (C := RX6) (T := TX6) (N := 7) S.1 S.2.1 S.2.2.2.2 inA_RX6 S.2.2.2.1 hE.1 (g_1 w.1 ha) 0 rfl rfl 3 (by decide) (va_Nw.use rfl (hE.2.1.1 _ (ckN_1 _ (List.mem_of_getElem? (i := 32) rfl)))) (fun _ h => h) hv hdg kk
theorem gf_RX1_9_7 {A9 : Nat → Prop} {H9 : Heap} {fs : List Value} {v : Value} (S : CallFix p m c cc nL s args lwA RX1) (hE : g_E D vwCl (gT ar) (EX1 κ) A9 s H9) (w : g_S D vwCl A H0 G H locs nz) (ha : G a = some (.inr (7, fs))) (hv : fs[0]? = some v) (hdg : decode cc pc = .ok (.getfield 9, 3)) (kk : W p l e R s m args below meth c H locs cells slots Q (F0 m (pc + 3) ls (v :: rest))) : W p l e R s m args below meth c H locs cells slots Q (F0 m pc ls (.ref a :: rest)) :=
  va_get (ci := 7) (C := RX1) (T := TX1) (N := 7) S.1 S.2.1 S.2.2.2.2 inA_RX1 S.2.2.2.1 hE.1 (g_1 w.1 ha) 0 rfl rfl 0 (by decide) (S.2.2.2.2 _ m_1_218) (fun _ h => h) hv hdg kk
theorem gf_RX1_15_7 {A9 : Nat → Prop} {H9 : Heap} {fs : List Value} {v : Value} (S : CallFix p m c cc nL s args lwA RX1) (hE : g_E D vwCl (gT ar) (EX1 κ) A9 s H9) (w : g_S D vwCl A H0 G H locs nz) (ha : G a = some (.inr (7, fs))) (hv : fs[1]? = some v) (hdg : decode cc pc = .ok (.getfield 15, 3)) (kk : W p l e R s m args below meth c H locs cells slots Q (F0 m (pc + 3) ls (v :: rest))) : W p l e R s m args below meth c H locs cells slots Q (F0 m pc ls (.ref a :: rest)) :=
  va_get (ci := 7) (C := RX1) (T := TX1) (N := 7) S.1 S.2.1 S.2.2.2.2 inA_RX1 S.2.2.2.1 hE.1 (g_1 w.1 ha) 0 rfl rfl 1 (by decide) (S.2.2.2.2 _ m_1_220) (fun _ h => h) hv hdg kk
theorem m_3_9 : (Cond.code yX1_placesOf cX1_placesOf 2 (some .int)) ∈ lwA := lwA_mk (ck_3 _ (List.mem_of_getElem? (i := 9) rfl)) rfl
theorem m_3_6 : (Cond.methodLink RX1 84 yX1_placesOf) ∈ lwA := lwA_mk (ck_3 _ (List.mem_of_getElem? (i := 6) rfl)) rfl
theorem m_3_7 : (Cond.instanceMethod yX1_placesOf) ∈ lwA := lwA_mk (ck_3 _ (List.mem_of_getElem? (i := 7) rfl)) rfl
theorem m_3_8 : (Cond.selects RX1 yX1_placesOf yX1_placesOf) ∈ lwA := lwA_mk (ck_3 _ (List.mem_of_getElem? (i := 8) rfl)) rfl
theorem k_RX1_84 {args : Array Value} {s : State} {R rm : Room} (hts : ∀ w ∈ lwA, w.before args s = true) (hR : rm.frames + 1 ≤ R.frames ∧ 8 + (2 + 11) + rm.locals ≤ R.locals) : CallW R s args RX1 RX1 84 yX1_placesOf cX1_placesOf 2 (some .int) (lwC yX1_placesOf cX1_placesOf 2 (some .int)) rm rm.cells rm.slots 1 := cwV 1 hts (gdV m_3_6 m_3_7 m_3_8 m_1_11 m_3_9) rfl rfl rfl (by decide +kernel) hR
theorem m_3_17 : (Cond.code yX1_placeOf cX1_placeOf 3 (some .long)) ∈ lwA := lwA_mk (ck_3 _ (List.mem_of_getElem? (i := 17) rfl)) rfl
theorem m_3_14 : (Cond.methodLink RX1 88 yX1_placeOf) ∈ lwA := lwA_mk (ck_3 _ (List.mem_of_getElem? (i := 14) rfl)) rfl
theorem m_3_15 : (Cond.instanceMethod yX1_placeOf) ∈ lwA := lwA_mk (ck_3 _ (List.mem_of_getElem? (i := 15) rfl)) rfl
theorem m_3_16 : (Cond.selects RX1 yX1_placeOf yX1_placeOf) ∈ lwA := lwA_mk (ck_3 _ (List.mem_of_getElem? (i := 16) rfl)) rfl
theorem k_RX1_88 {args : Array Value} {s : State} {R rm : Room} (hts : ∀ w ∈ lwA, w.before args s = true) (hR : rm.frames + 1 ≤ R.frames ∧ 8 + (3 + 11) + rm.locals ≤ R.locals) : CallW R s args RX1 RX1 88 yX1_placeOf cX1_placeOf 3 (some .long) (lwC yX1_placeOf cX1_placeOf 3 (some .long)) rm rm.cells rm.slots 2 := cwV 2 hts (gdV m_3_14 m_3_15 m_3_16 m_1_11 m_3_17) rfl rfl rfl (by decide +kernel) hR
theorem gf_RX1_27_7 {A9 : Nat → Prop} {H9 : Heap} {fs : List Value} {v : Value} (S : CallFix p m c cc nL s args lwA RX1) (hE : g_E D vwCl (gT ar) (EX1 κ) A9 s H9) (w : g_S D vwCl A H0 G H locs nz) (ha : G a = some (.inr (7, fs))) (hv : fs[4]? = some v) (hdg : decode cc pc = .ok (.getfield 27, 3)) (kk : W p l e R s m args below meth c H locs cells slots Q (F0 m (pc + 3) ls (v :: rest))) : W p l e R s m args below meth c H locs cells slots Q (F0 m pc ls (.ref a :: rest)) :=
  va_get (ci := 7) (C := RX1) (T := TX1) (N := 7) S.1 S.2.1 S.2.2.2.2 inA_RX1 S.2.2.2.1 hE.1 (g_1 w.1 ha) 0 rfl rfl 4 (by decide) (S.2.2.2.2 _ m_1_224) (fun _ h => h) hv hdg kk
theorem Fr_a_so {v9 : Fr} {y9 : Option Nat} : (v9.so y9).a = v9.a := rfl
theorem Fr_t_so {v9 : Fr} {y9 : Option Nat} : (v9.so y9).t = v9.t := rfl
theorem Fr_p_so {v9 : Fr} {y9 : Option Nat} : (v9.so y9).p = v9.p := rfl
theorem Fr_a_sv {v9 : Fr} {y9 : Int64} : (v9.sv y9).a = v9.a := rfl
theorem Fr_t_sv {v9 : Fr} {y9 : Int64} : (v9.sv y9).t = v9.t := rfl
theorem Fr_p_sv {v9 : Fr} {y9 : Int64} : (v9.sv y9).p = v9.p := rfl
theorem Fr_a_sw {v9 : Fr} {y9 : Int32} : (v9.sw y9).a = v9.a := rfl
theorem Fr_t_sw {v9 : Fr} {y9 : Int32} : (v9.sw y9).t = v9.t := rfl
theorem Fr_p_sw {v9 : Fr} {y9 : Int32} : (v9.sw y9).p = v9.p := rfl
theorem m_3_114 : (Cond.methodLink RX1 38 yJ7_fill_d0a16) ∈ lwA := lwA_mk (ck_3 _ (List.mem_of_getElem? (i := 114) rfl)) rfl
theorem k_RX1_38 {args : Array Value} {s : State} {R rm : Room} (hts : ∀ w ∈ lwA, w.before args s = true) (hR : rm.frames + 1 ≤ R.frames ∧ 8 + (5 + 11) + rm.locals ≤ R.locals) : CallB R s args RX1 38 yJ7_fill_d0a16 cJ7_fill_d0a16 5 none (lwC yJ7_fill_d0a16 cJ7_fill_d0a16 5 none) rm rm.cells rm.slots 2 ∧ (Cond.static yJ7_fill_d0a16).before args s = true := va_cwS 2 hts (gdT m_3_114 m_1_210 m_1_10 m_1_211) rfl rfl rfl (by decide +kernel) hR
theorem Fr_a_st {v9 : Fr} {y9 : Nat → Int64} : (v9.st y9).a = v9.a := rfl
theorem Fr_p_st {v9 : Fr} {y9 : Nat → Int64} : (v9.st y9).p = v9.p := rfl
theorem Fr_o_st {v9 : Fr} {y9 : Nat → Int64} : (v9.st y9).o = v9.o := rfl
theorem Fr_o_sd {v9 : Fr} {y9 : Int32} : (v9.sd y9).o = v9.o := rfl
theorem Fr_o_sw {v9 : Fr} {y9 : Int32} : (v9.sw y9).o = v9.o := rfl
theorem Fr_o_sv {v9 : Fr} {y9 : Int64} : (v9.sv y9).o = v9.o := rfl
theorem Fr_o_so {v9 : Fr} {y9 : Option Nat} : (v9.so y9).o = y9 := rfl
theorem Fr_v_st {v9 : Fr} {y9 : Nat → Int64} : (v9.st y9).v = v9.v := rfl
theorem Fr_v_sd {v9 : Fr} {y9 : Int32} : (v9.sd y9).v = v9.v := rfl
theorem Fr_v_sw {v9 : Fr} {y9 : Int32} : (v9.sw y9).v = v9.v := rfl
theorem Fr_v_sv {v9 : Fr} {y9 : Int64} : (v9.sv y9).v = y9 := rfl
theorem Fr_w_st {v9 : Fr} {y9 : Nat → Int64} : (v9.st y9).w = v9.w := rfl
theorem Fr_w_sd {v9 : Fr} {y9 : Int32} : (v9.sd y9).w = v9.w := rfl
theorem Fr_w_sw {v9 : Fr} {y9 : Int32} : (v9.sw y9).w = y9 := rfl
theorem Fr_d_st {v9 : Fr} {y9 : Nat → Int64} : (v9.st y9).d = v9.d := rfl
theorem Fr_d_sd {v9 : Fr} {y9 : Int32} : (v9.sd y9).d = y9 := rfl
end SITES
def sX3_firstAt (Z : Ho) (k0 : Nat) (i0 : Int32) : Int32 := if isB i0 24 = 0 then (0) else (((Z.ro k0).f) (Int32.toNatClampNeg i0))
theorem sX3_firstAt_u (Z : Ho) (k0 : Nat) (i0 : Int32) : sX3_firstAt Z k0 i0 = if isB i0 24 = 0 then (0) else (((Z.ro k0).f) (Int32.toNatClampNeg i0)) := rfl
set_option maxHeartbeats 4000000 in
set_option maxRecDepth 100000 in
theorem hX3_firstAt (l : Launch) (D : va_G) (ar : Nat → ClassId) (κ : Nat → Nat) (G : gW) (x : Xo) (Z : Ho) (sz : Nat) (k0 : Nat) (i0 : Int32) (hk : OK x Z) (hv_k0 : k0 < Z.nr) : Met l yX3_firstAt (lwC yX3_firstAt cX3_firstAt 2 (some .int)) (rD 3 0 0) (g_Pc D vwCl (gT ar) (EX1 κ) (ov κ ar x Z G) sz [.ref (x.f (.ro k0)), .int i0]) (g_Qi D vwCl (g_A (ov κ ar x Z G) sz) (fun r u => r = sX3_firstAt Z k0 i0 ∧ u = (ov κ ar x Z G, sz))) 0 0 (g_A (ov κ ar x Z G) sz) := by
  refine g_ofW (by decide +kernel) (Nat.le_of_ble_eq_true rfl) ?_
  intro p e s m below meth c ls S hr hlk hin hE w hl
  have hx := S.1
  have hb := S.2.1
  have hl : lv_has ls 2 [(0, .ref (x.f (.ro k0))), (1, .int i0)] := hl
  refine lv_iload_n hx hb dX3_firstAt_0 rfl (lv_at hl 1 rfl) ?_
  refine lv_aload_n hx hb dX3_firstAt_1 rfl (lv_at hl 0 rfl) ?_
  refine gf_RX3_15_9 (v := .ref (x.f (.rf k0))) S hE w (ov_r (t := .ro k0) (hk.e_ro hv_k0)) rfl dX3_firstAt_2 ?_
  refine va_alen (v := 24) hx hb hE.1 (g_1 w.1 (ov_r (t := .rf k0) (hk.e_rf hv_k0))) 0 0 rfl rfl rfl dX3_firstAt_5 ?_
  refine g_calli w (g_runSN (As := [.int i0, .int 24]) (rest := []) S hE w hl (c_X8_isBelow l D ar κ (ov κ ar x Z G) sz i0 24) (k_RX3_35 S.2.2.2.2 (hE.2.1.1 _ (ckN_1 _ (List.mem_of_getElem? (i := 8) rfl))) ⟨Nat.le_of_ble_eq_true rfl, Nat.le_of_ble_eq_true rfl⟩) rfl rfl (Nat.le_of_ble_eq_true rfl) dX3_firstAt_6 ⟨Nat.le_of_ble_eq_true rfl, Nat.le_of_ble_eq_true rfl⟩) (fun r u H locs hp hnz w => ?_)
  obtain ⟨rfl, rfl⟩ := hp
  dsimp only at w
  refine lv_if_eq (tgt := 21) hx hb dX3_firstAt_9 (by decide) (fun c_9 => ?_) (fun c_9 => ?_)
  · refine lv_iconst (v := 0) hx hb dX3_firstAt_21 (by decide) ?_
    exact g_iret hx hb hr hlk w (Nat.le_of_ble_eq_true rfl) (Nat.le_of_ble_eq_true rfl) dX3_firstAt_22 ⟨(((sX3_firstAt_u Z k0 i0).trans (if_pos c_9))).symm, rfl⟩
  · refine lv_aload_n hx hb dX3_firstAt_12 rfl (lv_at hl 0 rfl) ?_
    refine gf_RX3_15_9 (v := .ref (x.f (.rf k0))) S hE w (ov_r (t := .ro k0) (hk.e_ro hv_k0)) rfl dX3_firstAt_13 ?_
    refine lv_iload_n hx hb dX3_firstAt_16 rfl (lv_at hl 1 rfl) ?_
    refine va_iald hx hb hE.1 (g_1 w.1 (ov_r (t := .rf k0) (hk.e_rf hv_k0))) 0 0 rfl rfl (vinB (n := 24) rfl (by decide) c_9) dX3_firstAt_17 ?_
    show W p l e _ s m _ below meth c _ _ _ _ _ (F0 m 18 ls [.int (((Z.ro k0).f) (Int32.toNatClampNeg i0))])
    refine lv_goto (tgt := 22) hx hb dX3_firstAt_18 (by decide) ?_
    exact g_iret hx hb hr hlk w (Nat.le_of_ble_eq_true rfl) (Nat.le_of_ble_eq_true rfl) dX3_firstAt_22 ⟨(((sX3_firstAt_u Z k0 i0).trans (if_neg c_9))).symm, rfl⟩
def sX3_secondAt (Z : Ho) (k0 : Nat) (i0 : Int32) : Int32 := if isB i0 24 = 0 then (0) else (((Z.ro k0).g) (Int32.toNatClampNeg i0))
theorem sX3_secondAt_u (Z : Ho) (k0 : Nat) (i0 : Int32) : sX3_secondAt Z k0 i0 = if isB i0 24 = 0 then (0) else (((Z.ro k0).g) (Int32.toNatClampNeg i0)) := rfl
set_option maxHeartbeats 4000000 in
set_option maxRecDepth 100000 in
theorem hX3_secondAt (l : Launch) (D : va_G) (ar : Nat → ClassId) (κ : Nat → Nat) (G : gW) (x : Xo) (Z : Ho) (sz : Nat) (k0 : Nat) (i0 : Int32) (hk : OK x Z) (hv_k0 : k0 < Z.nr) : Met l yX3_secondAt (lwC yX3_secondAt cX3_secondAt 2 (some .int)) (rD 3 0 0) (g_Pc D vwCl (gT ar) (EX1 κ) (ov κ ar x Z G) sz [.ref (x.f (.ro k0)), .int i0]) (g_Qi D vwCl (g_A (ov κ ar x Z G) sz) (fun r u => r = sX3_secondAt Z k0 i0 ∧ u = (ov κ ar x Z G, sz))) 0 0 (g_A (ov κ ar x Z G) sz) := by
  refine g_ofW (by decide +kernel) (Nat.le_of_ble_eq_true rfl) ?_
  intro p e s m below meth c ls S hr hlk hin hE w hl
  have hx := S.1
  have hb := S.2.1
  have hl : lv_has ls 2 [(0, .ref (x.f (.ro k0))), (1, .int i0)] := hl
  refine lv_iload_n hx hb dX3_secondAt_0 rfl (lv_at hl 1 rfl) ?_
  refine lv_aload_n hx hb dX3_secondAt_1 rfl (lv_at hl 0 rfl) ?_
  refine gf_RX3_19_9 (v := .ref (x.f (.rg k0))) S hE w (ov_r (t := .ro k0) (hk.e_ro hv_k0)) rfl dX3_secondAt_2 ?_
  refine va_alen (v := 24) hx hb hE.1 (g_1 w.1 (ov_r (t := .rg k0) (hk.e_rg hv_k0))) 0 0 rfl rfl rfl dX3_secondAt_5 ?_
  refine g_calli w (g_runSN (As := [.int i0, .int 24]) (rest := []) S hE w hl (c_X8_isBelow l D ar κ (ov κ ar x Z G) sz i0 24) (k_RX3_35 S.2.2.2.2 (hE.2.1.1 _ (ckN_1 _ (List.mem_of_getElem? (i := 8) rfl))) ⟨Nat.le_of_ble_eq_true rfl, Nat.le_of_ble_eq_true rfl⟩) rfl rfl (Nat.le_of_ble_eq_true rfl) dX3_secondAt_6 ⟨Nat.le_of_ble_eq_true rfl, Nat.le_of_ble_eq_true rfl⟩) (fun r u H locs hp hnz w => ?_)
  obtain ⟨rfl, rfl⟩ := hp
  dsimp only at w
  refine lv_if_eq (tgt := 21) hx hb dX3_secondAt_9 (by decide) (fun c_9 => ?_) (fun c_9 => ?_)
  · refine lv_iconst (v := 0) hx hb dX3_secondAt_21 (by decide) ?_
    exact g_iret hx hb hr hlk w (Nat.le_of_ble_eq_true rfl) (Nat.le_of_ble_eq_true rfl) dX3_secondAt_22 ⟨(((sX3_secondAt_u Z k0 i0).trans (if_pos c_9))).symm, rfl⟩
  · refine lv_aload_n hx hb dX3_secondAt_12 rfl (lv_at hl 0 rfl) ?_
    refine gf_RX3_19_9 (v := .ref (x.f (.rg k0))) S hE w (ov_r (t := .ro k0) (hk.e_ro hv_k0)) rfl dX3_secondAt_13 ?_
    refine lv_iload_n hx hb dX3_secondAt_16 rfl (lv_at hl 1 rfl) ?_
    refine va_iald hx hb hE.1 (g_1 w.1 (ov_r (t := .rg k0) (hk.e_rg hv_k0))) 0 0 rfl rfl (vinB (n := 24) rfl (by decide) c_9) dX3_secondAt_17 ?_
    show W p l e _ s m _ below meth c _ _ _ _ _ (F0 m 18 ls [.int (((Z.ro k0).g) (Int32.toNatClampNeg i0))])
    refine lv_goto (tgt := 22) hx hb dX3_secondAt_18 (by decide) ?_
    exact g_iret hx hb hr hlk w (Nat.le_of_ble_eq_true rfl) (Nat.le_of_ble_eq_true rfl) dX3_secondAt_22 ⟨(((sX3_secondAt_u Z k0 i0).trans (if_neg c_9))).symm, rfl⟩
def sX3_depthAt (Z : Ho) (k0 : Nat) (i0 : Int32) : Int32 := if isB i0 24 = 0 then ((-1)) else (((Z.ro k0).d) (Int32.toNatClampNeg i0))
theorem sX3_depthAt_u (Z : Ho) (k0 : Nat) (i0 : Int32) : sX3_depthAt Z k0 i0 = if isB i0 24 = 0 then ((-1)) else (((Z.ro k0).d) (Int32.toNatClampNeg i0)) := rfl
set_option maxHeartbeats 4000000 in
set_option maxRecDepth 100000 in
theorem hX3_depthAt (l : Launch) (D : va_G) (ar : Nat → ClassId) (κ : Nat → Nat) (G : gW) (x : Xo) (Z : Ho) (sz : Nat) (k0 : Nat) (i0 : Int32) (hk : OK x Z) (hv_k0 : k0 < Z.nr) : Met l yX3_depthAt (lwC yX3_depthAt cX3_depthAt 2 (some .int)) (rD 3 0 0) (g_Pc D vwCl (gT ar) (EX1 κ) (ov κ ar x Z G) sz [.ref (x.f (.ro k0)), .int i0]) (g_Qi D vwCl (g_A (ov κ ar x Z G) sz) (fun r u => r = sX3_depthAt Z k0 i0 ∧ u = (ov κ ar x Z G, sz))) 0 0 (g_A (ov κ ar x Z G) sz) := by
  refine g_ofW (by decide +kernel) (Nat.le_of_ble_eq_true rfl) ?_
  intro p e s m below meth c ls S hr hlk hin hE w hl
  have hx := S.1
  have hb := S.2.1
  have hl : lv_has ls 2 [(0, .ref (x.f (.ro k0))), (1, .int i0)] := hl
  refine lv_iload_n hx hb dX3_depthAt_0 rfl (lv_at hl 1 rfl) ?_
  refine lv_aload_n hx hb dX3_depthAt_1 rfl (lv_at hl 0 rfl) ?_
  refine gf_RX3_22_9 (v := .ref (x.f (.rd k0))) S hE w (ov_r (t := .ro k0) (hk.e_ro hv_k0)) rfl dX3_depthAt_2 ?_
  refine va_alen (v := 24) hx hb hE.1 (g_1 w.1 (ov_r (t := .rd k0) (hk.e_rd hv_k0))) 0 0 rfl rfl rfl dX3_depthAt_5 ?_
  refine g_calli w (g_runSN (As := [.int i0, .int 24]) (rest := []) S hE w hl (c_X8_isBelow l D ar κ (ov κ ar x Z G) sz i0 24) (k_RX3_35 S.2.2.2.2 (hE.2.1.1 _ (ckN_1 _ (List.mem_of_getElem? (i := 8) rfl))) ⟨Nat.le_of_ble_eq_true rfl, Nat.le_of_ble_eq_true rfl⟩) rfl rfl (Nat.le_of_ble_eq_true rfl) dX3_depthAt_6 ⟨Nat.le_of_ble_eq_true rfl, Nat.le_of_ble_eq_true rfl⟩) (fun r u H locs hp hnz w => ?_)
  obtain ⟨rfl, rfl⟩ := hp
  dsimp only at w
  refine lv_if_eq (tgt := 21) hx hb dX3_depthAt_9 (by decide) (fun c_9 => ?_) (fun c_9 => ?_)
  · refine lv_iconst (v := (-1)) hx hb dX3_depthAt_21 (by decide) ?_
    exact g_iret hx hb hr hlk w (Nat.le_of_ble_eq_true rfl) (Nat.le_of_ble_eq_true rfl) dX3_depthAt_22 ⟨(((sX3_depthAt_u Z k0 i0).trans (if_pos c_9))).symm, rfl⟩
  · refine lv_aload_n hx hb dX3_depthAt_12 rfl (lv_at hl 0 rfl) ?_
    refine gf_RX3_22_9 (v := .ref (x.f (.rd k0))) S hE w (ov_r (t := .ro k0) (hk.e_ro hv_k0)) rfl dX3_depthAt_13 ?_
    refine lv_iload_n hx hb dX3_depthAt_16 rfl (lv_at hl 1 rfl) ?_
    refine va_iald hx hb hE.1 (g_1 w.1 (ov_r (t := .rd k0) (hk.e_rd hv_k0))) 0 0 rfl rfl (vinB (n := 24) rfl (by decide) c_9) dX3_depthAt_17 ?_
    show W p l e _ s m _ below meth c _ _ _ _ _ (F0 m 18 ls [.int (((Z.ro k0).d) (Int32.toNatClampNeg i0))])
    refine lv_goto (tgt := 22) hx hb dX3_depthAt_18 (by decide) ?_
    exact g_iret hx hb hr hlk w (Nat.le_of_ble_eq_true rfl) (Nat.le_of_ble_eq_true rfl) dX3_depthAt_22 ⟨(((sX3_depthAt_u Z k0 i0).trans (if_neg c_9))).symm, rfl⟩
def sX3_comeToAt (Z : Ho) (k0 : Nat) (i0 : Int32) : Int32 := if isB i0 24 = 0 then (0) else (((Z.ro k0).q) (Int32.toNatClampNeg i0))
theorem sX3_comeToAt_u (Z : Ho) (k0 : Nat) (i0 : Int32) : sX3_comeToAt Z k0 i0 = if isB i0 24 = 0 then (0) else (((Z.ro k0).q) (Int32.toNatClampNeg i0)) := rfl
set_option maxHeartbeats 4000000 in
set_option maxRecDepth 100000 in
theorem hX3_comeToAt (l : Launch) (D : va_G) (ar : Nat → ClassId) (κ : Nat → Nat) (G : gW) (x : Xo) (Z : Ho) (sz : Nat) (k0 : Nat) (i0 : Int32) (hk : OK x Z) (hv_k0 : k0 < Z.nr) : Met l yX3_comeToAt (lwC yX3_comeToAt cX3_comeToAt 2 (some .int)) (rD 3 0 0) (g_Pc D vwCl (gT ar) (EX1 κ) (ov κ ar x Z G) sz [.ref (x.f (.ro k0)), .int i0]) (g_Qi D vwCl (g_A (ov κ ar x Z G) sz) (fun r u => r = sX3_comeToAt Z k0 i0 ∧ u = (ov κ ar x Z G, sz))) 0 0 (g_A (ov κ ar x Z G) sz) := by
  refine g_ofW (by decide +kernel) (Nat.le_of_ble_eq_true rfl) ?_
  intro p e s m below meth c ls S hr hlk hin hE w hl
  have hx := S.1
  have hb := S.2.1
  have hl : lv_has ls 2 [(0, .ref (x.f (.ro k0))), (1, .int i0)] := hl
  refine lv_iload_n hx hb dX3_comeToAt_0 rfl (lv_at hl 1 rfl) ?_
  refine lv_aload_n hx hb dX3_comeToAt_1 rfl (lv_at hl 0 rfl) ?_
  refine gf_RX3_25_9 (v := .ref (x.f (.rq k0))) S hE w (ov_r (t := .ro k0) (hk.e_ro hv_k0)) rfl dX3_comeToAt_2 ?_
  refine va_alen (v := 24) hx hb hE.1 (g_1 w.1 (ov_r (t := .rq k0) (hk.e_rq hv_k0))) 0 0 rfl rfl rfl dX3_comeToAt_5 ?_
  refine g_calli w (g_runSN (As := [.int i0, .int 24]) (rest := []) S hE w hl (c_X8_isBelow l D ar κ (ov κ ar x Z G) sz i0 24) (k_RX3_35 S.2.2.2.2 (hE.2.1.1 _ (ckN_1 _ (List.mem_of_getElem? (i := 8) rfl))) ⟨Nat.le_of_ble_eq_true rfl, Nat.le_of_ble_eq_true rfl⟩) rfl rfl (Nat.le_of_ble_eq_true rfl) dX3_comeToAt_6 ⟨Nat.le_of_ble_eq_true rfl, Nat.le_of_ble_eq_true rfl⟩) (fun r u H locs hp hnz w => ?_)
  obtain ⟨rfl, rfl⟩ := hp
  dsimp only at w
  refine lv_if_eq (tgt := 21) hx hb dX3_comeToAt_9 (by decide) (fun c_9 => ?_) (fun c_9 => ?_)
  · refine lv_iconst (v := 0) hx hb dX3_comeToAt_21 (by decide) ?_
    exact g_iret hx hb hr hlk w (Nat.le_of_ble_eq_true rfl) (Nat.le_of_ble_eq_true rfl) dX3_comeToAt_22 ⟨(((sX3_comeToAt_u Z k0 i0).trans (if_pos c_9))).symm, rfl⟩
  · refine lv_aload_n hx hb dX3_comeToAt_12 rfl (lv_at hl 0 rfl) ?_
    refine gf_RX3_25_9 (v := .ref (x.f (.rq k0))) S hE w (ov_r (t := .ro k0) (hk.e_ro hv_k0)) rfl dX3_comeToAt_13 ?_
    refine lv_iload_n hx hb dX3_comeToAt_16 rfl (lv_at hl 1 rfl) ?_
    refine va_iald hx hb hE.1 (g_1 w.1 (ov_r (t := .rq k0) (hk.e_rq hv_k0))) 0 0 rfl rfl (vinB (n := 24) rfl (by decide) c_9) dX3_comeToAt_17 ?_
    show W p l e _ s m _ below meth c _ _ _ _ _ (F0 m 18 ls [.int (((Z.ro k0).q) (Int32.toNatClampNeg i0))])
    refine lv_goto (tgt := 22) hx hb dX3_comeToAt_18 (by decide) ?_
    exact g_iret hx hb hr hlk w (Nat.le_of_ble_eq_true rfl) (Nat.le_of_ble_eq_true rfl) dX3_comeToAt_22 ⟨(((sX3_comeToAt_u Z k0 i0).trans (if_neg c_9))).symm, rfl⟩
def sX3_letterAt (Z : Ho) (k0 : Nat) (i0 : Int32) : Int32 := if isB i0 24 = 0 then (114) else (vp_nar .char (((Z.ro k0).l) (Int32.toNatClampNeg i0)))
theorem sX3_letterAt_u (Z : Ho) (k0 : Nat) (i0 : Int32) : sX3_letterAt Z k0 i0 = if isB i0 24 = 0 then (114) else (vp_nar .char (((Z.ro k0).l) (Int32.toNatClampNeg i0))) := rfl
set_option maxHeartbeats 4000000 in
set_option maxRecDepth 100000 in
theorem hX3_letterAt (l : Launch) (D : va_G) (ar : Nat → ClassId) (κ : Nat → Nat) (G : gW) (x : Xo) (Z : Ho) (sz : Nat) (k0 : Nat) (i0 : Int32) (hk : OK x Z) (hv_k0 : k0 < Z.nr) : Met l yX3_letterAt (lwC yX3_letterAt cX3_letterAt 2 (some .char)) (rD 3 0 0) (g_Pc D vwCl (gT ar) (EX1 κ) (ov κ ar x Z G) sz [.ref (x.f (.ro k0)), .int i0]) (g_Qi D vwCl (g_A (ov κ ar x Z G) sz) (fun r u => r = sX3_letterAt Z k0 i0 ∧ u = (ov κ ar x Z G, sz))) 0 0 (g_A (ov κ ar x Z G) sz) := by
  refine g_ofW (by decide +kernel) (Nat.le_of_ble_eq_true rfl) ?_
  intro p e s m below meth c ls S hr hlk hin hE w hl
  have hx := S.1
  have hb := S.2.1
  have hl : lv_has ls 2 [(0, .ref (x.f (.ro k0))), (1, .int i0)] := hl
  refine lv_iload_n hx hb dX3_letterAt_0 rfl (lv_at hl 1 rfl) ?_
  refine lv_aload_n hx hb dX3_letterAt_1 rfl (lv_at hl 0 rfl) ?_
  refine gf_RX3_9_9 (v := .ref (x.f (.rl k0))) S hE w (ov_r (t := .ro k0) (hk.e_ro hv_k0)) rfl dX3_letterAt_2 ?_
  refine va_alen (v := 24) hx hb hE.1 (g_1 w.1 (ov_r (t := .rl k0) (hk.e_rl hv_k0))) 0 2 rfl rfl rfl dX3_letterAt_5 ?_
  refine g_calli w (g_runSN (As := [.int i0, .int 24]) (rest := []) S hE w hl (c_X8_isBelow l D ar κ (ov κ ar x Z G) sz i0 24) (k_RX3_35 S.2.2.2.2 (hE.2.1.1 _ (ckN_1 _ (List.mem_of_getElem? (i := 8) rfl))) ⟨Nat.le_of_ble_eq_true rfl, Nat.le_of_ble_eq_true rfl⟩) rfl rfl (Nat.le_of_ble_eq_true rfl) dX3_letterAt_6 ⟨Nat.le_of_ble_eq_true rfl, Nat.le_of_ble_eq_true rfl⟩) (fun r u H locs hp hnz w => ?_)
  obtain ⟨rfl, rfl⟩ := hp
  dsimp only at w
  refine lv_if_eq (tgt := 21) hx hb dX3_letterAt_9 (by decide) (fun c_9 => ?_) (fun c_9 => ?_)
  · refine lv_bipush (v := 114) hx hb dX3_letterAt_21 (by decide) ?_
    exact g_zret hx hb hr hlk w (Nat.le_of_ble_eq_true rfl) (Nat.le_of_ble_eq_true rfl) dX3_letterAt_23 rfl ⟨(((sX3_letterAt_u Z k0 i0).trans (if_pos c_9))).symm, rfl⟩
  · refine lv_aload_n hx hb dX3_letterAt_12 rfl (lv_at hl 0 rfl) ?_
    refine gf_RX3_9_9 (v := .ref (x.f (.rl k0))) S hE w (ov_r (t := .ro k0) (hk.e_ro hv_k0)) rfl dX3_letterAt_13 ?_
    refine lv_iload_n hx hb dX3_letterAt_16 rfl (lv_at hl 1 rfl) ?_
    refine va_cald hx hb hE.1 (g_1 w.1 (ov_r (t := .rl k0) (hk.e_rl hv_k0))) 0 2 rfl rfl (vinB (n := 24) rfl (by decide) c_9) dX3_letterAt_17 ?_
    show W p l e _ s m _ below meth c _ _ _ _ _ (F0 m 18 ls [.int (((Z.ro k0).l) (Int32.toNatClampNeg i0))])
    refine lv_goto (tgt := 23) hx hb dX3_letterAt_18 (by decide) ?_
    exact g_zretN (v := vp_nar .char (((Z.ro k0).l) (Int32.toNatClampNeg i0))) hx hb hr hlk w (Nat.le_of_ble_eq_true rfl) (Nat.le_of_ble_eq_true rfl) dX3_letterAt_23 rfl ⟨(((sX3_letterAt_u Z k0 i0).trans (if_neg c_9))).symm, rfl⟩
def sX3_takenBy (Z : Ho) (c0 : Int32) (n0 : Int32) : Int32 := if c0 = 42 ∨ c0 = 43 ∨ c0 = 45 ∨ c0 = 47 ∨ c0 = 60 ∨ c0 = 61 then (2) else (if c0 = 77 ∨ c0 = 109 then (n0 + 1) else (if c0 = 97 ∨ c0 = 99 ∨ c0 = 102 ∨ c0 = 103 ∨ c0 = 106 ∨ c0 = 110 ∨ c0 = 115 ∨ c0 = 116 ∨ c0 = 117 then (0) else (1)))
theorem sX3_takenBy_u (Z : Ho) (c0 : Int32) (n0 : Int32) : sX3_takenBy Z c0 n0 = if c0 = 42 ∨ c0 = 43 ∨ c0 = 45 ∨ c0 = 47 ∨ c0 = 60 ∨ c0 = 61 then (2) else (if c0 = 77 ∨ c0 = 109 then (n0 + 1) else (if c0 = 97 ∨ c0 = 99 ∨ c0 = 102 ∨ c0 = 103 ∨ c0 = 106 ∨ c0 = 110 ∨ c0 = 115 ∨ c0 = 116 ∨ c0 = 117 then (0) else (1))) := rfl
set_option maxHeartbeats 4000000 in
set_option maxRecDepth 100000 in
theorem hX3_takenBy (l : Launch) (D : va_G) (ar : Nat → ClassId) (κ : Nat → Nat) (G : gW) (x : Xo) (Z : Ho) (sz : Nat) (c0 : Int32) (n0 : Int32) (hk : OK x Z) : Met l yX3_takenBy (lwC yX3_takenBy cX3_takenBy 2 (some .int)) (rD 3 0 0) (g_Pc D vwCl (gT ar) (EX1 κ) (ov κ ar x Z G) sz [.int c0, .int n0]) (g_Qi D vwCl (g_A (ov κ ar x Z G) sz) (fun r u => r = sX3_takenBy Z c0 n0 ∧ u = (ov κ ar x Z G, sz))) 0 0 (g_A (ov κ ar x Z G) sz) := by
  refine g_ofW (by decide +kernel) (Nat.le_of_ble_eq_true rfl) ?_
  intro p e s m below meth c ls S hr hlk hin hE w hl
  have hx := S.1
  have hb := S.2.1
  have hl : lv_has ls 2 [(0, .int c0), (1, .int n0)] := hl
  refine lv_iload_n hx hb dX3_takenBy_0 rfl (lv_at hl 0 rfl) ?_
  by_cases c_1_0 : c0 = 42 ∨ c0 = 43 ∨ c0 = 45 ∨ c0 = 47 ∨ c0 = 60 ∨ c0 = 61
  · refine lv_lookup (off := 149) (tgt := 150) hx hb dX3_takenBy_1 (by decide) (by rcases c_1_0 with h9 | h9 | h9 | h9 | h9 | h9 <;> (rw [h9]; decide)) (by decide) ?_
    refine lv_iconst (v := 2) hx hb dX3_takenBy_150 (by decide) ?_
    exact g_iret hx hb hr hlk w (Nat.le_of_ble_eq_true rfl) (Nat.le_of_ble_eq_true rfl) dX3_takenBy_151 ⟨(((sX3_takenBy_u Z c0 n0).trans (if_pos c_1_0))).symm, rfl⟩
  by_cases c_1_1 : c0 = 77 ∨ c0 = 109
  · refine lv_lookup (off := 151) (tgt := 152) hx hb dX3_takenBy_1 (by decide) (by rcases c_1_1 with h9 | h9 <;> (rw [h9]; decide)) (by decide) ?_
    refine lv_iload_n hx hb dX3_takenBy_152 rfl (lv_at hl 1 rfl) ?_
    refine lv_iconst (v := 1) hx hb dX3_takenBy_153 (by decide) ?_
    refine lv_iadd hx hb dX3_takenBy_154 ?_
    exact g_iret hx hb hr hlk w (Nat.le_of_ble_eq_true rfl) (Nat.le_of_ble_eq_true rfl) dX3_takenBy_155 ⟨(((sX3_takenBy_u Z c0 n0).trans ((if_neg c_1_0).trans (if_pos c_1_1)))).symm, rfl⟩
  by_cases c_1_2 : c0 = 97 ∨ c0 = 99 ∨ c0 = 102 ∨ c0 = 103 ∨ c0 = 106 ∨ c0 = 110 ∨ c0 = 115 ∨ c0 = 116 ∨ c0 = 117
  · refine lv_lookup (off := 147) (tgt := 148) hx hb dX3_takenBy_1 (by decide) (by rcases c_1_2 with h9 | h9 | h9 | h9 | h9 | h9 | h9 | h9 | h9 <;> (rw [h9]; decide)) (by decide) ?_
    refine lv_iconst (v := 0) hx hb dX3_takenBy_148 (by decide) ?_
    exact g_iret hx hb hr hlk w (Nat.le_of_ble_eq_true rfl) (Nat.le_of_ble_eq_true rfl) dX3_takenBy_149 ⟨(((sX3_takenBy_u Z c0 n0).trans ((if_neg c_1_0).trans ((if_neg c_1_1).trans (if_pos c_1_2))))).symm, rfl⟩
  refine lv_lookup (off := 155) (tgt := 156) hx hb dX3_takenBy_1 (by decide) (sw_def (ks := [42, 43, 45, 47, 60, 61, 77, 97, 99, 102, 103, 106, 109, 110, 115, 116, 117]) ⟨(fun h9 => c_1_0 (Or.inl h9)), (fun h9 => c_1_0 (Or.inr (Or.inl h9))), (fun h9 => c_1_0 (Or.inr (Or.inr (Or.inl h9)))), (fun h9 => c_1_0 (Or.inr (Or.inr (Or.inr (Or.inl h9))))), (fun h9 => c_1_0 (Or.inr (Or.inr (Or.inr (Or.inr (Or.inl h9)))))), (fun h9 => c_1_0 (Or.inr (Or.inr (Or.inr (Or.inr (Or.inr (h9))))))), (fun h9 => c_1_1 (Or.inl h9)), (fun h9 => c_1_2 (Or.inl h9)), (fun h9 => c_1_2 (Or.inr (Or.inl h9))), (fun h9 => c_1_2 (Or.inr (Or.inr (Or.inl h9)))), (fun h9 => c_1_2 (Or.inr (Or.inr (Or.inr (Or.inl h9))))), (fun h9 => c_1_2 (Or.inr (Or.inr (Or.inr (Or.inr (Or.inl h9)))))), (fun h9 => c_1_1 (Or.inr (h9))), (fun h9 => c_1_2 (Or.inr (Or.inr (Or.inr (Or.inr (Or.inr (Or.inl h9))))))), (fun h9 => c_1_2 (Or.inr (Or.inr (Or.inr (Or.inr (Or.inr (Or.inr (Or.inl h9)))))))), (fun h9 => c_1_2 (Or.inr (Or.inr (Or.inr (Or.inr (Or.inr (Or.inr (Or.inr (Or.inl h9))))))))), (fun h9 => c_1_2 (Or.inr (Or.inr (Or.inr (Or.inr (Or.inr (Or.inr (Or.inr (Or.inr (h9)))))))))), trivial⟩ (by decide +kernel)) (by decide) ?_
  refine lv_iconst (v := 1) hx hb dX3_takenBy_156 (by decide) ?_
  exact g_iret hx hb hr hlk w (Nat.le_of_ble_eq_true rfl) (Nat.le_of_ble_eq_true rfl) dX3_takenBy_157 ⟨(((sX3_takenBy_u Z c0 n0).trans ((if_neg c_1_0).trans ((if_neg c_1_1).trans (if_neg c_1_2))))).symm, rfl⟩
def sX3_putBy (Z : Ho) (c0 : Int32) : Int32 := if c0 = 70 ∨ c0 = 71 ∨ c0 = 84 ∨ c0 = 106 ∨ c0 = 112 ∨ c0 = 114 ∨ c0 = 119 ∨ c0 = 121 then (0) else (if c0 = 100 then (2) else (1))
theorem sX3_putBy_u (Z : Ho) (c0 : Int32) : sX3_putBy Z c0 = if c0 = 70 ∨ c0 = 71 ∨ c0 = 84 ∨ c0 = 106 ∨ c0 = 112 ∨ c0 = 114 ∨ c0 = 119 ∨ c0 = 121 then (0) else (if c0 = 100 then (2) else (1)) := rfl
set_option maxHeartbeats 4000000 in
set_option maxRecDepth 100000 in
theorem hX3_putBy (l : Launch) (D : va_G) (ar : Nat → ClassId) (κ : Nat → Nat) (G : gW) (x : Xo) (Z : Ho) (sz : Nat) (c0 : Int32) (hk : OK x Z) : Met l yX3_putBy (lwC yX3_putBy cX3_putBy 1 (some .int)) (rD 3 0 0) (g_Pc D vwCl (gT ar) (EX1 κ) (ov κ ar x Z G) sz [.int c0]) (g_Qi D vwCl (g_A (ov κ ar x Z G) sz) (fun r u => r = sX3_putBy Z c0 ∧ u = (ov κ ar x Z G, sz))) 0 0 (g_A (ov κ ar x Z G) sz) := by
  refine g_ofW (by decide +kernel) (Nat.le_of_ble_eq_true rfl) ?_
  intro p e s m below meth c ls S hr hlk hin hE w hl
  have hx := S.1
  have hb := S.2.1
  have hl : lv_has ls 1 [(0, .int c0)] := hl
  refine lv_iload_n hx hb dX3_putBy_0 rfl (lv_at hl 0 rfl) ?_
  by_cases c_1_0 : c0 = 70 ∨ c0 = 71 ∨ c0 = 84 ∨ c0 = 106 ∨ c0 = 112 ∨ c0 = 114 ∨ c0 = 119 ∨ c0 = 121
  · refine lv_lookup (off := 83) (tgt := 84) hx hb dX3_putBy_1 (by decide) (by rcases c_1_0 with h9 | h9 | h9 | h9 | h9 | h9 | h9 | h9 <;> (rw [h9]; decide)) (by decide) ?_
    refine lv_iconst (v := 0) hx hb dX3_putBy_84 (by decide) ?_
    exact g_iret hx hb hr hlk w (Nat.le_of_ble_eq_true rfl) (Nat.le_of_ble_eq_true rfl) dX3_putBy_85 ⟨(((sX3_putBy_u Z c0).trans (if_pos c_1_0))).symm, rfl⟩
  by_cases c_1_1 : c0 = 100
  · refine lv_lookup (off := 85) (tgt := 86) hx hb dX3_putBy_1 (by decide) (by have h9 := c_1_1; (rw [h9]; decide)) (by decide) ?_
    refine lv_iconst (v := 2) hx hb dX3_putBy_86 (by decide) ?_
    exact g_iret hx hb hr hlk w (Nat.le_of_ble_eq_true rfl) (Nat.le_of_ble_eq_true rfl) dX3_putBy_87 ⟨(((sX3_putBy_u Z c0).trans ((if_neg c_1_0).trans (if_pos c_1_1)))).symm, rfl⟩
  refine lv_lookup (off := 87) (tgt := 88) hx hb dX3_putBy_1 (by decide) (sw_def (ks := [70, 71, 84, 100, 106, 112, 114, 119, 121]) ⟨(fun h9 => c_1_0 (Or.inl h9)), (fun h9 => c_1_0 (Or.inr (Or.inl h9))), (fun h9 => c_1_0 (Or.inr (Or.inr (Or.inl h9)))), c_1_1, (fun h9 => c_1_0 (Or.inr (Or.inr (Or.inr (Or.inl h9))))), (fun h9 => c_1_0 (Or.inr (Or.inr (Or.inr (Or.inr (Or.inl h9)))))), (fun h9 => c_1_0 (Or.inr (Or.inr (Or.inr (Or.inr (Or.inr (Or.inl h9))))))), (fun h9 => c_1_0 (Or.inr (Or.inr (Or.inr (Or.inr (Or.inr (Or.inr (Or.inl h9)))))))), (fun h9 => c_1_0 (Or.inr (Or.inr (Or.inr (Or.inr (Or.inr (Or.inr (Or.inr (h9))))))))), trivial⟩ (by decide +kernel)) (by decide) ?_
  refine lv_iconst (v := 1) hx hb dX3_putBy_88 (by decide) ?_
  exact g_iret hx hb hr hlk w (Nat.le_of_ble_eq_true rfl) (Nat.le_of_ble_eq_true rfl) dX3_putBy_89 ⟨(((sX3_putBy_u Z c0).trans ((if_neg c_1_0).trans (if_neg c_1_1)))).symm, rfl⟩
def sX3_enlist (Z : Ho) (k0 : Nat) (c0 : Int32) (v0 : Int32) (y0 : Int32) : Ho := if isB ((Z.ro k0).n) 24 = 0 then (Z) else ((Z.roS k0 (((((Z.ro k0).sl (upd ((Z.ro k0).l) (Int32.toNatClampNeg ((Z.ro k0).n)) (vp_nar .char c0))).sf (upd ((Z.ro k0).f) (Int32.toNatClampNeg ((Z.ro k0).n)) v0)).sg (upd ((Z.ro k0).g) (Int32.toNatClampNeg ((Z.ro k0).n)) y0)).sn (((Z.ro k0).n) + 1))))
theorem sX3_enlist_u (Z : Ho) (k0 : Nat) (c0 : Int32) (v0 : Int32) (y0 : Int32) : sX3_enlist Z k0 c0 v0 y0 = if isB ((Z.ro k0).n) 24 = 0 then (Z) else ((Z.roS k0 (((((Z.ro k0).sl (upd ((Z.ro k0).l) (Int32.toNatClampNeg ((Z.ro k0).n)) (vp_nar .char c0))).sf (upd ((Z.ro k0).f) (Int32.toNatClampNeg ((Z.ro k0).n)) v0)).sg (upd ((Z.ro k0).g) (Int32.toNatClampNeg ((Z.ro k0).n)) y0)).sn (((Z.ro k0).n) + 1)))) := rfl
set_option maxHeartbeats 4000000 in
set_option maxRecDepth 100000 in
theorem hX3_enlist (l : Launch) (D : va_G) (ar : Nat → ClassId) (κ : Nat → Nat) (G : gW) (x : Xo) (Z : Ho) (sz : Nat) (k0 : Nat) (c0 : Int32) (v0 : Int32) (y0 : Int32) (hk : OK x Z) (hv_k0 : k0 < Z.nr) : Met l yX3_enlist (lwC yX3_enlist cX3_enlist 4 none) (rD 4 0 0) (g_Pc D vwCl (gT ar) (EX1 κ) (ov κ ar x Z G) sz [.ref (x.f (.ro k0)), .int c0, .int v0, .int y0]) (g_Qv D vwCl (g_A (ov κ ar x Z G) sz) (fun u => ∃ T9 : Ho, sX3_enlist Z k0 c0 v0 y0 = T9 ∧ u = (ov κ ar x T9 G, sz) ∧ OK x T9 ∧ SZ T9 Z)) 0 0 (g_A (ov κ ar x Z G) sz) := by
  refine g_ofW (by decide +kernel) (Nat.le_of_ble_eq_true rfl) ?_
  intro p e s m below meth c ls S hr hlk hin hE w hl
  have hx := S.1
  have hb := S.2.1
  have hl : lv_has ls 4 [(0, .ref (x.f (.ro k0))), (1, .int c0), (2, .int v0), (3, .int y0)] := hl
  refine lv_aload_n hx hb dX3_enlist_0 rfl (lv_at hl 0 rfl) ?_
  refine gf_RX3_28_9 (v := .int ((Z.ro k0).n)) S hE w (ov_r (t := .ro k0) (hk.e_ro hv_k0)) rfl dX3_enlist_1 ?_
  refine lv_bipush (v := 24) hx hb dX3_enlist_4 (by decide) ?_
  refine g_calli w (g_runSN (As := [.int ((Z.ro k0).n), .int 24]) (rest := []) S hE w hl (c_X8_isBelow l D ar κ (ov κ ar x Z G) sz ((Z.ro k0).n) 24) (k_RX3_35 S.2.2.2.2 (hE.2.1.1 _ (ckN_1 _ (List.mem_of_getElem? (i := 8) rfl))) ⟨Nat.le_of_ble_eq_true rfl, Nat.le_of_ble_eq_true rfl⟩) rfl rfl (Nat.le_of_ble_eq_true rfl) dX3_enlist_6 ⟨Nat.le_of_ble_eq_true rfl, Nat.le_of_ble_eq_true rfl⟩) (fun r u H locs hp hnz w => ?_)
  obtain ⟨rfl, rfl⟩ := hp
  dsimp only at w
  refine lv_if_eq (tgt := 52) hx hb dX3_enlist_9 (by decide) (fun c_9 => ?_) (fun c_9 => ?_)
  · exact g_vret hx hb hr hlk w (Nat.le_of_ble_eq_true rfl) (Nat.le_of_ble_eq_true rfl) dX3_enlist_52 ⟨_, ((sX3_enlist_u Z k0 c0 v0 y0).trans (if_pos c_9)), rfl, hk, ⟨rfl, rfl, rfl, rfl⟩⟩
  · refine lv_aload_n hx hb dX3_enlist_12 rfl (lv_at hl 0 rfl) ?_
    refine gf_RX3_9_9 (v := .ref (x.f (.rl k0))) S hE w (ov_r (t := .ro k0) (hk.e_ro hv_k0)) rfl dX3_enlist_13 ?_
    refine lv_aload_n hx hb dX3_enlist_16 rfl (lv_at hl 0 rfl) ?_
    refine gf_RX3_28_9 (v := .int ((Z.ro k0).n)) S hE w (ov_r (t := .ro k0) (hk.e_ro hv_k0)) rfl dX3_enlist_17 ?_
    refine lv_iload_n hx hb dX3_enlist_20 rfl (lv_at hl 1 rfl) ?_
    refine g_cast hx hb hE.1 w 2 (ov_r (t := .rl k0) (hk.e_rl hv_k0)) rfl (vinB (n := 24) rfl (by decide) c_9) dX3_enlist_21 (fun H locs w => ?_)
    have w := g_eqw w (congrArg (fun Z9 => g_up (ov κ ar x Z9 G) (x.f (.rl k0)) (.inl (ar 2, 24, .inl (upd ((Z.ro k0).l) (Int32.toNatClampNeg ((Z.ro k0).n)) (vp_nar .char c0))))) (roS_id (S := Z) (i := k0)).symm)
    have w : g_S D vwCl (g_A (ov κ ar x Z G) sz) s.heap (ov κ ar x (Z.roS k0 ((Z.ro k0).sl (upd ((Z.ro k0).l) (Int32.toNatClampNeg ((Z.ro k0).n)) (vp_nar .char c0)))) G) H _ sz := g_eqw w (ov_wrl (S := Z) (v := (Z.ro k0)) (v' := ((Z.ro k0).sl (upd ((Z.ro k0).l) (Int32.toNatClampNeg ((Z.ro k0).n)) (vp_nar .char c0)))) hk.v (hk.e_rl hv_k0) rfl Ro_f_sl Ro_g_sl Ro_d_sl Ro_q_sl Ro_n_sl Ro_k_sl)
    refine lv_aload_n hx hb dX3_enlist_22 rfl (lv_at hl 0 rfl) ?_
    refine gf_RX3_15_9 (v := .ref (x.f (.rf k0))) S hE w (ov_rro (hk.e_ro hv_k0)) rfl dX3_enlist_23 ?_
    refine lv_aload_n hx hb dX3_enlist_26 rfl (lv_at hl 0 rfl) ?_
    refine gf_RX3_28_9 (v := .int ((Z.ro k0).n)) S hE w (ov_rro (hk.e_ro hv_k0)) rfl dX3_enlist_27 ?_
    refine lv_iload_n hx hb dX3_enlist_30 rfl (lv_at hl 2 rfl) ?_
    refine g_iast hx hb hE.1 w 0 (ov_rrf (hk.e_rf hv_k0)) rfl (vinB (n := 24) rfl (by decide) c_9) dX3_enlist_31 (fun H locs w => ?_)
    have w : g_S D vwCl (g_A (ov κ ar x Z G) sz) s.heap (ov κ ar x (Z.roS k0 (((Z.ro k0).sl (upd ((Z.ro k0).l) (Int32.toNatClampNeg ((Z.ro k0).n)) (vp_nar .char c0))).sf (upd ((Z.ro k0).f) (Int32.toNatClampNeg ((Z.ro k0).n)) v0))) G) H _ sz := g_eqw w (ov_wrf (S := Z) (v := ((Z.ro k0).sl (upd ((Z.ro k0).l) (Int32.toNatClampNeg ((Z.ro k0).n)) (vp_nar .char c0)))) (v' := (((Z.ro k0).sl (upd ((Z.ro k0).l) (Int32.toNatClampNeg ((Z.ro k0).n)) (vp_nar .char c0))).sf (upd ((Z.ro k0).f) (Int32.toNatClampNeg ((Z.ro k0).n)) v0))) hk.v (hk.e_rf hv_k0) rfl ((Ro_l_sf.trans Ro_l_sl).trans Ro_l_sl.symm) ((Ro_g_sf.trans Ro_g_sl).trans Ro_g_sl.symm) ((Ro_d_sf.trans Ro_d_sl).trans Ro_d_sl.symm) ((Ro_q_sf.trans Ro_q_sl).trans Ro_q_sl.symm) ((Ro_n_sf.trans Ro_n_sl).trans Ro_n_sl.symm) ((Ro_k_sf.trans Ro_k_sl).trans Ro_k_sl.symm))
    refine lv_aload_n hx hb dX3_enlist_32 rfl (lv_at hl 0 rfl) ?_
    refine gf_RX3_19_9 (v := .ref (x.f (.rg k0))) S hE w (ov_rro (hk.e_ro hv_k0)) rfl dX3_enlist_33 ?_
    refine lv_aload_n hx hb dX3_enlist_36 rfl (lv_at hl 0 rfl) ?_
    refine gf_RX3_28_9 (v := .int ((Z.ro k0).n)) S hE w (ov_rro (hk.e_ro hv_k0)) rfl dX3_enlist_37 ?_
    refine lv_iload_n hx hb dX3_enlist_40 rfl (lv_at hl 3 rfl) ?_
    refine g_iast hx hb hE.1 w 0 (ov_rrg (hk.e_rg hv_k0)) rfl (vinB (n := 24) rfl (by decide) c_9) dX3_enlist_41 (fun H locs w => ?_)
    have w : g_S D vwCl (g_A (ov κ ar x Z G) sz) s.heap (ov κ ar x (Z.roS k0 ((((Z.ro k0).sl (upd ((Z.ro k0).l) (Int32.toNatClampNeg ((Z.ro k0).n)) (vp_nar .char c0))).sf (upd ((Z.ro k0).f) (Int32.toNatClampNeg ((Z.ro k0).n)) v0)).sg (upd ((Z.ro k0).g) (Int32.toNatClampNeg ((Z.ro k0).n)) y0))) G) H _ sz := g_eqw w (ov_wrg (S := Z) (v := (((Z.ro k0).sl (upd ((Z.ro k0).l) (Int32.toNatClampNeg ((Z.ro k0).n)) (vp_nar .char c0))).sf (upd ((Z.ro k0).f) (Int32.toNatClampNeg ((Z.ro k0).n)) v0))) (v' := ((((Z.ro k0).sl (upd ((Z.ro k0).l) (Int32.toNatClampNeg ((Z.ro k0).n)) (vp_nar .char c0))).sf (upd ((Z.ro k0).f) (Int32.toNatClampNeg ((Z.ro k0).n)) v0)).sg (upd ((Z.ro k0).g) (Int32.toNatClampNeg ((Z.ro k0).n)) y0))) hk.v (hk.e_rg hv_k0) rfl ((Ro_l_sg.trans (Ro_l_sf.trans Ro_l_sl)).trans (Ro_l_sf.trans Ro_l_sl).symm) ((Ro_f_sg.trans Ro_f_sf).trans Ro_f_sf.symm) ((Ro_d_sg.trans (Ro_d_sf.trans Ro_d_sl)).trans (Ro_d_sf.trans Ro_d_sl).symm) ((Ro_q_sg.trans (Ro_q_sf.trans Ro_q_sl)).trans (Ro_q_sf.trans Ro_q_sl).symm) ((Ro_n_sg.trans (Ro_n_sf.trans Ro_n_sl)).trans (Ro_n_sf.trans Ro_n_sl).symm) ((Ro_k_sg.trans (Ro_k_sf.trans Ro_k_sl)).trans (Ro_k_sf.trans Ro_k_sl).symm))
    refine lv_aload_n hx hb dX3_enlist_42 rfl (lv_at hl 0 rfl) ?_
    refine lv_dup hx hb dX3_enlist_43 rfl ?_
    refine gf_RX3_28_9 (v := .int ((Z.ro k0).n)) S hE w (ov_rro (hk.e_ro hv_k0)) rfl dX3_enlist_44 ?_
    refine lv_iconst (v := 1) hx hb dX3_enlist_47 (by decide) ?_
    refine lv_iadd hx hb dX3_enlist_48 ?_
    refine pf_RX3_28_9 (fs1 := [.ref (x.f (.rl k0)), .ref (x.f (.rf k0)), .ref (x.f (.rg k0)), .ref (x.f (.rd k0)), .ref (x.f (.rq k0)), .int (((Z.ro k0).n) + 1), .int ((Z.ro k0).k)]) S hE w (ov_rro (hk.e_ro hv_k0)) rfl rfl (Nat.le_of_ble_eq_true rfl) rfl dX3_enlist_49 (fun H locs w => ?_)
    have w : g_S D vwCl (g_A (ov κ ar x Z G) sz) s.heap (ov κ ar x (Z.roS k0 (((((Z.ro k0).sl (upd ((Z.ro k0).l) (Int32.toNatClampNeg ((Z.ro k0).n)) (vp_nar .char c0))).sf (upd ((Z.ro k0).f) (Int32.toNatClampNeg ((Z.ro k0).n)) v0)).sg (upd ((Z.ro k0).g) (Int32.toNatClampNeg ((Z.ro k0).n)) y0)).sn (((Z.ro k0).n) + 1))) G) H _ sz := g_eqw w (ov_wro (S := Z) (v := ((((Z.ro k0).sl (upd ((Z.ro k0).l) (Int32.toNatClampNeg ((Z.ro k0).n)) (vp_nar .char c0))).sf (upd ((Z.ro k0).f) (Int32.toNatClampNeg ((Z.ro k0).n)) v0)).sg (upd ((Z.ro k0).g) (Int32.toNatClampNeg ((Z.ro k0).n)) y0))) (v' := (((((Z.ro k0).sl (upd ((Z.ro k0).l) (Int32.toNatClampNeg ((Z.ro k0).n)) (vp_nar .char c0))).sf (upd ((Z.ro k0).f) (Int32.toNatClampNeg ((Z.ro k0).n)) v0)).sg (upd ((Z.ro k0).g) (Int32.toNatClampNeg ((Z.ro k0).n)) y0)).sn (((Z.ro k0).n) + 1))) hk.v (hk.e_ro hv_k0) rfl ((Ro_l_sn.trans (Ro_l_sg.trans (Ro_l_sf.trans Ro_l_sl))).trans (Ro_l_sg.trans (Ro_l_sf.trans Ro_l_sl)).symm) ((Ro_f_sn.trans (Ro_f_sg.trans Ro_f_sf)).trans (Ro_f_sg.trans Ro_f_sf).symm) ((Ro_g_sn.trans Ro_g_sg).trans Ro_g_sg.symm) ((Ro_d_sn.trans (Ro_d_sg.trans (Ro_d_sf.trans Ro_d_sl))).trans (Ro_d_sg.trans (Ro_d_sf.trans Ro_d_sl)).symm) ((Ro_q_sn.trans (Ro_q_sg.trans (Ro_q_sf.trans Ro_q_sl))).trans (Ro_q_sg.trans (Ro_q_sf.trans Ro_q_sl)).symm))
    exact g_vret hx hb hr hlk w (Nat.le_of_ble_eq_true rfl) (Nat.le_of_ble_eq_true rfl) dX3_enlist_52 ⟨_, ((sX3_enlist_u Z k0 c0 v0 y0).trans (if_neg c_9)), rfl, (hk.plain (T := (Z.roS k0 (((((Z.ro k0).sl (upd ((Z.ro k0).l) (Int32.toNatClampNeg ((Z.ro k0).n)) (vp_nar .char c0))).sf (upd ((Z.ro k0).f) (Int32.toNatClampNeg ((Z.ro k0).n)) v0)).sg (upd ((Z.ro k0).g) (Int32.toNatClampNeg ((Z.ro k0).n)) y0)).sn (((Z.ro k0).n) + 1)))) rfl rfl rfl rfl rfl rfl rfl), ⟨rfl, rfl, rfl, rfl⟩⟩
def sX1_cls (Z : Ho) (i0 : Fin 12) : Int32 := oc ((Z.fr i0).o) (0) (fun k1 => (Z.to k1).c)
theorem sX1_cls_u (Z : Ho) (i0 : Fin 12) : sX1_cls Z i0 = oc ((Z.fr i0).o) (0) (fun k1 => (Z.to k1).c) := rfl
set_option maxHeartbeats 4000000 in
set_option maxRecDepth 100000 in
theorem hX1_cls (l : Launch) (D : va_G) (ar : Nat → ClassId) (κ : Nat → Nat) (G : gW) (x : Xo) (Z : Ho) (sz : Nat) (i0 : Fin 12) (hk : OK x Z) : Met l yX1_cls (lwC yX1_cls cX1_cls 1 (some .int)) (rD 4 0 0) (g_Pc D vwCl (gT ar) (EX1 κ) (ov κ ar x Z G) sz [.ref (x.f (.fr i0))]) (g_Qi D vwCl (g_A (ov κ ar x Z G) sz) (fun r u => r = sX1_cls Z i0 ∧ u = (ov κ ar x Z G, sz))) 0 0 (g_A (ov κ ar x Z G) sz) := by
  refine g_ofW (by decide +kernel) (Nat.le_of_ble_eq_true rfl) ?_
  intro p e s m below meth c ls S hr hlk hin hE w hl
  have hx := S.1
  have hb := S.2.1
  have hl : lv_has ls 1 [(0, .ref (x.f (.fr i0)))] := hl
  refine lv_aload_n hx hb dX1_cls_0 rfl (lv_at hl 0 rfl) ?_
  refine gf_RX1_21_7 (v := va_rf (((Z.fr i0).o).map (fun k9 => x.f (.to k9)))) S hE w (ov_r (t := .fr i0) (hk.e (.fr i0) rfl)) rfl dX1_cls_1 ?_
  rcases he2 : (Z.fr i0).o with _ | k1
  · show W p l e _ s m _ below meth c _ _ _ _ _ (F0 m 4 ls [.null])
    refine lv_ifnonnullN hx hb dX1_cls_4 ?_
    refine lv_iconst (v := 0) hx hb dX1_cls_7 (by decide) ?_
    refine lv_goto (tgt := 18) hx hb dX1_cls_8 (by decide) ?_
    exact g_iret hx hb hr hlk w (Nat.le_of_ble_eq_true rfl) (Nat.le_of_ble_eq_true rfl) dX1_cls_18 ⟨(((sX1_cls_u Z i0).trans (oc_n he2))).symm, rfl⟩
  · show W p l e _ s m _ below meth c _ _ _ _ _ (F0 m 4 ls [.ref (x.f (.to k1))])
    refine lv_ifnonnull (tgt := 11) hx hb dX1_cls_4 (by decide) ?_
    refine lv_aload_n hx hb dX1_cls_11 rfl (lv_at hl 0 rfl) ?_
    refine gf_RX1_21_7 (v := va_rf (((Z.fr i0).o).map (fun k9 => x.f (.to k9)))) S hE w (ov_r (t := .fr i0) (hk.e (.fr i0) rfl)) rfl dX1_cls_12 ?_
    rw [he2]
    show W p l e _ s m _ below meth c _ _ _ _ _ (F0 m 15 ls [.ref (x.f (.to k1))])
    refine gf_RX1_44_12 (v := .int ((Z.to k1).c)) S hE w (ov_r (t := .to k1) (hk.e_to (hk.o he2))) rfl dX1_cls_15 ?_
    exact g_iret hx hb hr hlk w (Nat.le_of_ble_eq_true rfl) (Nat.le_of_ble_eq_true rfl) dX1_cls_18 ⟨(((sX1_cls_u Z i0).trans (oc_s he2))).symm, rfl⟩
def sX1_selector (Z : Ho) (i0 : Fin 12) : Int32 := oc ((Z.fr i0).o) (0) (fun k1 => (Z.to k1).s)
theorem sX1_selector_u (Z : Ho) (i0 : Fin 12) : sX1_selector Z i0 = oc ((Z.fr i0).o) (0) (fun k1 => (Z.to k1).s) := rfl
set_option maxHeartbeats 4000000 in
set_option maxRecDepth 100000 in
theorem hX1_selector (l : Launch) (D : va_G) (ar : Nat → ClassId) (κ : Nat → Nat) (G : gW) (x : Xo) (Z : Ho) (sz : Nat) (i0 : Fin 12) (hk : OK x Z) : Met l yX1_selector (lwC yX1_selector cX1_selector 1 (some .int)) (rD 4 0 0) (g_Pc D vwCl (gT ar) (EX1 κ) (ov κ ar x Z G) sz [.ref (x.f (.fr i0))]) (g_Qi D vwCl (g_A (ov κ ar x Z G) sz) (fun r u => r = sX1_selector Z i0 ∧ u = (ov κ ar x Z G, sz))) 0 0 (g_A (ov κ ar x Z G) sz) := by
  refine g_ofW (by decide +kernel) (Nat.le_of_ble_eq_true rfl) ?_
  intro p e s m below meth c ls S hr hlk hin hE w hl
  have hx := S.1
  have hb := S.2.1
  have hl : lv_has ls 1 [(0, .ref (x.f (.fr i0)))] := hl
  refine lv_aload_n hx hb dX1_selector_0 rfl (lv_at hl 0 rfl) ?_
  refine gf_RX1_21_7 (v := va_rf (((Z.fr i0).o).map (fun k9 => x.f (.to k9)))) S hE w (ov_r (t := .fr i0) (hk.e (.fr i0) rfl)) rfl dX1_selector_1 ?_
  rcases he2 : (Z.fr i0).o with _ | k1
  · show W p l e _ s m _ below meth c _ _ _ _ _ (F0 m 4 ls [.null])
    refine lv_ifnonnullN hx hb dX1_selector_4 ?_
    refine lv_iconst (v := 0) hx hb dX1_selector_7 (by decide) ?_
    refine lv_goto (tgt := 18) hx hb dX1_selector_8 (by decide) ?_
    exact g_iret hx hb hr hlk w (Nat.le_of_ble_eq_true rfl) (Nat.le_of_ble_eq_true rfl) dX1_selector_18 ⟨(((sX1_selector_u Z i0).trans (oc_n he2))).symm, rfl⟩
  · show W p l e _ s m _ below meth c _ _ _ _ _ (F0 m 4 ls [.ref (x.f (.to k1))])
    refine lv_ifnonnull (tgt := 11) hx hb dX1_selector_4 (by decide) ?_
    refine lv_aload_n hx hb dX1_selector_11 rfl (lv_at hl 0 rfl) ?_
    refine gf_RX1_21_7 (v := va_rf (((Z.fr i0).o).map (fun k9 => x.f (.to k9)))) S hE w (ov_r (t := .fr i0) (hk.e (.fr i0) rfl)) rfl dX1_selector_12 ?_
    rw [he2]
    show W p l e _ s m _ below meth c _ _ _ _ _ (F0 m 15 ls [.ref (x.f (.to k1))])
    refine gf_RX1_49_12 (v := .int ((Z.to k1).s)) S hE w (ov_r (t := .to k1) (hk.e_to (hk.o he2))) rfl dX1_selector_15 ?_
    exact g_iret hx hb hr hlk w (Nat.le_of_ble_eq_true rfl) (Nat.le_of_ble_eq_true rfl) dX1_selector_18 ⟨(((sX1_selector_u Z i0).trans (oc_s he2))).symm, rfl⟩
def sX1_letter (Z : Ho) (i0 : Fin 12) : Int32 := oc ((Z.fr i0).o) (114) (fun k1 => vp_nar .char (sX3_letterAt Z ((Z.to k1).q) ((Z.fr i0).w)))
theorem sX1_letter_u (Z : Ho) (i0 : Fin 12) : sX1_letter Z i0 = oc ((Z.fr i0).o) (114) (fun k1 => vp_nar .char (sX3_letterAt Z ((Z.to k1).q) ((Z.fr i0).w))) := rfl
set_option maxHeartbeats 4000000 in
set_option maxRecDepth 100000 in
theorem hX1_letter (l : Launch) (D : va_G) (ar : Nat → ClassId) (κ : Nat → Nat) (G : gW) (x : Xo) (Z : Ho) (sz : Nat) (i0 : Fin 12) (hk : OK x Z) : Met l yX1_letter (lwC yX1_letter cX1_letter 1 (some .char)) (rD 5 0 0) (g_Pc D vwCl (gT ar) (EX1 κ) (ov κ ar x Z G) sz [.ref (x.f (.fr i0))]) (g_Qi D vwCl (g_A (ov κ ar x Z G) sz) (fun r u => r = sX1_letter Z i0 ∧ u = (ov κ ar x Z G, sz))) 0 0 (g_A (ov κ ar x Z G) sz) := by
  refine g_ofW (by decide +kernel) (Nat.le_of_ble_eq_true rfl) ?_
  intro p e s m below meth c ls S hr hlk hin hE w hl
  have hx := S.1
  have hb := S.2.1
  have hl : lv_has ls 1 [(0, .ref (x.f (.fr i0)))] := hl
  refine lv_aload_n hx hb dX1_letter_0 rfl (lv_at hl 0 rfl) ?_
  refine gf_RX1_21_7 (v := va_rf (((Z.fr i0).o).map (fun k9 => x.f (.to k9)))) S hE w (ov_r (t := .fr i0) (hk.e (.fr i0) rfl)) rfl dX1_letter_1 ?_
  rcases he2 : (Z.fr i0).o with _ | k1
  · show W p l e _ s m _ below meth c _ _ _ _ _ (F0 m 4 ls [.null])
    refine lv_ifnonnullN hx hb dX1_letter_4 ?_
    refine lv_bipush (v := 114) hx hb dX1_letter_7 (by decide) ?_
    refine lv_goto (tgt := 26) hx hb dX1_letter_9 (by decide) ?_
    exact g_zret hx hb hr hlk w (Nat.le_of_ble_eq_true rfl) (Nat.le_of_ble_eq_true rfl) dX1_letter_26 rfl ⟨(((sX1_letter_u Z i0).trans (oc_n he2))).symm, rfl⟩
  · show W p l e _ s m _ below meth c _ _ _ _ _ (F0 m 4 ls [.ref (x.f (.to k1))])
    refine lv_ifnonnull (tgt := 12) hx hb dX1_letter_4 (by decide) ?_
    refine lv_aload_n hx hb dX1_letter_12 rfl (lv_at hl 0 rfl) ?_
    refine gf_RX1_21_7 (v := va_rf (((Z.fr i0).o).map (fun k9 => x.f (.to k9)))) S hE w (ov_r (t := .fr i0) (hk.e (.fr i0) rfl)) rfl dX1_letter_13 ?_
    rw [he2]
    show W p l e _ s m _ below meth c _ _ _ _ _ (F0 m 16 ls [.ref (x.f (.to k1))])
    refine gf_RX1_52_12 (v := .ref (x.f (.ro ((Z.to k1).q)))) S hE w (ov_r (t := .to k1) (hk.e_to (hk.o he2))) rfl dX1_letter_16 ?_
    refine lv_aload_n hx hb dX1_letter_19 rfl (lv_at hl 0 rfl) ?_
    refine gf_RX1_31_7 (v := .int ((Z.fr i0).w)) S hE w (ov_r (t := .fr i0) (hk.e (.fr i0) rfl)) rfl dX1_letter_20 ?_
    refine g_calli w (g_runV (As := [.int ((Z.fr i0).w)]) (rest := []) S hE w hl (hX3_letterAt l D ar κ G x Z sz ((Z.to k1).q) ((Z.fr i0).w) hk (hk.q (hk.o he2))) (k_RX1_56 S.2.2.2.2 ⟨Nat.le_of_ble_eq_true rfl, Nat.le_of_ble_eq_true rfl⟩) (ov_r (t := .ro ((Z.to k1).q)) (hk.e_ro (hk.q (hk.o he2)))) rfl rfl rfl rfl (Nat.le_of_ble_eq_true rfl) dX1_letter_23 ⟨Nat.le_of_ble_eq_true rfl, Nat.le_of_ble_eq_true rfl⟩) (fun r u H locs hp hnz w => ?_)
    obtain ⟨rfl, rfl⟩ := hp
    dsimp only at w
    exact g_zretN (v := vp_nar .char (sX3_letterAt Z ((Z.to k1).q) ((Z.fr i0).w))) hx hb hr hlk w (Nat.le_of_ble_eq_true rfl) (Nat.le_of_ble_eq_true rfl) dX1_letter_26 rfl ⟨(((sX1_letter_u Z i0).trans (oc_s he2))).symm, rfl⟩
def sX1_first (Z : Ho) (i0 : Fin 12) : Int32 := oc ((Z.fr i0).o) (0) (fun k1 => sX3_firstAt Z ((Z.to k1).q) ((Z.fr i0).w))
theorem sX1_first_u (Z : Ho) (i0 : Fin 12) : sX1_first Z i0 = oc ((Z.fr i0).o) (0) (fun k1 => sX3_firstAt Z ((Z.to k1).q) ((Z.fr i0).w)) := rfl
set_option maxHeartbeats 4000000 in
set_option maxRecDepth 100000 in
theorem hX1_first (l : Launch) (D : va_G) (ar : Nat → ClassId) (κ : Nat → Nat) (G : gW) (x : Xo) (Z : Ho) (sz : Nat) (i0 : Fin 12) (hk : OK x Z) : Met l yX1_first (lwC yX1_first cX1_first 1 (some .int)) (rD 5 0 0) (g_Pc D vwCl (gT ar) (EX1 κ) (ov κ ar x Z G) sz [.ref (x.f (.fr i0))]) (g_Qi D vwCl (g_A (ov κ ar x Z G) sz) (fun r u => r = sX1_first Z i0 ∧ u = (ov κ ar x Z G, sz))) 0 0 (g_A (ov κ ar x Z G) sz) := by
  refine g_ofW (by decide +kernel) (Nat.le_of_ble_eq_true rfl) ?_
  intro p e s m below meth c ls S hr hlk hin hE w hl
  have hx := S.1
  have hb := S.2.1
  have hl : lv_has ls 1 [(0, .ref (x.f (.fr i0)))] := hl
  refine lv_aload_n hx hb dX1_first_0 rfl (lv_at hl 0 rfl) ?_
  refine gf_RX1_21_7 (v := va_rf (((Z.fr i0).o).map (fun k9 => x.f (.to k9)))) S hE w (ov_r (t := .fr i0) (hk.e (.fr i0) rfl)) rfl dX1_first_1 ?_
  rcases he2 : (Z.fr i0).o with _ | k1
  · show W p l e _ s m _ below meth c _ _ _ _ _ (F0 m 4 ls [.null])
    refine lv_ifnonnullN hx hb dX1_first_4 ?_
    refine lv_iconst (v := 0) hx hb dX1_first_7 (by decide) ?_
    refine lv_goto (tgt := 25) hx hb dX1_first_8 (by decide) ?_
    exact g_iret hx hb hr hlk w (Nat.le_of_ble_eq_true rfl) (Nat.le_of_ble_eq_true rfl) dX1_first_25 ⟨(((sX1_first_u Z i0).trans (oc_n he2))).symm, rfl⟩
  · show W p l e _ s m _ below meth c _ _ _ _ _ (F0 m 4 ls [.ref (x.f (.to k1))])
    refine lv_ifnonnull (tgt := 11) hx hb dX1_first_4 (by decide) ?_
    refine lv_aload_n hx hb dX1_first_11 rfl (lv_at hl 0 rfl) ?_
    refine gf_RX1_21_7 (v := va_rf (((Z.fr i0).o).map (fun k9 => x.f (.to k9)))) S hE w (ov_r (t := .fr i0) (hk.e (.fr i0) rfl)) rfl dX1_first_12 ?_
    rw [he2]
    show W p l e _ s m _ below meth c _ _ _ _ _ (F0 m 15 ls [.ref (x.f (.to k1))])
    refine gf_RX1_52_12 (v := .ref (x.f (.ro ((Z.to k1).q)))) S hE w (ov_r (t := .to k1) (hk.e_to (hk.o he2))) rfl dX1_first_15 ?_
    refine lv_aload_n hx hb dX1_first_18 rfl (lv_at hl 0 rfl) ?_
    refine gf_RX1_31_7 (v := .int ((Z.fr i0).w)) S hE w (ov_r (t := .fr i0) (hk.e (.fr i0) rfl)) rfl dX1_first_19 ?_
    refine g_calli w (g_runV (As := [.int ((Z.fr i0).w)]) (rest := []) S hE w hl (hX3_firstAt l D ar κ G x Z sz ((Z.to k1).q) ((Z.fr i0).w) hk (hk.q (hk.o he2))) (k_RX1_62 S.2.2.2.2 ⟨Nat.le_of_ble_eq_true rfl, Nat.le_of_ble_eq_true rfl⟩) (ov_r (t := .ro ((Z.to k1).q)) (hk.e_ro (hk.q (hk.o he2)))) rfl rfl rfl rfl (Nat.le_of_ble_eq_true rfl) dX1_first_22 ⟨Nat.le_of_ble_eq_true rfl, Nat.le_of_ble_eq_true rfl⟩) (fun r u H locs hp hnz w => ?_)
    obtain ⟨rfl, rfl⟩ := hp
    dsimp only at w
    exact g_iret hx hb hr hlk w (Nat.le_of_ble_eq_true rfl) (Nat.le_of_ble_eq_true rfl) dX1_first_25 ⟨(((sX1_first_u Z i0).trans (oc_s he2))).symm, rfl⟩
def sX1_second (Z : Ho) (i0 : Fin 12) : Int32 := oc ((Z.fr i0).o) (0) (fun k1 => sX3_secondAt Z ((Z.to k1).q) ((Z.fr i0).w))
theorem sX1_second_u (Z : Ho) (i0 : Fin 12) : sX1_second Z i0 = oc ((Z.fr i0).o) (0) (fun k1 => sX3_secondAt Z ((Z.to k1).q) ((Z.fr i0).w)) := rfl
set_option maxHeartbeats 4000000 in
set_option maxRecDepth 100000 in
theorem hX1_second (l : Launch) (D : va_G) (ar : Nat → ClassId) (κ : Nat → Nat) (G : gW) (x : Xo) (Z : Ho) (sz : Nat) (i0 : Fin 12) (hk : OK x Z) : Met l yX1_second (lwC yX1_second cX1_second 1 (some .int)) (rD 5 0 0) (g_Pc D vwCl (gT ar) (EX1 κ) (ov κ ar x Z G) sz [.ref (x.f (.fr i0))]) (g_Qi D vwCl (g_A (ov κ ar x Z G) sz) (fun r u => r = sX1_second Z i0 ∧ u = (ov κ ar x Z G, sz))) 0 0 (g_A (ov κ ar x Z G) sz) := by
  refine g_ofW (by decide +kernel) (Nat.le_of_ble_eq_true rfl) ?_
  intro p e s m below meth c ls S hr hlk hin hE w hl
  have hx := S.1
  have hb := S.2.1
  have hl : lv_has ls 1 [(0, .ref (x.f (.fr i0)))] := hl
  refine lv_aload_n hx hb dX1_second_0 rfl (lv_at hl 0 rfl) ?_
  refine gf_RX1_21_7 (v := va_rf (((Z.fr i0).o).map (fun k9 => x.f (.to k9)))) S hE w (ov_r (t := .fr i0) (hk.e (.fr i0) rfl)) rfl dX1_second_1 ?_
  rcases he2 : (Z.fr i0).o with _ | k1
  · show W p l e _ s m _ below meth c _ _ _ _ _ (F0 m 4 ls [.null])
    refine lv_ifnonnullN hx hb dX1_second_4 ?_
    refine lv_iconst (v := 0) hx hb dX1_second_7 (by decide) ?_
    refine lv_goto (tgt := 25) hx hb dX1_second_8 (by decide) ?_
    exact g_iret hx hb hr hlk w (Nat.le_of_ble_eq_true rfl) (Nat.le_of_ble_eq_true rfl) dX1_second_25 ⟨(((sX1_second_u Z i0).trans (oc_n he2))).symm, rfl⟩
  · show W p l e _ s m _ below meth c _ _ _ _ _ (F0 m 4 ls [.ref (x.f (.to k1))])
    refine lv_ifnonnull (tgt := 11) hx hb dX1_second_4 (by decide) ?_
    refine lv_aload_n hx hb dX1_second_11 rfl (lv_at hl 0 rfl) ?_
    refine gf_RX1_21_7 (v := va_rf (((Z.fr i0).o).map (fun k9 => x.f (.to k9)))) S hE w (ov_r (t := .fr i0) (hk.e (.fr i0) rfl)) rfl dX1_second_12 ?_
    rw [he2]
    show W p l e _ s m _ below meth c _ _ _ _ _ (F0 m 15 ls [.ref (x.f (.to k1))])
    refine gf_RX1_52_12 (v := .ref (x.f (.ro ((Z.to k1).q)))) S hE w (ov_r (t := .to k1) (hk.e_to (hk.o he2))) rfl dX1_second_15 ?_
    refine lv_aload_n hx hb dX1_second_18 rfl (lv_at hl 0 rfl) ?_
    refine gf_RX1_31_7 (v := .int ((Z.fr i0).w)) S hE w (ov_r (t := .fr i0) (hk.e (.fr i0) rfl)) rfl dX1_second_19 ?_
    refine g_calli w (g_runV (As := [.int ((Z.fr i0).w)]) (rest := []) S hE w hl (hX3_secondAt l D ar κ G x Z sz ((Z.to k1).q) ((Z.fr i0).w) hk (hk.q (hk.o he2))) (k_RX1_66 S.2.2.2.2 ⟨Nat.le_of_ble_eq_true rfl, Nat.le_of_ble_eq_true rfl⟩) (ov_r (t := .ro ((Z.to k1).q)) (hk.e_ro (hk.q (hk.o he2)))) rfl rfl rfl rfl (Nat.le_of_ble_eq_true rfl) dX1_second_22 ⟨Nat.le_of_ble_eq_true rfl, Nat.le_of_ble_eq_true rfl⟩) (fun r u H locs hp hnz w => ?_)
    obtain ⟨rfl, rfl⟩ := hp
    dsimp only at w
    exact g_iret hx hb hr hlk w (Nat.le_of_ble_eq_true rfl) (Nat.le_of_ble_eq_true rfl) dX1_second_25 ⟨(((sX1_second_u Z i0).trans (oc_s he2))).symm, rfl⟩
def sX1_depthAsTold (Z : Ho) (i0 : Fin 12) : Int32 := oc ((Z.fr i0).o) (0) (fun k1 => sX3_depthAt Z ((Z.to k1).q) ((Z.fr i0).w))
theorem sX1_depthAsTold_u (Z : Ho) (i0 : Fin 12) : sX1_depthAsTold Z i0 = oc ((Z.fr i0).o) (0) (fun k1 => sX3_depthAt Z ((Z.to k1).q) ((Z.fr i0).w)) := rfl
set_option maxHeartbeats 4000000 in
set_option maxRecDepth 100000 in
theorem hX1_depthAsTold (l : Launch) (D : va_G) (ar : Nat → ClassId) (κ : Nat → Nat) (G : gW) (x : Xo) (Z : Ho) (sz : Nat) (i0 : Fin 12) (hk : OK x Z) : Met l yX1_depthAsTold (lwC yX1_depthAsTold cX1_depthAsTold 1 (some .int)) (rD 5 0 0) (g_Pc D vwCl (gT ar) (EX1 κ) (ov κ ar x Z G) sz [.ref (x.f (.fr i0))]) (g_Qi D vwCl (g_A (ov κ ar x Z G) sz) (fun r u => r = sX1_depthAsTold Z i0 ∧ u = (ov κ ar x Z G, sz))) 0 0 (g_A (ov κ ar x Z G) sz) := by
  refine g_ofW (by decide +kernel) (Nat.le_of_ble_eq_true rfl) ?_
  intro p e s m below meth c ls S hr hlk hin hE w hl
  have hx := S.1
  have hb := S.2.1
  have hl : lv_has ls 1 [(0, .ref (x.f (.fr i0)))] := hl
  refine lv_aload_n hx hb dX1_depthAsTold_0 rfl (lv_at hl 0 rfl) ?_
  refine gf_RX1_21_7 (v := va_rf (((Z.fr i0).o).map (fun k9 => x.f (.to k9)))) S hE w (ov_r (t := .fr i0) (hk.e (.fr i0) rfl)) rfl dX1_depthAsTold_1 ?_
  rcases he2 : (Z.fr i0).o with _ | k1
  · show W p l e _ s m _ below meth c _ _ _ _ _ (F0 m 4 ls [.null])
    refine lv_ifnonnullN hx hb dX1_depthAsTold_4 ?_
    refine lv_iconst (v := 0) hx hb dX1_depthAsTold_7 (by decide) ?_
    refine lv_goto (tgt := 25) hx hb dX1_depthAsTold_8 (by decide) ?_
    exact g_iret hx hb hr hlk w (Nat.le_of_ble_eq_true rfl) (Nat.le_of_ble_eq_true rfl) dX1_depthAsTold_25 ⟨(((sX1_depthAsTold_u Z i0).trans (oc_n he2))).symm, rfl⟩
  · show W p l e _ s m _ below meth c _ _ _ _ _ (F0 m 4 ls [.ref (x.f (.to k1))])
    refine lv_ifnonnull (tgt := 11) hx hb dX1_depthAsTold_4 (by decide) ?_
    refine lv_aload_n hx hb dX1_depthAsTold_11 rfl (lv_at hl 0 rfl) ?_
    refine gf_RX1_21_7 (v := va_rf (((Z.fr i0).o).map (fun k9 => x.f (.to k9)))) S hE w (ov_r (t := .fr i0) (hk.e (.fr i0) rfl)) rfl dX1_depthAsTold_12 ?_
    rw [he2]
    show W p l e _ s m _ below meth c _ _ _ _ _ (F0 m 15 ls [.ref (x.f (.to k1))])
    refine gf_RX1_52_12 (v := .ref (x.f (.ro ((Z.to k1).q)))) S hE w (ov_r (t := .to k1) (hk.e_to (hk.o he2))) rfl dX1_depthAsTold_15 ?_
    refine lv_aload_n hx hb dX1_depthAsTold_18 rfl (lv_at hl 0 rfl) ?_
    refine gf_RX1_31_7 (v := .int ((Z.fr i0).w)) S hE w (ov_r (t := .fr i0) (hk.e (.fr i0) rfl)) rfl dX1_depthAsTold_19 ?_
    refine g_calli w (g_runV (As := [.int ((Z.fr i0).w)]) (rest := []) S hE w hl (hX3_depthAt l D ar κ G x Z sz ((Z.to k1).q) ((Z.fr i0).w) hk (hk.q (hk.o he2))) (k_RX1_69 S.2.2.2.2 ⟨Nat.le_of_ble_eq_true rfl, Nat.le_of_ble_eq_true rfl⟩) (ov_r (t := .ro ((Z.to k1).q)) (hk.e_ro (hk.q (hk.o he2)))) rfl rfl rfl rfl (Nat.le_of_ble_eq_true rfl) dX1_depthAsTold_22 ⟨Nat.le_of_ble_eq_true rfl, Nat.le_of_ble_eq_true rfl⟩) (fun r u H locs hp hnz w => ?_)
    obtain ⟨rfl, rfl⟩ := hp
    dsimp only at w
    exact g_iret hx hb hr hlk w (Nat.le_of_ble_eq_true rfl) (Nat.le_of_ble_eq_true rfl) dX1_depthAsTold_25 ⟨(((sX1_depthAsTold_u Z i0).trans (oc_s he2))).symm, rfl⟩
def sX1_push (Z : Ho) (i0 : Fin 12) (v0 : Int64) : Ho := if isB ((Z.fr i0).d) 8 = 0 then (Z) else ((Z.frS i0 (((Z.fr i0).sp (vp_updL ((Z.fr i0).p) (Int32.toNatClampNeg ((Z.fr i0).d)) v0)).sd (((Z.fr i0).d) + 1))))
theorem sX1_push_u (Z : Ho) (i0 : Fin 12) (v0 : Int64) : sX1_push Z i0 v0 = if isB ((Z.fr i0).d) 8 = 0 then (Z) else ((Z.frS i0 (((Z.fr i0).sp (vp_updL ((Z.fr i0).p) (Int32.toNatClampNeg ((Z.fr i0).d)) v0)).sd (((Z.fr i0).d) + 1)))) := rfl
set_option maxHeartbeats 4000000 in
set_option maxRecDepth 100000 in
theorem hX1_push (l : Launch) (D : va_G) (ar : Nat → ClassId) (κ : Nat → Nat) (G : gW) (x : Xo) (Z : Ho) (sz : Nat) (i0 : Fin 12) (v0 : Int64) (hk : OK x Z) : Met l yX1_push (lwC yX1_push cX1_push 3 none) (rD 4 0 0) (g_Pc D vwCl (gT ar) (EX1 κ) (ov κ ar x Z G) sz [.ref (x.f (.fr i0)), .long v0]) (g_Qv D vwCl (g_A (ov κ ar x Z G) sz) (fun u => ∃ T9 : Ho, sX1_push Z i0 v0 = T9 ∧ u = (ov κ ar x T9 G, sz) ∧ OK x T9 ∧ SZ T9 Z)) 0 0 (g_A (ov κ ar x Z G) sz) := by
  refine g_ofW (by decide +kernel) (Nat.le_of_ble_eq_true rfl) ?_
  intro p e s m below meth c ls S hr hlk hin hE w hl
  have hx := S.1
  have hb := S.2.1
  have hl : lv_has ls 3 [(0, .ref (x.f (.fr i0))), (1, .long v0)] := hl
  refine lv_aload_n hx hb dX1_push_0 rfl (lv_at hl 0 rfl) ?_
  refine gf_RX1_35_7 (v := .int ((Z.fr i0).d)) S hE w (ov_r (t := .fr i0) (hk.e (.fr i0) rfl)) rfl dX1_push_1 ?_
  refine lv_aload_n hx hb dX1_push_4 rfl (lv_at hl 0 rfl) ?_
  refine gf_RX1_18_7 (v := .ref (x.f (.fp i0))) S hE w (ov_r (t := .fr i0) (hk.e (.fr i0) rfl)) rfl dX1_push_5 ?_
  refine va_alen (v := 8) hx hb hE.1 (g_1 w.1 (ov_r (t := .fp i0) (hk.e (.fp i0) rfl))) 0 1 rfl rfl rfl dX1_push_8 ?_
  refine g_calli w (g_runSN (As := [.int ((Z.fr i0).d), .int 8]) (rest := []) S hE w hl (c_X8_isBelow l D ar κ (ov κ ar x Z G) sz ((Z.fr i0).d) 8) (k_RX1_72 S.2.2.2.2 (hE.2.1.1 _ (ckN_1 _ (List.mem_of_getElem? (i := 10) rfl))) ⟨Nat.le_of_ble_eq_true rfl, Nat.le_of_ble_eq_true rfl⟩) rfl rfl (Nat.le_of_ble_eq_true rfl) dX1_push_9 ⟨Nat.le_of_ble_eq_true rfl, Nat.le_of_ble_eq_true rfl⟩) (fun r u H locs hp hnz w => ?_)
  obtain ⟨rfl, rfl⟩ := hp
  dsimp only at w
  refine lv_if_eq (tgt := 35) hx hb dX1_push_12 (by decide) (fun c_12 => ?_) (fun c_12 => ?_)
  · exact g_vret hx hb hr hlk w (Nat.le_of_ble_eq_true rfl) (Nat.le_of_ble_eq_true rfl) dX1_push_35 ⟨_, ((sX1_push_u Z i0 v0).trans (if_pos c_12)), rfl, hk, ⟨rfl, rfl, rfl, rfl⟩⟩
  · refine lv_aload_n hx hb dX1_push_15 rfl (lv_at hl 0 rfl) ?_
    refine gf_RX1_18_7 (v := .ref (x.f (.fp i0))) S hE w (ov_r (t := .fr i0) (hk.e (.fr i0) rfl)) rfl dX1_push_16 ?_
    refine lv_aload_n hx hb dX1_push_19 rfl (lv_at hl 0 rfl) ?_
    refine gf_RX1_35_7 (v := .int ((Z.fr i0).d)) S hE w (ov_r (t := .fr i0) (hk.e (.fr i0) rfl)) rfl dX1_push_20 ?_
    refine lv_lload_n hx hb dX1_push_23 rfl (lv_at hl 1 rfl) ?_
    refine g_last hx hb hE.1 w 1 (ov_r (t := .fp i0) (hk.e (.fp i0) rfl)) rfl (vinB (n := 8) rfl (by decide) c_12) dX1_push_24 (fun H locs w => ?_)
    have w := g_eqw w (congrArg (fun Z9 => g_up (ov κ ar x Z9 G) (x.f (.fp i0)) (.inl (ar 1, 8, .inr (.inl (vp_updL ((Z.fr i0).p) (Int32.toNatClampNeg ((Z.fr i0).d)) v0))))) (frS_id (S := Z) (i := i0)).symm)
    have w : g_S D vwCl (g_A (ov κ ar x Z G) sz) s.heap (ov κ ar x (Z.frS i0 ((Z.fr i0).sp (vp_updL ((Z.fr i0).p) (Int32.toNatClampNeg ((Z.fr i0).d)) v0))) G) H _ sz := g_eqw w (ov_wfp (S := Z) (v := (Z.fr i0)) (v' := ((Z.fr i0).sp (vp_updL ((Z.fr i0).p) (Int32.toNatClampNeg ((Z.fr i0).d)) v0))) hk.v (hk.e (.fp i0) rfl) rfl Fr_a_sp Fr_t_sp Fr_o_sp Fr_v_sp Fr_w_sp Fr_d_sp)
    refine lv_aload_n hx hb dX1_push_25 rfl (lv_at hl 0 rfl) ?_
    refine lv_dup hx hb dX1_push_26 rfl ?_
    refine gf_RX1_35_7 (v := .int ((Z.fr i0).d)) S hE w (ov_rfr (hk.e (.fr i0) rfl)) rfl dX1_push_27 ?_
    refine lv_iconst (v := 1) hx hb dX1_push_30 (by decide) ?_
    refine lv_iadd hx hb dX1_push_31 ?_
    refine pf_RX1_35_7 (fs1 := [.ref (x.f (.fa i0)), .ref (x.f (.ft i0)), .ref (x.f (.fp i0)), va_rf (((Z.fr i0).o).map (fun k9 => x.f (.to k9))), .long ((Z.fr i0).v), .int ((Z.fr i0).w), .int (((Z.fr i0).d) + 1)]) S hE w (ov_rfr (hk.e (.fr i0) rfl)) rfl rfl (Nat.le_of_ble_eq_true rfl) rfl dX1_push_32 (fun H locs w => ?_)
    have w : g_S D vwCl (g_A (ov κ ar x Z G) sz) s.heap (ov κ ar x (Z.frS i0 (((Z.fr i0).sp (vp_updL ((Z.fr i0).p) (Int32.toNatClampNeg ((Z.fr i0).d)) v0)).sd (((Z.fr i0).d) + 1))) G) H _ sz := g_eqw w (ov_wfr (S := Z) (v := ((Z.fr i0).sp (vp_updL ((Z.fr i0).p) (Int32.toNatClampNeg ((Z.fr i0).d)) v0))) (v' := (((Z.fr i0).sp (vp_updL ((Z.fr i0).p) (Int32.toNatClampNeg ((Z.fr i0).d)) v0)).sd (((Z.fr i0).d) + 1))) hk.v (hk.e (.fr i0) rfl) rfl ((Fr_a_sd.trans Fr_a_sp).trans Fr_a_sp.symm) ((Fr_t_sd.trans Fr_t_sp).trans Fr_t_sp.symm) ((Fr_p_sd.trans Fr_p_sp).trans Fr_p_sp.symm))
    exact g_vret hx hb hr hlk w (Nat.le_of_ble_eq_true rfl) (Nat.le_of_ble_eq_true rfl) dX1_push_35 ⟨_, ((sX1_push_u Z i0 v0).trans (if_neg c_12)), rfl, (OK.frS (S := Z) hk (fun k9 q9 => hk.o (i := i0) q9)), ⟨rfl, rfl, rfl, rfl⟩⟩
def sX1_pop (Z : Ho) (i0 : Fin 12) : Int64 × Ho := if 1 ≤ (Z.fr i0).d then ((pA ((Z.fr i0).p) 8 (((Z.fr i0).d) - 1), (Z.frS i0 ((Z.fr i0).sd (((Z.fr i0).d) - 1))))) else ((502511173632, Z))
theorem sX1_pop_u (Z : Ho) (i0 : Fin 12) : sX1_pop Z i0 = if 1 ≤ (Z.fr i0).d then ((pA ((Z.fr i0).p) 8 (((Z.fr i0).d) - 1), (Z.frS i0 ((Z.fr i0).sd (((Z.fr i0).d) - 1))))) else ((502511173632, Z)) := rfl
set_option maxHeartbeats 4000000 in
set_option maxRecDepth 100000 in
theorem hX1_pop (l : Launch) (D : va_G) (ar : Nat → ClassId) (κ : Nat → Nat) (G : gW) (x : Xo) (Z : Ho) (sz : Nat) (i0 : Fin 12) (hk : OK x Z) : Met l yX1_pop (lwC yX1_pop cX1_pop 1 (some .long)) (rD 4 0 0) (g_Pc D vwCl (gT ar) (EX1 κ) (ov κ ar x Z G) sz [.ref (x.f (.fr i0))]) (g_Ql D vwCl (g_A (ov κ ar x Z G) sz) (fun r u => ∃ T9 : Ho, sX1_pop Z i0 = (r, T9) ∧ u = (ov κ ar x T9 G, sz) ∧ OK x T9 ∧ SZ T9 Z)) 0 0 (g_A (ov κ ar x Z G) sz) := by
  refine g_ofW (by decide +kernel) (Nat.le_of_ble_eq_true rfl) ?_
  intro p e s m below meth c ls S hr hlk hin hE w hl
  have hx := S.1
  have hb := S.2.1
  have hl : lv_has ls 1 [(0, .ref (x.f (.fr i0)))] := hl
  refine lv_aload_n hx hb dX1_pop_0 rfl (lv_at hl 0 rfl) ?_
  refine gf_RX1_35_7 (v := .int ((Z.fr i0).d)) S hE w (ov_r (t := .fr i0) (hk.e (.fr i0) rfl)) rfl dX1_pop_1 ?_
  refine lv_iconst (v := 1) hx hb dX1_pop_4 (by decide) ?_
  refine lv_icmp_ge (tgt := 12) hx hb dX1_pop_5 (by decide) (fun c_5 => ?_) (fun c_5 => ?_)
  · refine lv_aload_n hx hb dX1_pop_12 rfl (lv_at hl 0 rfl) ?_
    refine lv_dup hx hb dX1_pop_13 rfl ?_
    refine gf_RX1_35_7 (v := .int ((Z.fr i0).d)) S hE w (ov_r (t := .fr i0) (hk.e (.fr i0) rfl)) rfl dX1_pop_14 ?_
    refine lv_iconst (v := 1) hx hb dX1_pop_17 (by decide) ?_
    refine lv_isub hx hb dX1_pop_18 ?_
    refine pf_RX1_35_7 (fs1 := [.ref (x.f (.fa i0)), .ref (x.f (.ft i0)), .ref (x.f (.fp i0)), va_rf (((Z.fr i0).o).map (fun k9 => x.f (.to k9))), .long ((Z.fr i0).v), .int ((Z.fr i0).w), .int (((Z.fr i0).d) - 1)]) S hE w (ov_r (t := .fr i0) (hk.e (.fr i0) rfl)) rfl rfl (Nat.le_of_ble_eq_true rfl) rfl dX1_pop_19 (fun H locs w => ?_)
    have w := g_eqw w (congrArg (fun Z9 => g_up (ov κ ar x Z9 G) (x.f (.fr i0)) (.inr (7, [.ref (x.f (.fa i0)), .ref (x.f (.ft i0)), .ref (x.f (.fp i0)), va_rf (((Z.fr i0).o).map (fun k9 => x.f (.to k9))), .long ((Z.fr i0).v), .int ((Z.fr i0).w), .int (((Z.fr i0).d) - 1)]))) (frS_id (S := Z) (i := i0)).symm)
    have w : g_S D vwCl (g_A (ov κ ar x Z G) sz) s.heap (ov κ ar x (Z.frS i0 ((Z.fr i0).sd (((Z.fr i0).d) - 1))) G) H _ sz := g_eqw w (ov_wfr (S := Z) (v := (Z.fr i0)) (v' := ((Z.fr i0).sd (((Z.fr i0).d) - 1))) hk.v (hk.e (.fr i0) rfl) rfl Fr_a_sd Fr_t_sd Fr_p_sd)
    refine lv_aload_n hx hb dX1_pop_22 rfl (lv_at hl 0 rfl) ?_
    refine gf_RX1_18_7 (v := .ref (x.f (.fp i0))) S hE w (ov_rfr (hk.e (.fr i0) rfl)) rfl dX1_pop_23 ?_
    refine lv_aload_n hx hb dX1_pop_26 rfl (lv_at hl 0 rfl) ?_
    refine gf_RX1_35_7 (v := .int (((Z.fr i0).d) - 1)) S hE w (ov_rfr (hk.e (.fr i0) rfl)) rfl dX1_pop_27 ?_
    refine g_calll w (g_runSN (As := [.ref (x.f (.fp i0)), .int (((Z.fr i0).d) - 1)]) (rest := []) S hE w hl (c_X8_placeAt l D ar κ (ov κ ar x (Z.frS i0 ((Z.fr i0).sd (((Z.fr i0).d) - 1))) G) sz (x.f (.fp i0)) (((Z.fr i0).d) - 1) 8 ((Z.fr i0).p) (ov_rfp (hk.e (.fp i0) rfl)) (by decide)) (k_RX1_76 S.2.2.2.2 (hE.2.1.1 _ (ckN_1 _ (List.mem_of_getElem? (i := 2) rfl))) ⟨Nat.le_of_ble_eq_true rfl, Nat.le_of_ble_eq_true rfl⟩) rfl rfl (Nat.le_of_ble_eq_true rfl) dX1_pop_30 ⟨Nat.le_of_ble_eq_true rfl, Nat.le_of_ble_eq_true rfl⟩) (fun r u H locs hp hnz w => ?_)
    obtain ⟨rfl, rfl⟩ := hp
    dsimp only at w
    exact g_lret hx hb hr hlk w (Nat.le_of_ble_eq_true rfl) (Nat.le_of_ble_eq_true rfl) dX1_pop_33 ⟨_, ((sX1_pop_u Z i0).trans (if_pos c_5)), rfl, (OK.frS (S := Z) hk (fun k9 q9 => hk.o (i := i0) q9)), ⟨rfl, rfl, rfl, rfl⟩⟩
  · refine lv_ldc2 hx hb S.2.2.2.1 (S.2.2.2.2 _ m_1_217) dX1_pop_8 ?_
    exact g_lret hx hb hr hlk w (Nat.le_of_ble_eq_true rfl) (Nat.le_of_ble_eq_true rfl) dX1_pop_11 ⟨_, ((sX1_pop_u Z i0).trans (if_neg c_5)), rfl, hk, ⟨rfl, rfl, rfl, rfl⟩⟩
def sX1_fromTop (Z : Ho) (i0 : Fin 12) (j0 : Int32) : Int64 := pA ((Z.fr i0).p) 8 ((((Z.fr i0).d) - 1) - j0)
theorem sX1_fromTop_u (Z : Ho) (i0 : Fin 12) (j0 : Int32) : sX1_fromTop Z i0 j0 = pA ((Z.fr i0).p) 8 ((((Z.fr i0).d) - 1) - j0) := rfl
set_option maxHeartbeats 4000000 in
set_option maxRecDepth 100000 in
theorem hX1_fromTop (l : Launch) (D : va_G) (ar : Nat → ClassId) (κ : Nat → Nat) (G : gW) (x : Xo) (Z : Ho) (sz : Nat) (i0 : Fin 12) (j0 : Int32) (hk : OK x Z) : Met l yX1_fromTop (lwC yX1_fromTop cX1_fromTop 2 (some .long)) (rD 4 0 0) (g_Pc D vwCl (gT ar) (EX1 κ) (ov κ ar x Z G) sz [.ref (x.f (.fr i0)), .int j0]) (g_Ql D vwCl (g_A (ov κ ar x Z G) sz) (fun r u => r = sX1_fromTop Z i0 j0 ∧ u = (ov κ ar x Z G, sz))) 0 0 (g_A (ov κ ar x Z G) sz) := by
  refine g_ofW (by decide +kernel) (Nat.le_of_ble_eq_true rfl) ?_
  intro p e s m below meth c ls S hr hlk hin hE w hl
  have hx := S.1
  have hb := S.2.1
  have hl : lv_has ls 2 [(0, .ref (x.f (.fr i0))), (1, .int j0)] := hl
  refine lv_aload_n hx hb dX1_fromTop_0 rfl (lv_at hl 0 rfl) ?_
  refine gf_RX1_18_7 (v := .ref (x.f (.fp i0))) S hE w (ov_r (t := .fr i0) (hk.e (.fr i0) rfl)) rfl dX1_fromTop_1 ?_
  refine lv_aload_n hx hb dX1_fromTop_4 rfl (lv_at hl 0 rfl) ?_
  refine gf_RX1_35_7 (v := .int ((Z.fr i0).d)) S hE w (ov_r (t := .fr i0) (hk.e (.fr i0) rfl)) rfl dX1_fromTop_5 ?_
  refine lv_iconst (v := 1) hx hb dX1_fromTop_8 (by decide) ?_
  refine lv_isub hx hb dX1_fromTop_9 ?_
  refine lv_iload_n hx hb dX1_fromTop_10 rfl (lv_at hl 1 rfl) ?_
  refine lv_isub hx hb dX1_fromTop_11 ?_
  refine g_calll w (g_runSN (As := [.ref (x.f (.fp i0)), .int ((((Z.fr i0).d) - 1) - j0)]) (rest := []) S hE w hl (c_X8_placeAt l D ar κ (ov κ ar x Z G) sz (x.f (.fp i0)) ((((Z.fr i0).d) - 1) - j0) 8 ((Z.fr i0).p) (ov_r (t := .fp i0) (hk.e (.fp i0) rfl)) (by decide)) (k_RX1_76 S.2.2.2.2 (hE.2.1.1 _ (ckN_1 _ (List.mem_of_getElem? (i := 2) rfl))) ⟨Nat.le_of_ble_eq_true rfl, Nat.le_of_ble_eq_true rfl⟩) rfl rfl (Nat.le_of_ble_eq_true rfl) dX1_fromTop_12 ⟨Nat.le_of_ble_eq_true rfl, Nat.le_of_ble_eq_true rfl⟩) (fun r u H locs hp hnz w => ?_)
  obtain ⟨rfl, rfl⟩ := hp
  dsimp only at w
  exact g_lret hx hb hr hlk w (Nat.le_of_ble_eq_true rfl) (Nat.le_of_ble_eq_true rfl) dX1_fromTop_15 ⟨((sX1_fromTop_u Z i0 j0)).symm, rfl⟩
def sX1_placesOf (Z : Ho) (i0 : Fin 12) (c0 : Int32) : Int32 := if c0 = 97 then (oc ((Z.fr i0).o) (0) (fun k1 => (Z.to k1).a)) else (if c0 = 116 then (oc ((Z.fr i0).o) (0) (fun k3 => (Z.to k3).t)) else ((Z.fr i0).d))
theorem sX1_placesOf_u (Z : Ho) (i0 : Fin 12) (c0 : Int32) : sX1_placesOf Z i0 c0 = if c0 = 97 then (oc ((Z.fr i0).o) (0) (fun k1 => (Z.to k1).a)) else (if c0 = 116 then (oc ((Z.fr i0).o) (0) (fun k3 => (Z.to k3).t)) else ((Z.fr i0).d)) := rfl
set_option maxHeartbeats 4000000 in
set_option maxRecDepth 100000 in
theorem hX1_placesOf (l : Launch) (D : va_G) (ar : Nat → ClassId) (κ : Nat → Nat) (G : gW) (x : Xo) (Z : Ho) (sz : Nat) (i0 : Fin 12) (c0 : Int32) (hk : OK x Z) : Met l yX1_placesOf (lwC yX1_placesOf cX1_placesOf 2 (some .int)) (rD 4 0 0) (g_Pc D vwCl (gT ar) (EX1 κ) (ov κ ar x Z G) sz [.ref (x.f (.fr i0)), .int c0]) (g_Qi D vwCl (g_A (ov κ ar x Z G) sz) (fun r u => r = sX1_placesOf Z i0 c0 ∧ u = (ov κ ar x Z G, sz))) 0 0 (g_A (ov κ ar x Z G) sz) := by
  refine g_ofW (by decide +kernel) (Nat.le_of_ble_eq_true rfl) ?_
  intro p e s m below meth c ls S hr hlk hin hE w hl
  have hx := S.1
  have hb := S.2.1
  have hl : lv_has ls 2 [(0, .ref (x.f (.fr i0))), (1, .int c0)] := hl
  refine lv_iload_n hx hb dX1_placesOf_0 rfl (lv_at hl 1 rfl) ?_
  by_cases c_1_0 : c0 = 97
  · refine lv_lookup (off := 27) (tgt := 28) hx hb dX1_placesOf_1 (by decide) (by have h9 := c_1_0; (rw [h9]; decide)) (by decide) ?_
    refine lv_aload_n hx hb dX1_placesOf_28 rfl (lv_at hl 0 rfl) ?_
    refine gf_RX1_21_7 (v := va_rf (((Z.fr i0).o).map (fun k9 => x.f (.to k9)))) S hE w (ov_r (t := .fr i0) (hk.e (.fr i0) rfl)) rfl dX1_placesOf_29 ?_
    rcases he2 : (Z.fr i0).o with _ | k1
    · show W p l e _ s m _ below meth c _ _ _ _ _ (F0 m 32 ls [.null])
      refine lv_ifnonnullN hx hb dX1_placesOf_32 ?_
      refine lv_iconst (v := 0) hx hb dX1_placesOf_35 (by decide) ?_
      refine lv_goto (tgt := 46) hx hb dX1_placesOf_36 (by decide) ?_
      exact g_iret hx hb hr hlk w (Nat.le_of_ble_eq_true rfl) (Nat.le_of_ble_eq_true rfl) dX1_placesOf_46 ⟨(((sX1_placesOf_u Z i0 c0).trans ((if_pos c_1_0).trans (oc_n he2)))).symm, rfl⟩
    · show W p l e _ s m _ below meth c _ _ _ _ _ (F0 m 32 ls [.ref (x.f (.to k1))])
      refine lv_ifnonnull (tgt := 39) hx hb dX1_placesOf_32 (by decide) ?_
      refine lv_aload_n hx hb dX1_placesOf_39 rfl (lv_at hl 0 rfl) ?_
      refine gf_RX1_21_7 (v := va_rf (((Z.fr i0).o).map (fun k9 => x.f (.to k9)))) S hE w (ov_r (t := .fr i0) (hk.e (.fr i0) rfl)) rfl dX1_placesOf_40 ?_
      rw [he2]
      show W p l e _ s m _ below meth c _ _ _ _ _ (F0 m 43 ls [.ref (x.f (.to k1))])
      refine gf_RX1_80_12 (v := .int ((Z.to k1).a)) S hE w (ov_r (t := .to k1) (hk.e_to (hk.o he2))) rfl dX1_placesOf_43 ?_
      exact g_iret hx hb hr hlk w (Nat.le_of_ble_eq_true rfl) (Nat.le_of_ble_eq_true rfl) dX1_placesOf_46 ⟨(((sX1_placesOf_u Z i0 c0).trans ((if_pos c_1_0).trans (oc_s he2)))).symm, rfl⟩
  by_cases c_1_1 : c0 = 116
  · refine lv_lookup (off := 46) (tgt := 47) hx hb dX1_placesOf_1 (by decide) (by have h9 := c_1_1; (rw [h9]; decide)) (by decide) ?_
    refine lv_aload_n hx hb dX1_placesOf_47 rfl (lv_at hl 0 rfl) ?_
    refine gf_RX1_21_7 (v := va_rf (((Z.fr i0).o).map (fun k9 => x.f (.to k9)))) S hE w (ov_r (t := .fr i0) (hk.e (.fr i0) rfl)) rfl dX1_placesOf_48 ?_
    rcases he4 : (Z.fr i0).o with _ | k3
    · show W p l e _ s m _ below meth c _ _ _ _ _ (F0 m 51 ls [.null])
      refine lv_ifnonnullN hx hb dX1_placesOf_51 ?_
      refine lv_iconst (v := 0) hx hb dX1_placesOf_54 (by decide) ?_
      refine lv_goto (tgt := 65) hx hb dX1_placesOf_55 (by decide) ?_
      exact g_iret hx hb hr hlk w (Nat.le_of_ble_eq_true rfl) (Nat.le_of_ble_eq_true rfl) dX1_placesOf_65 ⟨(((sX1_placesOf_u Z i0 c0).trans ((if_neg c_1_0).trans ((if_pos c_1_1).trans (oc_n he4))))).symm, rfl⟩
    · show W p l e _ s m _ below meth c _ _ _ _ _ (F0 m 51 ls [.ref (x.f (.to k3))])
      refine lv_ifnonnull (tgt := 58) hx hb dX1_placesOf_51 (by decide) ?_
      refine lv_aload_n hx hb dX1_placesOf_58 rfl (lv_at hl 0 rfl) ?_
      refine gf_RX1_21_7 (v := va_rf (((Z.fr i0).o).map (fun k9 => x.f (.to k9)))) S hE w (ov_r (t := .fr i0) (hk.e (.fr i0) rfl)) rfl dX1_placesOf_59 ?_
      rw [he4]
      show W p l e _ s m _ below meth c _ _ _ _ _ (F0 m 62 ls [.ref (x.f (.to k3))])
      refine gf_RX1_82_12 (v := .int ((Z.to k3).t)) S hE w (ov_r (t := .to k3) (hk.e_to (hk.o he4))) rfl dX1_placesOf_62 ?_
      exact g_iret hx hb hr hlk w (Nat.le_of_ble_eq_true rfl) (Nat.le_of_ble_eq_true rfl) dX1_placesOf_65 ⟨(((sX1_placesOf_u Z i0 c0).trans ((if_neg c_1_0).trans ((if_pos c_1_1).trans (oc_s he4))))).symm, rfl⟩
  refine lv_lookup (off := 65) (tgt := 66) hx hb dX1_placesOf_1 (by decide) (sw_def (ks := [97, 116]) ⟨c_1_0, c_1_1, trivial⟩ (by decide +kernel)) (by decide) ?_
  refine lv_aload_n hx hb dX1_placesOf_66 rfl (lv_at hl 0 rfl) ?_
  refine gf_RX1_35_7 (v := .int ((Z.fr i0).d)) S hE w (ov_r (t := .fr i0) (hk.e (.fr i0) rfl)) rfl dX1_placesOf_67 ?_
  exact g_iret hx hb hr hlk w (Nat.le_of_ble_eq_true rfl) (Nat.le_of_ble_eq_true rfl) dX1_placesOf_70 ⟨(((sX1_placesOf_u Z i0 c0).trans ((if_neg c_1_0).trans (if_neg c_1_1)))).symm, rfl⟩
def sX1_placeOf (Z : Ho) (i0 : Fin 12) (c0 : Int32) (j0 : Int32) : Int64 := if c0 = 97 then (pA ((Z.fr i0).a) 2 j0) else (if c0 = 116 then (pA ((Z.fr i0).t) 4 j0) else (pA ((Z.fr i0).p) 8 j0))
theorem sX1_placeOf_u (Z : Ho) (i0 : Fin 12) (c0 : Int32) (j0 : Int32) : sX1_placeOf Z i0 c0 j0 = if c0 = 97 then (pA ((Z.fr i0).a) 2 j0) else (if c0 = 116 then (pA ((Z.fr i0).t) 4 j0) else (pA ((Z.fr i0).p) 8 j0)) := rfl
set_option maxHeartbeats 4000000 in
set_option maxRecDepth 100000 in
theorem hX1_placeOf (l : Launch) (D : va_G) (ar : Nat → ClassId) (κ : Nat → Nat) (G : gW) (x : Xo) (Z : Ho) (sz : Nat) (i0 : Fin 12) (c0 : Int32) (j0 : Int32) (hk : OK x Z) : Met l yX1_placeOf (lwC yX1_placeOf cX1_placeOf 3 (some .long)) (rD 4 0 0) (g_Pc D vwCl (gT ar) (EX1 κ) (ov κ ar x Z G) sz [.ref (x.f (.fr i0)), .int c0, .int j0]) (g_Ql D vwCl (g_A (ov κ ar x Z G) sz) (fun r u => r = sX1_placeOf Z i0 c0 j0 ∧ u = (ov κ ar x Z G, sz))) 0 0 (g_A (ov κ ar x Z G) sz) := by
  refine g_ofW (by decide +kernel) (Nat.le_of_ble_eq_true rfl) ?_
  intro p e s m below meth c ls S hr hlk hin hE w hl
  have hx := S.1
  have hb := S.2.1
  have hl : lv_has ls 3 [(0, .ref (x.f (.fr i0))), (1, .int c0), (2, .int j0)] := hl
  refine lv_iload_n hx hb dX1_placeOf_0 rfl (lv_at hl 1 rfl) ?_
  by_cases c_1_0 : c0 = 97
  · refine lv_lookup (off := 27) (tgt := 28) hx hb dX1_placeOf_1 (by decide) (by have h9 := c_1_0; (rw [h9]; decide)) (by decide) ?_
    refine lv_aload_n hx hb dX1_placeOf_28 rfl (lv_at hl 0 rfl) ?_
    refine gf_RX1_9_7 (v := .ref (x.f (.fa i0))) S hE w (ov_r (t := .fr i0) (hk.e (.fr i0) rfl)) rfl dX1_placeOf_29 ?_
    refine lv_iload_n hx hb dX1_placeOf_32 rfl (lv_at hl 2 rfl) ?_
    refine g_calll w (g_runSN (As := [.ref (x.f (.fa i0)), .int j0]) (rest := []) S hE w hl (c_X8_placeAt l D ar κ (ov κ ar x Z G) sz (x.f (.fa i0)) j0 2 ((Z.fr i0).a) (ov_r (t := .fa i0) (hk.e (.fa i0) rfl)) (by decide)) (k_RX1_76 S.2.2.2.2 (hE.2.1.1 _ (ckN_1 _ (List.mem_of_getElem? (i := 2) rfl))) ⟨Nat.le_of_ble_eq_true rfl, Nat.le_of_ble_eq_true rfl⟩) rfl rfl (Nat.le_of_ble_eq_true rfl) dX1_placeOf_33 ⟨Nat.le_of_ble_eq_true rfl, Nat.le_of_ble_eq_true rfl⟩) (fun r u H locs hp hnz w => ?_)
    obtain ⟨rfl, rfl⟩ := hp
    dsimp only at w
    exact g_lret hx hb hr hlk w (Nat.le_of_ble_eq_true rfl) (Nat.le_of_ble_eq_true rfl) dX1_placeOf_36 ⟨(((sX1_placeOf_u Z i0 c0 j0).trans (if_pos c_1_0))).symm, rfl⟩
  by_cases c_1_1 : c0 = 116
  · refine lv_lookup (off := 36) (tgt := 37) hx hb dX1_placeOf_1 (by decide) (by have h9 := c_1_1; (rw [h9]; decide)) (by decide) ?_
    refine lv_aload_n hx hb dX1_placeOf_37 rfl (lv_at hl 0 rfl) ?_
    refine gf_RX1_15_7 (v := .ref (x.f (.ft i0))) S hE w (ov_r (t := .fr i0) (hk.e (.fr i0) rfl)) rfl dX1_placeOf_38 ?_
    refine lv_iload_n hx hb dX1_placeOf_41 rfl (lv_at hl 2 rfl) ?_
    refine g_calll w (g_runSN (As := [.ref (x.f (.ft i0)), .int j0]) (rest := []) S hE w hl (c_X8_placeAt l D ar κ (ov κ ar x Z G) sz (x.f (.ft i0)) j0 4 ((Z.fr i0).t) (ov_r (t := .ft i0) (hk.e (.ft i0) rfl)) (by decide)) (k_RX1_76 S.2.2.2.2 (hE.2.1.1 _ (ckN_1 _ (List.mem_of_getElem? (i := 2) rfl))) ⟨Nat.le_of_ble_eq_true rfl, Nat.le_of_ble_eq_true rfl⟩) rfl rfl (Nat.le_of_ble_eq_true rfl) dX1_placeOf_42 ⟨Nat.le_of_ble_eq_true rfl, Nat.le_of_ble_eq_true rfl⟩) (fun r u H locs hp hnz w => ?_)
    obtain ⟨rfl, rfl⟩ := hp
    dsimp only at w
    exact g_lret hx hb hr hlk w (Nat.le_of_ble_eq_true rfl) (Nat.le_of_ble_eq_true rfl) dX1_placeOf_45 ⟨(((sX1_placeOf_u Z i0 c0 j0).trans ((if_neg c_1_0).trans (if_pos c_1_1)))).symm, rfl⟩
  refine lv_lookup (off := 45) (tgt := 46) hx hb dX1_placeOf_1 (by decide) (sw_def (ks := [97, 116]) ⟨c_1_0, c_1_1, trivial⟩ (by decide +kernel)) (by decide) ?_
  refine lv_aload_n hx hb dX1_placeOf_46 rfl (lv_at hl 0 rfl) ?_
  refine gf_RX1_18_7 (v := .ref (x.f (.fp i0))) S hE w (ov_r (t := .fr i0) (hk.e (.fr i0) rfl)) rfl dX1_placeOf_47 ?_
  refine lv_iload_n hx hb dX1_placeOf_50 rfl (lv_at hl 2 rfl) ?_
  refine g_calll w (g_runSN (As := [.ref (x.f (.fp i0)), .int j0]) (rest := []) S hE w hl (c_X8_placeAt l D ar κ (ov κ ar x Z G) sz (x.f (.fp i0)) j0 8 ((Z.fr i0).p) (ov_r (t := .fp i0) (hk.e (.fp i0) rfl)) (by decide)) (k_RX1_76 S.2.2.2.2 (hE.2.1.1 _ (ckN_1 _ (List.mem_of_getElem? (i := 2) rfl))) ⟨Nat.le_of_ble_eq_true rfl, Nat.le_of_ble_eq_true rfl⟩) rfl rfl (Nat.le_of_ble_eq_true rfl) dX1_placeOf_51 ⟨Nat.le_of_ble_eq_true rfl, Nat.le_of_ble_eq_true rfl⟩) (fun r u H locs hp hnz w => ?_)
  obtain ⟨rfl, rfl⟩ := hp
  dsimp only at w
  exact g_lret hx hb hr hlk w (Nat.le_of_ble_eq_true rfl) (Nat.le_of_ble_eq_true rfl) dX1_placeOf_54 ⟨(((sX1_placeOf_u Z i0 c0 j0).trans ((if_neg c_1_0).trans (if_neg c_1_1)))).symm, rfl⟩
def sX1_places (Z : Ho) (i0 : Fin 12) : Int32 := ((1 + (sX1_placesOf Z i0 97)) + (sX1_placesOf Z i0 116)) + ((Z.fr i0).d)
theorem sX1_places_u (Z : Ho) (i0 : Fin 12) : sX1_places Z i0 = ((1 + (sX1_placesOf Z i0 97)) + (sX1_placesOf Z i0 116)) + ((Z.fr i0).d) := rfl
set_option maxHeartbeats 4000000 in
set_option maxRecDepth 100000 in
theorem hX1_places (l : Launch) (D : va_G) (ar : Nat → ClassId) (κ : Nat → Nat) (G : gW) (x : Xo) (Z : Ho) (sz : Nat) (i0 : Fin 12) (hk : OK x Z) : Met l yX1_places (lwC yX1_places cX1_places 1 (some .int)) (rD 5 0 0) (g_Pc D vwCl (gT ar) (EX1 κ) (ov κ ar x Z G) sz [.ref (x.f (.fr i0))]) (g_Qi D vwCl (g_A (ov κ ar x Z G) sz) (fun r u => r = sX1_places Z i0 ∧ u = (ov κ ar x Z G, sz))) 0 0 (g_A (ov κ ar x Z G) sz) := by
  refine g_ofW (by decide +kernel) (Nat.le_of_ble_eq_true rfl) ?_
  intro p e s m below meth c ls S hr hlk hin hE w hl
  have hx := S.1
  have hb := S.2.1
  have hl : lv_has ls 1 [(0, .ref (x.f (.fr i0)))] := hl
  refine lv_iconst (v := 1) hx hb dX1_places_0 (by decide) ?_
  refine lv_aload_n hx hb dX1_places_1 rfl (lv_at hl 0 rfl) ?_
  refine lv_bipush (v := 97) hx hb dX1_places_2 (by decide) ?_
  refine g_calli w (g_runV (As := [.int 97]) (rest := [.int 1]) S hE w hl (hX1_placesOf l D ar κ G x Z sz i0 97 hk ) (k_RX1_84 S.2.2.2.2 ⟨Nat.le_of_ble_eq_true rfl, Nat.le_of_ble_eq_true rfl⟩) (ov_r (t := .fr i0) (hk.e (.fr i0) rfl)) rfl rfl rfl rfl (Nat.le_of_ble_eq_true rfl) dX1_places_4 ⟨Nat.le_of_ble_eq_true rfl, Nat.le_of_ble_eq_true rfl⟩) (fun r u H locs hp hnz w => ?_)
  obtain ⟨rfl, rfl⟩ := hp
  dsimp only at w
  refine lv_iadd hx hb dX1_places_7 ?_
  refine lv_aload_n hx hb dX1_places_8 rfl (lv_at hl 0 rfl) ?_
  refine lv_bipush (v := 116) hx hb dX1_places_9 (by decide) ?_
  refine g_calli w (g_runV (As := [.int 116]) (rest := [.int (1 + (sX1_placesOf Z i0 97))]) S hE w hl (hX1_placesOf l D ar κ G x Z sz i0 116 hk ) (k_RX1_84 S.2.2.2.2 ⟨Nat.le_of_ble_eq_true rfl, Nat.le_of_ble_eq_true rfl⟩) (ov_r (t := .fr i0) (hk.e (.fr i0) rfl)) rfl rfl rfl rfl (Nat.le_of_ble_eq_true rfl) dX1_places_11 ⟨Nat.le_of_ble_eq_true rfl, Nat.le_of_ble_eq_true rfl⟩) (fun r u H locs hp hnz w => ?_)
  obtain ⟨rfl, rfl⟩ := hp
  dsimp only at w
  refine lv_iadd hx hb dX1_places_14 ?_
  refine lv_aload_n hx hb dX1_places_15 rfl (lv_at hl 0 rfl) ?_
  refine gf_RX1_35_7 (v := .int ((Z.fr i0).d)) S hE w (ov_r (t := .fr i0) (hk.e (.fr i0) rfl)) rfl dX1_places_16 ?_
  refine lv_iadd hx hb dX1_places_19 ?_
  exact g_iret hx hb hr hlk w (Nat.le_of_ble_eq_true rfl) (Nat.le_of_ble_eq_true rfl) dX1_places_20 ⟨((sX1_places_u Z i0)).symm, rfl⟩
def sX1_place (Z : Ho) (i0 : Fin 12) (j0 : Int32) : Int64 := if j0 = 0 then ((Z.fr i0).v) else (if 0 ≤ (j0 - 1) - (sX1_placesOf Z i0 97) then (if sX1_placesOf Z i0 116 ≤ (j0 - 1) - (sX1_placesOf Z i0 97) then (sX1_placeOf Z i0 112 (((j0 - 1) - (sX1_placesOf Z i0 97)) - (sX1_placesOf Z i0 116))) else (sX1_placeOf Z i0 116 ((j0 - 1) - (sX1_placesOf Z i0 97)))) else (sX1_placeOf Z i0 97 (j0 - 1)))
theorem sX1_place_u (Z : Ho) (i0 : Fin 12) (j0 : Int32) : sX1_place Z i0 j0 = if j0 = 0 then ((Z.fr i0).v) else (if 0 ≤ (j0 - 1) - (sX1_placesOf Z i0 97) then (if sX1_placesOf Z i0 116 ≤ (j0 - 1) - (sX1_placesOf Z i0 97) then (sX1_placeOf Z i0 112 (((j0 - 1) - (sX1_placesOf Z i0 97)) - (sX1_placesOf Z i0 116))) else (sX1_placeOf Z i0 116 ((j0 - 1) - (sX1_placesOf Z i0 97)))) else (sX1_placeOf Z i0 97 (j0 - 1))) := rfl
set_option maxHeartbeats 4000000 in
set_option maxRecDepth 100000 in
theorem hX1_place (l : Launch) (D : va_G) (ar : Nat → ClassId) (κ : Nat → Nat) (G : gW) (x : Xo) (Z : Ho) (sz : Nat) (i0 : Fin 12) (j0 : Int32) (hk : OK x Z) : Met l yX1_place (lwC yX1_place cX1_place 4 (some .long)) (rD 5 0 0) (g_Pc D vwCl (gT ar) (EX1 κ) (ov κ ar x Z G) sz [.ref (x.f (.fr i0)), .int j0]) (g_Ql D vwCl (g_A (ov κ ar x Z G) sz) (fun r u => r = sX1_place Z i0 j0 ∧ u = (ov κ ar x Z G, sz))) 0 0 (g_A (ov κ ar x Z G) sz) := by
  refine g_ofW (by decide +kernel) (Nat.le_of_ble_eq_true rfl) ?_
  intro p e s m below meth c ls S hr hlk hin hE w hl
  have hx := S.1
  have hb := S.2.1
  have hl : lv_has ls 4 [(0, .ref (x.f (.fr i0))), (1, .int j0)] := hl
  refine lv_iload_n hx hb dX1_place_0 rfl (lv_at hl 1 rfl) ?_
  refine lv_iconst (v := 1) hx hb dX1_place_1 (by decide) ?_
  refine lv_isub hx hb dX1_place_2 ?_
  refine lv_istore_n (lv' := [(2, .int (j0 - 1)), (0, .ref (x.f (.fr i0))), (1, .int j0)]) hx hb dX1_place_3 rfl hl (by decide) rfl (fun ls hl => ?_)
  refine lv_iload_n hx hb dX1_place_4 rfl (lv_at hl 0 rfl) ?_
  refine lv_aload_n hx hb dX1_place_5 rfl (lv_at hl 1 rfl) ?_
  refine lv_bipush (v := 97) hx hb dX1_place_6 (by decide) ?_
  refine g_calli w (g_runV (As := [.int 97]) (rest := [.int (j0 - 1)]) S hE w hl (hX1_placesOf l D ar κ G x Z sz i0 97 hk ) (k_RX1_84 S.2.2.2.2 ⟨Nat.le_of_ble_eq_true rfl, Nat.le_of_ble_eq_true rfl⟩) (ov_r (t := .fr i0) (hk.e (.fr i0) rfl)) rfl rfl rfl rfl (Nat.le_of_ble_eq_true rfl) dX1_place_8 ⟨Nat.le_of_ble_eq_true rfl, Nat.le_of_ble_eq_true rfl⟩) (fun r u H locs hp hnz w => ?_)
  obtain ⟨rfl, rfl⟩ := hp
  dsimp only at w
  refine lv_isub hx hb dX1_place_11 ?_
  refine lv_istore_n (lv' := [(3, .int ((j0 - 1) - (sX1_placesOf Z i0 97))), (2, .int (j0 - 1)), (0, .ref (x.f (.fr i0))), (1, .int j0)]) hx hb dX1_place_12 rfl hl (by decide) rfl (fun ls hl => ?_)
  refine lv_iload_n hx hb dX1_place_13 rfl (lv_at hl 3 rfl) ?_
  refine lv_if_ne (tgt := 22) hx hb dX1_place_14 (by decide) (fun c_14 => ?_) (fun c_14 => ?_)
  · refine lv_iload_n hx hb dX1_place_22 rfl (lv_at hl 0 rfl) ?_
    refine lv_if_ge (tgt := 34) hx hb dX1_place_23 (by decide) (fun c_23 => ?_) (fun c_23 => ?_)
    · refine lv_iload_n hx hb dX1_place_34 rfl (lv_at hl 0 rfl) ?_
      refine lv_aload_n hx hb dX1_place_35 rfl (lv_at hl 2 rfl) ?_
      refine lv_bipush (v := 116) hx hb dX1_place_36 (by decide) ?_
      refine g_calli w (g_runV (As := [.int 116]) (rest := [.int ((j0 - 1) - (sX1_placesOf Z i0 97))]) S hE w hl (hX1_placesOf l D ar κ G x Z sz i0 116 hk ) (k_RX1_84 S.2.2.2.2 ⟨Nat.le_of_ble_eq_true rfl, Nat.le_of_ble_eq_true rfl⟩) (ov_r (t := .fr i0) (hk.e (.fr i0) rfl)) rfl rfl rfl rfl (Nat.le_of_ble_eq_true rfl) dX1_place_38 ⟨Nat.le_of_ble_eq_true rfl, Nat.le_of_ble_eq_true rfl⟩) (fun r u H locs hp hnz w => ?_)
      obtain ⟨rfl, rfl⟩ := hp
      dsimp only at w
      refine lv_icmp_ge (tgt := 52) hx hb dX1_place_41 (by decide) (fun c_41 => ?_) (fun c_41 => ?_)
      · refine lv_aload_n hx hb dX1_place_52 rfl (lv_at hl 2 rfl) ?_
        refine lv_bipush (v := 112) hx hb dX1_place_53 (by decide) ?_
        refine lv_iload_n hx hb dX1_place_55 rfl (lv_at hl 0 rfl) ?_
        refine lv_aload_n hx hb dX1_place_56 rfl (lv_at hl 2 rfl) ?_
        refine lv_bipush (v := 116) hx hb dX1_place_57 (by decide) ?_
        refine g_calli w (g_runV (As := [.int 116]) (rest := [.int ((j0 - 1) - (sX1_placesOf Z i0 97)), .int 112, .ref (x.f (.fr i0))]) S hE w hl (hX1_placesOf l D ar κ G x Z sz i0 116 hk ) (k_RX1_84 S.2.2.2.2 ⟨Nat.le_of_ble_eq_true rfl, Nat.le_of_ble_eq_true rfl⟩) (ov_r (t := .fr i0) (hk.e (.fr i0) rfl)) rfl rfl rfl rfl (Nat.le_of_ble_eq_true rfl) dX1_place_59 ⟨Nat.le_of_ble_eq_true rfl, Nat.le_of_ble_eq_true rfl⟩) (fun r u H locs hp hnz w => ?_)
        obtain ⟨rfl, rfl⟩ := hp
        dsimp only at w
        refine lv_isub hx hb dX1_place_62 ?_
        refine g_calll w (g_runV (As := [.int 112, .int (((j0 - 1) - (sX1_placesOf Z i0 97)) - (sX1_placesOf Z i0 116))]) (rest := []) S hE w hl (hX1_placeOf l D ar κ G x Z sz i0 112 (((j0 - 1) - (sX1_placesOf Z i0 97)) - (sX1_placesOf Z i0 116)) hk ) (k_RX1_88 S.2.2.2.2 ⟨Nat.le_of_ble_eq_true rfl, Nat.le_of_ble_eq_true rfl⟩) (ov_r (t := .fr i0) (hk.e (.fr i0) rfl)) rfl rfl rfl rfl (Nat.le_of_ble_eq_true rfl) dX1_place_63 ⟨Nat.le_of_ble_eq_true rfl, Nat.le_of_ble_eq_true rfl⟩) (fun r u H locs hp hnz w => ?_)
        obtain ⟨rfl, rfl⟩ := hp
        dsimp only at w
        exact g_lret hx hb hr hlk w (Nat.le_of_ble_eq_true rfl) (Nat.le_of_ble_eq_true rfl) dX1_place_66 ⟨(((sX1_place_u Z i0 j0).trans ((if_neg c_14).trans ((if_pos c_23).trans (if_pos c_41))))).symm, rfl⟩
      · refine lv_aload_n hx hb dX1_place_44 rfl (lv_at hl 2 rfl) ?_
        refine lv_bipush (v := 116) hx hb dX1_place_45 (by decide) ?_
        refine lv_iload_n hx hb dX1_place_47 rfl (lv_at hl 0 rfl) ?_
        refine g_calll w (g_runV (As := [.int 116, .int ((j0 - 1) - (sX1_placesOf Z i0 97))]) (rest := []) S hE w hl (hX1_placeOf l D ar κ G x Z sz i0 116 ((j0 - 1) - (sX1_placesOf Z i0 97)) hk ) (k_RX1_88 S.2.2.2.2 ⟨Nat.le_of_ble_eq_true rfl, Nat.le_of_ble_eq_true rfl⟩) (ov_r (t := .fr i0) (hk.e (.fr i0) rfl)) rfl rfl rfl rfl (Nat.le_of_ble_eq_true rfl) dX1_place_48 ⟨Nat.le_of_ble_eq_true rfl, Nat.le_of_ble_eq_true rfl⟩) (fun r u H locs hp hnz w => ?_)
        obtain ⟨rfl, rfl⟩ := hp
        dsimp only at w
        exact g_lret hx hb hr hlk w (Nat.le_of_ble_eq_true rfl) (Nat.le_of_ble_eq_true rfl) dX1_place_51 ⟨(((sX1_place_u Z i0 j0).trans ((if_neg c_14).trans ((if_pos c_23).trans (if_neg c_41))))).symm, rfl⟩
    · refine lv_aload_n hx hb dX1_place_26 rfl (lv_at hl 2 rfl) ?_
      refine lv_bipush (v := 97) hx hb dX1_place_27 (by decide) ?_
      refine lv_iload_n hx hb dX1_place_29 rfl (lv_at hl 1 rfl) ?_
      refine g_calll w (g_runV (As := [.int 97, .int (j0 - 1)]) (rest := []) S hE w hl (hX1_placeOf l D ar κ G x Z sz i0 97 (j0 - 1) hk ) (k_RX1_88 S.2.2.2.2 ⟨Nat.le_of_ble_eq_true rfl, Nat.le_of_ble_eq_true rfl⟩) (ov_r (t := .fr i0) (hk.e (.fr i0) rfl)) rfl rfl rfl rfl (Nat.le_of_ble_eq_true rfl) dX1_place_30 ⟨Nat.le_of_ble_eq_true rfl, Nat.le_of_ble_eq_true rfl⟩) (fun r u H locs hp hnz w => ?_)
      obtain ⟨rfl, rfl⟩ := hp
      dsimp only at w
      exact g_lret hx hb hr hlk w (Nat.le_of_ble_eq_true rfl) (Nat.le_of_ble_eq_true rfl) dX1_place_33 ⟨(((sX1_place_u Z i0 j0).trans ((if_neg c_14).trans (if_neg c_23)))).symm, rfl⟩
  · refine lv_aload_n hx hb dX1_place_17 rfl (lv_at hl 2 rfl) ?_
    refine gf_RX1_27_7 (v := .long ((Z.fr i0).v)) S hE w (ov_r (t := .fr i0) (hk.e (.fr i0) rfl)) rfl dX1_place_18 ?_
    exact g_lret hx hb hr hlk w (Nat.le_of_ble_eq_true rfl) (Nat.le_of_ble_eq_true rfl) dX1_place_21 ⟨(((sX1_place_u Z i0 j0).trans (if_pos c_14))).symm, rfl⟩
def sX1_open (Z : Ho) (i0 : Fin 12) (k0 : Nat) (v0 : Int64) : Ho := (Z.frS i0 ((((((Z.fr i0).so (some k0)).sv v0).sw 0).sd 0).st (fillJ ((Z.fr i0).t) 502511173632 4)))
theorem sX1_open_u (Z : Ho) (i0 : Fin 12) (k0 : Nat) (v0 : Int64) : sX1_open Z i0 k0 v0 = (Z.frS i0 ((((((Z.fr i0).so (some k0)).sv v0).sw 0).sd 0).st (fillJ ((Z.fr i0).t) 502511173632 4))) := rfl
set_option maxHeartbeats 4000000 in
set_option maxRecDepth 100000 in
theorem hX1_open (l : Launch) (D : va_G) (ar : Nat → ClassId) (κ : Nat → Nat) (G : gW) (x : Xo) (Z : Ho) (sz : Nat) (i0 : Fin 12) (k0 : Nat) (v0 : Int64) (hk : OK x Z) (hv_k0 : k0 < Z.nt) : Met l yX1_open (lwC yX1_open cX1_open 4 none) (rD 5 0 0) (g_Pc D vwCl (gT ar) (EX1 κ) (ov κ ar x Z G) sz [.ref (x.f (.fr i0)), .ref (x.f (.to k0)), .long v0]) (g_Qv D vwCl (g_A (ov κ ar x Z G) sz) (fun u => ∃ T9 : Ho, sX1_open Z i0 k0 v0 = T9 ∧ u = (ov κ ar x T9 G, sz) ∧ OK x T9 ∧ SZ T9 Z)) 0 0 (g_A (ov κ ar x Z G) sz) := by
  refine g_ofW (by decide +kernel) (Nat.le_of_ble_eq_true rfl) ?_
  intro p e s m below meth c ls S hr hlk hin hE w hl
  have hx := S.1
  have hb := S.2.1
  have hl : lv_has ls 4 [(0, .ref (x.f (.fr i0))), (1, .ref (x.f (.to k0))), (2, .long v0)] := hl
  refine lv_aload_n hx hb dX1_open_0 rfl (lv_at hl 0 rfl) ?_
  refine lv_aload_n hx hb dX1_open_1 rfl (lv_at hl 1 rfl) ?_
  refine pf_RX1_21_7 (fs1 := [.ref (x.f (.fa i0)), .ref (x.f (.ft i0)), .ref (x.f (.fp i0)), .ref (x.f (.to k0)), .long ((Z.fr i0).v), .int ((Z.fr i0).w), .int ((Z.fr i0).d)]) S hE w (ov_r (t := .fr i0) (hk.e (.fr i0) rfl)) rfl rfl (Nat.le_of_ble_eq_true rfl) rfl dX1_open_2 (fun H locs w => ?_)
  have w := g_eqw w (congrArg (fun Z9 => g_up (ov κ ar x Z9 G) (x.f (.fr i0)) (.inr (7, [.ref (x.f (.fa i0)), .ref (x.f (.ft i0)), .ref (x.f (.fp i0)), .ref (x.f (.to k0)), .long ((Z.fr i0).v), .int ((Z.fr i0).w), .int ((Z.fr i0).d)]))) (frS_id (S := Z) (i := i0)).symm)
  have w : g_S D vwCl (g_A (ov κ ar x Z G) sz) s.heap (ov κ ar x (Z.frS i0 ((Z.fr i0).so (some k0))) G) H _ sz := g_eqw w (ov_wfr (S := Z) (v := (Z.fr i0)) (v' := ((Z.fr i0).so (some k0))) hk.v (hk.e (.fr i0) rfl) rfl Fr_a_so Fr_t_so Fr_p_so)
  refine lv_aload_n hx hb dX1_open_5 rfl (lv_at hl 0 rfl) ?_
  refine lv_lload_n hx hb dX1_open_6 rfl (lv_at hl 2 rfl) ?_
  refine pf_RX1_27_7 (fs1 := [.ref (x.f (.fa i0)), .ref (x.f (.ft i0)), .ref (x.f (.fp i0)), va_rf (((some k0)).map (fun k9 => x.f (.to k9))), .long v0, .int ((Z.fr i0).w), .int ((Z.fr i0).d)]) S hE w (ov_rfr (hk.e (.fr i0) rfl)) rfl rfl (Nat.le_of_ble_eq_true rfl) rfl dX1_open_7 (fun H locs w => ?_)
  have w : g_S D vwCl (g_A (ov κ ar x Z G) sz) s.heap (ov κ ar x (Z.frS i0 (((Z.fr i0).so (some k0)).sv v0)) G) H _ sz := g_eqw w (ov_wfr (S := Z) (v := ((Z.fr i0).so (some k0))) (v' := (((Z.fr i0).so (some k0)).sv v0)) hk.v (hk.e (.fr i0) rfl) rfl ((Fr_a_sv.trans Fr_a_so).trans Fr_a_so.symm) ((Fr_t_sv.trans Fr_t_so).trans Fr_t_so.symm) ((Fr_p_sv.trans Fr_p_so).trans Fr_p_so.symm))
  refine lv_aload_n hx hb dX1_open_10 rfl (lv_at hl 0 rfl) ?_
  refine lv_iconst (v := 0) hx hb dX1_open_11 (by decide) ?_
  refine pf_RX1_31_7 (fs1 := [.ref (x.f (.fa i0)), .ref (x.f (.ft i0)), .ref (x.f (.fp i0)), va_rf (((some k0)).map (fun k9 => x.f (.to k9))), .long v0, .int 0, .int ((Z.fr i0).d)]) S hE w (ov_rfr (hk.e (.fr i0) rfl)) rfl rfl (Nat.le_of_ble_eq_true rfl) rfl dX1_open_12 (fun H locs w => ?_)
  have w : g_S D vwCl (g_A (ov κ ar x Z G) sz) s.heap (ov κ ar x (Z.frS i0 ((((Z.fr i0).so (some k0)).sv v0).sw 0)) G) H _ sz := g_eqw w (ov_wfr (S := Z) (v := (((Z.fr i0).so (some k0)).sv v0)) (v' := ((((Z.fr i0).so (some k0)).sv v0).sw 0)) hk.v (hk.e (.fr i0) rfl) rfl ((Fr_a_sw.trans (Fr_a_sv.trans Fr_a_so)).trans (Fr_a_sv.trans Fr_a_so).symm) ((Fr_t_sw.trans (Fr_t_sv.trans Fr_t_so)).trans (Fr_t_sv.trans Fr_t_so).symm) ((Fr_p_sw.trans (Fr_p_sv.trans Fr_p_so)).trans (Fr_p_sv.trans Fr_p_so).symm))
  refine lv_aload_n hx hb dX1_open_15 rfl (lv_at hl 0 rfl) ?_
  refine lv_iconst (v := 0) hx hb dX1_open_16 (by decide) ?_
  refine pf_RX1_35_7 (fs1 := [.ref (x.f (.fa i0)), .ref (x.f (.ft i0)), .ref (x.f (.fp i0)), va_rf (((some k0)).map (fun k9 => x.f (.to k9))), .long v0, .int 0, .int 0]) S hE w (ov_rfr (hk.e (.fr i0) rfl)) rfl rfl (Nat.le_of_ble_eq_true rfl) rfl dX1_open_17 (fun H locs w => ?_)
  have w : g_S D vwCl (g_A (ov κ ar x Z G) sz) s.heap (ov κ ar x (Z.frS i0 (((((Z.fr i0).so (some k0)).sv v0).sw 0).sd 0)) G) H _ sz := g_eqw w (ov_wfr (S := Z) (v := ((((Z.fr i0).so (some k0)).sv v0).sw 0)) (v' := (((((Z.fr i0).so (some k0)).sv v0).sw 0).sd 0)) hk.v (hk.e (.fr i0) rfl) rfl ((Fr_a_sd.trans (Fr_a_sw.trans (Fr_a_sv.trans Fr_a_so))).trans (Fr_a_sw.trans (Fr_a_sv.trans Fr_a_so)).symm) ((Fr_t_sd.trans (Fr_t_sw.trans (Fr_t_sv.trans Fr_t_so))).trans (Fr_t_sw.trans (Fr_t_sv.trans Fr_t_so)).symm) ((Fr_p_sd.trans (Fr_p_sw.trans (Fr_p_sv.trans Fr_p_so))).trans (Fr_p_sw.trans (Fr_p_sv.trans Fr_p_so)).symm))
  refine lv_aload_n hx hb dX1_open_20 rfl (lv_at hl 0 rfl) ?_
  refine gf_RX1_15_7 (v := .ref (x.f (.ft i0))) S hE w (ov_rfr (hk.e (.fr i0) rfl)) rfl dX1_open_21 ?_
  refine lv_ldc2 hx hb S.2.2.2.1 (S.2.2.2.2 _ m_1_217) dX1_open_24 ?_
  refine g_callv w (g_runS (As := [.ref (x.f (.ft i0)), .long 502511173632]) (rest := []) S hE w hl (c_fillJ l D ar κ (ov κ ar x (Z.frS i0 (((((Z.fr i0).so (some k0)).sv v0).sw 0).sd 0)) G) sz (x.f (.ft i0)) 502511173632 4 ((Z.fr i0).t) (ov_rft (hk.e (.ft i0) rfl)) (by decide)) (k_RX1_38 S.2.2.2.2 ⟨Nat.le_of_ble_eq_true rfl, Nat.le_of_ble_eq_true rfl⟩) rfl rfl (Nat.le_of_ble_eq_true rfl) dX1_open_27 ⟨Nat.le_of_ble_eq_true rfl, Nat.le_of_ble_eq_true rfl⟩) (fun u H locs hp hnz w => ?_)
  obtain rfl := hp
  dsimp only at w
  have w : g_S D vwCl (g_A (ov κ ar x Z G) sz) s.heap (ov κ ar x (Z.frS i0 ((((((Z.fr i0).so (some k0)).sv v0).sw 0).sd 0).st (fillJ ((Z.fr i0).t) 502511173632 4))) G) H _ sz := g_eqw w (ov_wft (S := Z) (v := (((((Z.fr i0).so (some k0)).sv v0).sw 0).sd 0)) (v' := ((((((Z.fr i0).so (some k0)).sv v0).sw 0).sd 0).st (fillJ ((Z.fr i0).t) 502511173632 4))) hk.v (hk.e (.ft i0) rfl) rfl ((Fr_a_st.trans (Fr_a_sd.trans (Fr_a_sw.trans (Fr_a_sv.trans Fr_a_so)))).trans (Fr_a_sd.trans (Fr_a_sw.trans (Fr_a_sv.trans Fr_a_so))).symm) ((Fr_p_st.trans (Fr_p_sd.trans (Fr_p_sw.trans (Fr_p_sv.trans Fr_p_so)))).trans (Fr_p_sd.trans (Fr_p_sw.trans (Fr_p_sv.trans Fr_p_so))).symm) ((Fr_o_st.trans (Fr_o_sd.trans (Fr_o_sw.trans (Fr_o_sv.trans Fr_o_so)))).trans (Fr_o_sd.trans (Fr_o_sw.trans (Fr_o_sv.trans Fr_o_so))).symm) ((Fr_v_st.trans (Fr_v_sd.trans (Fr_v_sw.trans Fr_v_sv))).trans (Fr_v_sd.trans (Fr_v_sw.trans Fr_v_sv)).symm) ((Fr_w_st.trans (Fr_w_sd.trans Fr_w_sw)).trans (Fr_w_sd.trans Fr_w_sw).symm) ((Fr_d_st.trans Fr_d_sd).trans Fr_d_sd.symm))
  exact g_vret hx hb hr hlk w (Nat.le_of_ble_eq_true rfl) (Nat.le_of_ble_eq_true rfl) dX1_open_30 ⟨_, (sX1_open_u Z i0 k0 v0), rfl, (OK.frS (S := Z) hk (fun k9 q9 => by cases q9; exact hv_k0)), ⟨rfl, rfl, rfl, rfl⟩⟩
