theorem dX8_ofNumber_0 : decode cX8_ofNumber 0 = .ok (.ldc2_w 505, 3) := by decide +kernel
theorem dX8_ofNumber_3 : decode cX8_ofNumber 3 = .ok (.iload_n 0, 1) := by decide +kernel
theorem dX8_ofNumber_4 : decode cX8_ofNumber 4 = .ok (.i2l, 1) := by decide +kernel
theorem dX8_ofNumber_5 : decode cX8_ofNumber 5 = .ok (.ldc2_w 507, 3) := by decide +kernel
theorem dX8_ofNumber_8 : decode cX8_ofNumber 8 = .ok (.land, 1) := by decide +kernel
theorem dX8_ofNumber_9 : decode cX8_ofNumber 9 = .ok (.lor, 1) := by decide +kernel
theorem dX8_ofNumber_10 : decode cX8_ofNumber 10 = .ok (.lreturn, 1) := by decide +kernel
theorem dX8_ofThing_0 : decode cX8_ofThing 0 = .ok (.ldc2_w 509, 3) := by decide +kernel
theorem dX8_ofThing_3 : decode cX8_ofThing 3 = .ok (.iload_n 0, 1) := by decide +kernel
theorem dX8_ofThing_4 : decode cX8_ofThing 4 = .ok (.i2l, 1) := by decide +kernel
theorem dX8_ofThing_5 : decode cX8_ofThing 5 = .ok (.ldc2_w 507, 3) := by decide +kernel
theorem dX8_ofThing_8 : decode cX8_ofThing 8 = .ok (.land, 1) := by decide +kernel
theorem dX8_ofThing_9 : decode cX8_ofThing 9 = .ok (.lor, 1) := by decide +kernel
theorem dX8_ofThing_10 : decode cX8_ofThing 10 = .ok (.lreturn, 1) := by decide +kernel
theorem dX8_plus_0 : decode cX8_plus 0 = .ok (.ldc2_w 491, 3) := by decide +kernel
theorem dX8_plus_3 : decode cX8_plus 3 = .ok (.lload_n 0, 1) := by decide +kernel
theorem dX8_plus_4 : decode cX8_plus 4 = .ok (.lmul, 1) := by decide +kernel
theorem dX8_plus_5 : decode cX8_plus 5 = .ok (.lload_n 2, 1) := by decide +kernel
theorem dX8_plus_6 : decode cX8_plus 6 = .ok (.ladd, 1) := by decide +kernel
theorem dX8_plus_7 : decode cX8_plus 7 = .ok (.lreturn, 1) := by decide +kernel
theorem dX8_plusValue_0 : decode cX8_plusValue 0 = .ok (.lload_n 0, 1) := by decide +kernel
theorem dX8_plusValue_1 : decode cX8_plusValue 1 = .ok (.lload_n 2, 1) := by decide +kernel
theorem dX8_plusValue_2 : decode cX8_plusValue 2 = .ok (.invokestatic 226, 3) := by decide +kernel
theorem dX8_plusValue_5 : decode cX8_plusValue 5 = .ok (.i2l, 1) := by decide +kernel
theorem dX8_plusValue_6 : decode cX8_plusValue 6 = .ok (.invokestatic 453, 3) := by decide +kernel
theorem dX8_plusValue_9 : decode cX8_plusValue 9 = .ok (.lload_n 2, 1) := by decide +kernel
theorem dX8_plusValue_10 : decode cX8_plusValue 10 = .ok (.invokestatic 230, 3) := by decide +kernel
theorem dX8_plusValue_13 : decode cX8_plusValue 13 = .ok (.i2l, 1) := by decide +kernel
theorem dX8_plusValue_14 : decode cX8_plusValue 14 = .ok (.invokestatic 453, 3) := by decide +kernel
theorem dX8_plusValue_17 : decode cX8_plusValue 17 = .ok (.lreturn, 1) := by decide +kernel
theorem dX8_isGoingThere_0 : decode cX8_isGoingThere 0 = .ok (.lload_n 0, 1) := by decide +kernel
theorem dX8_isGoingThere_1 : decode cX8_isGoingThere 1 = .ok (.invokestatic 382, 3) := by decide +kernel
theorem dX8_isGoingThere_4 : decode cX8_isGoingThere 4 = .ok (.ifCond .eq 14, 3) := by decide +kernel
theorem dX8_isGoingThere_7 : decode cX8_isGoingThere 7 = .ok (.lload_n 0, 1) := by decide +kernel
theorem dX8_isGoingThere_8 : decode cX8_isGoingThere 8 = .ok (.invokestatic 230, 3) := by decide +kernel
theorem dX8_isGoingThere_11 : decode cX8_isGoingThere 11 = .ok (.ifCond .eq 7, 3) := by decide +kernel
theorem dX8_isGoingThere_14 : decode cX8_isGoingThere 14 = .ok (.iconst 1, 1) := by decide +kernel
theorem dX8_isGoingThere_15 : decode cX8_isGoingThere 15 = .ok (.goto 4, 3) := by decide +kernel
theorem dX8_isGoingThere_18 : decode cX8_isGoingThere 18 = .ok (.iconst 0, 1) := by decide +kernel
theorem dX8_isGoingThere_19 : decode cX8_isGoingThere 19 = .ok (.ireturn, 1) := by decide +kernel
theorem dX8_outcome_0 : decode cX8_outcome 0 = .ok (.iload_n 0, 1) := by decide +kernel
theorem dX8_outcome_1 : decode cX8_outcome 1 = .ok (.tableswitch 63 42 47 #[47, 39, 63, 43, 63, 51], 39) := by decide +kernel
theorem dX8_outcome_40 : decode cX8_outcome 40 = .ok (.iload_n 1, 1) := by decide +kernel
theorem dX8_outcome_41 : decode cX8_outcome 41 = .ok (.iload_n 2, 1) := by decide +kernel
theorem dX8_outcome_42 : decode cX8_outcome 42 = .ok (.iadd, 1) := by decide +kernel
theorem dX8_outcome_43 : decode cX8_outcome 43 = .ok (.ireturn, 1) := by decide +kernel
theorem dX8_outcome_44 : decode cX8_outcome 44 = .ok (.iload_n 1, 1) := by decide +kernel
theorem dX8_outcome_45 : decode cX8_outcome 45 = .ok (.iload_n 2, 1) := by decide +kernel
theorem dX8_outcome_46 : decode cX8_outcome 46 = .ok (.isub, 1) := by decide +kernel
theorem dX8_outcome_47 : decode cX8_outcome 47 = .ok (.ireturn, 1) := by decide +kernel
theorem dX8_outcome_48 : decode cX8_outcome 48 = .ok (.iload_n 1, 1) := by decide +kernel
theorem dX8_outcome_49 : decode cX8_outcome 49 = .ok (.iload_n 2, 1) := by decide +kernel
theorem dX8_outcome_50 : decode cX8_outcome 50 = .ok (.imul, 1) := by decide +kernel
theorem dX8_outcome_51 : decode cX8_outcome 51 = .ok (.ireturn, 1) := by decide +kernel
theorem dX8_outcome_52 : decode cX8_outcome 52 = .ok (.iload_n 2, 1) := by decide +kernel
theorem dX8_outcome_53 : decode cX8_outcome 53 = .ok (.ifCond .ne 7, 3) := by decide +kernel
theorem dX8_outcome_56 : decode cX8_outcome 56 = .ok (.iconst 0, 1) := by decide +kernel
theorem dX8_outcome_57 : decode cX8_outcome 57 = .ok (.goto 6, 3) := by decide +kernel
theorem dX8_outcome_60 : decode cX8_outcome 60 = .ok (.iload_n 1, 1) := by decide +kernel
theorem dX8_outcome_61 : decode cX8_outcome 61 = .ok (.iload_n 2, 1) := by decide +kernel
theorem dX8_outcome_62 : decode cX8_outcome 62 = .ok (.idiv, 1) := by decide +kernel
theorem dX8_outcome_63 : decode cX8_outcome 63 = .ok (.ireturn, 1) := by decide +kernel
theorem dX8_outcome_64 : decode cX8_outcome 64 = .ok (.iload_n 1, 1) := by decide +kernel
theorem dX8_outcome_65 : decode cX8_outcome 65 = .ok (.iload_n 2, 1) := by decide +kernel
theorem dX8_outcome_66 : decode cX8_outcome 66 = .ok (.if_icmp .ge 7, 3) := by decide +kernel
theorem dX8_outcome_69 : decode cX8_outcome 69 = .ok (.iconst 1, 1) := by decide +kernel
theorem dX8_outcome_70 : decode cX8_outcome 70 = .ok (.goto 4, 3) := by decide +kernel
theorem dX8_outcome_73 : decode cX8_outcome 73 = .ok (.iconst 0, 1) := by decide +kernel
theorem dX8_outcome_74 : decode cX8_outcome 74 = .ok (.ireturn, 1) := by decide +kernel
theorem dX8_isLetter_0 : decode cX8_isLetter 0 = .ok (.iload_n 0, 1) := by decide +kernel
theorem dX8_isLetter_1 : decode cX8_isLetter 1 = .ok (.tableswitch 337 42 121 #[335, 335, 337, 335, 337, 335, 337, 337, 337, 337, 337, 337, 337, 337, 337, 337, 337, 337, 335, 335, 337, 337, 337, 337, 337, 337, 337, 337, 335, 335, 337, 337, 337, 337, 337, 335, 337, 337, 337, 337, 337, 337, 335, 337, 337, 337, 337, 337, 337, 337, 337, 337, 337, 337, 337, 335, 337, 335, 335, 337, 335, 335, 337, 337, 335, 335, 337, 335, 335, 337, 335, 337, 335, 335, 335, 335, 337, 335, 337, 335], 335) := by decide +kernel
theorem dX8_isLetter_336 : decode cX8_isLetter 336 = .ok (.iconst 1, 1) := by decide +kernel
theorem dX8_isLetter_337 : decode cX8_isLetter 337 = .ok (.ireturn, 1) := by decide +kernel
theorem dX8_isLetter_338 : decode cX8_isLetter 338 = .ok (.iconst 0, 1) := by decide +kernel
theorem dX8_isLetter_339 : decode cX8_isLetter 339 = .ok (.ireturn, 1) := by decide +kernel
theorem dX8_isStep_0 : decode cX8_isStep 0 = .ok (.aload_n 1, 1) := by decide +kernel
theorem dX8_isStep_1 : decode cX8_isStep 1 = .ok (.invokevirtual 368, 3) := by decide +kernel
theorem dX8_isStep_4 : decode cX8_isStep 4 = .ok (.lookupswitch 91 #[(77, 44), (106, 46), (109, 44), (121, 63)], 44) := by decide +kernel
theorem dX8_isStep_48 : decode cX8_isStep 48 = .ok (.iconst 1, 1) := by decide +kernel
theorem dX8_isStep_49 : decode cX8_isStep 49 = .ok (.ireturn, 1) := by decide +kernel
theorem dX8_isStep_50 : decode cX8_isStep 50 = .ok (.aload_n 1, 1) := by decide +kernel
theorem dX8_isStep_51 : decode cX8_isStep 51 = .ok (.invokevirtual 372, 3) := by decide +kernel
theorem dX8_isStep_54 : decode cX8_isStep 54 = .ok (.aload_n 1, 1) := by decide +kernel
theorem dX8_isStep_55 : decode cX8_isStep 55 = .ok (.getfield 324, 3) := by decide +kernel
theorem dX8_isStep_58 : decode cX8_isStep 58 = .ok (.if_icmp .gt 7, 3) := by decide +kernel
theorem dX8_isStep_61 : decode cX8_isStep 61 = .ok (.iconst 1, 1) := by decide +kernel
theorem dX8_isStep_62 : decode cX8_isStep 62 = .ok (.goto 4, 3) := by decide +kernel
theorem dX8_isStep_65 : decode cX8_isStep 65 = .ok (.iconst 0, 1) := by decide +kernel
theorem dX8_isStep_66 : decode cX8_isStep 66 = .ok (.ireturn, 1) := by decide +kernel
theorem dX8_isStep_67 : decode cX8_isStep 67 = .ok (.aload_n 1, 1) := by decide +kernel
theorem dX8_isStep_68 : decode cX8_isStep 68 = .ok (.invokevirtual 372, 3) := by decide +kernel
theorem dX8_isStep_71 : decode cX8_isStep 71 = .ok (.aload_n 1, 1) := by decide +kernel
theorem dX8_isStep_72 : decode cX8_isStep 72 = .ok (.getfield 324, 3) := by decide +kernel
theorem dX8_isStep_75 : decode cX8_isStep 75 = .ok (.if_icmp .gt 18, 3) := by decide +kernel
theorem dX8_isStep_78 : decode cX8_isStep 78 = .ok (.aload_n 1, 1) := by decide +kernel
theorem dX8_isStep_79 : decode cX8_isStep 79 = .ok (.iconst 0, 1) := by decide +kernel
theorem dX8_isStep_80 : decode cX8_isStep 80 = .ok (.invokevirtual 375, 3) := by decide +kernel
theorem dX8_isStep_83 : decode cX8_isStep 83 = .ok (.invokestatic 378, 3) := by decide +kernel
theorem dX8_isStep_86 : decode cX8_isStep 86 = .ok (.ifCond .eq 7, 3) := by decide +kernel
theorem dX8_isStep_89 : decode cX8_isStep 89 = .ok (.iconst 1, 1) := by decide +kernel
theorem dX8_isStep_90 : decode cX8_isStep 90 = .ok (.goto 4, 3) := by decide +kernel
theorem dX8_isStep_93 : decode cX8_isStep 93 = .ok (.iconst 0, 1) := by decide +kernel
theorem dX8_isStep_94 : decode cX8_isStep 94 = .ok (.ireturn, 1) := by decide +kernel
theorem dX8_isStep_95 : decode cX8_isStep 95 = .ok (.iconst 0, 1) := by decide +kernel
theorem dX8_isStep_96 : decode cX8_isStep 96 = .ok (.ireturn, 1) := by decide +kernel
theorem dX8_valueToPut_0 : decode cX8_valueToPut 0 = .ok (.iload_n 2, 1) := by decide +kernel
theorem dX8_valueToPut_1 : decode cX8_valueToPut 1 = .ok (.tableswitch 138 97 116 #[105, 138, 138, 132, 138, 138, 123, 138, 138, 138, 138, 138, 138, 95, 138, 138, 138, 138, 100, 114], 95) := by decide +kernel
theorem dX8_valueToPut_96 : decode cX8_valueToPut 96 = .ok (.iload_n 3, 1) := by decide +kernel
theorem dX8_valueToPut_97 : decode cX8_valueToPut 97 = .ok (.invokestatic 199, 3) := by decide +kernel
theorem dX8_valueToPut_100 : decode cX8_valueToPut 100 = .ok (.lreturn, 1) := by decide +kernel
theorem dX8_valueToPut_101 : decode cX8_valueToPut 101 = .ok (.aload_n 1, 1) := by decide +kernel
theorem dX8_valueToPut_102 : decode cX8_valueToPut 102 = .ok (.getfield 344, 3) := by decide +kernel
theorem dX8_valueToPut_105 : decode cX8_valueToPut 105 = .ok (.lreturn, 1) := by decide +kernel
theorem dX8_valueToPut_106 : decode cX8_valueToPut 106 = .ok (.aload_n 1, 1) := by decide +kernel
theorem dX8_valueToPut_107 : decode cX8_valueToPut 107 = .ok (.getfield 296, 3) := by decide +kernel
theorem dX8_valueToPut_110 : decode cX8_valueToPut 110 = .ok (.iload_n 3, 1) := by decide +kernel
theorem dX8_valueToPut_111 : decode cX8_valueToPut 111 = .ok (.invokestatic 222, 3) := by decide +kernel
theorem dX8_valueToPut_114 : decode cX8_valueToPut 114 = .ok (.lreturn, 1) := by decide +kernel
theorem dX8_valueToPut_115 : decode cX8_valueToPut 115 = .ok (.aload_n 1, 1) := by decide +kernel
theorem dX8_valueToPut_116 : decode cX8_valueToPut 116 = .ok (.getfield 419, 3) := by decide +kernel
theorem dX8_valueToPut_119 : decode cX8_valueToPut 119 = .ok (.iload_n 3, 1) := by decide +kernel
theorem dX8_valueToPut_120 : decode cX8_valueToPut 120 = .ok (.invokestatic 222, 3) := by decide +kernel
theorem dX8_valueToPut_123 : decode cX8_valueToPut 123 = .ok (.lreturn, 1) := by decide +kernel
theorem dX8_valueToPut_124 : decode cX8_valueToPut 124 = .ok (.aload_n 0, 1) := by decide +kernel
theorem dX8_valueToPut_125 : decode cX8_valueToPut 125 = .ok (.getfield 33, 3) := by decide +kernel
theorem dX8_valueToPut_128 : decode cX8_valueToPut 128 = .ok (.iload_n 3, 1) := by decide +kernel
theorem dX8_valueToPut_129 : decode cX8_valueToPut 129 = .ok (.invokestatic 222, 3) := by decide +kernel
theorem dX8_valueToPut_132 : decode cX8_valueToPut 132 = .ok (.lreturn, 1) := by decide +kernel
theorem dX8_valueToPut_133 : decode cX8_valueToPut 133 = .ok (.aload_n 1, 1) := by decide +kernel
theorem dX8_valueToPut_134 : decode cX8_valueToPut 134 = .ok (.iconst 0, 1) := by decide +kernel
theorem dX8_valueToPut_135 : decode cX8_valueToPut 135 = .ok (.invokevirtual 375, 3) := by decide +kernel
theorem dX8_valueToPut_138 : decode cX8_valueToPut 138 = .ok (.lreturn, 1) := by decide +kernel
theorem dX8_valueToPut_139 : decode cX8_valueToPut 139 = .ok (.ldc2_w 60, 3) := by decide +kernel
theorem dX8_valueToPut_142 : decode cX8_valueToPut 142 = .ok (.lreturn, 1) := by decide +kernel
theorem dX8_putField_0 : decode cX8_putField 0 = .ok (.aload_n 0, 1) := by decide +kernel
theorem dX8_putField_1 : decode cX8_putField 1 = .ok (.getfield 40, 3) := by decide +kernel
theorem dX8_putField_4 : decode cX8_putField 4 = .ok (.aload_n 1, 1) := by decide +kernel
theorem dX8_putField_5 : decode cX8_putField 5 = .ok (.getfield 344, 3) := by decide +kernel
theorem dX8_putField_8 : decode cX8_putField 8 = .ok (.invokevirtual 431, 3) := by decide +kernel
theorem dX8_putField_11 : decode cX8_putField 11 = .ok (.astore_n 3, 1) := by decide +kernel
theorem dX8_putField_12 : decode cX8_putField 12 = .ok (.aload_n 3, 1) := by decide +kernel
theorem dX8_putField_13 : decode cX8_putField 13 = .ok (.ifnull 11, 3) := by decide +kernel
theorem dX8_putField_16 : decode cX8_putField 16 = .ok (.aload_n 3, 1) := by decide +kernel
theorem dX8_putField_17 : decode cX8_putField 17 = .ok (.iload_n 2, 1) := by decide +kernel
theorem dX8_putField_18 : decode cX8_putField 18 = .ok (.invokevirtual 267, 3) := by decide +kernel
theorem dX8_putField_21 : decode cX8_putField 21 = .ok (.ifCond .ne 10, 3) := by decide +kernel
theorem dX8_putField_24 : decode cX8_putField 24 = .ok (.aload_n 0, 1) := by decide +kernel
theorem dX8_putField_25 : decode cX8_putField 25 = .ok (.bipush 107, 2) := by decide +kernel
theorem dX8_putField_27 : decode cX8_putField 27 = .ok (.invokevirtual 435, 3) := by decide +kernel
theorem dX8_putField_30 : decode cX8_putField 30 = .ok (.return_, 1) := by decide +kernel
theorem dX8_putField_31 : decode cX8_putField 31 = .ok (.aload_n 1, 1) := by decide +kernel
theorem dX8_putField_32 : decode cX8_putField 32 = .ok (.aload_n 3, 1) := by decide +kernel
theorem dX8_putField_33 : decode cX8_putField 33 = .ok (.getfield 272, 3) := by decide +kernel
theorem dX8_putField_36 : decode cX8_putField 36 = .ok (.iload_n 2, 1) := by decide +kernel
theorem dX8_putField_37 : decode cX8_putField 37 = .ok (.invokestatic 222, 3) := by decide +kernel
theorem dX8_putField_40 : decode cX8_putField 40 = .ok (.invokevirtual 424, 3) := by decide +kernel
theorem dX8_putField_43 : decode cX8_putField 43 = .ok (.aload_n 1, 1) := by decide +kernel
theorem dX8_putField_44 : decode cX8_putField 44 = .ok (.dup, 1) := by decide +kernel
theorem dX8_putField_45 : decode cX8_putField 45 = .ok (.getfield 324, 3) := by decide +kernel
theorem dX8_putField_48 : decode cX8_putField 48 = .ok (.iconst 1, 1) := by decide +kernel
theorem dX8_putField_49 : decode cX8_putField 49 = .ok (.iadd, 1) := by decide +kernel
theorem dX8_putField_50 : decode cX8_putField 50 = .ok (.putfield 324, 3) := by decide +kernel
theorem dX8_putField_53 : decode cX8_putField 53 = .ok (.return_, 1) := by decide +kernel
theorem dX8_takeIntoField_0 : decode cX8_takeIntoField 0 = .ok (.aload_n 0, 1) := by decide +kernel
theorem dX8_takeIntoField_1 : decode cX8_takeIntoField 1 = .ok (.getfield 40, 3) := by decide +kernel
theorem dX8_takeIntoField_4 : decode cX8_takeIntoField 4 = .ok (.aload_n 1, 1) := by decide +kernel
theorem dX8_takeIntoField_5 : decode cX8_takeIntoField 5 = .ok (.getfield 344, 3) := by decide +kernel
theorem dX8_takeIntoField_8 : decode cX8_takeIntoField 8 = .ok (.invokevirtual 431, 3) := by decide +kernel
theorem dX8_takeIntoField_11 : decode cX8_takeIntoField 11 = .ok (.astore_n 3, 1) := by decide +kernel
theorem dX8_takeIntoField_12 : decode cX8_takeIntoField 12 = .ok (.aload_n 3, 1) := by decide +kernel
theorem dX8_takeIntoField_13 : decode cX8_takeIntoField 13 = .ok (.ifnull 11, 3) := by decide +kernel
theorem dX8_takeIntoField_16 : decode cX8_takeIntoField 16 = .ok (.aload_n 3, 1) := by decide +kernel
theorem dX8_takeIntoField_17 : decode cX8_takeIntoField 17 = .ok (.iload_n 2, 1) := by decide +kernel
theorem dX8_takeIntoField_18 : decode cX8_takeIntoField 18 = .ok (.invokevirtual 267, 3) := by decide +kernel
theorem dX8_takeIntoField_21 : decode cX8_takeIntoField 21 = .ok (.ifCond .ne 10, 3) := by decide +kernel
theorem dX8_takeIntoField_24 : decode cX8_takeIntoField 24 = .ok (.aload_n 0, 1) := by decide +kernel
theorem dX8_takeIntoField_25 : decode cX8_takeIntoField 25 = .ok (.bipush 107, 2) := by decide +kernel
theorem dX8_takeIntoField_27 : decode cX8_takeIntoField 27 = .ok (.invokevirtual 435, 3) := by decide +kernel
theorem dX8_takeIntoField_30 : decode cX8_takeIntoField 30 = .ok (.return_, 1) := by decide +kernel
theorem dX8_takeIntoField_31 : decode cX8_takeIntoField 31 = .ok (.aload_n 3, 1) := by decide +kernel
theorem dX8_takeIntoField_32 : decode cX8_takeIntoField 32 = .ok (.getfield 272, 3) := by decide +kernel
theorem dX8_takeIntoField_35 : decode cX8_takeIntoField 35 = .ok (.iload_n 2, 1) := by decide +kernel
theorem dX8_takeIntoField_36 : decode cX8_takeIntoField 36 = .ok (.aload_n 1, 1) := by decide +kernel
theorem dX8_takeIntoField_37 : decode cX8_takeIntoField 37 = .ok (.invokevirtual 409, 3) := by decide +kernel
theorem dX8_takeIntoField_40 : decode cX8_takeIntoField 40 = .ok (.invokestatic 203, 3) := by decide +kernel
theorem dX8_takeIntoField_43 : decode cX8_takeIntoField 43 = .ok (.aload_n 1, 1) := by decide +kernel
theorem dX8_takeIntoField_44 : decode cX8_takeIntoField 44 = .ok (.dup, 1) := by decide +kernel
theorem dX8_takeIntoField_45 : decode cX8_takeIntoField 45 = .ok (.getfield 324, 3) := by decide +kernel
theorem dX8_takeIntoField_48 : decode cX8_takeIntoField 48 = .ok (.iconst 1, 1) := by decide +kernel
theorem dX8_takeIntoField_49 : decode cX8_takeIntoField 49 = .ok (.iadd, 1) := by decide +kernel
theorem dX8_takeIntoField_50 : decode cX8_takeIntoField 50 = .ok (.putfield 324, 3) := by decide +kernel
theorem dX8_takeIntoField_53 : decode cX8_takeIntoField 53 = .ok (.return_, 1) := by decide +kernel
theorem dX8_reckon_0 : decode cX8_reckon 0 = .ok (.aload_n 1, 1) := by decide +kernel
theorem dX8_reckon_1 : decode cX8_reckon 1 = .ok (.iconst 1, 1) := by decide +kernel
theorem dX8_reckon_2 : decode cX8_reckon 2 = .ok (.invokevirtual 375, 3) := by decide +kernel
theorem dX8_reckon_5 : decode cX8_reckon 5 = .ok (.lstore_n 3, 1) := by decide +kernel
theorem dX8_reckon_6 : decode cX8_reckon 6 = .ok (.aload_n 1, 1) := by decide +kernel
theorem dX8_reckon_7 : decode cX8_reckon 7 = .ok (.iconst 0, 1) := by decide +kernel
theorem dX8_reckon_8 : decode cX8_reckon 8 = .ok (.invokevirtual 375, 3) := by decide +kernel
theorem dX8_reckon_11 : decode cX8_reckon 11 = .ok (.lstore 5, 2) := by decide +kernel
theorem dX8_reckon_13 : decode cX8_reckon 13 = .ok (.lload_n 3, 1) := by decide +kernel
theorem dX8_reckon_14 : decode cX8_reckon 14 = .ok (.invokestatic 382, 3) := by decide +kernel
theorem dX8_reckon_17 : decode cX8_reckon 17 = .ok (.ifCond .eq 11, 3) := by decide +kernel
theorem dX8_reckon_20 : decode cX8_reckon 20 = .ok (.lload 5, 2) := by decide +kernel
theorem dX8_reckon_22 : decode cX8_reckon 22 = .ok (.invokestatic 382, 3) := by decide +kernel
theorem dX8_reckon_25 : decode cX8_reckon 25 = .ok (.ifCond .ne 10, 3) := by decide +kernel
theorem dX8_reckon_28 : decode cX8_reckon 28 = .ok (.aload_n 0, 1) := by decide +kernel
theorem dX8_reckon_29 : decode cX8_reckon 29 = .ok (.bipush 107, 2) := by decide +kernel
theorem dX8_reckon_31 : decode cX8_reckon 31 = .ok (.invokevirtual 435, 3) := by decide +kernel
theorem dX8_reckon_34 : decode cX8_reckon 34 = .ok (.return_, 1) := by decide +kernel
theorem dX8_reckon_35 : decode cX8_reckon 35 = .ok (.iload_n 2, 1) := by decide +kernel
theorem dX8_reckon_36 : decode cX8_reckon 36 = .ok (.bipush 47, 2) := by decide +kernel
theorem dX8_reckon_38 : decode cX8_reckon 38 = .ok (.if_icmp .ne 18, 3) := by decide +kernel
theorem dX8_reckon_41 : decode cX8_reckon 41 = .ok (.lload 5, 2) := by decide +kernel
theorem dX8_reckon_43 : decode cX8_reckon 43 = .ok (.invokestatic 230, 3) := by decide +kernel
theorem dX8_reckon_46 : decode cX8_reckon 46 = .ok (.ifCond .ne 10, 3) := by decide +kernel
theorem dX8_reckon_49 : decode cX8_reckon 49 = .ok (.aload_n 0, 1) := by decide +kernel
theorem dX8_reckon_50 : decode cX8_reckon 50 = .ok (.bipush 122, 2) := by decide +kernel
theorem dX8_reckon_52 : decode cX8_reckon 52 = .ok (.invokevirtual 435, 3) := by decide +kernel
theorem dX8_reckon_55 : decode cX8_reckon 55 = .ok (.return_, 1) := by decide +kernel
theorem dX8_reckon_56 : decode cX8_reckon 56 = .ok (.aload_n 1, 1) := by decide +kernel
theorem dX8_reckon_57 : decode cX8_reckon 57 = .ok (.invokevirtual 409, 3) := by decide +kernel
theorem dX8_reckon_60 : decode cX8_reckon 60 = .ok (.pop2, 1) := by decide +kernel
theorem dX8_reckon_61 : decode cX8_reckon 61 = .ok (.aload_n 1, 1) := by decide +kernel
theorem dX8_reckon_62 : decode cX8_reckon 62 = .ok (.invokevirtual 409, 3) := by decide +kernel
theorem dX8_reckon_65 : decode cX8_reckon 65 = .ok (.pop2, 1) := by decide +kernel
theorem dX8_reckon_66 : decode cX8_reckon 66 = .ok (.aload_n 1, 1) := by decide +kernel
theorem dX8_reckon_67 : decode cX8_reckon 67 = .ok (.iload_n 2, 1) := by decide +kernel
theorem dX8_reckon_68 : decode cX8_reckon 68 = .ok (.lload_n 3, 1) := by decide +kernel
theorem dX8_reckon_69 : decode cX8_reckon 69 = .ok (.invokestatic 230, 3) := by decide +kernel
theorem dX8_reckon_72 : decode cX8_reckon 72 = .ok (.lload 5, 2) := by decide +kernel
theorem dX8_reckon_74 : decode cX8_reckon 74 = .ok (.invokestatic 230, 3) := by decide +kernel
theorem dX8_reckon_77 : decode cX8_reckon 77 = .ok (.invokestatic 439, 3) := by decide +kernel
theorem dX8_reckon_80 : decode cX8_reckon 80 = .ok (.invokestatic 199, 3) := by decide +kernel
theorem dX8_reckon_83 : decode cX8_reckon 83 = .ok (.invokevirtual 424, 3) := by decide +kernel
theorem dX8_reckon_86 : decode cX8_reckon 86 = .ok (.aload_n 1, 1) := by decide +kernel
theorem dX8_reckon_87 : decode cX8_reckon 87 = .ok (.dup, 1) := by decide +kernel
theorem dX8_reckon_88 : decode cX8_reckon 88 = .ok (.getfield 324, 3) := by decide +kernel
theorem dX8_reckon_91 : decode cX8_reckon 91 = .ok (.iconst 1, 1) := by decide +kernel
theorem dX8_reckon_92 : decode cX8_reckon 92 = .ok (.iadd, 1) := by decide +kernel
theorem dX8_reckon_93 : decode cX8_reckon 93 = .ok (.putfield 324, 3) := by decide +kernel
theorem dX8_reckon_96 : decode cX8_reckon 96 = .ok (.return_, 1) := by decide +kernel
theorem dX8_makeThing_0 : decode cX8_makeThing 0 = .ok (.aload_n 0, 1) := by decide +kernel
theorem dX8_makeThing_1 : decode cX8_makeThing 1 = .ok (.getfield 40, 3) := by decide +kernel
theorem dX8_makeThing_4 : decode cX8_makeThing 4 = .ok (.invokevirtual 212, 3) := by decide +kernel
theorem dX8_makeThing_7 : decode cX8_makeThing 7 = .ok (.ifCond .eq 10, 3) := by decide +kernel
theorem dX8_makeThing_10 : decode cX8_makeThing 10 = .ok (.aload_n 0, 1) := by decide +kernel
theorem dX8_makeThing_11 : decode cX8_makeThing 11 = .ok (.bipush 109, 2) := by decide +kernel
theorem dX8_makeThing_13 : decode cX8_makeThing 13 = .ok (.invokevirtual 435, 3) := by decide +kernel
theorem dX8_makeThing_16 : decode cX8_makeThing 16 = .ok (.return_, 1) := by decide +kernel
theorem dX8_makeThing_17 : decode cX8_makeThing 17 = .ok (.aload_n 1, 1) := by decide +kernel
theorem dX8_makeThing_18 : decode cX8_makeThing 18 = .ok (.aload_n 0, 1) := by decide +kernel
theorem dX8_makeThing_19 : decode cX8_makeThing 19 = .ok (.getfield 40, 3) := by decide +kernel
theorem dX8_makeThing_22 : decode cX8_makeThing 22 = .ok (.iload_n 2, 1) := by decide +kernel
theorem dX8_makeThing_23 : decode cX8_makeThing 23 = .ok (.aload_n 0, 1) := by decide +kernel
theorem dX8_makeThing_24 : decode cX8_makeThing 24 = .ok (.getfield 10, 3) := by decide +kernel
theorem dX8_makeThing_27 : decode cX8_makeThing 27 = .ok (.iload_n 2, 1) := by decide +kernel
theorem dX8_makeThing_28 : decode cX8_makeThing 28 = .ok (.invokevirtual 101, 3) := by decide +kernel
theorem dX8_makeThing_31 : decode cX8_makeThing 31 = .ok (.invokevirtual 218, 3) := by decide +kernel
theorem dX8_makeThing_34 : decode cX8_makeThing 34 = .ok (.invokestatic 219, 3) := by decide +kernel
theorem dX8_makeThing_37 : decode cX8_makeThing 37 = .ok (.invokevirtual 424, 3) := by decide +kernel
theorem dX8_makeThing_40 : decode cX8_makeThing 40 = .ok (.aload_n 1, 1) := by decide +kernel
theorem dX8_makeThing_41 : decode cX8_makeThing 41 = .ok (.dup, 1) := by decide +kernel
theorem dX8_makeThing_42 : decode cX8_makeThing 42 = .ok (.getfield 324, 3) := by decide +kernel
theorem dX8_makeThing_45 : decode cX8_makeThing 45 = .ok (.iconst 1, 1) := by decide +kernel
theorem dX8_makeThing_46 : decode cX8_makeThing 46 = .ok (.iadd, 1) := by decide +kernel
theorem dX8_makeThing_47 : decode cX8_makeThing 47 = .ok (.putfield 324, 3) := by decide +kernel
theorem dX8_makeThing_50 : decode cX8_makeThing 50 = .ok (.return_, 1) := by decide +kernel
theorem dX8_goThereIfNotZero_0 : decode cX8_goThereIfNotZero 0 = .ok (.aload_n 1, 1) := by decide +kernel
theorem dX8_goThereIfNotZero_1 : decode cX8_goThereIfNotZero 1 = .ok (.iconst 0, 1) := by decide +kernel
theorem dX8_goThereIfNotZero_2 : decode cX8_goThereIfNotZero 2 = .ok (.invokevirtual 375, 3) := by decide +kernel
theorem dX8_goThereIfNotZero_5 : decode cX8_goThereIfNotZero 5 = .ok (.lstore_n 3, 1) := by decide +kernel
theorem dX8_goThereIfNotZero_6 : decode cX8_goThereIfNotZero 6 = .ok (.lload_n 3, 1) := by decide +kernel
theorem dX8_goThereIfNotZero_7 : decode cX8_goThereIfNotZero 7 = .ok (.invokestatic 382, 3) := by decide +kernel
theorem dX8_goThereIfNotZero_10 : decode cX8_goThereIfNotZero 10 = .ok (.ifCond .ne 10, 3) := by decide +kernel
theorem dX8_goThereIfNotZero_13 : decode cX8_goThereIfNotZero 13 = .ok (.aload_n 0, 1) := by decide +kernel
theorem dX8_goThereIfNotZero_14 : decode cX8_goThereIfNotZero 14 = .ok (.bipush 107, 2) := by decide +kernel
theorem dX8_goThereIfNotZero_16 : decode cX8_goThereIfNotZero 16 = .ok (.invokevirtual 435, 3) := by decide +kernel
theorem dX8_goThereIfNotZero_19 : decode cX8_goThereIfNotZero 19 = .ok (.return_, 1) := by decide +kernel
theorem dX8_goThereIfNotZero_20 : decode cX8_goThereIfNotZero 20 = .ok (.aload_n 1, 1) := by decide +kernel
theorem dX8_goThereIfNotZero_21 : decode cX8_goThereIfNotZero 21 = .ok (.invokevirtual 409, 3) := by decide +kernel
theorem dX8_goThereIfNotZero_24 : decode cX8_goThereIfNotZero 24 = .ok (.pop2, 1) := by decide +kernel
theorem dX8_goThereIfNotZero_25 : decode cX8_goThereIfNotZero 25 = .ok (.aload_n 1, 1) := by decide +kernel
theorem dX8_goThereIfNotZero_26 : decode cX8_goThereIfNotZero 26 = .ok (.lload_n 3, 1) := by decide +kernel
theorem dX8_goThereIfNotZero_27 : decode cX8_goThereIfNotZero 27 = .ok (.invokestatic 230, 3) := by decide +kernel
theorem dX8_goThereIfNotZero_30 : decode cX8_goThereIfNotZero 30 = .ok (.ifCond .eq 7, 3) := by decide +kernel
theorem dX8_goThereIfNotZero_33 : decode cX8_goThereIfNotZero 33 = .ok (.iload_n 2, 1) := by decide +kernel
theorem dX8_goThereIfNotZero_34 : decode cX8_goThereIfNotZero 34 = .ok (.goto 9, 3) := by decide +kernel
theorem dX8_goThereIfNotZero_37 : decode cX8_goThereIfNotZero 37 = .ok (.aload_n 1, 1) := by decide +kernel
theorem dX8_goThereIfNotZero_38 : decode cX8_goThereIfNotZero 38 = .ok (.getfield 324, 3) := by decide +kernel
theorem dX8_goThereIfNotZero_41 : decode cX8_goThereIfNotZero 41 = .ok (.iconst 1, 1) := by decide +kernel
theorem dX8_goThereIfNotZero_42 : decode cX8_goThereIfNotZero 42 = .ok (.iadd, 1) := by decide +kernel
theorem dX8_goThereIfNotZero_43 : decode cX8_goThereIfNotZero 43 = .ok (.putfield 324, 3) := by decide +kernel
theorem dX8_goThereIfNotZero_46 : decode cX8_goThereIfNotZero 46 = .ok (.return_, 1) := by decide +kernel
theorem dX8_giveBack_0 : decode cX8_giveBack 0 = .ok (.aload_n 0, 1) := by decide +kernel
theorem dX8_giveBack_1 : decode cX8_giveBack 1 = .ok (.dup, 1) := by decide +kernel
theorem dX8_giveBack_2 : decode cX8_giveBack 2 = .ok (.getfield 50, 3) := by decide +kernel
theorem dX8_giveBack_5 : decode cX8_giveBack 5 = .ok (.iconst 1, 1) := by decide +kernel
theorem dX8_giveBack_6 : decode cX8_giveBack 6 = .ok (.isub, 1) := by decide +kernel
theorem dX8_giveBack_7 : decode cX8_giveBack 7 = .ok (.putfield 50, 3) := by decide +kernel
theorem dX8_giveBack_10 : decode cX8_giveBack 10 = .ok (.aload_n 0, 1) := by decide +kernel
theorem dX8_giveBack_11 : decode cX8_giveBack 11 = .ok (.aload_n 0, 1) := by decide +kernel
theorem dX8_giveBack_12 : decode cX8_giveBack 12 = .ok (.getfield 50, 3) := by decide +kernel
theorem dX8_giveBack_15 : decode cX8_giveBack 15 = .ok (.iconst 1, 1) := by decide +kernel
theorem dX8_giveBack_16 : decode cX8_giveBack 16 = .ok (.isub, 1) := by decide +kernel
theorem dX8_giveBack_17 : decode cX8_giveBack 17 = .ok (.invokevirtual 251, 3) := by decide +kernel
theorem dX8_giveBack_20 : decode cX8_giveBack 20 = .ok (.astore_n 3, 1) := by decide +kernel
theorem dX8_giveBack_21 : decode cX8_giveBack 21 = .ok (.aload_n 3, 1) := by decide +kernel
theorem dX8_giveBack_22 : decode cX8_giveBack 22 = .ok (.ifnonnull 15, 3) := by decide +kernel
theorem dX8_giveBack_25 : decode cX8_giveBack 25 = .ok (.aload_n 0, 1) := by decide +kernel
theorem dX8_giveBack_26 : decode cX8_giveBack 26 = .ok (.bipush 114, 2) := by decide +kernel
theorem dX8_giveBack_28 : decode cX8_giveBack 28 = .ok (.putfield 53, 3) := by decide +kernel
theorem dX8_giveBack_31 : decode cX8_giveBack 31 = .ok (.aload_n 0, 1) := by decide +kernel
theorem dX8_giveBack_32 : decode cX8_giveBack 32 = .ok (.lload_n 1, 1) := by decide +kernel
theorem dX8_giveBack_33 : decode cX8_giveBack 33 = .ok (.putfield 62, 3) := by decide +kernel
theorem dX8_giveBack_36 : decode cX8_giveBack 36 = .ok (.return_, 1) := by decide +kernel
theorem dX8_giveBack_37 : decode cX8_giveBack 37 = .ok (.aload_n 3, 1) := by decide +kernel
theorem dX8_giveBack_38 : decode cX8_giveBack 38 = .ok (.lload_n 1, 1) := by decide +kernel
theorem dX8_giveBack_39 : decode cX8_giveBack 39 = .ok (.invokevirtual 424, 3) := by decide +kernel
theorem dX8_giveBack_42 : decode cX8_giveBack 42 = .ok (.aload_n 3, 1) := by decide +kernel
theorem dX8_giveBack_43 : decode cX8_giveBack 43 = .ok (.dup, 1) := by decide +kernel
theorem dX8_giveBack_44 : decode cX8_giveBack 44 = .ok (.getfield 324, 3) := by decide +kernel
theorem dX8_giveBack_47 : decode cX8_giveBack 47 = .ok (.iconst 1, 1) := by decide +kernel
theorem dX8_giveBack_48 : decode cX8_giveBack 48 = .ok (.iadd, 1) := by decide +kernel
theorem dX8_giveBack_49 : decode cX8_giveBack 49 = .ok (.putfield 324, 3) := by decide +kernel
theorem dX8_giveBack_52 : decode cX8_giveBack 52 = .ok (.return_, 1) := by decide +kernel
theorem dX8_countCall_0 : decode cX8_countCall 0 = .ok (.aload_n 1, 1) := by decide +kernel
theorem dX8_countCall_1 : decode cX8_countCall 1 = .ok (.dup, 1) := by decide +kernel
theorem dX8_countCall_2 : decode cX8_countCall 2 = .ok (.getfield 163, 3) := by decide +kernel
theorem dX8_countCall_5 : decode cX8_countCall 5 = .ok (.iconst 1, 1) := by decide +kernel
theorem dX8_countCall_6 : decode cX8_countCall 6 = .ok (.iadd, 1) := by decide +kernel
theorem dX8_countCall_7 : decode cX8_countCall 7 = .ok (.putfield 163, 3) := by decide +kernel
theorem dX8_countCall_10 : decode cX8_countCall 10 = .ok (.aload_n 0, 1) := by decide +kernel
theorem dX8_countCall_11 : decode cX8_countCall 11 = .ok (.getfield 29, 3) := by decide +kernel
theorem dX8_countCall_14 : decode cX8_countCall 14 = .ok (.ifCond .eq 19, 3) := by decide +kernel
theorem dX8_countCall_17 : decode cX8_countCall 17 = .ok (.aload_n 1, 1) := by decide +kernel
theorem dX8_countCall_18 : decode cX8_countCall 18 = .ok (.getfield 163, 3) := by decide +kernel
theorem dX8_countCall_21 : decode cX8_countCall 21 = .ok (.aload_n 0, 1) := by decide +kernel
theorem dX8_countCall_22 : decode cX8_countCall 22 = .ok (.getfield 29, 3) := by decide +kernel
theorem dX8_countCall_25 : decode cX8_countCall 25 = .ok (.if_icmp .lt 8, 3) := by decide +kernel
theorem dX8_countCall_28 : decode cX8_countCall 28 = .ok (.aload_n 1, 1) := by decide +kernel
theorem dX8_countCall_29 : decode cX8_countCall 29 = .ok (.iconst 1, 1) := by decide +kernel
theorem dX8_countCall_30 : decode cX8_countCall 30 = .ok (.putfield 187, 3) := by decide +kernel
theorem dX8_countCall_33 : decode cX8_countCall 33 = .ok (.return_, 1) := by decide +kernel
theorem dX8_openFrame_0 : decode cX8_openFrame 0 = .ok (.aload_n 0, 1) := by decide +kernel
theorem dX8_openFrame_1 : decode cX8_openFrame 1 = .ok (.aload_n 0, 1) := by decide +kernel
theorem dX8_openFrame_2 : decode cX8_openFrame 2 = .ok (.getfield 50, 3) := by decide +kernel
theorem dX8_openFrame_5 : decode cX8_openFrame 5 = .ok (.invokevirtual 251, 3) := by decide +kernel
theorem dX8_openFrame_8 : decode cX8_openFrame 8 = .ok (.astore 4, 2) := by decide +kernel
theorem dX8_openFrame_10 : decode cX8_openFrame 10 = .ok (.aload 4, 2) := by decide +kernel
theorem dX8_openFrame_12 : decode cX8_openFrame 12 = .ok (.ifnull 25, 3) := by decide +kernel
theorem dX8_openFrame_15 : decode cX8_openFrame 15 = .ok (.aload 4, 2) := by decide +kernel
theorem dX8_openFrame_17 : decode cX8_openFrame 17 = .ok (.aload_n 1, 1) := by decide +kernel
theorem dX8_openFrame_18 : decode cX8_openFrame 18 = .ok (.lload_n 2, 1) := by decide +kernel
theorem dX8_openFrame_19 : decode cX8_openFrame 19 = .ok (.invokevirtual 360, 3) := by decide +kernel
theorem dX8_openFrame_22 : decode cX8_openFrame 22 = .ok (.aload_n 0, 1) := by decide +kernel
theorem dX8_openFrame_23 : decode cX8_openFrame 23 = .ok (.dup, 1) := by decide +kernel
theorem dX8_openFrame_24 : decode cX8_openFrame 24 = .ok (.getfield 50, 3) := by decide +kernel
theorem dX8_openFrame_27 : decode cX8_openFrame 27 = .ok (.iconst 1, 1) := by decide +kernel
theorem dX8_openFrame_28 : decode cX8_openFrame 28 = .ok (.iadd, 1) := by decide +kernel
theorem dX8_openFrame_29 : decode cX8_openFrame 29 = .ok (.putfield 50, 3) := by decide +kernel
theorem dX8_openFrame_32 : decode cX8_openFrame 32 = .ok (.aload_n 0, 1) := by decide +kernel
theorem dX8_openFrame_33 : decode cX8_openFrame 33 = .ok (.aload_n 1, 1) := by decide +kernel
theorem dX8_openFrame_34 : decode cX8_openFrame 34 = .ok (.invokevirtual 364, 3) := by decide +kernel
theorem dX8_openFrame_37 : decode cX8_openFrame 37 = .ok (.aload 4, 2) := by decide +kernel
theorem dX8_openFrame_39 : decode cX8_openFrame 39 = .ok (.areturn, 1) := by decide +kernel
section SITES
variable {p : Program} {l : Launch} {e : Env} {R : Room} {s : State} {m : MethodId} {args : Array Value} {below : List Frame} {meth : Method} {c : Code} {H : Heap} {locs : List Loc} {cells slots : Nat} {Q : State → Prop}
variable {pc : Nat} {ls : Array Slot} {rest : List Value} {D : va_G} {ar : Nat → ClassId} {κ : Nat → Nat} {A : Nat → Prop} {a : Nat} {H0 : Heap} {G : gW} {nz nL : Nat} {cc : ByteArray}
theorem m_3_122 : (Cond.constantLong RX8 505 (472446402560)) ∈ lwA := lwA_mk (ck_3 _ (List.mem_of_getElem? (i := 122) rfl)) rfl
theorem m_3_123 : (Cond.constantLong RX8 507 (4294967295)) ∈ lwA := lwA_mk (ck_3 _ (List.mem_of_getElem? (i := 123) rfl)) rfl
theorem m_3_231 : (Cond.constantLong RX8 509 (476741369856)) ∈ lwA := lwA_mk (ck_3 _ (List.mem_of_getElem? (i := 231) rfl)) rfl
theorem ck_4 : ∀ w ∈ tables_1_4, w ∈ lw_tbl := fun _ h => List.mem_append_right _ (List.mem_append_right _ (List.mem_append_right _ (List.mem_append_right _ (List.mem_append_left _ h))))
theorem m_4_133 : (Cond.constantLong RX8 491 (31)) ∈ lwA := lwA_mk (ck_4 _ (List.mem_of_getElem? (i := 133) rfl)) rfl
theorem m_4_132 : (Cond.code yX8_plus cX8_plus 4 (some .long)) ∈ lwA := lwA_mk (ck_4 _ (List.mem_of_getElem? (i := 132) rfl)) rfl
theorem m_4_130 : (Cond.methodLink RX8 453 yX8_plus) ∈ lwA := lwA_mk (ck_4 _ (List.mem_of_getElem? (i := 130) rfl)) rfl
theorem m_4_131 : (Cond.static yX8_plus) ∈ lwA := lwA_mk (ck_4 _ (List.mem_of_getElem? (i := 131) rfl)) rfl
theorem k_RX8_453 {args : Array Value} {s : State} {R rm : Room} (hts : ∀ w ∈ lwA, w.before args s = true) (hR : rm.frames + 1 ≤ R.frames ∧ 8 + (4 + 11) + rm.locals ≤ R.locals) : CallB R s args RX8 453 yX8_plus cX8_plus 4 (some .long) (lwC yX8_plus cX8_plus 4 (some .long)) rm rm.cells rm.slots 2 ∧ (Cond.static yX8_plus).before args s = true := cwS 2 hts (gdS m_4_130 m_4_131 m_1_1 m_4_132) rfl rfl rfl (by decide +kernel) hR
theorem m_3_167 : (Cond.methodLink RX8 230 yX8_numberOf) ∈ lwA := lwA_mk (ck_3 _ (List.mem_of_getElem? (i := 167) rfl)) rfl
theorem k_RX8_230 {args : Array Value} {s : State} {R rm : Room} (hts : ∀ w ∈ lwA, w.before args s = true) (hR : rm.frames + 1 ≤ R.frames ∧ 8 + (2 + 11) + rm.locals ≤ R.locals) : CallB R s args RX8 230 yX8_numberOf cX8_numberOf 2 (some .int) (lwC yX8_numberOf cX8_numberOf 2 (some .int)) rm rm.cells rm.slots 1 ∧ (Cond.static yX8_numberOf).before args s = true := cwS 1 hts (gdS m_3_167 m_2_227 m_1_1 m_2_228) rfl rfl rfl (by decide +kernel) hR
theorem m_3_166 : (Cond.methodLink RX8 382 yX8_isNumber) ∈ lwA := lwA_mk (ck_3 _ (List.mem_of_getElem? (i := 166) rfl)) rfl
theorem k_RX8_382 {args : Array Value} {s : State} {R rm : Room} (hts : ∀ w ∈ lwA, w.before args s = true) (hR : rm.frames + 1 ≤ R.frames ∧ 8 + (2 + 11) + rm.locals ≤ R.locals) : CallB R s args RX8 382 yX8_isNumber cX8_isNumber 2 (some .boolean) (lwC yX8_isNumber cX8_isNumber 2 (some .boolean)) rm rm.cells rm.slots 1 ∧ (Cond.static yX8_isNumber).before args s = true := cwS 1 hts (gdS m_3_166 m_3_80 m_1_1 m_3_81) rfl rfl rfl (by decide +kernel) hR
theorem m_3_145 : (Cond.code yX1_letter cX1_letter 1 (some .char)) ∈ lwA := lwA_mk (ck_3 _ (List.mem_of_getElem? (i := 145) rfl)) rfl
theorem m_3_142 : (Cond.methodLink RX8 368 yX1_letter) ∈ lwA := lwA_mk (ck_3 _ (List.mem_of_getElem? (i := 142) rfl)) rfl
theorem m_3_143 : (Cond.instanceMethod yX1_letter) ∈ lwA := lwA_mk (ck_3 _ (List.mem_of_getElem? (i := 143) rfl)) rfl
theorem m_3_144 : (Cond.selects RX1 yX1_letter yX1_letter) ∈ lwA := lwA_mk (ck_3 _ (List.mem_of_getElem? (i := 144) rfl)) rfl
theorem k_RX8_368 {args : Array Value} {s : State} {R rm : Room} (hts : ∀ w ∈ lwA, w.before args s = true) (hR : rm.frames + 1 ≤ R.frames ∧ 8 + (1 + 11) + rm.locals ≤ R.locals) : CallW R s args RX8 RX1 368 yX1_letter cX1_letter 1 (some .char) (lwC yX1_letter cX1_letter 1 (some .char)) rm rm.cells rm.slots 0 := cwV 0 hts (gdV m_3_142 m_3_143 m_3_144 m_1_11 m_3_145) rfl rfl rfl (by decide +kernel) hR
theorem m_3_154 : (Cond.code yX1_first cX1_first 1 (some .int)) ∈ lwA := lwA_mk (ck_3 _ (List.mem_of_getElem? (i := 154) rfl)) rfl
theorem m_3_151 : (Cond.methodLink RX8 372 yX1_first) ∈ lwA := lwA_mk (ck_3 _ (List.mem_of_getElem? (i := 151) rfl)) rfl
theorem m_3_152 : (Cond.instanceMethod yX1_first) ∈ lwA := lwA_mk (ck_3 _ (List.mem_of_getElem? (i := 152) rfl)) rfl
theorem m_3_153 : (Cond.selects RX1 yX1_first yX1_first) ∈ lwA := lwA_mk (ck_3 _ (List.mem_of_getElem? (i := 153) rfl)) rfl
theorem k_RX8_372 {args : Array Value} {s : State} {R rm : Room} (hts : ∀ w ∈ lwA, w.before args s = true) (hR : rm.frames + 1 ≤ R.frames ∧ 8 + (1 + 11) + rm.locals ≤ R.locals) : CallW R s args RX8 RX1 372 yX1_first cX1_first 1 (some .int) (lwC yX1_first cX1_first 1 (some .int)) rm rm.cells rm.slots 0 := cwV 0 hts (gdV m_3_151 m_3_152 m_3_153 m_1_11 m_3_154) rfl rfl rfl (by decide +kernel) hR
theorem gf_RX8_324_7 {A9 : Nat → Prop} {H9 : Heap} {fs : List Value} {v : Value} (S : CallFix p m c cc nL s args lwA RX8) (hE : g_E D vwCl (gT ar) (EX1 κ) A9 s H9) (w : g_S D vwCl A H0 G H locs nz) (ha : G a = some (.inr (7, fs))) (hv : fs[5]? = some v) (hdg : decode cc pc = .ok (.getfield 324, 3)) (kk : W p l e R s m args below meth c H locs cells slots Q (F0 m (pc + 3) ls (v :: rest))) : W p l e R s m args below meth c H locs cells slots Q (F0 m pc ls (.ref a :: rest)) :=
  va_getN (ci := 7) (C := RX1) (T := TX1) (N := 7) S.1 S.2.1 S.2.2.2.2 inA_RX1 S.2.2.2.1 hE.1 (g_1 w.1 ha) 0 rfl rfl 5 (by decide) (va_Nw.use rfl (hE.2.1.1 _ (ckN_0 _ (List.mem_of_getElem? (i := 25) rfl)))) (fun _ h => h) hv hdg kk
theorem m_3_162 : (Cond.code yX1_fromTop cX1_fromTop 2 (some .long)) ∈ lwA := lwA_mk (ck_3 _ (List.mem_of_getElem? (i := 162) rfl)) rfl
theorem m_3_159 : (Cond.methodLink RX8 375 yX1_fromTop) ∈ lwA := lwA_mk (ck_3 _ (List.mem_of_getElem? (i := 159) rfl)) rfl
theorem m_3_160 : (Cond.instanceMethod yX1_fromTop) ∈ lwA := lwA_mk (ck_3 _ (List.mem_of_getElem? (i := 160) rfl)) rfl
theorem m_3_161 : (Cond.selects RX1 yX1_fromTop yX1_fromTop) ∈ lwA := lwA_mk (ck_3 _ (List.mem_of_getElem? (i := 161) rfl)) rfl
theorem k_RX8_375 {args : Array Value} {s : State} {R rm : Room} (hts : ∀ w ∈ lwA, w.before args s = true) (hR : rm.frames + 1 ≤ R.frames ∧ 8 + (2 + 11) + rm.locals ≤ R.locals) : CallW R s args RX8 RX1 375 yX1_fromTop cX1_fromTop 2 (some .long) (lwC yX1_fromTop cX1_fromTop 2 (some .long)) rm rm.cells rm.slots 1 := cwV 1 hts (gdV m_3_159 m_3_160 m_3_161 m_1_11 m_3_162) rfl rfl rfl (by decide +kernel) hR
theorem m_3_165 : (Cond.code yX8_isGoingThere cX8_isGoingThere 2 (some .boolean)) ∈ lwA := lwA_mk (ck_3 _ (List.mem_of_getElem? (i := 165) rfl)) rfl
theorem m_3_163 : (Cond.methodLink RX8 378 yX8_isGoingThere) ∈ lwA := lwA_mk (ck_3 _ (List.mem_of_getElem? (i := 163) rfl)) rfl
theorem m_3_164 : (Cond.static yX8_isGoingThere) ∈ lwA := lwA_mk (ck_3 _ (List.mem_of_getElem? (i := 164) rfl)) rfl
theorem k_RX8_378 {args : Array Value} {s : State} {R rm : Room} (hts : ∀ w ∈ lwA, w.before args s = true) (hR : rm.frames + 1 ≤ R.frames ∧ 8 + (2 + 11) + rm.locals ≤ R.locals) : CallB R s args RX8 378 yX8_isGoingThere cX8_isGoingThere 2 (some .boolean) (lwC yX8_isGoingThere cX8_isGoingThere 2 (some .boolean)) rm rm.cells rm.slots 1 ∧ (Cond.static yX8_isGoingThere).before args s = true := cwS 1 hts (gdS m_3_163 m_3_164 m_1_1 m_3_165) rfl rfl rfl (by decide +kernel) hR
theorem gf_RX8_296_7 {A9 : Nat → Prop} {H9 : Heap} {fs : List Value} {v : Value} (S : CallFix p m c cc nL s args lwA RX8) (hE : g_E D vwCl (gT ar) (EX1 κ) A9 s H9) (w : g_S D vwCl A H0 G H locs nz) (ha : G a = some (.inr (7, fs))) (hv : fs[0]? = some v) (hdg : decode cc pc = .ok (.getfield 296, 3)) (kk : W p l e R s m args below meth c H locs cells slots Q (F0 m (pc + 3) ls (v :: rest))) : W p l e R s m args below meth c H locs cells slots Q (F0 m pc ls (.ref a :: rest)) :=
  va_getN (ci := 7) (C := RX1) (T := TX1) (N := 7) S.1 S.2.1 S.2.2.2.2 inA_RX1 S.2.2.2.1 hE.1 (g_1 w.1 ha) 0 rfl rfl 0 (by decide) (va_Nw.use rfl (hE.2.1.1 _ (ckN_0 _ (List.mem_of_getElem? (i := 22) rfl)))) (fun _ h => h) hv hdg kk
theorem m_3_74 : (Cond.methodLink RX8 222 yX8_placeAt) ∈ lwA := lwA_mk (ck_3 _ (List.mem_of_getElem? (i := 74) rfl)) rfl
theorem k_RX8_222 {args : Array Value} {s : State} {R rm : Room} (hts : ∀ w ∈ lwA, w.before args s = true) (hR : rm.frames + 1 ≤ R.frames ∧ 8 + (2 + 11) + rm.locals ≤ R.locals) : CallB R s args RX8 222 yX8_placeAt cX8_placeAt 2 (some .long) (lwC yX8_placeAt cX8_placeAt 2 (some .long)) rm rm.cells rm.slots 2 ∧ (Cond.static yX8_placeAt).before args s = true := cwS 2 hts (gdS m_3_74 m_3_19 m_1_1 m_3_20) rfl rfl rfl (by decide +kernel) hR
theorem m_3_121 : (Cond.code yX8_ofNumber cX8_ofNumber 1 (some .long)) ∈ lwA := lwA_mk (ck_3 _ (List.mem_of_getElem? (i := 121) rfl)) rfl
theorem m_3_119 : (Cond.methodLink RX8 199 yX8_ofNumber) ∈ lwA := lwA_mk (ck_3 _ (List.mem_of_getElem? (i := 119) rfl)) rfl
theorem m_3_120 : (Cond.static yX8_ofNumber) ∈ lwA := lwA_mk (ck_3 _ (List.mem_of_getElem? (i := 120) rfl)) rfl
theorem k_RX8_199 {args : Array Value} {s : State} {R rm : Room} (hts : ∀ w ∈ lwA, w.before args s = true) (hR : rm.frames + 1 ≤ R.frames ∧ 8 + (1 + 11) + rm.locals ≤ R.locals) : CallB R s args RX8 199 yX8_ofNumber cX8_ofNumber 1 (some .long) (lwC yX8_ofNumber cX8_ofNumber 1 (some .long)) rm rm.cells rm.slots 1 ∧ (Cond.static yX8_ofNumber).before args s = true := cwS 1 hts (gdS m_3_119 m_3_120 m_1_1 m_3_121) rfl rfl rfl (by decide +kernel) hR
theorem gf_RX8_344_7 {A9 : Nat → Prop} {H9 : Heap} {fs : List Value} {v : Value} (S : CallFix p m c cc nL s args lwA RX8) (hE : g_E D vwCl (gT ar) (EX1 κ) A9 s H9) (w : g_S D vwCl A H0 G H locs nz) (ha : G a = some (.inr (7, fs))) (hv : fs[4]? = some v) (hdg : decode cc pc = .ok (.getfield 344, 3)) (kk : W p l e R s m args below meth c H locs cells slots Q (F0 m (pc + 3) ls (v :: rest))) : W p l e R s m args below meth c H locs cells slots Q (F0 m pc ls (.ref a :: rest)) :=
  va_getN (ci := 7) (C := RX1) (T := TX1) (N := 7) S.1 S.2.1 S.2.2.2.2 inA_RX1 S.2.2.2.1 hE.1 (g_1 w.1 ha) 0 rfl rfl 4 (by decide) (va_Nw.use rfl (hE.2.1.1 _ (ckN_0 _ (List.mem_of_getElem? (i := 24) rfl)))) (fun _ h => h) hv hdg kk
theorem gf_RX8_419_7 {A9 : Nat → Prop} {H9 : Heap} {fs : List Value} {v : Value} (S : CallFix p m c cc nL s args lwA RX8) (hE : g_E D vwCl (gT ar) (EX1 κ) A9 s H9) (w : g_S D vwCl A H0 G H locs nz) (ha : G a = some (.inr (7, fs))) (hv : fs[1]? = some v) (hdg : decode cc pc = .ok (.getfield 419, 3)) (kk : W p l e R s m args below meth c H locs cells slots Q (F0 m (pc + 3) ls (v :: rest))) : W p l e R s m args below meth c H locs cells slots Q (F0 m pc ls (.ref a :: rest)) :=
  va_getN (ci := 7) (C := RX1) (T := TX1) (N := 7) S.1 S.2.1 S.2.2.2.2 inA_RX1 S.2.2.2.1 hE.1 (g_1 w.1 ha) 0 rfl rfl 1 (by decide) (va_Nw.use rfl (hE.2.1.1 _ (ckN_0 _ (List.mem_of_getElem? (i := 23) rfl)))) (fun _ h => h) hv hdg kk
theorem gf_RX8_40_14 {A9 : Nat → Prop} {H9 : Heap} {fs : List Value} {v : Value} (S : CallFix p m c cc nL s args lwA RX8) (hE : g_E D vwCl (gT ar) (EX1 κ) A9 s H9) (w : g_S D vwCl A H0 G H locs nz) (ha : G a = some (.inr (14, fs))) (hv : fs[5]? = some v) (hdg : decode cc pc = .ok (.getfield 40, 3)) (kk : W p l e R s m args below meth c H locs cells slots Q (F0 m (pc + 3) ls (v :: rest))) : W p l e R s m args below meth c H locs cells slots Q (F0 m pc ls (.ref a :: rest)) :=
  va_get (ci := 14) (C := RX8) (T := TX8) (N := 13) S.1 S.2.1 S.2.2.2.2 inA_RX8 S.2.2.2.1 hE.1 (g_1 w.1 ha) 0 rfl rfl 5 (by decide) (S.2.2.2.2 _ m_2_10) (fun _ h => h) hv hdg kk
theorem m_3_176 : (Cond.methodLink RX8 431 yX5_ofValue) ∈ lwA := lwA_mk (ck_3 _ (List.mem_of_getElem? (i := 176) rfl)) rfl
theorem k_RX8_431 {args : Array Value} {s : State} {R rm : Room} (hts : ∀ w ∈ lwA, w.before args s = true) (hR : rm.frames + 1 ≤ R.frames ∧ 8 + (3 + 11) + rm.locals ≤ R.locals) : CallW R s args RX8 RX5 431 yX5_ofValue cX5_ofValue 3 (some (.object "Sendhouse$Thing")) (lwC yX5_ofValue cX5_ofValue 3 (some (.object "Sendhouse$Thing"))) rm rm.cells rm.slots 1 := cwV 1 hts (gdV m_3_176 m_2_217 m_2_218 m_1_4 m_2_219) rfl rfl rfl (by decide +kernel) hR
theorem m_3_185 : (Cond.code yX8_fault cX8_fault 2 none) ∈ lwA := lwA_mk (ck_3 _ (List.mem_of_getElem? (i := 185) rfl)) rfl
theorem m_3_182 : (Cond.methodLink RX8 435 yX8_fault) ∈ lwA := lwA_mk (ck_3 _ (List.mem_of_getElem? (i := 182) rfl)) rfl
theorem m_3_184 : (Cond.instanceMethod yX8_fault) ∈ lwA := lwA_mk (ck_3 _ (List.mem_of_getElem? (i := 184) rfl)) rfl
theorem ms_13 : (Cond.selects RX8 yX8_fault yX8_fault) ∈ lwA := lwA_mk (List.mem_append_left _ (List.mem_of_getElem? (i := 13) rfl)) rfl
theorem k_RX8_435 {args : Array Value} {s : State} {R rm : Room} (hts : ∀ w ∈ lwA, w.before args s = true) (hR : rm.frames + 1 ≤ R.frames ∧ 8 + (2 + 11) + rm.locals ≤ R.locals) : CallW R s args RX8 RX8 435 yX8_fault cX8_fault 2 none (lwC yX8_fault cX8_fault 2 none) rm rm.cells rm.slots 1 := cwV 1 hts (gdV m_3_182 m_3_184 ms_13 m_1_1 m_3_185) rfl rfl rfl (by decide +kernel) hR
theorem m_3_180 : (Cond.code yX4_hasField cX4_hasField 2 (some .boolean)) ∈ lwA := lwA_mk (ck_3 _ (List.mem_of_getElem? (i := 180) rfl)) rfl
theorem m_3_177 : (Cond.methodLink RX8 267 yX4_hasField) ∈ lwA := lwA_mk (ck_3 _ (List.mem_of_getElem? (i := 177) rfl)) rfl
theorem m_3_178 : (Cond.instanceMethod yX4_hasField) ∈ lwA := lwA_mk (ck_3 _ (List.mem_of_getElem? (i := 178) rfl)) rfl
theorem m_3_179 : (Cond.selects RX4 yX4_hasField yX4_hasField) ∈ lwA := lwA_mk (ck_3 _ (List.mem_of_getElem? (i := 179) rfl)) rfl
theorem k_RX8_267 {args : Array Value} {s : State} {R rm : Room} (hts : ∀ w ∈ lwA, w.before args s = true) (hR : rm.frames + 1 ≤ R.frames ∧ 8 + (2 + 11) + rm.locals ≤ R.locals) : CallW R s args RX8 RX4 267 yX4_hasField cX4_hasField 2 (some .boolean) (lwC yX4_hasField cX4_hasField 2 (some .boolean)) rm rm.cells rm.slots 1 := cwV 1 hts (gdV m_3_177 m_3_178 m_3_179 m_1_5 m_3_180) rfl rfl rfl (by decide +kernel) hR
theorem gf_RX8_272_10 {A9 : Nat → Prop} {H9 : Heap} {fs : List Value} {v : Value} (S : CallFix p m c cc nL s args lwA RX8) (hE : g_E D vwCl (gT ar) (EX1 κ) A9 s H9) (w : g_S D vwCl A H0 G H locs nz) (ha : G a = some (.inr (10, fs))) (hv : fs[0]? = some v) (hdg : decode cc pc = .ok (.getfield 272, 3)) (kk : W p l e R s m args below meth c H locs cells slots Q (F0 m (pc + 3) ls (v :: rest))) : W p l e R s m args below meth c H locs cells slots Q (F0 m pc ls (.ref a :: rest)) :=
  va_getN (ci := 10) (C := RX4) (T := TX4) (N := 5) S.1 S.2.1 S.2.2.2.2 inA_RX4 S.2.2.2.1 hE.1 (g_1 w.1 ha) 0 rfl rfl 0 (by decide) (va_Nw.use rfl (hE.2.1.1 _ (ckN_0 _ (List.mem_of_getElem? (i := 8) rfl)))) (fun _ h => h) hv hdg kk
theorem m_3_189 : (Cond.code yX1_push cX1_push 3 none) ∈ lwA := lwA_mk (ck_3 _ (List.mem_of_getElem? (i := 189) rfl)) rfl
theorem m_3_186 : (Cond.methodLink RX8 424 yX1_push) ∈ lwA := lwA_mk (ck_3 _ (List.mem_of_getElem? (i := 186) rfl)) rfl
theorem m_3_187 : (Cond.instanceMethod yX1_push) ∈ lwA := lwA_mk (ck_3 _ (List.mem_of_getElem? (i := 187) rfl)) rfl
theorem m_3_188 : (Cond.selects RX1 yX1_push yX1_push) ∈ lwA := lwA_mk (ck_3 _ (List.mem_of_getElem? (i := 188) rfl)) rfl
theorem k_RX8_424 {args : Array Value} {s : State} {R rm : Room} (hts : ∀ w ∈ lwA, w.before args s = true) (hR : rm.frames + 1 ≤ R.frames ∧ 8 + (3 + 11) + rm.locals ≤ R.locals) : CallW R s args RX8 RX1 424 yX1_push cX1_push 3 none (lwC yX1_push cX1_push 3 none) rm rm.cells rm.slots 1 := cwV 1 hts (gdV m_3_186 m_3_187 m_3_188 m_1_11 m_3_189) rfl rfl rfl (by decide +kernel) hR
theorem pf_RX8_324_7 {A9 : Nat → Prop} {H9 : Heap} {fs : List Value} {v : Value} (S : CallFix p m c cc nL s args lwA RX8) (hE : g_E D vwCl (gT ar) (EX1 κ) A9 s H9) (w : g_S D vwCl A H0 G H locs nz) (ha : G a = some (.inr (7, fs))) (hn : narrow .int v = v) (hfit : fits .int v = true) (hl : 5 < fs.length) {fs1 : List Value} (hfs : fs.set 5 v = fs1) (hdg : decode cc pc = .ok (.putfield 324, 3)) (kk : ∀ (H1 : Heap) (locs1 : List Loc), g_S D vwCl A H0 (g_up G a (.inr (7, fs1))) H1 locs1 nz → W p l e R s m args below meth c H1 locs1 cells slots Q (F0 m (pc + 3) ls rest)) : W p l e R s m args below meth c H locs cells slots Q (F0 m pc ls (v :: .ref a :: rest)) :=
  g_putN (ci := 7) (ty := .int) (C := RX1) (T := TX1) (N := 7) S.1 S.2.1 S.2.2.2.2 inA_RX1 tyX1 tyX1_ok nmX1 S.2.2.2.1 hE.1 w ha rfl 5 (by decide) (va_Nw.use rfl (hE.2.1.1 _ (ckN_0 _ (List.mem_of_getElem? (i := 25) rfl)))) (fun _ h => h) rfl (by decide +kernel) hn hfit hl hdg (fun H1 l1 w1 => kk H1 l1 (by rw [← hfs]; exact w1))
theorem m_3_198 : (Cond.code yX1_pop cX1_pop 1 (some .long)) ∈ lwA := lwA_mk (ck_3 _ (List.mem_of_getElem? (i := 198) rfl)) rfl
theorem m_3_195 : (Cond.methodLink RX8 409 yX1_pop) ∈ lwA := lwA_mk (ck_3 _ (List.mem_of_getElem? (i := 195) rfl)) rfl
theorem m_3_196 : (Cond.instanceMethod yX1_pop) ∈ lwA := lwA_mk (ck_3 _ (List.mem_of_getElem? (i := 196) rfl)) rfl
theorem m_3_197 : (Cond.selects RX1 yX1_pop yX1_pop) ∈ lwA := lwA_mk (ck_3 _ (List.mem_of_getElem? (i := 197) rfl)) rfl
theorem k_RX8_409 {args : Array Value} {s : State} {R rm : Room} (hts : ∀ w ∈ lwA, w.before args s = true) (hR : rm.frames + 1 ≤ R.frames ∧ 8 + (1 + 11) + rm.locals ≤ R.locals) : CallW R s args RX8 RX1 409 yX1_pop cX1_pop 1 (some .long) (lwC yX1_pop cX1_pop 1 (some .long)) rm rm.cells rm.slots 0 := cwV 0 hts (gdV m_3_195 m_3_196 m_3_197 m_1_11 m_3_198) rfl rfl rfl (by decide +kernel) hR
theorem m_3_126 : (Cond.code yX8_putAt cX8_putAt 4 none) ∈ lwA := lwA_mk (ck_3 _ (List.mem_of_getElem? (i := 126) rfl)) rfl
theorem m_3_124 : (Cond.methodLink RX8 203 yX8_putAt) ∈ lwA := lwA_mk (ck_3 _ (List.mem_of_getElem? (i := 124) rfl)) rfl
theorem m_3_125 : (Cond.static yX8_putAt) ∈ lwA := lwA_mk (ck_3 _ (List.mem_of_getElem? (i := 125) rfl)) rfl
theorem k_RX8_203 {args : Array Value} {s : State} {R rm : Room} (hts : ∀ w ∈ lwA, w.before args s = true) (hR : rm.frames + 1 ≤ R.frames ∧ 8 + (4 + 11) + rm.locals ≤ R.locals) : CallB R s args RX8 203 yX8_putAt cX8_putAt 4 none (lwC yX8_putAt cX8_putAt 4 none) rm rm.cells rm.slots 3 ∧ (Cond.static yX8_putAt).before args s = true := cwS 3 hts (gdS m_3_124 m_3_125 m_1_1 m_3_126) rfl rfl rfl (by decide +kernel) hR
theorem m_3_205 : (Cond.code yX8_outcome cX8_outcome 3 (some .int)) ∈ lwA := lwA_mk (ck_3 _ (List.mem_of_getElem? (i := 205) rfl)) rfl
theorem m_3_203 : (Cond.methodLink RX8 439 yX8_outcome) ∈ lwA := lwA_mk (ck_3 _ (List.mem_of_getElem? (i := 203) rfl)) rfl
theorem m_3_204 : (Cond.static yX8_outcome) ∈ lwA := lwA_mk (ck_3 _ (List.mem_of_getElem? (i := 204) rfl)) rfl
theorem k_RX8_439 {args : Array Value} {s : State} {R rm : Room} (hts : ∀ w ∈ lwA, w.before args s = true) (hR : rm.frames + 1 ≤ R.frames ∧ 8 + (3 + 11) + rm.locals ≤ R.locals) : CallB R s args RX8 439 yX8_outcome cX8_outcome 3 (some .int) (lwC yX8_outcome cX8_outcome 3 (some .int)) rm rm.cells rm.slots 3 ∧ (Cond.static yX8_outcome).before args s = true := cwS 3 hts (gdS m_3_203 m_3_204 m_1_1 m_3_205) rfl rfl rfl (by decide +kernel) hR
theorem m_3_213 : (Cond.code yX5_isFull cX5_isFull 1 (some .boolean)) ∈ lwA := lwA_mk (ck_3 _ (List.mem_of_getElem? (i := 213) rfl)) rfl
theorem m_3_210 : (Cond.methodLink RX8 212 yX5_isFull) ∈ lwA := lwA_mk (ck_3 _ (List.mem_of_getElem? (i := 210) rfl)) rfl
theorem m_3_211 : (Cond.instanceMethod yX5_isFull) ∈ lwA := lwA_mk (ck_3 _ (List.mem_of_getElem? (i := 211) rfl)) rfl
theorem m_3_212 : (Cond.selects RX5 yX5_isFull yX5_isFull) ∈ lwA := lwA_mk (ck_3 _ (List.mem_of_getElem? (i := 212) rfl)) rfl
theorem k_RX8_212 {args : Array Value} {s : State} {R rm : Room} (hts : ∀ w ∈ lwA, w.before args s = true) (hR : rm.frames + 1 ≤ R.frames ∧ 8 + (1 + 11) + rm.locals ≤ R.locals) : CallW R s args RX8 RX5 212 yX5_isFull cX5_isFull 1 (some .boolean) (lwC yX5_isFull cX5_isFull 1 (some .boolean)) rm rm.cells rm.slots 0 := cwV 0 hts (gdV m_3_210 m_3_211 m_3_212 m_1_4 m_3_213) rfl rfl rfl (by decide +kernel) hR
theorem m_3_214 : (Cond.methodLink RX8 101 yX0_fieldsOf) ∈ lwA := lwA_mk (ck_3 _ (List.mem_of_getElem? (i := 214) rfl)) rfl
theorem k_RX8_101 {args : Array Value} {s : State} {R rm : Room} (hts : ∀ w ∈ lwA, w.before args s = true) (hR : rm.frames + 1 ≤ R.frames ∧ 8 + (2 + 11) + rm.locals ≤ R.locals) : CallW R s args RX8 RX0 101 yX0_fieldsOf cX0_fieldsOf 2 (some .int) (lwC yX0_fieldsOf cX0_fieldsOf 2 (some .int)) rm rm.cells rm.slots 1 := cwV 1 hts (gdV m_3_214 m_3_215 m_3_216 m_1_2 m_3_217) rfl rfl rfl (by decide +kernel) hR
theorem m_3_221 : (Cond.code yX5_enlist cX5_enlist 5 (some .int)) ∈ lwA := lwA_mk (ck_3 _ (List.mem_of_getElem? (i := 221) rfl)) rfl
theorem m_3_218 : (Cond.methodLink RX8 218 yX5_enlist) ∈ lwA := lwA_mk (ck_3 _ (List.mem_of_getElem? (i := 218) rfl)) rfl
theorem m_3_219 : (Cond.instanceMethod yX5_enlist) ∈ lwA := lwA_mk (ck_3 _ (List.mem_of_getElem? (i := 219) rfl)) rfl
theorem m_3_220 : (Cond.selects RX5 yX5_enlist yX5_enlist) ∈ lwA := lwA_mk (ck_3 _ (List.mem_of_getElem? (i := 220) rfl)) rfl
theorem k_RX8_218 {args : Array Value} {s : State} {R rm : Room} (hts : ∀ w ∈ lwA, w.before args s = true) (hR : rm.frames + 1 ≤ R.frames ∧ 8 + (5 + 11) + rm.locals ≤ R.locals) : CallW R s args RX8 RX5 218 yX5_enlist cX5_enlist 5 (some .int) (lwC yX5_enlist cX5_enlist 5 (some .int)) rm rm.cells rm.slots 2 := cwV 2 hts (gdV m_3_218 m_3_219 m_3_220 m_1_4 m_3_221) rfl rfl rfl (by decide +kernel) hR
theorem m_3_230 : (Cond.code yX8_ofThing cX8_ofThing 1 (some .long)) ∈ lwA := lwA_mk (ck_3 _ (List.mem_of_getElem? (i := 230) rfl)) rfl
theorem m_3_228 : (Cond.methodLink RX8 219 yX8_ofThing) ∈ lwA := lwA_mk (ck_3 _ (List.mem_of_getElem? (i := 228) rfl)) rfl
theorem m_3_229 : (Cond.static yX8_ofThing) ∈ lwA := lwA_mk (ck_3 _ (List.mem_of_getElem? (i := 229) rfl)) rfl
theorem k_RX8_219 {args : Array Value} {s : State} {R rm : Room} (hts : ∀ w ∈ lwA, w.before args s = true) (hR : rm.frames + 1 ≤ R.frames ∧ 8 + (1 + 11) + rm.locals ≤ R.locals) : CallB R s args RX8 219 yX8_ofThing cX8_ofThing 1 (some .long) (lwC yX8_ofThing cX8_ofThing 1 (some .long)) rm rm.cells rm.slots 1 ∧ (Cond.static yX8_ofThing).before args s = true := cwS 1 hts (gdS m_3_228 m_3_229 m_1_1 m_3_230) rfl rfl rfl (by decide +kernel) hR
theorem gf_RX8_50_14 {A9 : Nat → Prop} {H9 : Heap} {fs : List Value} {v : Value} (S : CallFix p m c cc nL s args lwA RX8) (hE : g_E D vwCl (gT ar) (EX1 κ) A9 s H9) (w : g_S D vwCl A H0 G H locs nz) (ha : G a = some (.inr (14, fs))) (hv : fs[7]? = some v) (hdg : decode cc pc = .ok (.getfield 50, 3)) (kk : W p l e R s m args below meth c H locs cells slots Q (F0 m (pc + 3) ls (v :: rest))) : W p l e R s m args below meth c H locs cells slots Q (F0 m pc ls (.ref a :: rest)) :=
  va_get (ci := 14) (C := RX8) (T := TX8) (N := 13) S.1 S.2.1 S.2.2.2.2 inA_RX8 S.2.2.2.1 hE.1 (g_1 w.1 ha) 0 rfl rfl 7 (by decide) (S.2.2.2.2 _ m_2_12) (fun _ h => h) hv hdg kk
theorem Ho_ab_sfn {v9 : Ho} {y9 : Int32} : (v9.sfn y9).ab = v9.ab := rfl
theorem Ho_fc_sfn {v9 : Ho} {y9 : Int32} : (v9.sfn y9).fc = v9.fc := rfl
theorem Ho_cn_sfn {v9 : Ho} {y9 : Int32} : (v9.sfn y9).cn = v9.cn := rfl
theorem Ho_me_sfn {v9 : Ho} {y9 : Int32} : (v9.sfn y9).me = v9.me := rfl
theorem Ho_nt_sfn {v9 : Ho} {y9 : Int32} : (v9.sfn y9).nt = v9.nt := rfl
theorem Ho_nr_sfn {v9 : Ho} {y9 : Int32} : (v9.sfn y9).nr = v9.nr := rfl
theorem Ho_to_sfn {v9 : Ho} {y9 : Int32} : (v9.sfn y9).to = v9.to := rfl
theorem Ho_ro_sfn {v9 : Ho} {y9 : Int32} : (v9.sfn y9).ro = v9.ro := rfl
theorem Ho_gl_sfn {v9 : Ho} {y9 : Int32} : (v9.sfn y9).gl = v9.gl := rfl
theorem Ho_al_sfn {v9 : Ho} {y9 : Int32} : (v9.sfn y9).al = v9.al := rfl
theorem Ho_re_sfn {v9 : Ho} {y9 : Int32} : (v9.sfn y9).re = v9.re := rfl
theorem Ho_th_sfn {v9 : Ho} {y9 : Int32} : (v9.sfn y9).th = v9.th := rfl
theorem Ho_tc_sfn {v9 : Ho} {y9 : Int32} : (v9.sfn y9).tc = v9.tc := rfl
theorem Ho_rc_sfn {v9 : Ho} {y9 : Int32} : (v9.sfn y9).rc = v9.rc := rfl
theorem Ho_mk_sfn {v9 : Ho} {y9 : Int32} : (v9.sfn y9).mk = v9.mk := rfl
theorem Ho_fr_sfn {v9 : Ho} {y9 : Int32} : (v9.sfn y9).fr = v9.fr := rfl
theorem Ho_np_sfn {v9 : Ho} {y9 : Int32} : (v9.sfn y9).np = v9.np := rfl
theorem Ho_pg_sfn {v9 : Ho} {y9 : Int32} : (v9.sfn y9).pg = v9.pg := rfl
theorem Ho_wc_sfn {v9 : Ho} {y9 : Int32} : (v9.sfn y9).wc = v9.wc := rfl
theorem Ho_ws_sfn {v9 : Ho} {y9 : Int32} : (v9.sfn y9).ws = v9.ws := rfl
theorem Ho_wp_sfn {v9 : Ho} {y9 : Int32} : (v9.sfn y9).wp = v9.wp := rfl
theorem m_2_237 : (Cond.code yX8_frameAt cX8_frameAt 2 (some (.object "Sendhouse$Frame"))) ∈ lwA := lwA_mk (ck_2 _ (List.mem_of_getElem? (i := 237) rfl)) rfl
theorem m_2_234 : (Cond.methodLink RX8 251 yX8_frameAt) ∈ lwA := lwA_mk (ck_2 _ (List.mem_of_getElem? (i := 234) rfl)) rfl
theorem m_2_236 : (Cond.instanceMethod yX8_frameAt) ∈ lwA := lwA_mk (ck_2 _ (List.mem_of_getElem? (i := 236) rfl)) rfl
theorem ms_5 : (Cond.selects RX8 yX8_frameAt yX8_frameAt) ∈ lwA := lwA_mk (List.mem_append_left _ (List.mem_of_getElem? (i := 5) rfl)) rfl
theorem k_RX8_251 {args : Array Value} {s : State} {R rm : Room} (hts : ∀ w ∈ lwA, w.before args s = true) (hR : rm.frames + 1 ≤ R.frames ∧ 8 + (2 + 11) + rm.locals ≤ R.locals) : CallW R s args RX8 RX8 251 yX8_frameAt cX8_frameAt 2 (some (.object "Sendhouse$Frame")) (lwC yX8_frameAt cX8_frameAt 2 (some (.object "Sendhouse$Frame"))) rm rm.cells rm.slots 1 := cwV 1 hts (gdV m_2_234 m_2_236 ms_5 m_1_1 m_2_237) rfl rfl rfl (by decide +kernel) hR
theorem Ho_ab_san {v9 : Ho} {y9 : Int64} : (v9.san y9).ab = v9.ab := rfl
theorem Ho_fc_san {v9 : Ho} {y9 : Int64} : (v9.san y9).fc = v9.fc := rfl
theorem Ho_cn_san {v9 : Ho} {y9 : Int64} : (v9.san y9).cn = v9.cn := rfl
theorem Ho_me_san {v9 : Ho} {y9 : Int64} : (v9.san y9).me = v9.me := rfl
theorem Ho_nt_san {v9 : Ho} {y9 : Int64} : (v9.san y9).nt = v9.nt := rfl
theorem Ho_nr_san {v9 : Ho} {y9 : Int64} : (v9.san y9).nr = v9.nr := rfl
theorem Ho_to_san {v9 : Ho} {y9 : Int64} : (v9.san y9).to = v9.to := rfl
theorem Ho_ro_san {v9 : Ho} {y9 : Int64} : (v9.san y9).ro = v9.ro := rfl
theorem Ho_gl_san {v9 : Ho} {y9 : Int64} : (v9.san y9).gl = v9.gl := rfl
theorem Ho_al_san {v9 : Ho} {y9 : Int64} : (v9.san y9).al = v9.al := rfl
theorem Ho_re_san {v9 : Ho} {y9 : Int64} : (v9.san y9).re = v9.re := rfl
theorem Ho_th_san {v9 : Ho} {y9 : Int64} : (v9.san y9).th = v9.th := rfl
theorem Ho_tc_san {v9 : Ho} {y9 : Int64} : (v9.san y9).tc = v9.tc := rfl
theorem Ho_rc_san {v9 : Ho} {y9 : Int64} : (v9.san y9).rc = v9.rc := rfl
theorem Ho_mk_san {v9 : Ho} {y9 : Int64} : (v9.san y9).mk = v9.mk := rfl
theorem Ho_fr_san {v9 : Ho} {y9 : Int64} : (v9.san y9).fr = v9.fr := rfl
theorem Ho_np_san {v9 : Ho} {y9 : Int64} : (v9.san y9).np = v9.np := rfl
theorem Ho_pg_san {v9 : Ho} {y9 : Int64} : (v9.san y9).pg = v9.pg := rfl
theorem Ho_wc_san {v9 : Ho} {y9 : Int64} : (v9.san y9).wc = v9.wc := rfl
theorem Ho_ws_san {v9 : Ho} {y9 : Int64} : (v9.san y9).ws = v9.ws := rfl
theorem Ho_wp_san {v9 : Ho} {y9 : Int64} : (v9.san y9).wp = v9.wp := rfl
theorem gf_RX8_163_12 {A9 : Nat → Prop} {H9 : Heap} {fs : List Value} {v : Value} (S : CallFix p m c cc nL s args lwA RX8) (hE : g_E D vwCl (gT ar) (EX1 κ) A9 s H9) (w : g_S D vwCl A H0 G H locs nz) (ha : G a = some (.inr (12, fs))) (hv : fs[5]? = some v) (hdg : decode cc pc = .ok (.getfield 163, 3)) (kk : W p l e R s m args below meth c H locs cells slots Q (F0 m (pc + 3) ls (v :: rest))) : W p l e R s m args below meth c H locs cells slots Q (F0 m pc ls (.ref a :: rest)) :=
  va_getN (ci := 12) (C := RX6) (T := TX6) (N := 7) S.1 S.2.1 S.2.2.2.2 inA_RX6 S.2.2.2.1 hE.1 (g_1 w.1 ha) 0 rfl rfl 5 (by decide) (va_Nw.use rfl (hE.2.1.1 _ (ckN_1 _ (List.mem_of_getElem? (i := 35) rfl)))) (fun _ h => h) hv hdg kk
theorem pf_RX8_163_12 {A9 : Nat → Prop} {H9 : Heap} {fs : List Value} {v : Value} (S : CallFix p m c cc nL s args lwA RX8) (hE : g_E D vwCl (gT ar) (EX1 κ) A9 s H9) (w : g_S D vwCl A H0 G H locs nz) (ha : G a = some (.inr (12, fs))) (hn : narrow .int v = v) (hfit : fits .int v = true) (hl : 5 < fs.length) {fs1 : List Value} (hfs : fs.set 5 v = fs1) (hdg : decode cc pc = .ok (.putfield 163, 3)) (kk : ∀ (H1 : Heap) (locs1 : List Loc), g_S D vwCl A H0 (g_up G a (.inr (12, fs1))) H1 locs1 nz → W p l e R s m args below meth c H1 locs1 cells slots Q (F0 m (pc + 3) ls rest)) : W p l e R s m args below meth c H locs cells slots Q (F0 m pc ls (v :: .ref a :: rest)) :=
  g_putN (ci := 12) (ty := .int) (C := RX6) (T := TX6) (N := 7) S.1 S.2.1 S.2.2.2.2 inA_RX6 tyX6 tyX6_ok nmX6 S.2.2.2.1 hE.1 w ha rfl 5 (by decide) (va_Nw.use rfl (hE.2.1.1 _ (ckN_1 _ (List.mem_of_getElem? (i := 35) rfl)))) (fun _ h => h) rfl (by decide +kernel) hn hfit hl hdg (fun H1 l1 w1 => kk H1 l1 (by rw [← hfs]; exact w1))
theorem gf_RX8_29_14 {A9 : Nat → Prop} {H9 : Heap} {fs : List Value} {v : Value} (S : CallFix p m c cc nL s args lwA RX8) (hE : g_E D vwCl (gT ar) (EX1 κ) A9 s H9) (w : g_S D vwCl A H0 G H locs nz) (ha : G a = some (.inr (14, fs))) (hv : fs[3]? = some v) (hdg : decode cc pc = .ok (.getfield 29, 3)) (kk : W p l e R s m args below meth c H locs cells slots Q (F0 m (pc + 3) ls (v :: rest))) : W p l e R s m args below meth c H locs cells slots Q (F0 m pc ls (.ref a :: rest)) :=
  va_get (ci := 14) (C := RX8) (T := TX8) (N := 13) S.1 S.2.1 S.2.2.2.2 inA_RX8 S.2.2.2.1 hE.1 (g_1 w.1 ha) 0 rfl rfl 3 (by decide) (S.2.2.2.2 _ m_2_8) (fun _ h => h) hv hdg kk
theorem pf_RX8_187_12 {A9 : Nat → Prop} {H9 : Heap} {fs : List Value} {v : Value} (S : CallFix p m c cc nL s args lwA RX8) (hE : g_E D vwCl (gT ar) (EX1 κ) A9 s H9) (w : g_S D vwCl A H0 G H locs nz) (ha : G a = some (.inr (12, fs))) (hn : narrow .boolean v = v) (hfit : fits .boolean v = true) (hl : 6 < fs.length) {fs1 : List Value} (hfs : fs.set 6 v = fs1) (hdg : decode cc pc = .ok (.putfield 187, 3)) (kk : ∀ (H1 : Heap) (locs1 : List Loc), g_S D vwCl A H0 (g_up G a (.inr (12, fs1))) H1 locs1 nz → W p l e R s m args below meth c H1 locs1 cells slots Q (F0 m (pc + 3) ls rest)) : W p l e R s m args below meth c H locs cells slots Q (F0 m pc ls (v :: .ref a :: rest)) :=
  g_putN (ci := 12) (ty := .boolean) (C := RX6) (T := TX6) (N := 7) S.1 S.2.1 S.2.2.2.2 inA_RX6 tyX6 tyX6_ok nmX6 S.2.2.2.1 hE.1 w ha rfl 6 (by decide) (va_Nw.use rfl (hE.2.1.1 _ (ckN_1 _ (List.mem_of_getElem? (i := 36) rfl)))) (fun _ h => h) rfl (by decide +kernel) hn hfit hl hdg (fun H1 l1 w1 => kk H1 l1 (by rw [← hfs]; exact w1))
theorem m_3_113 : (Cond.code yX1_open cX1_open 4 none) ∈ lwA := lwA_mk (ck_3 _ (List.mem_of_getElem? (i := 113) rfl)) rfl
theorem m_3_110 : (Cond.methodLink RX8 360 yX1_open) ∈ lwA := lwA_mk (ck_3 _ (List.mem_of_getElem? (i := 110) rfl)) rfl
theorem m_3_111 : (Cond.instanceMethod yX1_open) ∈ lwA := lwA_mk (ck_3 _ (List.mem_of_getElem? (i := 111) rfl)) rfl
theorem m_3_112 : (Cond.selects RX1 yX1_open yX1_open) ∈ lwA := lwA_mk (ck_3 _ (List.mem_of_getElem? (i := 112) rfl)) rfl
theorem k_RX8_360 {args : Array Value} {s : State} {R rm : Room} (hts : ∀ w ∈ lwA, w.before args s = true) (hR : rm.frames + 1 ≤ R.frames ∧ 8 + (4 + 11) + rm.locals ≤ R.locals) : CallW R s args RX8 RX1 360 yX1_open cX1_open 4 none (lwC yX1_open cX1_open 4 none) rm rm.cells rm.slots 2 := cwV 2 hts (gdV m_3_110 m_3_111 m_3_112 m_1_11 m_3_113) rfl rfl rfl (by decide +kernel) hR
theorem m_3_118 : (Cond.code yX8_countCall cX8_countCall 2 none) ∈ lwA := lwA_mk (ck_3 _ (List.mem_of_getElem? (i := 118) rfl)) rfl
theorem m_3_115 : (Cond.methodLink RX8 364 yX8_countCall) ∈ lwA := lwA_mk (ck_3 _ (List.mem_of_getElem? (i := 115) rfl)) rfl
theorem m_3_117 : (Cond.instanceMethod yX8_countCall) ∈ lwA := lwA_mk (ck_3 _ (List.mem_of_getElem? (i := 117) rfl)) rfl
theorem ms_9 : (Cond.selects RX8 yX8_countCall yX8_countCall) ∈ lwA := lwA_mk (List.mem_append_left _ (List.mem_of_getElem? (i := 9) rfl)) rfl
theorem k_RX8_364 {args : Array Value} {s : State} {R rm : Room} (hts : ∀ w ∈ lwA, w.before args s = true) (hR : rm.frames + 1 ≤ R.frames ∧ 8 + (2 + 11) + rm.locals ≤ R.locals) : CallW R s args RX8 RX8 364 yX8_countCall cX8_countCall 2 none (lwC yX8_countCall cX8_countCall 2 none) rm rm.cells rm.slots 1 := cwV 1 hts (gdV m_3_115 m_3_117 ms_9 m_1_1 m_3_118) rfl rfl rfl (by decide +kernel) hR
end SITES
def sX8_ofNumber (Z : Ho) (n0 : Int32) : Int64 := 472446402560 ||| (n0.toInt64 &&& 4294967295)
theorem sX8_ofNumber_u (Z : Ho) (n0 : Int32) : sX8_ofNumber Z n0 = 472446402560 ||| (n0.toInt64 &&& 4294967295) := rfl
set_option maxHeartbeats 4000000 in
set_option maxRecDepth 100000 in
theorem hX8_ofNumber (l : Launch) (D : va_G) (ar : Nat → ClassId) (κ : Nat → Nat) (G : gW) (x : Xo) (Z : Ho) (sz : Nat) (n0 : Int32) (hk : OK x Z) : Met l yX8_ofNumber (lwC yX8_ofNumber cX8_ofNumber 1 (some .long)) (rD 2 0 0) (g_Pc D vwCl (gT ar) (EX1 κ) (ov κ ar x Z G) sz [.int n0]) (g_Ql D vwCl (g_A (ov κ ar x Z G) sz) (fun r u => r = sX8_ofNumber Z n0 ∧ u = (ov κ ar x Z G, sz))) 0 0 (g_A (ov κ ar x Z G) sz) := by
  refine g_ofW (by decide +kernel) (Nat.le_of_ble_eq_true rfl) ?_
  intro p e s m below meth c ls S hr hlk hin hE w hl
  have hx := S.1
  have hb := S.2.1
  have hl : lv_has ls 1 [(0, .int n0)] := hl
  refine lv_ldc2 hx hb S.2.2.2.1 (S.2.2.2.2 _ m_3_122) dX8_ofNumber_0 ?_
  refine lv_iload_n hx hb dX8_ofNumber_3 rfl (lv_at hl 0 rfl) ?_
  refine lv_i2l hx hb dX8_ofNumber_4 rfl ?_
  refine lv_ldc2 hx hb S.2.2.2.1 (S.2.2.2.2 _ m_3_123) dX8_ofNumber_5 ?_
  refine lv_land hx hb dX8_ofNumber_8 ?_
  refine lv_lor hx hb dX8_ofNumber_9 ?_
  exact g_lret hx hb hr hlk w (Nat.le_of_ble_eq_true rfl) (Nat.le_of_ble_eq_true rfl) dX8_ofNumber_10 ⟨((sX8_ofNumber_u Z n0)).symm, rfl⟩
def sX8_ofThing (Z : Ho) (n0 : Int32) : Int64 := 476741369856 ||| (n0.toInt64 &&& 4294967295)
theorem sX8_ofThing_u (Z : Ho) (n0 : Int32) : sX8_ofThing Z n0 = 476741369856 ||| (n0.toInt64 &&& 4294967295) := rfl
set_option maxHeartbeats 4000000 in
set_option maxRecDepth 100000 in
theorem hX8_ofThing (l : Launch) (D : va_G) (ar : Nat → ClassId) (κ : Nat → Nat) (G : gW) (x : Xo) (Z : Ho) (sz : Nat) (n0 : Int32) (hk : OK x Z) : Met l yX8_ofThing (lwC yX8_ofThing cX8_ofThing 1 (some .long)) (rD 2 0 0) (g_Pc D vwCl (gT ar) (EX1 κ) (ov κ ar x Z G) sz [.int n0]) (g_Ql D vwCl (g_A (ov κ ar x Z G) sz) (fun r u => r = sX8_ofThing Z n0 ∧ u = (ov κ ar x Z G, sz))) 0 0 (g_A (ov κ ar x Z G) sz) := by
  refine g_ofW (by decide +kernel) (Nat.le_of_ble_eq_true rfl) ?_
  intro p e s m below meth c ls S hr hlk hin hE w hl
  have hx := S.1
  have hb := S.2.1
  have hl : lv_has ls 1 [(0, .int n0)] := hl
  refine lv_ldc2 hx hb S.2.2.2.1 (S.2.2.2.2 _ m_3_231) dX8_ofThing_0 ?_
  refine lv_iload_n hx hb dX8_ofThing_3 rfl (lv_at hl 0 rfl) ?_
  refine lv_i2l hx hb dX8_ofThing_4 rfl ?_
  refine lv_ldc2 hx hb S.2.2.2.1 (S.2.2.2.2 _ m_3_123) dX8_ofThing_5 ?_
  refine lv_land hx hb dX8_ofThing_8 ?_
  refine lv_lor hx hb dX8_ofThing_9 ?_
  exact g_lret hx hb hr hlk w (Nat.le_of_ble_eq_true rfl) (Nat.le_of_ble_eq_true rfl) dX8_ofThing_10 ⟨((sX8_ofThing_u Z n0)).symm, rfl⟩
def sX8_plus (Z : Ho) (u0 : Int64) (v0 : Int64) : Int64 := (31 * u0) + v0
theorem sX8_plus_u (Z : Ho) (u0 : Int64) (v0 : Int64) : sX8_plus Z u0 v0 = (31 * u0) + v0 := rfl
set_option maxHeartbeats 4000000 in
set_option maxRecDepth 100000 in
theorem hX8_plus (l : Launch) (D : va_G) (ar : Nat → ClassId) (κ : Nat → Nat) (G : gW) (x : Xo) (Z : Ho) (sz : Nat) (u0 : Int64) (v0 : Int64) (hk : OK x Z) : Met l yX8_plus (lwC yX8_plus cX8_plus 4 (some .long)) (rD 2 0 0) (g_Pc D vwCl (gT ar) (EX1 κ) (ov κ ar x Z G) sz [.long u0, .long v0]) (g_Ql D vwCl (g_A (ov κ ar x Z G) sz) (fun r u => r = sX8_plus Z u0 v0 ∧ u = (ov κ ar x Z G, sz))) 0 0 (g_A (ov κ ar x Z G) sz) := by
  refine g_ofW (by decide +kernel) (Nat.le_of_ble_eq_true rfl) ?_
  intro p e s m below meth c ls S hr hlk hin hE w hl
  have hx := S.1
  have hb := S.2.1
  have hl : lv_has ls 4 [(0, .long u0), (2, .long v0)] := hl
  refine lv_ldc2 hx hb S.2.2.2.1 (S.2.2.2.2 _ m_4_133) dX8_plus_0 ?_
  refine lv_lload_n hx hb dX8_plus_3 rfl (lv_at hl 0 rfl) ?_
  refine lv_lmul hx hb dX8_plus_4 ?_
  refine lv_lload_n hx hb dX8_plus_5 rfl (lv_at hl 1 rfl) ?_
  refine lv_ladd hx hb dX8_plus_6 ?_
  exact g_lret hx hb hr hlk w (Nat.le_of_ble_eq_true rfl) (Nat.le_of_ble_eq_true rfl) dX8_plus_7 ⟨((sX8_plus_u Z u0 v0)).symm, rfl⟩
def sX8_plusValue (Z : Ho) (u0 : Int64) (v0 : Int64) : Int64 := sX8_plus Z (sX8_plus Z u0 ((kf v0).toInt64)) ((nf v0).toInt64)
theorem sX8_plusValue_u (Z : Ho) (u0 : Int64) (v0 : Int64) : sX8_plusValue Z u0 v0 = sX8_plus Z (sX8_plus Z u0 ((kf v0).toInt64)) ((nf v0).toInt64) := rfl
set_option maxHeartbeats 4000000 in
set_option maxRecDepth 100000 in
theorem hX8_plusValue (l : Launch) (D : va_G) (ar : Nat → ClassId) (κ : Nat → Nat) (G : gW) (x : Xo) (Z : Ho) (sz : Nat) (u0 : Int64) (v0 : Int64) (hk : OK x Z) : Met l yX8_plusValue (lwC yX8_plusValue cX8_plusValue 4 (some .long)) (rD 3 0 0) (g_Pc D vwCl (gT ar) (EX1 κ) (ov κ ar x Z G) sz [.long u0, .long v0]) (g_Ql D vwCl (g_A (ov κ ar x Z G) sz) (fun r u => r = sX8_plusValue Z u0 v0 ∧ u = (ov κ ar x Z G, sz))) 0 0 (g_A (ov κ ar x Z G) sz) := by
  refine g_ofW (by decide +kernel) (Nat.le_of_ble_eq_true rfl) ?_
  intro p e s m below meth c ls S hr hlk hin hE w hl
  have hx := S.1
  have hb := S.2.1
  have hl : lv_has ls 4 [(0, .long u0), (2, .long v0)] := hl
  refine lv_lload_n hx hb dX8_plusValue_0 rfl (lv_at hl 0 rfl) ?_
  refine lv_lload_n hx hb dX8_plusValue_1 rfl (lv_at hl 1 rfl) ?_
  refine g_calli w (g_runS (As := [.long v0]) (rest := [.long u0]) S hE w hl (c_X8_kindOf l D ar κ (ov κ ar x Z G) sz v0) (k_RX8_226 S.2.2.2.2 ⟨Nat.le_of_ble_eq_true rfl, Nat.le_of_ble_eq_true rfl⟩) rfl rfl (Nat.le_of_ble_eq_true rfl) dX8_plusValue_2 ⟨Nat.le_of_ble_eq_true rfl, Nat.le_of_ble_eq_true rfl⟩) (fun r u H locs hp hnz w => ?_)
  obtain ⟨rfl, rfl⟩ := hp
  dsimp only at w
  refine lv_i2l hx hb dX8_plusValue_5 rfl ?_
  refine g_calll w (g_runS (As := [.long u0, .long ((kf v0).toInt64)]) (rest := []) S hE w hl (hX8_plus l D ar κ G x Z sz u0 ((kf v0).toInt64) hk ) (k_RX8_453 S.2.2.2.2 ⟨Nat.le_of_ble_eq_true rfl, Nat.le_of_ble_eq_true rfl⟩) rfl rfl (Nat.le_of_ble_eq_true rfl) dX8_plusValue_6 ⟨Nat.le_of_ble_eq_true rfl, Nat.le_of_ble_eq_true rfl⟩) (fun r u H locs hp hnz w => ?_)
  obtain ⟨rfl, rfl⟩ := hp
  dsimp only at w
  refine lv_lload_n hx hb dX8_plusValue_9 rfl (lv_at hl 1 rfl) ?_
  refine g_calli w (g_runS (As := [.long v0]) (rest := [.long (sX8_plus Z u0 ((kf v0).toInt64))]) S hE w hl (c_X8_numberOf l D ar κ (ov κ ar x Z G) sz v0) (k_RX8_230 S.2.2.2.2 ⟨Nat.le_of_ble_eq_true rfl, Nat.le_of_ble_eq_true rfl⟩) rfl rfl (Nat.le_of_ble_eq_true rfl) dX8_plusValue_10 ⟨Nat.le_of_ble_eq_true rfl, Nat.le_of_ble_eq_true rfl⟩) (fun r u H locs hp hnz w => ?_)
  obtain ⟨rfl, rfl⟩ := hp
  dsimp only at w
  refine lv_i2l hx hb dX8_plusValue_13 rfl ?_
  refine g_calll w (g_runS (As := [.long (sX8_plus Z u0 ((kf v0).toInt64)), .long ((nf v0).toInt64)]) (rest := []) S hE w hl (hX8_plus l D ar κ G x Z sz (sX8_plus Z u0 ((kf v0).toInt64)) ((nf v0).toInt64) hk ) (k_RX8_453 S.2.2.2.2 ⟨Nat.le_of_ble_eq_true rfl, Nat.le_of_ble_eq_true rfl⟩) rfl rfl (Nat.le_of_ble_eq_true rfl) dX8_plusValue_14 ⟨Nat.le_of_ble_eq_true rfl, Nat.le_of_ble_eq_true rfl⟩) (fun r u H locs hp hnz w => ?_)
  obtain ⟨rfl, rfl⟩ := hp
  dsimp only at w
  exact g_lret hx hb hr hlk w (Nat.le_of_ble_eq_true rfl) (Nat.le_of_ble_eq_true rfl) dX8_plusValue_17 ⟨((sX8_plusValue_u Z u0 v0)).symm, rfl⟩
def sX8_isGoingThere (Z : Ho) (v0 : Int64) : Int32 := if isN v0 = 0 then (0) else (if nf v0 = 0 then (0) else (1))
theorem sX8_isGoingThere_u (Z : Ho) (v0 : Int64) : sX8_isGoingThere Z v0 = if isN v0 = 0 then (0) else (if nf v0 = 0 then (0) else (1)) := rfl
set_option maxHeartbeats 4000000 in
set_option maxRecDepth 100000 in
theorem hX8_isGoingThere (l : Launch) (D : va_G) (ar : Nat → ClassId) (κ : Nat → Nat) (G : gW) (x : Xo) (Z : Ho) (sz : Nat) (v0 : Int64) (hk : OK x Z) : Met l yX8_isGoingThere (lwC yX8_isGoingThere cX8_isGoingThere 2 (some .boolean)) (rD 3 0 0) (g_Pc D vwCl (gT ar) (EX1 κ) (ov κ ar x Z G) sz [.long v0]) (g_Qi D vwCl (g_A (ov κ ar x Z G) sz) (fun r u => r = sX8_isGoingThere Z v0 ∧ u = (ov κ ar x Z G, sz))) 0 0 (g_A (ov κ ar x Z G) sz) := by
  refine g_ofW (by decide +kernel) (Nat.le_of_ble_eq_true rfl) ?_
  intro p e s m below meth c ls S hr hlk hin hE w hl
  have hx := S.1
  have hb := S.2.1
  have hl : lv_has ls 2 [(0, .long v0)] := hl
  refine lv_lload_n hx hb dX8_isGoingThere_0 rfl (lv_at hl 0 rfl) ?_
  refine g_calli w (g_runS (As := [.long v0]) (rest := []) S hE w hl (c_X8_isNumber l D ar κ (ov κ ar x Z G) sz v0) (k_RX8_382 S.2.2.2.2 ⟨Nat.le_of_ble_eq_true rfl, Nat.le_of_ble_eq_true rfl⟩) rfl rfl (Nat.le_of_ble_eq_true rfl) dX8_isGoingThere_1 ⟨Nat.le_of_ble_eq_true rfl, Nat.le_of_ble_eq_true rfl⟩) (fun r u H locs hp hnz w => ?_)
  obtain ⟨rfl, rfl⟩ := hp
  dsimp only at w
  refine lv_if_eq (tgt := 18) hx hb dX8_isGoingThere_4 (by decide) (fun c_4 => ?_) (fun c_4 => ?_)
  · refine lv_iconst (v := 0) hx hb dX8_isGoingThere_18 (by decide) ?_
    exact g_zret hx hb hr hlk w (Nat.le_of_ble_eq_true rfl) (Nat.le_of_ble_eq_true rfl) dX8_isGoingThere_19 rfl ⟨(((sX8_isGoingThere_u Z v0).trans (if_pos c_4))).symm, rfl⟩
  · refine lv_lload_n hx hb dX8_isGoingThere_7 rfl (lv_at hl 0 rfl) ?_
    refine g_calli w (g_runS (As := [.long v0]) (rest := []) S hE w hl (c_X8_numberOf l D ar κ (ov κ ar x Z G) sz v0) (k_RX8_230 S.2.2.2.2 ⟨Nat.le_of_ble_eq_true rfl, Nat.le_of_ble_eq_true rfl⟩) rfl rfl (Nat.le_of_ble_eq_true rfl) dX8_isGoingThere_8 ⟨Nat.le_of_ble_eq_true rfl, Nat.le_of_ble_eq_true rfl⟩) (fun r u H locs hp hnz w => ?_)
    obtain ⟨rfl, rfl⟩ := hp
    dsimp only at w
    refine lv_if_eq (tgt := 18) hx hb dX8_isGoingThere_11 (by decide) (fun c_11 => ?_) (fun c_11 => ?_)
    · refine lv_iconst (v := 0) hx hb dX8_isGoingThere_18 (by decide) ?_
      exact g_zret hx hb hr hlk w (Nat.le_of_ble_eq_true rfl) (Nat.le_of_ble_eq_true rfl) dX8_isGoingThere_19 rfl ⟨(((sX8_isGoingThere_u Z v0).trans ((if_neg c_4).trans (if_pos c_11)))).symm, rfl⟩
    · refine lv_iconst (v := 1) hx hb dX8_isGoingThere_14 (by decide) ?_
      refine lv_goto (tgt := 19) hx hb dX8_isGoingThere_15 (by decide) ?_
      exact g_zret hx hb hr hlk w (Nat.le_of_ble_eq_true rfl) (Nat.le_of_ble_eq_true rfl) dX8_isGoingThere_19 rfl ⟨(((sX8_isGoingThere_u Z v0).trans ((if_neg c_4).trans (if_neg c_11)))).symm, rfl⟩
def sX8_outcome (Z : Ho) (c0 : Int32) (i0 : Int32) (j0 : Int32) : Int32 := if c0 = 42 then (i0 * j0) else (if c0 = 43 then (i0 + j0) else (if c0 = 45 then (i0 - j0) else (if c0 = 47 then (if j0 = 0 then (0) else (i0 / j0)) else (if j0 ≤ i0 then (0) else (1)))))
theorem sX8_outcome_u (Z : Ho) (c0 : Int32) (i0 : Int32) (j0 : Int32) : sX8_outcome Z c0 i0 j0 = if c0 = 42 then (i0 * j0) else (if c0 = 43 then (i0 + j0) else (if c0 = 45 then (i0 - j0) else (if c0 = 47 then (if j0 = 0 then (0) else (i0 / j0)) else (if j0 ≤ i0 then (0) else (1))))) := rfl
set_option maxHeartbeats 4000000 in
set_option maxRecDepth 100000 in
theorem hX8_outcome (l : Launch) (D : va_G) (ar : Nat → ClassId) (κ : Nat → Nat) (G : gW) (x : Xo) (Z : Ho) (sz : Nat) (c0 : Int32) (i0 : Int32) (j0 : Int32) (hk : OK x Z) : Met l yX8_outcome (lwC yX8_outcome cX8_outcome 3 (some .int)) (rD 3 0 0) (g_Pc D vwCl (gT ar) (EX1 κ) (ov κ ar x Z G) sz [.int c0, .int i0, .int j0]) (g_Qi D vwCl (g_A (ov κ ar x Z G) sz) (fun r u => r = sX8_outcome Z c0 i0 j0 ∧ u = (ov κ ar x Z G, sz))) 0 0 (g_A (ov κ ar x Z G) sz) := by
  refine g_ofW (by decide +kernel) (Nat.le_of_ble_eq_true rfl) ?_
  intro p e s m below meth c ls S hr hlk hin hE w hl
  have hx := S.1
  have hb := S.2.1
  have hl : lv_has ls 3 [(0, .int c0), (1, .int i0), (2, .int j0)] := hl
  refine lv_iload_n hx hb dX8_outcome_0 rfl (lv_at hl 0 rfl) ?_
  by_cases c_1_0 : c0 = 42
  · refine lv_tableIn (off := 47) (tgt := 48) hx hb dX8_outcome_1 (by have h9 := c_1_0; (rw [h9]; decide)) (by have h9 := c_1_0; (rw [h9]; decide)) (by have h9 := c_1_0; (rw [h9]; decide)) (by decide) ?_
    refine lv_iload_n hx hb dX8_outcome_48 rfl (lv_at hl 1 rfl) ?_
    refine lv_iload_n hx hb dX8_outcome_49 rfl (lv_at hl 2 rfl) ?_
    refine lv_imul hx hb dX8_outcome_50 ?_
    exact g_iret hx hb hr hlk w (Nat.le_of_ble_eq_true rfl) (Nat.le_of_ble_eq_true rfl) dX8_outcome_51 ⟨(((sX8_outcome_u Z c0 i0 j0).trans (if_pos c_1_0))).symm, rfl⟩
  by_cases c_1_1 : c0 = 43
  · refine lv_tableIn (off := 39) (tgt := 40) hx hb dX8_outcome_1 (by have h9 := c_1_1; (rw [h9]; decide)) (by have h9 := c_1_1; (rw [h9]; decide)) (by have h9 := c_1_1; (rw [h9]; decide)) (by decide) ?_
    refine lv_iload_n hx hb dX8_outcome_40 rfl (lv_at hl 1 rfl) ?_
    refine lv_iload_n hx hb dX8_outcome_41 rfl (lv_at hl 2 rfl) ?_
    refine lv_iadd hx hb dX8_outcome_42 ?_
    exact g_iret hx hb hr hlk w (Nat.le_of_ble_eq_true rfl) (Nat.le_of_ble_eq_true rfl) dX8_outcome_43 ⟨(((sX8_outcome_u Z c0 i0 j0).trans ((if_neg c_1_0).trans (if_pos c_1_1)))).symm, rfl⟩
  by_cases c_1_2 : c0 = 45
  · refine lv_tableIn (off := 43) (tgt := 44) hx hb dX8_outcome_1 (by have h9 := c_1_2; (rw [h9]; decide)) (by have h9 := c_1_2; (rw [h9]; decide)) (by have h9 := c_1_2; (rw [h9]; decide)) (by decide) ?_
    refine lv_iload_n hx hb dX8_outcome_44 rfl (lv_at hl 1 rfl) ?_
    refine lv_iload_n hx hb dX8_outcome_45 rfl (lv_at hl 2 rfl) ?_
    refine lv_isub hx hb dX8_outcome_46 ?_
    exact g_iret hx hb hr hlk w (Nat.le_of_ble_eq_true rfl) (Nat.le_of_ble_eq_true rfl) dX8_outcome_47 ⟨(((sX8_outcome_u Z c0 i0 j0).trans ((if_neg c_1_0).trans ((if_neg c_1_1).trans (if_pos c_1_2))))).symm, rfl⟩
  by_cases c_1_3 : c0 = 47
  · refine lv_tableIn (off := 51) (tgt := 52) hx hb dX8_outcome_1 (by have h9 := c_1_3; (rw [h9]; decide)) (by have h9 := c_1_3; (rw [h9]; decide)) (by have h9 := c_1_3; (rw [h9]; decide)) (by decide) ?_
    refine lv_iload_n hx hb dX8_outcome_52 rfl (lv_at hl 2 rfl) ?_
    refine lv_if_ne (tgt := 60) hx hb dX8_outcome_53 (by decide) (fun c_53 => ?_) (fun c_53 => ?_)
    · refine lv_iload_n hx hb dX8_outcome_60 rfl (lv_at hl 1 rfl) ?_
      refine lv_iload_n hx hb dX8_outcome_61 rfl (lv_at hl 2 rfl) ?_
      refine lv_idiv hx hb dX8_outcome_62 c_53 ?_
      exact g_iret hx hb hr hlk w (Nat.le_of_ble_eq_true rfl) (Nat.le_of_ble_eq_true rfl) dX8_outcome_63 ⟨(((sX8_outcome_u Z c0 i0 j0).trans ((if_neg c_1_0).trans ((if_neg c_1_1).trans ((if_neg c_1_2).trans ((if_pos c_1_3).trans (if_neg c_53))))))).symm, rfl⟩
    · refine lv_iconst (v := 0) hx hb dX8_outcome_56 (by decide) ?_
      refine lv_goto (tgt := 63) hx hb dX8_outcome_57 (by decide) ?_
      exact g_iret hx hb hr hlk w (Nat.le_of_ble_eq_true rfl) (Nat.le_of_ble_eq_true rfl) dX8_outcome_63 ⟨(((sX8_outcome_u Z c0 i0 j0).trans ((if_neg c_1_0).trans ((if_neg c_1_1).trans ((if_neg c_1_2).trans ((if_pos c_1_3).trans (if_pos c_53))))))).symm, rfl⟩
  refine sw_tab (dflt := 63) (ks := [42, 43, 45, 47]) (tgt := 64) hx hb dX8_outcome_1 ⟨c_1_0, c_1_1, c_1_2, c_1_3, trivial⟩ (by decide +kernel) (by decide) ?_
  refine lv_iload_n hx hb dX8_outcome_64 rfl (lv_at hl 1 rfl) ?_
  refine lv_iload_n hx hb dX8_outcome_65 rfl (lv_at hl 2 rfl) ?_
  refine lv_icmp_ge (tgt := 73) hx hb dX8_outcome_66 (by decide) (fun c_66 => ?_) (fun c_66 => ?_)
  · refine lv_iconst (v := 0) hx hb dX8_outcome_73 (by decide) ?_
    exact g_iret hx hb hr hlk w (Nat.le_of_ble_eq_true rfl) (Nat.le_of_ble_eq_true rfl) dX8_outcome_74 ⟨(((sX8_outcome_u Z c0 i0 j0).trans ((if_neg c_1_0).trans ((if_neg c_1_1).trans ((if_neg c_1_2).trans ((if_neg c_1_3).trans (if_pos c_66))))))).symm, rfl⟩
  · refine lv_iconst (v := 1) hx hb dX8_outcome_69 (by decide) ?_
    refine lv_goto (tgt := 74) hx hb dX8_outcome_70 (by decide) ?_
    exact g_iret hx hb hr hlk w (Nat.le_of_ble_eq_true rfl) (Nat.le_of_ble_eq_true rfl) dX8_outcome_74 ⟨(((sX8_outcome_u Z c0 i0 j0).trans ((if_neg c_1_0).trans ((if_neg c_1_1).trans ((if_neg c_1_2).trans ((if_neg c_1_3).trans (if_neg c_66))))))).symm, rfl⟩
def sX8_isLetter (Z : Ho) (c0 : Int32) : Int32 := if c0 = 42 ∨ c0 = 43 ∨ c0 = 45 ∨ c0 = 47 ∨ c0 = 60 ∨ c0 = 61 ∨ c0 = 70 ∨ c0 = 71 ∨ c0 = 77 ∨ c0 = 84 ∨ c0 = 97 ∨ c0 = 99 ∨ c0 = 100 ∨ c0 = 102 ∨ c0 = 103 ∨ c0 = 106 ∨ c0 = 107 ∨ c0 = 109 ∨ c0 = 110 ∨ c0 = 112 ∨ c0 = 114 ∨ c0 = 115 ∨ c0 = 116 ∨ c0 = 117 ∨ c0 = 119 ∨ c0 = 121 then (1) else (0)
theorem sX8_isLetter_u (Z : Ho) (c0 : Int32) : sX8_isLetter Z c0 = if c0 = 42 ∨ c0 = 43 ∨ c0 = 45 ∨ c0 = 47 ∨ c0 = 60 ∨ c0 = 61 ∨ c0 = 70 ∨ c0 = 71 ∨ c0 = 77 ∨ c0 = 84 ∨ c0 = 97 ∨ c0 = 99 ∨ c0 = 100 ∨ c0 = 102 ∨ c0 = 103 ∨ c0 = 106 ∨ c0 = 107 ∨ c0 = 109 ∨ c0 = 110 ∨ c0 = 112 ∨ c0 = 114 ∨ c0 = 115 ∨ c0 = 116 ∨ c0 = 117 ∨ c0 = 119 ∨ c0 = 121 then (1) else (0) := rfl
set_option maxHeartbeats 4000000 in
set_option maxRecDepth 100000 in
theorem hX8_isLetter (l : Launch) (D : va_G) (ar : Nat → ClassId) (κ : Nat → Nat) (G : gW) (x : Xo) (Z : Ho) (sz : Nat) (c0 : Int32) (hk : OK x Z) : Met l yX8_isLetter (lwC yX8_isLetter cX8_isLetter 1 (some .boolean)) (rD 3 0 0) (g_Pc D vwCl (gT ar) (EX1 κ) (ov κ ar x Z G) sz [.int c0]) (g_Qi D vwCl (g_A (ov κ ar x Z G) sz) (fun r u => r = sX8_isLetter Z c0 ∧ u = (ov κ ar x Z G, sz))) 0 0 (g_A (ov κ ar x Z G) sz) := by
  refine g_ofW (by decide +kernel) (Nat.le_of_ble_eq_true rfl) ?_
  intro p e s m below meth c ls S hr hlk hin hE w hl
  have hx := S.1
  have hb := S.2.1
  have hl : lv_has ls 1 [(0, .int c0)] := hl
  refine lv_iload_n hx hb dX8_isLetter_0 rfl (lv_at hl 0 rfl) ?_
  by_cases c_1_0 : c0 = 42 ∨ c0 = 43 ∨ c0 = 45 ∨ c0 = 47 ∨ c0 = 60 ∨ c0 = 61 ∨ c0 = 70 ∨ c0 = 71 ∨ c0 = 77 ∨ c0 = 84 ∨ c0 = 97 ∨ c0 = 99 ∨ c0 = 100 ∨ c0 = 102 ∨ c0 = 103 ∨ c0 = 106 ∨ c0 = 107 ∨ c0 = 109 ∨ c0 = 110 ∨ c0 = 112 ∨ c0 = 114 ∨ c0 = 115 ∨ c0 = 116 ∨ c0 = 117 ∨ c0 = 119 ∨ c0 = 121
  · refine lv_tableIn (off := 335) (tgt := 336) hx hb dX8_isLetter_1 (by rcases c_1_0 with h9 | h9 | h9 | h9 | h9 | h9 | h9 | h9 | h9 | h9 | h9 | h9 | h9 | h9 | h9 | h9 | h9 | h9 | h9 | h9 | h9 | h9 | h9 | h9 | h9 | h9 <;> (rw [h9]; decide)) (by rcases c_1_0 with h9 | h9 | h9 | h9 | h9 | h9 | h9 | h9 | h9 | h9 | h9 | h9 | h9 | h9 | h9 | h9 | h9 | h9 | h9 | h9 | h9 | h9 | h9 | h9 | h9 | h9 <;> (rw [h9]; decide)) (by rcases c_1_0 with h9 | h9 | h9 | h9 | h9 | h9 | h9 | h9 | h9 | h9 | h9 | h9 | h9 | h9 | h9 | h9 | h9 | h9 | h9 | h9 | h9 | h9 | h9 | h9 | h9 | h9 <;> (rw [h9]; decide)) (by decide) ?_
    refine lv_iconst (v := 1) hx hb dX8_isLetter_336 (by decide) ?_
    exact g_zret hx hb hr hlk w (Nat.le_of_ble_eq_true rfl) (Nat.le_of_ble_eq_true rfl) dX8_isLetter_337 rfl ⟨(((sX8_isLetter_u Z c0).trans (if_pos c_1_0))).symm, rfl⟩
  refine sw_tab (dflt := 337) (ks := [42, 43, 45, 47, 60, 61, 70, 71, 77, 84, 97, 99, 100, 102, 103, 106, 107, 109, 110, 112, 114, 115, 116, 117, 119, 121]) (tgt := 338) hx hb dX8_isLetter_1 ⟨(fun h9 => c_1_0 (Or.inl h9)), (fun h9 => c_1_0 (Or.inr (Or.inl h9))), (fun h9 => c_1_0 (Or.inr (Or.inr (Or.inl h9)))), (fun h9 => c_1_0 (Or.inr (Or.inr (Or.inr (Or.inl h9))))), (fun h9 => c_1_0 (Or.inr (Or.inr (Or.inr (Or.inr (Or.inl h9)))))), (fun h9 => c_1_0 (Or.inr (Or.inr (Or.inr (Or.inr (Or.inr (Or.inl h9))))))), (fun h9 => c_1_0 (Or.inr (Or.inr (Or.inr (Or.inr (Or.inr (Or.inr (Or.inl h9)))))))), (fun h9 => c_1_0 (Or.inr (Or.inr (Or.inr (Or.inr (Or.inr (Or.inr (Or.inr (Or.inl h9))))))))), (fun h9 => c_1_0 (Or.inr (Or.inr (Or.inr (Or.inr (Or.inr (Or.inr (Or.inr (Or.inr (Or.inl h9)))))))))), (fun h9 => c_1_0 (Or.inr (Or.inr (Or.inr (Or.inr (Or.inr (Or.inr (Or.inr (Or.inr (Or.inr (Or.inl h9))))))))))), (fun h9 => c_1_0 (Or.inr (Or.inr (Or.inr (Or.inr (Or.inr (Or.inr (Or.inr (Or.inr (Or.inr (Or.inr (Or.inl h9)))))))))))), (fun h9 => c_1_0 (Or.inr (Or.inr (Or.inr (Or.inr (Or.inr (Or.inr (Or.inr (Or.inr (Or.inr (Or.inr (Or.inr (Or.inl h9))))))))))))), (fun h9 => c_1_0 (Or.inr (Or.inr (Or.inr (Or.inr (Or.inr (Or.inr (Or.inr (Or.inr (Or.inr (Or.inr (Or.inr (Or.inr (Or.inl h9)))))))))))))), (fun h9 => c_1_0 (Or.inr (Or.inr (Or.inr (Or.inr (Or.inr (Or.inr (Or.inr (Or.inr (Or.inr (Or.inr (Or.inr (Or.inr (Or.inr (Or.inl h9))))))))))))))), (fun h9 => c_1_0 (Or.inr (Or.inr (Or.inr (Or.inr (Or.inr (Or.inr (Or.inr (Or.inr (Or.inr (Or.inr (Or.inr (Or.inr (Or.inr (Or.inr (Or.inl h9)))))))))))))))), (fun h9 => c_1_0 (Or.inr (Or.inr (Or.inr (Or.inr (Or.inr (Or.inr (Or.inr (Or.inr (Or.inr (Or.inr (Or.inr (Or.inr (Or.inr (Or.inr (Or.inr (Or.inl h9))))))))))))))))), (fun h9 => c_1_0 (Or.inr (Or.inr (Or.inr (Or.inr (Or.inr (Or.inr (Or.inr (Or.inr (Or.inr (Or.inr (Or.inr (Or.inr (Or.inr (Or.inr (Or.inr (Or.inr (Or.inl h9)))))))))))))))))), (fun h9 => c_1_0 (Or.inr (Or.inr (Or.inr (Or.inr (Or.inr (Or.inr (Or.inr (Or.inr (Or.inr (Or.inr (Or.inr (Or.inr (Or.inr (Or.inr (Or.inr (Or.inr (Or.inr (Or.inl h9))))))))))))))))))), (fun h9 => c_1_0 (Or.inr (Or.inr (Or.inr (Or.inr (Or.inr (Or.inr (Or.inr (Or.inr (Or.inr (Or.inr (Or.inr (Or.inr (Or.inr (Or.inr (Or.inr (Or.inr (Or.inr (Or.inr (Or.inl h9)))))))))))))))))))), (fun h9 => c_1_0 (Or.inr (Or.inr (Or.inr (Or.inr (Or.inr (Or.inr (Or.inr (Or.inr (Or.inr (Or.inr (Or.inr (Or.inr (Or.inr (Or.inr (Or.inr (Or.inr (Or.inr (Or.inr (Or.inr (Or.inl h9))))))))))))))))))))), (fun h9 => c_1_0 (Or.inr (Or.inr (Or.inr (Or.inr (Or.inr (Or.inr (Or.inr (Or.inr (Or.inr (Or.inr (Or.inr (Or.inr (Or.inr (Or.inr (Or.inr (Or.inr (Or.inr (Or.inr (Or.inr (Or.inr (Or.inl h9)))))))))))))))))))))), (fun h9 => c_1_0 (Or.inr (Or.inr (Or.inr (Or.inr (Or.inr (Or.inr (Or.inr (Or.inr (Or.inr (Or.inr (Or.inr (Or.inr (Or.inr (Or.inr (Or.inr (Or.inr (Or.inr (Or.inr (Or.inr (Or.inr (Or.inr (Or.inl h9))))))))))))))))))))))), (fun h9 => c_1_0 (Or.inr (Or.inr (Or.inr (Or.inr (Or.inr (Or.inr (Or.inr (Or.inr (Or.inr (Or.inr (Or.inr (Or.inr (Or.inr (Or.inr (Or.inr (Or.inr (Or.inr (Or.inr (Or.inr (Or.inr (Or.inr (Or.inr (Or.inl h9)))))))))))))))))))))))), (fun h9 => c_1_0 (Or.inr (Or.inr (Or.inr (Or.inr (Or.inr (Or.inr (Or.inr (Or.inr (Or.inr (Or.inr (Or.inr (Or.inr (Or.inr (Or.inr (Or.inr (Or.inr (Or.inr (Or.inr (Or.inr (Or.inr (Or.inr (Or.inr (Or.inr (Or.inl h9))))))))))))))))))))))))), (fun h9 => c_1_0 (Or.inr (Or.inr (Or.inr (Or.inr (Or.inr (Or.inr (Or.inr (Or.inr (Or.inr (Or.inr (Or.inr (Or.inr (Or.inr (Or.inr (Or.inr (Or.inr (Or.inr (Or.inr (Or.inr (Or.inr (Or.inr (Or.inr (Or.inr (Or.inr (Or.inl h9)))))))))))))))))))))))))), (fun h9 => c_1_0 (Or.inr (Or.inr (Or.inr (Or.inr (Or.inr (Or.inr (Or.inr (Or.inr (Or.inr (Or.inr (Or.inr (Or.inr (Or.inr (Or.inr (Or.inr (Or.inr (Or.inr (Or.inr (Or.inr (Or.inr (Or.inr (Or.inr (Or.inr (Or.inr (Or.inr (h9))))))))))))))))))))))))))), trivial⟩ (by decide +kernel) (by decide) ?_
  refine lv_iconst (v := 0) hx hb dX8_isLetter_338 (by decide) ?_
  exact g_zret hx hb hr hlk w (Nat.le_of_ble_eq_true rfl) (Nat.le_of_ble_eq_true rfl) dX8_isLetter_339 rfl ⟨(((sX8_isLetter_u Z c0).trans (if_neg c_1_0))).symm, rfl⟩
def sX8_isStep (Z : Ho) (i0 : Fin 12) : Int32 := if sX1_letter Z i0 = 77 ∨ sX1_letter Z i0 = 109 then (1) else (if sX1_letter Z i0 = 106 then (if (Z.fr i0).w < sX1_first Z i0 then (0) else (1)) else (if sX1_letter Z i0 = 121 then (if (Z.fr i0).w < sX1_first Z i0 then (0) else (if sX8_isGoingThere Z (sX1_fromTop Z i0 0) = 0 then (0) else (1))) else (0)))
theorem sX8_isStep_u (Z : Ho) (i0 : Fin 12) : sX8_isStep Z i0 = if sX1_letter Z i0 = 77 ∨ sX1_letter Z i0 = 109 then (1) else (if sX1_letter Z i0 = 106 then (if (Z.fr i0).w < sX1_first Z i0 then (0) else (1)) else (if sX1_letter Z i0 = 121 then (if (Z.fr i0).w < sX1_first Z i0 then (0) else (if sX8_isGoingThere Z (sX1_fromTop Z i0 0) = 0 then (0) else (1))) else (0))) := rfl
set_option maxHeartbeats 4000000 in
set_option maxRecDepth 100000 in
theorem hX8_isStep (l : Launch) (D : va_G) (ar : Nat → ClassId) (κ : Nat → Nat) (G : gW) (x : Xo) (Z : Ho) (sz : Nat) (i0 : Fin 12) (hk : OK x Z) : Met l yX8_isStep (lwC yX8_isStep cX8_isStep 2 (some .boolean)) (rD 7 0 0) (g_Pc D vwCl (gT ar) (EX1 κ) (ov κ ar x Z G) sz [.ref (x.f .ho), .ref (x.f (.fr i0))]) (g_Qi D vwCl (g_A (ov κ ar x Z G) sz) (fun r u => r = sX8_isStep Z i0 ∧ u = (ov κ ar x Z G, sz))) 0 0 (g_A (ov κ ar x Z G) sz) := by
  refine g_ofW (by decide +kernel) (Nat.le_of_ble_eq_true rfl) ?_
  intro p e s m below meth c ls S hr hlk hin hE w hl
  have hx := S.1
  have hb := S.2.1
  have hl : lv_has ls 2 [(0, .ref (x.f .ho)), (1, .ref (x.f (.fr i0)))] := hl
  refine lv_aload_n hx hb dX8_isStep_0 rfl (lv_at hl 1 rfl) ?_
  refine g_calli w (g_runV (As := []) (rest := []) S hE w hl (hX1_letter l D ar κ G x Z sz i0 hk ) (k_RX8_368 S.2.2.2.2 ⟨Nat.le_of_ble_eq_true rfl, Nat.le_of_ble_eq_true rfl⟩) (ov_r (t := .fr i0) (hk.e (.fr i0) rfl)) rfl rfl rfl rfl (Nat.le_of_ble_eq_true rfl) dX8_isStep_1 ⟨Nat.le_of_ble_eq_true rfl, Nat.le_of_ble_eq_true rfl⟩) (fun r u H locs hp hnz w => ?_)
  obtain ⟨rfl, rfl⟩ := hp
  dsimp only at w
  by_cases c_4_0 : sX1_letter Z i0 = 77 ∨ sX1_letter Z i0 = 109
  · refine lv_lookup (off := 44) (tgt := 48) hx hb dX8_isStep_4 (by decide) (by rcases c_4_0 with h9 | h9 <;> (rw [h9]; decide)) (by decide) ?_
    refine lv_iconst (v := 1) hx hb dX8_isStep_48 (by decide) ?_
    exact g_zret hx hb hr hlk w (Nat.le_of_ble_eq_true rfl) (Nat.le_of_ble_eq_true rfl) dX8_isStep_49 rfl ⟨(((sX8_isStep_u Z i0).trans (if_pos c_4_0))).symm, rfl⟩
  by_cases c_4_1 : sX1_letter Z i0 = 106
  · refine lv_lookup (off := 46) (tgt := 50) hx hb dX8_isStep_4 (by decide) (by have h9 := c_4_1; (rw [h9]; decide)) (by decide) ?_
    refine lv_aload_n hx hb dX8_isStep_50 rfl (lv_at hl 1 rfl) ?_
    refine g_calli w (g_runV (As := []) (rest := []) S hE w hl (hX1_first l D ar κ G x Z sz i0 hk ) (k_RX8_372 S.2.2.2.2 ⟨Nat.le_of_ble_eq_true rfl, Nat.le_of_ble_eq_true rfl⟩) (ov_r (t := .fr i0) (hk.e (.fr i0) rfl)) rfl rfl rfl rfl (Nat.le_of_ble_eq_true rfl) dX8_isStep_51 ⟨Nat.le_of_ble_eq_true rfl, Nat.le_of_ble_eq_true rfl⟩) (fun r u H locs hp hnz w => ?_)
    obtain ⟨rfl, rfl⟩ := hp
    dsimp only at w
    refine lv_aload_n hx hb dX8_isStep_54 rfl (lv_at hl 1 rfl) ?_
    refine gf_RX8_324_7 (v := .int ((Z.fr i0).w)) S hE w (ov_r (t := .fr i0) (hk.e (.fr i0) rfl)) rfl dX8_isStep_55 ?_
    refine lv_icmp_gt (tgt := 65) hx hb dX8_isStep_58 (by decide) (fun c_58 => ?_) (fun c_58 => ?_)
    · refine lv_iconst (v := 0) hx hb dX8_isStep_65 (by decide) ?_
      exact g_zret hx hb hr hlk w (Nat.le_of_ble_eq_true rfl) (Nat.le_of_ble_eq_true rfl) dX8_isStep_66 rfl ⟨(((sX8_isStep_u Z i0).trans ((if_neg c_4_0).trans ((if_pos c_4_1).trans (if_pos c_58))))).symm, rfl⟩
    · refine lv_iconst (v := 1) hx hb dX8_isStep_61 (by decide) ?_
      refine lv_goto (tgt := 66) hx hb dX8_isStep_62 (by decide) ?_
      exact g_zret hx hb hr hlk w (Nat.le_of_ble_eq_true rfl) (Nat.le_of_ble_eq_true rfl) dX8_isStep_66 rfl ⟨(((sX8_isStep_u Z i0).trans ((if_neg c_4_0).trans ((if_pos c_4_1).trans (if_neg c_58))))).symm, rfl⟩
  by_cases c_4_2 : sX1_letter Z i0 = 121
  · refine lv_lookup (off := 63) (tgt := 67) hx hb dX8_isStep_4 (by decide) (by have h9 := c_4_2; (rw [h9]; decide)) (by decide) ?_
    refine lv_aload_n hx hb dX8_isStep_67 rfl (lv_at hl 1 rfl) ?_
    refine g_calli w (g_runV (As := []) (rest := []) S hE w hl (hX1_first l D ar κ G x Z sz i0 hk ) (k_RX8_372 S.2.2.2.2 ⟨Nat.le_of_ble_eq_true rfl, Nat.le_of_ble_eq_true rfl⟩) (ov_r (t := .fr i0) (hk.e (.fr i0) rfl)) rfl rfl rfl rfl (Nat.le_of_ble_eq_true rfl) dX8_isStep_68 ⟨Nat.le_of_ble_eq_true rfl, Nat.le_of_ble_eq_true rfl⟩) (fun r u H locs hp hnz w => ?_)
    obtain ⟨rfl, rfl⟩ := hp
    dsimp only at w
    refine lv_aload_n hx hb dX8_isStep_71 rfl (lv_at hl 1 rfl) ?_
    refine gf_RX8_324_7 (v := .int ((Z.fr i0).w)) S hE w (ov_r (t := .fr i0) (hk.e (.fr i0) rfl)) rfl dX8_isStep_72 ?_
    refine lv_icmp_gt (tgt := 93) hx hb dX8_isStep_75 (by decide) (fun c_75 => ?_) (fun c_75 => ?_)
    · refine lv_iconst (v := 0) hx hb dX8_isStep_93 (by decide) ?_
      exact g_zret hx hb hr hlk w (Nat.le_of_ble_eq_true rfl) (Nat.le_of_ble_eq_true rfl) dX8_isStep_94 rfl ⟨(((sX8_isStep_u Z i0).trans ((if_neg c_4_0).trans ((if_neg c_4_1).trans ((if_pos c_4_2).trans (if_pos c_75)))))).symm, rfl⟩
    · refine lv_aload_n hx hb dX8_isStep_78 rfl (lv_at hl 1 rfl) ?_
      refine lv_iconst (v := 0) hx hb dX8_isStep_79 (by decide) ?_
      refine g_calll w (g_runV (As := [.int 0]) (rest := []) S hE w hl (hX1_fromTop l D ar κ G x Z sz i0 0 hk ) (k_RX8_375 S.2.2.2.2 ⟨Nat.le_of_ble_eq_true rfl, Nat.le_of_ble_eq_true rfl⟩) (ov_r (t := .fr i0) (hk.e (.fr i0) rfl)) rfl rfl rfl rfl (Nat.le_of_ble_eq_true rfl) dX8_isStep_80 ⟨Nat.le_of_ble_eq_true rfl, Nat.le_of_ble_eq_true rfl⟩) (fun r u H locs hp hnz w => ?_)
      obtain ⟨rfl, rfl⟩ := hp
      dsimp only at w
      refine g_calli w (g_runS (As := [.long (sX1_fromTop Z i0 0)]) (rest := []) S hE w hl (hX8_isGoingThere l D ar κ G x Z sz (sX1_fromTop Z i0 0) hk ) (k_RX8_378 S.2.2.2.2 ⟨Nat.le_of_ble_eq_true rfl, Nat.le_of_ble_eq_true rfl⟩) rfl rfl (Nat.le_of_ble_eq_true rfl) dX8_isStep_83 ⟨Nat.le_of_ble_eq_true rfl, Nat.le_of_ble_eq_true rfl⟩) (fun r u H locs hp hnz w => ?_)
      obtain ⟨rfl, rfl⟩ := hp
      dsimp only at w
      refine lv_if_eq (tgt := 93) hx hb dX8_isStep_86 (by decide) (fun c_86 => ?_) (fun c_86 => ?_)
      · refine lv_iconst (v := 0) hx hb dX8_isStep_93 (by decide) ?_
        exact g_zret hx hb hr hlk w (Nat.le_of_ble_eq_true rfl) (Nat.le_of_ble_eq_true rfl) dX8_isStep_94 rfl ⟨(((sX8_isStep_u Z i0).trans ((if_neg c_4_0).trans ((if_neg c_4_1).trans ((if_pos c_4_2).trans ((if_neg c_75).trans (if_pos c_86))))))).symm, rfl⟩
      · refine lv_iconst (v := 1) hx hb dX8_isStep_89 (by decide) ?_
        refine lv_goto (tgt := 94) hx hb dX8_isStep_90 (by decide) ?_
        exact g_zret hx hb hr hlk w (Nat.le_of_ble_eq_true rfl) (Nat.le_of_ble_eq_true rfl) dX8_isStep_94 rfl ⟨(((sX8_isStep_u Z i0).trans ((if_neg c_4_0).trans ((if_neg c_4_1).trans ((if_pos c_4_2).trans ((if_neg c_75).trans (if_neg c_86))))))).symm, rfl⟩
  refine lv_lookup (off := 91) (tgt := 95) hx hb dX8_isStep_4 (by decide) (sw_def (ks := [77, 106, 109, 121]) ⟨(fun h9 => c_4_0 (Or.inl h9)), c_4_1, (fun h9 => c_4_0 (Or.inr (h9))), c_4_2, trivial⟩ (by decide +kernel)) (by decide) ?_
  refine lv_iconst (v := 0) hx hb dX8_isStep_95 (by decide) ?_
  exact g_zret hx hb hr hlk w (Nat.le_of_ble_eq_true rfl) (Nat.le_of_ble_eq_true rfl) dX8_isStep_96 rfl ⟨(((sX8_isStep_u Z i0).trans ((if_neg c_4_0).trans ((if_neg c_4_1).trans (if_neg c_4_2))))).symm, rfl⟩
def sX8_valueToPut (Z : Ho) (i0 : Fin 12) (c0 : Int32) (j0 : Int32) : Int64 := if c0 = 97 then (pA ((Z.fr i0).a) 2 j0) else (if c0 = 100 then (sX1_fromTop Z i0 0) else (if c0 = 103 then (pA Z.gl 8 j0) else (if c0 = 110 then (sX8_ofNumber Z j0) else (if c0 = 115 then ((Z.fr i0).v) else (if c0 = 116 then (pA ((Z.fr i0).t) 4 j0) else (502511173632))))))
theorem sX8_valueToPut_u (Z : Ho) (i0 : Fin 12) (c0 : Int32) (j0 : Int32) : sX8_valueToPut Z i0 c0 j0 = if c0 = 97 then (pA ((Z.fr i0).a) 2 j0) else (if c0 = 100 then (sX1_fromTop Z i0 0) else (if c0 = 103 then (pA Z.gl 8 j0) else (if c0 = 110 then (sX8_ofNumber Z j0) else (if c0 = 115 then ((Z.fr i0).v) else (if c0 = 116 then (pA ((Z.fr i0).t) 4 j0) else (502511173632)))))) := rfl
set_option maxHeartbeats 4000000 in
set_option maxRecDepth 100000 in
theorem hX8_valueToPut (l : Launch) (D : va_G) (ar : Nat → ClassId) (κ : Nat → Nat) (G : gW) (x : Xo) (Z : Ho) (sz : Nat) (i0 : Fin 12) (c0 : Int32) (j0 : Int32) (hk : OK x Z) : Met l yX8_valueToPut (lwC yX8_valueToPut cX8_valueToPut 4 (some .long)) (rD 6 0 0) (g_Pc D vwCl (gT ar) (EX1 κ) (ov κ ar x Z G) sz [.ref (x.f .ho), .ref (x.f (.fr i0)), .int c0, .int j0]) (g_Ql D vwCl (g_A (ov κ ar x Z G) sz) (fun r u => r = sX8_valueToPut Z i0 c0 j0 ∧ u = (ov κ ar x Z G, sz))) 0 0 (g_A (ov κ ar x Z G) sz) := by
  refine g_ofW (by decide +kernel) (Nat.le_of_ble_eq_true rfl) ?_
  intro p e s m below meth c ls S hr hlk hin hE w hl
  have hx := S.1
  have hb := S.2.1
  have hl : lv_has ls 4 [(0, .ref (x.f .ho)), (1, .ref (x.f (.fr i0))), (2, .int c0), (3, .int j0)] := hl
  refine lv_iload_n hx hb dX8_valueToPut_0 rfl (lv_at hl 2 rfl) ?_
  by_cases c_1_0 : c0 = 97
  · refine lv_tableIn (off := 105) (tgt := 106) hx hb dX8_valueToPut_1 (by have h9 := c_1_0; (rw [h9]; decide)) (by have h9 := c_1_0; (rw [h9]; decide)) (by have h9 := c_1_0; (rw [h9]; decide)) (by decide) ?_
    refine lv_aload_n hx hb dX8_valueToPut_106 rfl (lv_at hl 1 rfl) ?_
    refine gf_RX8_296_7 (v := .ref (x.f (.fa i0))) S hE w (ov_r (t := .fr i0) (hk.e (.fr i0) rfl)) rfl dX8_valueToPut_107 ?_
    refine lv_iload_n hx hb dX8_valueToPut_110 rfl (lv_at hl 3 rfl) ?_
    refine g_calll w (g_runS (As := [.ref (x.f (.fa i0)), .int j0]) (rest := []) S hE w hl (c_X8_placeAt l D ar κ (ov κ ar x Z G) sz (x.f (.fa i0)) j0 2 ((Z.fr i0).a) (ov_r (t := .fa i0) (hk.e (.fa i0) rfl)) (by decide)) (k_RX8_222 S.2.2.2.2 ⟨Nat.le_of_ble_eq_true rfl, Nat.le_of_ble_eq_true rfl⟩) rfl rfl (Nat.le_of_ble_eq_true rfl) dX8_valueToPut_111 ⟨Nat.le_of_ble_eq_true rfl, Nat.le_of_ble_eq_true rfl⟩) (fun r u H locs hp hnz w => ?_)
    obtain ⟨rfl, rfl⟩ := hp
    dsimp only at w
    exact g_lret hx hb hr hlk w (Nat.le_of_ble_eq_true rfl) (Nat.le_of_ble_eq_true rfl) dX8_valueToPut_114 ⟨(((sX8_valueToPut_u Z i0 c0 j0).trans (if_pos c_1_0))).symm, rfl⟩
  by_cases c_1_1 : c0 = 100
  · refine lv_tableIn (off := 132) (tgt := 133) hx hb dX8_valueToPut_1 (by have h9 := c_1_1; (rw [h9]; decide)) (by have h9 := c_1_1; (rw [h9]; decide)) (by have h9 := c_1_1; (rw [h9]; decide)) (by decide) ?_
    refine lv_aload_n hx hb dX8_valueToPut_133 rfl (lv_at hl 1 rfl) ?_
    refine lv_iconst (v := 0) hx hb dX8_valueToPut_134 (by decide) ?_
    refine g_calll w (g_runV (As := [.int 0]) (rest := []) S hE w hl (hX1_fromTop l D ar κ G x Z sz i0 0 hk ) (k_RX8_375 S.2.2.2.2 ⟨Nat.le_of_ble_eq_true rfl, Nat.le_of_ble_eq_true rfl⟩) (ov_r (t := .fr i0) (hk.e (.fr i0) rfl)) rfl rfl rfl rfl (Nat.le_of_ble_eq_true rfl) dX8_valueToPut_135 ⟨Nat.le_of_ble_eq_true rfl, Nat.le_of_ble_eq_true rfl⟩) (fun r u H locs hp hnz w => ?_)
    obtain ⟨rfl, rfl⟩ := hp
    dsimp only at w
    exact g_lret hx hb hr hlk w (Nat.le_of_ble_eq_true rfl) (Nat.le_of_ble_eq_true rfl) dX8_valueToPut_138 ⟨(((sX8_valueToPut_u Z i0 c0 j0).trans ((if_neg c_1_0).trans (if_pos c_1_1)))).symm, rfl⟩
  by_cases c_1_2 : c0 = 103
  · refine lv_tableIn (off := 123) (tgt := 124) hx hb dX8_valueToPut_1 (by have h9 := c_1_2; (rw [h9]; decide)) (by have h9 := c_1_2; (rw [h9]; decide)) (by have h9 := c_1_2; (rw [h9]; decide)) (by decide) ?_
    refine lv_aload_n hx hb dX8_valueToPut_124 rfl (lv_at hl 0 rfl) ?_
    refine gf_RX8_33_14 (v := .ref (x.f .gl)) S hE w (ov_r (t := .ho) (hk.e (.ho) rfl)) rfl dX8_valueToPut_125 ?_
    refine lv_iload_n hx hb dX8_valueToPut_128 rfl (lv_at hl 3 rfl) ?_
    refine g_calll w (g_runS (As := [.ref (x.f .gl), .int j0]) (rest := []) S hE w hl (c_X8_placeAt l D ar κ (ov κ ar x Z G) sz (x.f .gl) j0 8 Z.gl (ov_r (t := .gl) (hk.e (.gl) rfl)) (by decide)) (k_RX8_222 S.2.2.2.2 ⟨Nat.le_of_ble_eq_true rfl, Nat.le_of_ble_eq_true rfl⟩) rfl rfl (Nat.le_of_ble_eq_true rfl) dX8_valueToPut_129 ⟨Nat.le_of_ble_eq_true rfl, Nat.le_of_ble_eq_true rfl⟩) (fun r u H locs hp hnz w => ?_)
    obtain ⟨rfl, rfl⟩ := hp
    dsimp only at w
    exact g_lret hx hb hr hlk w (Nat.le_of_ble_eq_true rfl) (Nat.le_of_ble_eq_true rfl) dX8_valueToPut_132 ⟨(((sX8_valueToPut_u Z i0 c0 j0).trans ((if_neg c_1_0).trans ((if_neg c_1_1).trans (if_pos c_1_2))))).symm, rfl⟩
  by_cases c_1_3 : c0 = 110
  · refine lv_tableIn (off := 95) (tgt := 96) hx hb dX8_valueToPut_1 (by have h9 := c_1_3; (rw [h9]; decide)) (by have h9 := c_1_3; (rw [h9]; decide)) (by have h9 := c_1_3; (rw [h9]; decide)) (by decide) ?_
    refine lv_iload_n hx hb dX8_valueToPut_96 rfl (lv_at hl 3 rfl) ?_
    refine g_calll w (g_runS (As := [.int j0]) (rest := []) S hE w hl (hX8_ofNumber l D ar κ G x Z sz j0 hk ) (k_RX8_199 S.2.2.2.2 ⟨Nat.le_of_ble_eq_true rfl, Nat.le_of_ble_eq_true rfl⟩) rfl rfl (Nat.le_of_ble_eq_true rfl) dX8_valueToPut_97 ⟨Nat.le_of_ble_eq_true rfl, Nat.le_of_ble_eq_true rfl⟩) (fun r u H locs hp hnz w => ?_)
    obtain ⟨rfl, rfl⟩ := hp
    dsimp only at w
    exact g_lret hx hb hr hlk w (Nat.le_of_ble_eq_true rfl) (Nat.le_of_ble_eq_true rfl) dX8_valueToPut_100 ⟨(((sX8_valueToPut_u Z i0 c0 j0).trans ((if_neg c_1_0).trans ((if_neg c_1_1).trans ((if_neg c_1_2).trans (if_pos c_1_3)))))).symm, rfl⟩
  by_cases c_1_4 : c0 = 115
  · refine lv_tableIn (off := 100) (tgt := 101) hx hb dX8_valueToPut_1 (by have h9 := c_1_4; (rw [h9]; decide)) (by have h9 := c_1_4; (rw [h9]; decide)) (by have h9 := c_1_4; (rw [h9]; decide)) (by decide) ?_
    refine lv_aload_n hx hb dX8_valueToPut_101 rfl (lv_at hl 1 rfl) ?_
    refine gf_RX8_344_7 (v := .long ((Z.fr i0).v)) S hE w (ov_r (t := .fr i0) (hk.e (.fr i0) rfl)) rfl dX8_valueToPut_102 ?_
    exact g_lret hx hb hr hlk w (Nat.le_of_ble_eq_true rfl) (Nat.le_of_ble_eq_true rfl) dX8_valueToPut_105 ⟨(((sX8_valueToPut_u Z i0 c0 j0).trans ((if_neg c_1_0).trans ((if_neg c_1_1).trans ((if_neg c_1_2).trans ((if_neg c_1_3).trans (if_pos c_1_4))))))).symm, rfl⟩
  by_cases c_1_5 : c0 = 116
  · refine lv_tableIn (off := 114) (tgt := 115) hx hb dX8_valueToPut_1 (by have h9 := c_1_5; (rw [h9]; decide)) (by have h9 := c_1_5; (rw [h9]; decide)) (by have h9 := c_1_5; (rw [h9]; decide)) (by decide) ?_
    refine lv_aload_n hx hb dX8_valueToPut_115 rfl (lv_at hl 1 rfl) ?_
    refine gf_RX8_419_7 (v := .ref (x.f (.ft i0))) S hE w (ov_r (t := .fr i0) (hk.e (.fr i0) rfl)) rfl dX8_valueToPut_116 ?_
    refine lv_iload_n hx hb dX8_valueToPut_119 rfl (lv_at hl 3 rfl) ?_
    refine g_calll w (g_runS (As := [.ref (x.f (.ft i0)), .int j0]) (rest := []) S hE w hl (c_X8_placeAt l D ar κ (ov κ ar x Z G) sz (x.f (.ft i0)) j0 4 ((Z.fr i0).t) (ov_r (t := .ft i0) (hk.e (.ft i0) rfl)) (by decide)) (k_RX8_222 S.2.2.2.2 ⟨Nat.le_of_ble_eq_true rfl, Nat.le_of_ble_eq_true rfl⟩) rfl rfl (Nat.le_of_ble_eq_true rfl) dX8_valueToPut_120 ⟨Nat.le_of_ble_eq_true rfl, Nat.le_of_ble_eq_true rfl⟩) (fun r u H locs hp hnz w => ?_)
    obtain ⟨rfl, rfl⟩ := hp
    dsimp only at w
    exact g_lret hx hb hr hlk w (Nat.le_of_ble_eq_true rfl) (Nat.le_of_ble_eq_true rfl) dX8_valueToPut_123 ⟨(((sX8_valueToPut_u Z i0 c0 j0).trans ((if_neg c_1_0).trans ((if_neg c_1_1).trans ((if_neg c_1_2).trans ((if_neg c_1_3).trans ((if_neg c_1_4).trans (if_pos c_1_5)))))))).symm, rfl⟩
  refine sw_tab (dflt := 138) (ks := [97, 100, 103, 110, 115, 116]) (tgt := 139) hx hb dX8_valueToPut_1 ⟨c_1_0, c_1_1, c_1_2, c_1_3, c_1_4, c_1_5, trivial⟩ (by decide +kernel) (by decide) ?_
  refine lv_ldc2 hx hb S.2.2.2.1 (S.2.2.2.2 _ m_1_157) dX8_valueToPut_139 ?_
  exact g_lret hx hb hr hlk w (Nat.le_of_ble_eq_true rfl) (Nat.le_of_ble_eq_true rfl) dX8_valueToPut_142 ⟨(((sX8_valueToPut_u Z i0 c0 j0).trans ((if_neg c_1_0).trans ((if_neg c_1_1).trans ((if_neg c_1_2).trans ((if_neg c_1_3).trans ((if_neg c_1_4).trans (if_neg c_1_5)))))))).symm, rfl⟩
def sX8_putField (Z : Ho) (i0 : Fin 12) (j0 : Int32) : Ho := oc (sX5_ofValue Z ((Z.fr i0).v)) (vc (sX8_fault Z 107) (fun T3 => T3)) (fun k1 => if sX4_hasField Z k1 j0 = 0 then (vc (sX8_fault Z 107) (fun T11 => T11)) else (vc (sX1_push Z i0 (pA ((Z.th k1).p) 8 j0)) (fun T7 => (T7.frS i0 ((T7.fr i0).sw (((T7.fr i0).w) + 1))))))
theorem sX8_putField_u (Z : Ho) (i0 : Fin 12) (j0 : Int32) : sX8_putField Z i0 j0 = oc (sX5_ofValue Z ((Z.fr i0).v)) (vc (sX8_fault Z 107) (fun T3 => T3)) (fun k1 => if sX4_hasField Z k1 j0 = 0 then (vc (sX8_fault Z 107) (fun T11 => T11)) else (vc (sX1_push Z i0 (pA ((Z.th k1).p) 8 j0)) (fun T7 => (T7.frS i0 ((T7.fr i0).sw (((T7.fr i0).w) + 1)))))) := rfl
set_option maxHeartbeats 4000000 in
set_option maxRecDepth 100000 in
theorem hX8_putField (l : Launch) (D : va_G) (ar : Nat → ClassId) (κ : Nat → Nat) (G : gW) (x : Xo) (Z : Ho) (sz : Nat) (i0 : Fin 12) (j0 : Int32) (hk : OK x Z) : Met l yX8_putField (lwC yX8_putField cX8_putField 4 none) (rD 8 0 0) (g_Pc D vwCl (gT ar) (EX1 κ) (ov κ ar x Z G) sz [.ref (x.f .ho), .ref (x.f (.fr i0)), .int j0]) (g_Qv D vwCl (g_A (ov κ ar x Z G) sz) (fun u => ∃ T9 : Ho, sX8_putField Z i0 j0 = T9 ∧ u = (ov κ ar x T9 G, sz) ∧ OK x T9 ∧ SZ T9 Z)) 0 0 (g_A (ov κ ar x Z G) sz) := by
  refine g_ofW (by decide +kernel) (Nat.le_of_ble_eq_true rfl) ?_
  intro p e s m below meth c ls S hr hlk hin hE w hl
  have hx := S.1
  have hb := S.2.1
  have hl : lv_has ls 4 [(0, .ref (x.f .ho)), (1, .ref (x.f (.fr i0))), (2, .int j0)] := hl
  refine lv_aload_n hx hb dX8_putField_0 rfl (lv_at hl 0 rfl) ?_
  refine gf_RX8_40_14 (v := .ref (x.f .ts)) S hE w (ov_r (t := .ho) (hk.e (.ho) rfl)) rfl dX8_putField_1 ?_
  refine lv_aload_n hx hb dX8_putField_4 rfl (lv_at hl 1 rfl) ?_
  refine gf_RX8_344_7 (v := .long ((Z.fr i0).v)) S hE w (ov_r (t := .fr i0) (hk.e (.fr i0) rfl)) rfl dX8_putField_5 ?_
  refine g_callq w (g_runV (As := [.long ((Z.fr i0).v)]) (rest := []) S hE w hl (hX5_ofValue l D ar κ G x Z sz ((Z.fr i0).v) hk ) (k_RX8_431 S.2.2.2.2 ⟨Nat.le_of_ble_eq_true rfl, Nat.le_of_ble_eq_true rfl⟩) (ov_r (t := .ts) (hk.e (.ts) rfl)) rfl rfl rfl rfl (Nat.le_of_ble_eq_true rfl) dX8_putField_8 ⟨Nat.le_of_ble_eq_true rfl, Nat.le_of_ble_eq_true rfl⟩) (fun r u H locs hp hnz w => ?_)
  obtain ⟨rfl, rfl⟩ := hp
  dsimp only at w
  refine lv_astore_nQ (lv' := [(3, va_rf ((sX5_ofValue Z ((Z.fr i0).v)).map (fun k9 => x.f (.th k9)))), (0, .ref (x.f .ho)), (1, .ref (x.f (.fr i0))), (2, .int j0)]) hx hb dX8_putField_11 rfl hl (by decide) rfl (fun ls hl => ?_)
  refine lv_aload_nQ hx hb dX8_putField_12 rfl (lv_at hl 0 rfl) ?_
  rcases he2 : sX5_ofValue Z ((Z.fr i0).v) with _ | k1
  · have hl : lv_has ls 4 [(3, .null), (0, .ref (x.f .ho)), (1, .ref (x.f (.fr i0))), (2, .int j0)] := by rw [he2] at hl; exact hl
    show W p l e _ s m _ below meth c _ _ _ _ _ (F0 m 13 ls [.null])
    refine lv_ifnullN (tgt := 24) hx hb dX8_putField_13 (by decide) ?_
    refine lv_aload_n hx hb dX8_putField_24 rfl (lv_at hl 1 rfl) ?_
    refine lv_bipush (v := 107) hx hb dX8_putField_25 (by decide) ?_
    refine g_callv w (g_runV (As := [.int 107]) (rest := []) S hE w hl (hX8_fault l D ar κ G x Z sz 107 hk rfl rfl) (k_RX8_435 S.2.2.2.2 ⟨Nat.le_of_ble_eq_true rfl, Nat.le_of_ble_eq_true rfl⟩) (ov_r (t := .ho) (hk.e (.ho) rfl)) rfl rfl rfl rfl (Nat.le_of_ble_eq_true rfl) dX8_putField_27 ⟨Nat.le_of_ble_eq_true rfl, Nat.le_of_ble_eq_true rfl⟩) (fun u H locs hp hnz w => ?_)
    obtain ⟨T3, e4, hu9, hk5, sq6⟩ := hp
    subst hu9
    dsimp only at w
    exact g_vret hx hb hr hlk w (Nat.le_of_ble_eq_true rfl) (Nat.le_of_ble_eq_true rfl) dX8_putField_30 ⟨_, ((sX8_putField_u Z i0 j0).trans ((oc_n he2).trans (vc_e e4))), rfl, hk5, (SZ.t sq6 ⟨rfl, rfl, rfl, rfl⟩)⟩
  · have hl : lv_has ls 4 [(3, .ref (x.f (.th k1))), (0, .ref (x.f .ho)), (1, .ref (x.f (.fr i0))), (2, .int j0)] := by rw [he2] at hl; exact hl
    show W p l e _ s m _ below meth c _ _ _ _ _ (F0 m 13 ls [.ref (x.f (.th k1))])
    refine lv_ifnull hx hb dX8_putField_13 ?_
    refine lv_aload_n hx hb dX8_putField_16 rfl (lv_at hl 0 rfl) ?_
    refine lv_iload_n hx hb dX8_putField_17 rfl (lv_at hl 3 rfl) ?_
    refine g_calli w (g_runV (As := [.int j0]) (rest := []) S hE w hl (hX4_hasField l D ar κ G x Z sz k1 j0 hk ) (k_RX8_267 S.2.2.2.2 ⟨Nat.le_of_ble_eq_true rfl, Nat.le_of_ble_eq_true rfl⟩) (ov_r (t := .th k1) (hk.e (.th k1) rfl)) rfl rfl rfl rfl (Nat.le_of_ble_eq_true rfl) dX8_putField_18 ⟨Nat.le_of_ble_eq_true rfl, Nat.le_of_ble_eq_true rfl⟩) (fun r u H locs hp hnz w => ?_)
    obtain ⟨rfl, rfl⟩ := hp
    dsimp only at w
    refine lv_if_ne (tgt := 31) hx hb dX8_putField_21 (by decide) (fun c_21 => ?_) (fun c_21 => ?_)
    · refine lv_aload_n hx hb dX8_putField_31 rfl (lv_at hl 2 rfl) ?_
      refine lv_aload_n hx hb dX8_putField_32 rfl (lv_at hl 0 rfl) ?_
      refine gf_RX8_272_10 (v := .ref (x.f (.tp k1))) S hE w (ov_r (t := .th k1) (hk.e (.th k1) rfl)) rfl dX8_putField_33 ?_
      refine lv_iload_n hx hb dX8_putField_36 rfl (lv_at hl 3 rfl) ?_
      refine g_calll w (g_runS (As := [.ref (x.f (.tp k1)), .int j0]) (rest := [.ref (x.f (.fr i0))]) S hE w hl (c_X8_placeAt l D ar κ (ov κ ar x Z G) sz (x.f (.tp k1)) j0 8 ((Z.th k1).p) (ov_r (t := .tp k1) (hk.e (.tp k1) rfl)) (by decide)) (k_RX8_222 S.2.2.2.2 ⟨Nat.le_of_ble_eq_true rfl, Nat.le_of_ble_eq_true rfl⟩) rfl rfl (Nat.le_of_ble_eq_true rfl) dX8_putField_37 ⟨Nat.le_of_ble_eq_true rfl, Nat.le_of_ble_eq_true rfl⟩) (fun r u H locs hp hnz w => ?_)
      obtain ⟨rfl, rfl⟩ := hp
      dsimp only at w
      refine g_callv w (g_runV (As := [.long (pA ((Z.th k1).p) 8 j0)]) (rest := []) S hE w hl (hX1_push l D ar κ G x Z sz i0 (pA ((Z.th k1).p) 8 j0) hk ) (k_RX8_424 S.2.2.2.2 ⟨Nat.le_of_ble_eq_true rfl, Nat.le_of_ble_eq_true rfl⟩) (ov_r (t := .fr i0) (hk.e (.fr i0) rfl)) rfl rfl rfl rfl (Nat.le_of_ble_eq_true rfl) dX8_putField_40 ⟨Nat.le_of_ble_eq_true rfl, Nat.le_of_ble_eq_true rfl⟩) (fun u H locs hp hnz w => ?_)
      obtain ⟨T7, e8, hu9, hk9, sq10⟩ := hp
      subst hu9
      dsimp only at w
      refine lv_aload_n hx hb dX8_putField_43 rfl (lv_at hl 2 rfl) ?_
      refine lv_dup hx hb dX8_putField_44 rfl ?_
      refine gf_RX8_324_7 (v := .int ((T7.fr i0).w)) S hE w (ov_r (t := .fr i0) (hk9.e (.fr i0) rfl)) rfl dX8_putField_45 ?_
      refine lv_iconst (v := 1) hx hb dX8_putField_48 (by decide) ?_
      refine lv_iadd hx hb dX8_putField_49 ?_
      refine pf_RX8_324_7 (fs1 := [.ref (x.f (.fa i0)), .ref (x.f (.ft i0)), .ref (x.f (.fp i0)), va_rf (((T7.fr i0).o).map (fun k9 => x.f (.to k9))), .long ((T7.fr i0).v), .int (((T7.fr i0).w) + 1), .int ((T7.fr i0).d)]) S hE w (ov_r (t := .fr i0) (hk9.e (.fr i0) rfl)) rfl rfl (Nat.le_of_ble_eq_true rfl) rfl dX8_putField_50 (fun H locs w => ?_)
      have w := g_eqw w (congrArg (fun Z9 => g_up (ov κ ar x Z9 G) (x.f (.fr i0)) (.inr (7, [.ref (x.f (.fa i0)), .ref (x.f (.ft i0)), .ref (x.f (.fp i0)), va_rf (((T7.fr i0).o).map (fun k9 => x.f (.to k9))), .long ((T7.fr i0).v), .int (((T7.fr i0).w) + 1), .int ((T7.fr i0).d)]))) (frS_id (S := T7) (i := i0)).symm)
      have w : g_S D vwCl (g_A (ov κ ar x Z G) sz) s.heap (ov κ ar x (T7.frS i0 ((T7.fr i0).sw (((T7.fr i0).w) + 1))) G) H _ sz := g_eqw w (ov_wfr (S := T7) (v := (T7.fr i0)) (v' := ((T7.fr i0).sw (((T7.fr i0).w) + 1))) hk9.v (hk9.e (.fr i0) rfl) rfl Fr_a_sw Fr_t_sw Fr_p_sw)
      exact g_vret hx hb hr hlk w (Nat.le_of_ble_eq_true rfl) (Nat.le_of_ble_eq_true rfl) dX8_putField_53 ⟨_, ((sX8_putField_u Z i0 j0).trans ((oc_s he2).trans ((if_neg c_21).trans (vc_e e8)))), rfl, (OK.frS (S := T7) hk9 (fun k9 q9 => hk9.o (i := i0) q9)), (SZ.t sq10 ⟨rfl, rfl, rfl, rfl⟩)⟩
    · refine lv_aload_n hx hb dX8_putField_24 rfl (lv_at hl 1 rfl) ?_
      refine lv_bipush (v := 107) hx hb dX8_putField_25 (by decide) ?_
      refine g_callv w (g_runV (As := [.int 107]) (rest := []) S hE w hl (hX8_fault l D ar κ G x Z sz 107 hk rfl rfl) (k_RX8_435 S.2.2.2.2 ⟨Nat.le_of_ble_eq_true rfl, Nat.le_of_ble_eq_true rfl⟩) (ov_r (t := .ho) (hk.e (.ho) rfl)) rfl rfl rfl rfl (Nat.le_of_ble_eq_true rfl) dX8_putField_27 ⟨Nat.le_of_ble_eq_true rfl, Nat.le_of_ble_eq_true rfl⟩) (fun u H locs hp hnz w => ?_)
      obtain ⟨T11, e12, hu9, hk13, sq14⟩ := hp
      subst hu9
      dsimp only at w
      exact g_vret hx hb hr hlk w (Nat.le_of_ble_eq_true rfl) (Nat.le_of_ble_eq_true rfl) dX8_putField_30 ⟨_, ((sX8_putField_u Z i0 j0).trans ((oc_s he2).trans ((if_pos c_21).trans (vc_e e12)))), rfl, hk13, (SZ.t sq14 ⟨rfl, rfl, rfl, rfl⟩)⟩
def sX8_takeIntoField (Z : Ho) (i0 : Fin 12) (j0 : Int32) : Ho := oc (sX5_ofValue Z ((Z.fr i0).v)) (vc (sX8_fault Z 107) (fun T3 => T3)) (fun k1 => if sX4_hasField Z k1 j0 = 0 then (vc (sX8_fault Z 107) (fun T12 => T12)) else (pc (sX1_pop Z i0) (fun r7 T8 => ((T8.thS k1 ((T8.th k1).sp (pU ((T8.th k1).p) 8 j0 r7))).frS i0 ((T8.fr i0).sw (((T8.fr i0).w) + 1))))))
theorem sX8_takeIntoField_u (Z : Ho) (i0 : Fin 12) (j0 : Int32) : sX8_takeIntoField Z i0 j0 = oc (sX5_ofValue Z ((Z.fr i0).v)) (vc (sX8_fault Z 107) (fun T3 => T3)) (fun k1 => if sX4_hasField Z k1 j0 = 0 then (vc (sX8_fault Z 107) (fun T12 => T12)) else (pc (sX1_pop Z i0) (fun r7 T8 => ((T8.thS k1 ((T8.th k1).sp (pU ((T8.th k1).p) 8 j0 r7))).frS i0 ((T8.fr i0).sw (((T8.fr i0).w) + 1)))))) := rfl
set_option maxHeartbeats 4000000 in
set_option maxRecDepth 100000 in
theorem hX8_takeIntoField (l : Launch) (D : va_G) (ar : Nat → ClassId) (κ : Nat → Nat) (G : gW) (x : Xo) (Z : Ho) (sz : Nat) (i0 : Fin 12) (j0 : Int32) (hk : OK x Z) : Met l yX8_takeIntoField (lwC yX8_takeIntoField cX8_takeIntoField 4 none) (rD 8 0 0) (g_Pc D vwCl (gT ar) (EX1 κ) (ov κ ar x Z G) sz [.ref (x.f .ho), .ref (x.f (.fr i0)), .int j0]) (g_Qv D vwCl (g_A (ov κ ar x Z G) sz) (fun u => ∃ T9 : Ho, sX8_takeIntoField Z i0 j0 = T9 ∧ u = (ov κ ar x T9 G, sz) ∧ OK x T9 ∧ SZ T9 Z)) 0 0 (g_A (ov κ ar x Z G) sz) := by
  refine g_ofW (by decide +kernel) (Nat.le_of_ble_eq_true rfl) ?_
  intro p e s m below meth c ls S hr hlk hin hE w hl
  have hx := S.1
  have hb := S.2.1
  have hl : lv_has ls 4 [(0, .ref (x.f .ho)), (1, .ref (x.f (.fr i0))), (2, .int j0)] := hl
  refine lv_aload_n hx hb dX8_takeIntoField_0 rfl (lv_at hl 0 rfl) ?_
  refine gf_RX8_40_14 (v := .ref (x.f .ts)) S hE w (ov_r (t := .ho) (hk.e (.ho) rfl)) rfl dX8_takeIntoField_1 ?_
  refine lv_aload_n hx hb dX8_takeIntoField_4 rfl (lv_at hl 1 rfl) ?_
  refine gf_RX8_344_7 (v := .long ((Z.fr i0).v)) S hE w (ov_r (t := .fr i0) (hk.e (.fr i0) rfl)) rfl dX8_takeIntoField_5 ?_
  refine g_callq w (g_runV (As := [.long ((Z.fr i0).v)]) (rest := []) S hE w hl (hX5_ofValue l D ar κ G x Z sz ((Z.fr i0).v) hk ) (k_RX8_431 S.2.2.2.2 ⟨Nat.le_of_ble_eq_true rfl, Nat.le_of_ble_eq_true rfl⟩) (ov_r (t := .ts) (hk.e (.ts) rfl)) rfl rfl rfl rfl (Nat.le_of_ble_eq_true rfl) dX8_takeIntoField_8 ⟨Nat.le_of_ble_eq_true rfl, Nat.le_of_ble_eq_true rfl⟩) (fun r u H locs hp hnz w => ?_)
  obtain ⟨rfl, rfl⟩ := hp
  dsimp only at w
  refine lv_astore_nQ (lv' := [(3, va_rf ((sX5_ofValue Z ((Z.fr i0).v)).map (fun k9 => x.f (.th k9)))), (0, .ref (x.f .ho)), (1, .ref (x.f (.fr i0))), (2, .int j0)]) hx hb dX8_takeIntoField_11 rfl hl (by decide) rfl (fun ls hl => ?_)
  refine lv_aload_nQ hx hb dX8_takeIntoField_12 rfl (lv_at hl 0 rfl) ?_
  rcases he2 : sX5_ofValue Z ((Z.fr i0).v) with _ | k1
  · have hl : lv_has ls 4 [(3, .null), (0, .ref (x.f .ho)), (1, .ref (x.f (.fr i0))), (2, .int j0)] := by rw [he2] at hl; exact hl
    show W p l e _ s m _ below meth c _ _ _ _ _ (F0 m 13 ls [.null])
    refine lv_ifnullN (tgt := 24) hx hb dX8_takeIntoField_13 (by decide) ?_
    refine lv_aload_n hx hb dX8_takeIntoField_24 rfl (lv_at hl 1 rfl) ?_
    refine lv_bipush (v := 107) hx hb dX8_takeIntoField_25 (by decide) ?_
    refine g_callv w (g_runV (As := [.int 107]) (rest := []) S hE w hl (hX8_fault l D ar κ G x Z sz 107 hk rfl rfl) (k_RX8_435 S.2.2.2.2 ⟨Nat.le_of_ble_eq_true rfl, Nat.le_of_ble_eq_true rfl⟩) (ov_r (t := .ho) (hk.e (.ho) rfl)) rfl rfl rfl rfl (Nat.le_of_ble_eq_true rfl) dX8_takeIntoField_27 ⟨Nat.le_of_ble_eq_true rfl, Nat.le_of_ble_eq_true rfl⟩) (fun u H locs hp hnz w => ?_)
    obtain ⟨T3, e4, hu9, hk5, sq6⟩ := hp
    subst hu9
    dsimp only at w
    exact g_vret hx hb hr hlk w (Nat.le_of_ble_eq_true rfl) (Nat.le_of_ble_eq_true rfl) dX8_takeIntoField_30 ⟨_, ((sX8_takeIntoField_u Z i0 j0).trans ((oc_n he2).trans (vc_e e4))), rfl, hk5, (SZ.t sq6 ⟨rfl, rfl, rfl, rfl⟩)⟩
  · have hl : lv_has ls 4 [(3, .ref (x.f (.th k1))), (0, .ref (x.f .ho)), (1, .ref (x.f (.fr i0))), (2, .int j0)] := by rw [he2] at hl; exact hl
    show W p l e _ s m _ below meth c _ _ _ _ _ (F0 m 13 ls [.ref (x.f (.th k1))])
    refine lv_ifnull hx hb dX8_takeIntoField_13 ?_
    refine lv_aload_n hx hb dX8_takeIntoField_16 rfl (lv_at hl 0 rfl) ?_
    refine lv_iload_n hx hb dX8_takeIntoField_17 rfl (lv_at hl 3 rfl) ?_
    refine g_calli w (g_runV (As := [.int j0]) (rest := []) S hE w hl (hX4_hasField l D ar κ G x Z sz k1 j0 hk ) (k_RX8_267 S.2.2.2.2 ⟨Nat.le_of_ble_eq_true rfl, Nat.le_of_ble_eq_true rfl⟩) (ov_r (t := .th k1) (hk.e (.th k1) rfl)) rfl rfl rfl rfl (Nat.le_of_ble_eq_true rfl) dX8_takeIntoField_18 ⟨Nat.le_of_ble_eq_true rfl, Nat.le_of_ble_eq_true rfl⟩) (fun r u H locs hp hnz w => ?_)
    obtain ⟨rfl, rfl⟩ := hp
    dsimp only at w
    refine lv_if_ne (tgt := 31) hx hb dX8_takeIntoField_21 (by decide) (fun c_21 => ?_) (fun c_21 => ?_)
    · refine lv_aload_n hx hb dX8_takeIntoField_31 rfl (lv_at hl 0 rfl) ?_
      refine gf_RX8_272_10 (v := .ref (x.f (.tp k1))) S hE w (ov_r (t := .th k1) (hk.e (.th k1) rfl)) rfl dX8_takeIntoField_32 ?_
      refine lv_iload_n hx hb dX8_takeIntoField_35 rfl (lv_at hl 3 rfl) ?_
      refine lv_aload_n hx hb dX8_takeIntoField_36 rfl (lv_at hl 2 rfl) ?_
      refine g_calll w (g_runV (As := []) (rest := [.int j0, .ref (x.f (.tp k1))]) S hE w hl (hX1_pop l D ar κ G x Z sz i0 hk ) (k_RX8_409 S.2.2.2.2 ⟨Nat.le_of_ble_eq_true rfl, Nat.le_of_ble_eq_true rfl⟩) (ov_r (t := .fr i0) (hk.e (.fr i0) rfl)) rfl rfl rfl rfl (Nat.le_of_ble_eq_true rfl) dX8_takeIntoField_37 ⟨Nat.le_of_ble_eq_true rfl, Nat.le_of_ble_eq_true rfl⟩) (fun r7 u H locs hp hnz w => ?_)
      obtain ⟨T8, e9, hu9, hk10, sq11⟩ := hp
      subst hu9
      dsimp only at w
      refine g_callv w (g_runS (As := [.ref (x.f (.tp k1)), .int j0, .long r7]) (rest := []) S hE w hl (c_putAt l D ar κ (ov κ ar x T8 G) sz (x.f (.tp k1)) j0 r7 8 ((T8.th k1).p) (ov_r (t := .tp k1) (hk10.e (.tp k1) rfl)) (by decide)) (k_RX8_203 S.2.2.2.2 ⟨Nat.le_of_ble_eq_true rfl, Nat.le_of_ble_eq_true rfl⟩) rfl rfl (Nat.le_of_ble_eq_true rfl) dX8_takeIntoField_40 ⟨Nat.le_of_ble_eq_true rfl, Nat.le_of_ble_eq_true rfl⟩) (fun u H locs hp hnz w => ?_)
      obtain rfl := hp
      dsimp only at w
      have w := g_eqw w (congrArg (fun Z9 => g_up (ov κ ar x Z9 G) (x.f (.tp k1)) (.inl (ar 1, 8, .inr (.inl (pU ((T8.th k1).p) 8 j0 r7))))) (thS_id (S := T8) (i := k1)).symm)
      have w : g_S D vwCl (g_A (ov κ ar x Z G) sz) s.heap (ov κ ar x (T8.thS k1 ((T8.th k1).sp (pU ((T8.th k1).p) 8 j0 r7))) G) H _ sz := g_eqw w (ov_wtp (S := T8) (v := (T8.th k1)) (v' := ((T8.th k1).sp (pU ((T8.th k1).p) 8 j0 r7))) hk10.v (hk10.e (.tp k1) rfl) rfl Th_n_sp Th_c_sp Th_z_sp Th_r_sp)
      refine lv_aload_n hx hb dX8_takeIntoField_43 rfl (lv_at hl 2 rfl) ?_
      refine lv_dup hx hb dX8_takeIntoField_44 rfl ?_
      refine gf_RX8_324_7 (v := .int ((T8.fr i0).w)) S hE w (ov_r (t := .fr i0) (hk10.e (.fr i0) rfl)) rfl dX8_takeIntoField_45 ?_
      refine lv_iconst (v := 1) hx hb dX8_takeIntoField_48 (by decide) ?_
      refine lv_iadd hx hb dX8_takeIntoField_49 ?_
      refine pf_RX8_324_7 (fs1 := [.ref (x.f (.fa i0)), .ref (x.f (.ft i0)), .ref (x.f (.fp i0)), va_rf (((T8.fr i0).o).map (fun k9 => x.f (.to k9))), .long ((T8.fr i0).v), .int (((T8.fr i0).w) + 1), .int ((T8.fr i0).d)]) S hE w (ov_r (t := .fr i0) (hk10.e (.fr i0) rfl)) rfl rfl (Nat.le_of_ble_eq_true rfl) rfl dX8_takeIntoField_50 (fun H locs w => ?_)
      have w := g_eqw w (congrArg (fun Z9 => g_up (ov κ ar x Z9 G) (x.f (.fr i0)) (.inr (7, [.ref (x.f (.fa i0)), .ref (x.f (.ft i0)), .ref (x.f (.fp i0)), va_rf (((T8.fr i0).o).map (fun k9 => x.f (.to k9))), .long ((T8.fr i0).v), .int (((T8.fr i0).w) + 1), .int ((T8.fr i0).d)]))) (frS_id (S := (T8.thS k1 ((T8.th k1).sp (pU ((T8.th k1).p) 8 j0 r7)))) (i := i0)).symm)
      have w : g_S D vwCl (g_A (ov κ ar x Z G) sz) s.heap (ov κ ar x ((T8.thS k1 ((T8.th k1).sp (pU ((T8.th k1).p) 8 j0 r7))).frS i0 ((T8.fr i0).sw (((T8.fr i0).w) + 1))) G) H _ sz := g_eqw w (ov_wfr (S := (T8.thS k1 ((T8.th k1).sp (pU ((T8.th k1).p) 8 j0 r7)))) (v := (T8.fr i0)) (v' := ((T8.fr i0).sw (((T8.fr i0).w) + 1))) hk10.v (hk10.e (.fr i0) rfl) rfl Fr_a_sw Fr_t_sw Fr_p_sw)
      exact g_vret hx hb hr hlk w (Nat.le_of_ble_eq_true rfl) (Nat.le_of_ble_eq_true rfl) dX8_takeIntoField_53 ⟨_, ((sX8_takeIntoField_u Z i0 j0).trans ((oc_s he2).trans ((if_neg c_21).trans (pc_e e9)))), rfl, (OK.frS (S := (T8.thS k1 ((T8.th k1).sp (pU ((T8.th k1).p) 8 j0 r7)))) (hk10.plain (T := (T8.thS k1 ((T8.th k1).sp (pU ((T8.th k1).p) 8 j0 r7)))) rfl rfl rfl rfl rfl rfl rfl) (fun k9 q9 => hk10.o (i := i0) q9)), (SZ.t sq11 ⟨rfl, rfl, rfl, rfl⟩)⟩
    · refine lv_aload_n hx hb dX8_takeIntoField_24 rfl (lv_at hl 1 rfl) ?_
      refine lv_bipush (v := 107) hx hb dX8_takeIntoField_25 (by decide) ?_
      refine g_callv w (g_runV (As := [.int 107]) (rest := []) S hE w hl (hX8_fault l D ar κ G x Z sz 107 hk rfl rfl) (k_RX8_435 S.2.2.2.2 ⟨Nat.le_of_ble_eq_true rfl, Nat.le_of_ble_eq_true rfl⟩) (ov_r (t := .ho) (hk.e (.ho) rfl)) rfl rfl rfl rfl (Nat.le_of_ble_eq_true rfl) dX8_takeIntoField_27 ⟨Nat.le_of_ble_eq_true rfl, Nat.le_of_ble_eq_true rfl⟩) (fun u H locs hp hnz w => ?_)
      obtain ⟨T12, e13, hu9, hk14, sq15⟩ := hp
      subst hu9
      dsimp only at w
      exact g_vret hx hb hr hlk w (Nat.le_of_ble_eq_true rfl) (Nat.le_of_ble_eq_true rfl) dX8_takeIntoField_30 ⟨_, ((sX8_takeIntoField_u Z i0 j0).trans ((oc_s he2).trans ((if_pos c_21).trans (vc_e e13)))), rfl, hk14, (SZ.t sq15 ⟨rfl, rfl, rfl, rfl⟩)⟩
def sX8_reckon (Z : Ho) (i0 : Fin 12) (c0 : Int32) : Ho := if isN (sX1_fromTop Z i0 1) = 0 then (vc (sX8_fault Z 107) (fun T1 => T1)) else (if isN (sX1_fromTop Z i0 0) = 0 then (vc (sX8_fault Z 107) (fun T37 => T37)) else (if c0 = 47 then (if nf (sX1_fromTop Z i0 0) = 0 then (vc (sX8_fault Z 122) (fun T33 => T33)) else (pc (sX1_pop Z i0) (fun r19 T20 => pc (sX1_pop T20 i0) (fun r24 T25 => vc (sX1_push T25 i0 (sX8_ofNumber T25 (sX8_outcome T25 c0 (nf (sX1_fromTop Z i0 1)) (nf (sX1_fromTop Z i0 0))))) (fun T29 => (T29.frS i0 ((T29.fr i0).sw (((T29.fr i0).w) + 1)))))))) else (pc (sX1_pop Z i0) (fun r5 T6 => pc (sX1_pop T6 i0) (fun r10 T11 => vc (sX1_push T11 i0 (sX8_ofNumber T11 (sX8_outcome T11 c0 (nf (sX1_fromTop Z i0 1)) (nf (sX1_fromTop Z i0 0))))) (fun T15 => (T15.frS i0 ((T15.fr i0).sw (((T15.fr i0).w) + 1)))))))))
theorem sX8_reckon_u (Z : Ho) (i0 : Fin 12) (c0 : Int32) : sX8_reckon Z i0 c0 = if isN (sX1_fromTop Z i0 1) = 0 then (vc (sX8_fault Z 107) (fun T1 => T1)) else (if isN (sX1_fromTop Z i0 0) = 0 then (vc (sX8_fault Z 107) (fun T37 => T37)) else (if c0 = 47 then (if nf (sX1_fromTop Z i0 0) = 0 then (vc (sX8_fault Z 122) (fun T33 => T33)) else (pc (sX1_pop Z i0) (fun r19 T20 => pc (sX1_pop T20 i0) (fun r24 T25 => vc (sX1_push T25 i0 (sX8_ofNumber T25 (sX8_outcome T25 c0 (nf (sX1_fromTop Z i0 1)) (nf (sX1_fromTop Z i0 0))))) (fun T29 => (T29.frS i0 ((T29.fr i0).sw (((T29.fr i0).w) + 1)))))))) else (pc (sX1_pop Z i0) (fun r5 T6 => pc (sX1_pop T6 i0) (fun r10 T11 => vc (sX1_push T11 i0 (sX8_ofNumber T11 (sX8_outcome T11 c0 (nf (sX1_fromTop Z i0 1)) (nf (sX1_fromTop Z i0 0))))) (fun T15 => (T15.frS i0 ((T15.fr i0).sw (((T15.fr i0).w) + 1))))))))) := rfl
set_option maxHeartbeats 4000000 in
set_option maxRecDepth 100000 in
theorem hX8_reckon (l : Launch) (D : va_G) (ar : Nat → ClassId) (κ : Nat → Nat) (G : gW) (x : Xo) (Z : Ho) (sz : Nat) (i0 : Fin 12) (c0 : Int32) (hk : OK x Z) : Met l yX8_reckon (lwC yX8_reckon cX8_reckon 7 none) (rD 8 0 0) (g_Pc D vwCl (gT ar) (EX1 κ) (ov κ ar x Z G) sz [.ref (x.f .ho), .ref (x.f (.fr i0)), .int c0]) (g_Qv D vwCl (g_A (ov κ ar x Z G) sz) (fun u => ∃ T9 : Ho, sX8_reckon Z i0 c0 = T9 ∧ u = (ov κ ar x T9 G, sz) ∧ OK x T9 ∧ SZ T9 Z)) 0 0 (g_A (ov κ ar x Z G) sz) := by
  refine g_ofW (by decide +kernel) (Nat.le_of_ble_eq_true rfl) ?_
  intro p e s m below meth c ls S hr hlk hin hE w hl
  have hx := S.1
  have hb := S.2.1
  have hl : lv_has ls 7 [(0, .ref (x.f .ho)), (1, .ref (x.f (.fr i0))), (2, .int c0)] := hl
  refine lv_aload_n hx hb dX8_reckon_0 rfl (lv_at hl 1 rfl) ?_
  refine lv_iconst (v := 1) hx hb dX8_reckon_1 (by decide) ?_
  refine g_calll w (g_runV (As := [.int 1]) (rest := []) S hE w hl (hX1_fromTop l D ar κ G x Z sz i0 1 hk ) (k_RX8_375 S.2.2.2.2 ⟨Nat.le_of_ble_eq_true rfl, Nat.le_of_ble_eq_true rfl⟩) (ov_r (t := .fr i0) (hk.e (.fr i0) rfl)) rfl rfl rfl rfl (Nat.le_of_ble_eq_true rfl) dX8_reckon_2 ⟨Nat.le_of_ble_eq_true rfl, Nat.le_of_ble_eq_true rfl⟩) (fun r u H locs hp hnz w => ?_)
  obtain ⟨rfl, rfl⟩ := hp
  dsimp only at w
  refine lv_lstore_n (lv' := [(3, .long (sX1_fromTop Z i0 1)), (0, .ref (x.f .ho)), (1, .ref (x.f (.fr i0))), (2, .int c0)]) hx hb dX8_reckon_5 rfl hl (by decide) rfl (fun ls hl => ?_)
  refine lv_aload_n hx hb dX8_reckon_6 rfl (lv_at hl 2 rfl) ?_
  refine lv_iconst (v := 0) hx hb dX8_reckon_7 (by decide) ?_
  refine g_calll w (g_runV (As := [.int 0]) (rest := []) S hE w hl (hX1_fromTop l D ar κ G x Z sz i0 0 hk ) (k_RX8_375 S.2.2.2.2 ⟨Nat.le_of_ble_eq_true rfl, Nat.le_of_ble_eq_true rfl⟩) (ov_r (t := .fr i0) (hk.e (.fr i0) rfl)) rfl rfl rfl rfl (Nat.le_of_ble_eq_true rfl) dX8_reckon_8 ⟨Nat.le_of_ble_eq_true rfl, Nat.le_of_ble_eq_true rfl⟩) (fun r u H locs hp hnz w => ?_)
  obtain ⟨rfl, rfl⟩ := hp
  dsimp only at w
  refine lv_lstore (lv' := [(5, .long (sX1_fromTop Z i0 0)), (3, .long (sX1_fromTop Z i0 1)), (0, .ref (x.f .ho)), (1, .ref (x.f (.fr i0))), (2, .int c0)]) hx hb dX8_reckon_11 hl (by decide) rfl (fun ls hl => ?_)
  refine lv_lload_n hx hb dX8_reckon_13 rfl (lv_at hl 1 rfl) ?_
  refine g_calli w (g_runS (As := [.long (sX1_fromTop Z i0 1)]) (rest := []) S hE w hl (c_X8_isNumber l D ar κ (ov κ ar x Z G) sz (sX1_fromTop Z i0 1)) (k_RX8_382 S.2.2.2.2 ⟨Nat.le_of_ble_eq_true rfl, Nat.le_of_ble_eq_true rfl⟩) rfl rfl (Nat.le_of_ble_eq_true rfl) dX8_reckon_14 ⟨Nat.le_of_ble_eq_true rfl, Nat.le_of_ble_eq_true rfl⟩) (fun r u H locs hp hnz w => ?_)
  obtain ⟨rfl, rfl⟩ := hp
  dsimp only at w
  refine lv_if_eq (tgt := 28) hx hb dX8_reckon_17 (by decide) (fun c_17 => ?_) (fun c_17 => ?_)
  · refine lv_aload_n hx hb dX8_reckon_28 rfl (lv_at hl 2 rfl) ?_
    refine lv_bipush (v := 107) hx hb dX8_reckon_29 (by decide) ?_
    refine g_callv w (g_runV (As := [.int 107]) (rest := []) S hE w hl (hX8_fault l D ar κ G x Z sz 107 hk rfl rfl) (k_RX8_435 S.2.2.2.2 ⟨Nat.le_of_ble_eq_true rfl, Nat.le_of_ble_eq_true rfl⟩) (ov_r (t := .ho) (hk.e (.ho) rfl)) rfl rfl rfl rfl (Nat.le_of_ble_eq_true rfl) dX8_reckon_31 ⟨Nat.le_of_ble_eq_true rfl, Nat.le_of_ble_eq_true rfl⟩) (fun u H locs hp hnz w => ?_)
    obtain ⟨T1, e2, hu9, hk3, sq4⟩ := hp
    subst hu9
    dsimp only at w
    exact g_vret hx hb hr hlk w (Nat.le_of_ble_eq_true rfl) (Nat.le_of_ble_eq_true rfl) dX8_reckon_34 ⟨_, ((sX8_reckon_u Z i0 c0).trans ((if_pos c_17).trans (vc_e e2))), rfl, hk3, (SZ.t sq4 ⟨rfl, rfl, rfl, rfl⟩)⟩
  · refine lv_lload hx hb dX8_reckon_20 (lv_at hl 0 rfl) ?_
    refine g_calli w (g_runS (As := [.long (sX1_fromTop Z i0 0)]) (rest := []) S hE w hl (c_X8_isNumber l D ar κ (ov κ ar x Z G) sz (sX1_fromTop Z i0 0)) (k_RX8_382 S.2.2.2.2 ⟨Nat.le_of_ble_eq_true rfl, Nat.le_of_ble_eq_true rfl⟩) rfl rfl (Nat.le_of_ble_eq_true rfl) dX8_reckon_22 ⟨Nat.le_of_ble_eq_true rfl, Nat.le_of_ble_eq_true rfl⟩) (fun r u H locs hp hnz w => ?_)
    obtain ⟨rfl, rfl⟩ := hp
    dsimp only at w
    refine lv_if_ne (tgt := 35) hx hb dX8_reckon_25 (by decide) (fun c_25 => ?_) (fun c_25 => ?_)
    · refine lv_iload_n hx hb dX8_reckon_35 rfl (lv_at hl 4 rfl) ?_
      refine lv_bipush (v := 47) hx hb dX8_reckon_36 (by decide) ?_
      refine lv_icmp_ne (tgt := 56) hx hb dX8_reckon_38 (by decide) (fun c_38 => ?_) (fun c_38 => ?_)
      · refine lv_aload_n hx hb dX8_reckon_56 rfl (lv_at hl 3 rfl) ?_
        refine g_calll w (g_runV (As := []) (rest := []) S hE w hl (hX1_pop l D ar κ G x Z sz i0 hk ) (k_RX8_409 S.2.2.2.2 ⟨Nat.le_of_ble_eq_true rfl, Nat.le_of_ble_eq_true rfl⟩) (ov_r (t := .fr i0) (hk.e (.fr i0) rfl)) rfl rfl rfl rfl (Nat.le_of_ble_eq_true rfl) dX8_reckon_57 ⟨Nat.le_of_ble_eq_true rfl, Nat.le_of_ble_eq_true rfl⟩) (fun r5 u H locs hp hnz w => ?_)
        obtain ⟨T6, e7, hu9, hk8, sq9⟩ := hp
        subst hu9
        dsimp only at w
        refine lv_pop2_2 hx hb dX8_reckon_60 rfl ?_
        refine lv_aload_n hx hb dX8_reckon_61 rfl (lv_at hl 3 rfl) ?_
        refine g_calll w (g_runV (As := []) (rest := []) S hE w hl (hX1_pop l D ar κ G x T6 sz i0 hk8 ) (k_RX8_409 S.2.2.2.2 ⟨Nat.le_of_ble_eq_true rfl, Nat.le_of_ble_eq_true rfl⟩) (ov_r (t := .fr i0) (hk8.e (.fr i0) rfl)) rfl rfl rfl rfl (Nat.le_of_ble_eq_true rfl) dX8_reckon_62 ⟨Nat.le_of_ble_eq_true rfl, Nat.le_of_ble_eq_true rfl⟩) (fun r10 u H locs hp hnz w => ?_)
        obtain ⟨T11, e12, hu9, hk13, sq14⟩ := hp
        subst hu9
        dsimp only at w
        refine lv_pop2_2 hx hb dX8_reckon_65 rfl ?_
        refine lv_aload_n hx hb dX8_reckon_66 rfl (lv_at hl 3 rfl) ?_
        refine lv_iload_n hx hb dX8_reckon_67 rfl (lv_at hl 4 rfl) ?_
        refine lv_lload_n hx hb dX8_reckon_68 rfl (lv_at hl 1 rfl) ?_
        refine g_calli w (g_runS (As := [.long (sX1_fromTop Z i0 1)]) (rest := [.int c0, .ref (x.f (.fr i0))]) S hE w hl (c_X8_numberOf l D ar κ (ov κ ar x T11 G) sz (sX1_fromTop Z i0 1)) (k_RX8_230 S.2.2.2.2 ⟨Nat.le_of_ble_eq_true rfl, Nat.le_of_ble_eq_true rfl⟩) rfl rfl (Nat.le_of_ble_eq_true rfl) dX8_reckon_69 ⟨Nat.le_of_ble_eq_true rfl, Nat.le_of_ble_eq_true rfl⟩) (fun r u H locs hp hnz w => ?_)
        obtain ⟨rfl, rfl⟩ := hp
        dsimp only at w
        refine lv_lload hx hb dX8_reckon_72 (lv_at hl 0 rfl) ?_
        refine g_calli w (g_runS (As := [.long (sX1_fromTop Z i0 0)]) (rest := [.int (nf (sX1_fromTop Z i0 1)), .int c0, .ref (x.f (.fr i0))]) S hE w hl (c_X8_numberOf l D ar κ (ov κ ar x T11 G) sz (sX1_fromTop Z i0 0)) (k_RX8_230 S.2.2.2.2 ⟨Nat.le_of_ble_eq_true rfl, Nat.le_of_ble_eq_true rfl⟩) rfl rfl (Nat.le_of_ble_eq_true rfl) dX8_reckon_74 ⟨Nat.le_of_ble_eq_true rfl, Nat.le_of_ble_eq_true rfl⟩) (fun r u H locs hp hnz w => ?_)
        obtain ⟨rfl, rfl⟩ := hp
        dsimp only at w
        refine g_calli w (g_runS (As := [.int c0, .int (nf (sX1_fromTop Z i0 1)), .int (nf (sX1_fromTop Z i0 0))]) (rest := [.ref (x.f (.fr i0))]) S hE w hl (hX8_outcome l D ar κ G x T11 sz c0 (nf (sX1_fromTop Z i0 1)) (nf (sX1_fromTop Z i0 0)) hk13 ) (k_RX8_439 S.2.2.2.2 ⟨Nat.le_of_ble_eq_true rfl, Nat.le_of_ble_eq_true rfl⟩) rfl rfl (Nat.le_of_ble_eq_true rfl) dX8_reckon_77 ⟨Nat.le_of_ble_eq_true rfl, Nat.le_of_ble_eq_true rfl⟩) (fun r u H locs hp hnz w => ?_)
        obtain ⟨rfl, rfl⟩ := hp
        dsimp only at w
        refine g_calll w (g_runS (As := [.int (sX8_outcome T11 c0 (nf (sX1_fromTop Z i0 1)) (nf (sX1_fromTop Z i0 0)))]) (rest := [.ref (x.f (.fr i0))]) S hE w hl (hX8_ofNumber l D ar κ G x T11 sz (sX8_outcome T11 c0 (nf (sX1_fromTop Z i0 1)) (nf (sX1_fromTop Z i0 0))) hk13 ) (k_RX8_199 S.2.2.2.2 ⟨Nat.le_of_ble_eq_true rfl, Nat.le_of_ble_eq_true rfl⟩) rfl rfl (Nat.le_of_ble_eq_true rfl) dX8_reckon_80 ⟨Nat.le_of_ble_eq_true rfl, Nat.le_of_ble_eq_true rfl⟩) (fun r u H locs hp hnz w => ?_)
        obtain ⟨rfl, rfl⟩ := hp
        dsimp only at w
        refine g_callv w (g_runV (As := [.long (sX8_ofNumber T11 (sX8_outcome T11 c0 (nf (sX1_fromTop Z i0 1)) (nf (sX1_fromTop Z i0 0))))]) (rest := []) S hE w hl (hX1_push l D ar κ G x T11 sz i0 (sX8_ofNumber T11 (sX8_outcome T11 c0 (nf (sX1_fromTop Z i0 1)) (nf (sX1_fromTop Z i0 0)))) hk13 ) (k_RX8_424 S.2.2.2.2 ⟨Nat.le_of_ble_eq_true rfl, Nat.le_of_ble_eq_true rfl⟩) (ov_r (t := .fr i0) (hk13.e (.fr i0) rfl)) rfl rfl rfl rfl (Nat.le_of_ble_eq_true rfl) dX8_reckon_83 ⟨Nat.le_of_ble_eq_true rfl, Nat.le_of_ble_eq_true rfl⟩) (fun u H locs hp hnz w => ?_)
        obtain ⟨T15, e16, hu9, hk17, sq18⟩ := hp
        subst hu9
        dsimp only at w
        refine lv_aload_n hx hb dX8_reckon_86 rfl (lv_at hl 3 rfl) ?_
        refine lv_dup hx hb dX8_reckon_87 rfl ?_
        refine gf_RX8_324_7 (v := .int ((T15.fr i0).w)) S hE w (ov_r (t := .fr i0) (hk17.e (.fr i0) rfl)) rfl dX8_reckon_88 ?_
        refine lv_iconst (v := 1) hx hb dX8_reckon_91 (by decide) ?_
        refine lv_iadd hx hb dX8_reckon_92 ?_
        refine pf_RX8_324_7 (fs1 := [.ref (x.f (.fa i0)), .ref (x.f (.ft i0)), .ref (x.f (.fp i0)), va_rf (((T15.fr i0).o).map (fun k9 => x.f (.to k9))), .long ((T15.fr i0).v), .int (((T15.fr i0).w) + 1), .int ((T15.fr i0).d)]) S hE w (ov_r (t := .fr i0) (hk17.e (.fr i0) rfl)) rfl rfl (Nat.le_of_ble_eq_true rfl) rfl dX8_reckon_93 (fun H locs w => ?_)
        have w := g_eqw w (congrArg (fun Z9 => g_up (ov κ ar x Z9 G) (x.f (.fr i0)) (.inr (7, [.ref (x.f (.fa i0)), .ref (x.f (.ft i0)), .ref (x.f (.fp i0)), va_rf (((T15.fr i0).o).map (fun k9 => x.f (.to k9))), .long ((T15.fr i0).v), .int (((T15.fr i0).w) + 1), .int ((T15.fr i0).d)]))) (frS_id (S := T15) (i := i0)).symm)
        have w : g_S D vwCl (g_A (ov κ ar x Z G) sz) s.heap (ov κ ar x (T15.frS i0 ((T15.fr i0).sw (((T15.fr i0).w) + 1))) G) H _ sz := g_eqw w (ov_wfr (S := T15) (v := (T15.fr i0)) (v' := ((T15.fr i0).sw (((T15.fr i0).w) + 1))) hk17.v (hk17.e (.fr i0) rfl) rfl Fr_a_sw Fr_t_sw Fr_p_sw)
        exact g_vret hx hb hr hlk w (Nat.le_of_ble_eq_true rfl) (Nat.le_of_ble_eq_true rfl) dX8_reckon_96 ⟨_, ((sX8_reckon_u Z i0 c0).trans ((if_neg c_17).trans ((if_neg c_25).trans ((if_neg c_38).trans ((pc_e e7).trans ((pc_e e12).trans (vc_e e16))))))), rfl, (OK.frS (S := T15) hk17 (fun k9 q9 => hk17.o (i := i0) q9)), (SZ.t sq18 (SZ.t sq14 (SZ.t sq9 ⟨rfl, rfl, rfl, rfl⟩)))⟩
      · refine lv_lload hx hb dX8_reckon_41 (lv_at hl 0 rfl) ?_
        refine g_calli w (g_runS (As := [.long (sX1_fromTop Z i0 0)]) (rest := []) S hE w hl (c_X8_numberOf l D ar κ (ov κ ar x Z G) sz (sX1_fromTop Z i0 0)) (k_RX8_230 S.2.2.2.2 ⟨Nat.le_of_ble_eq_true rfl, Nat.le_of_ble_eq_true rfl⟩) rfl rfl (Nat.le_of_ble_eq_true rfl) dX8_reckon_43 ⟨Nat.le_of_ble_eq_true rfl, Nat.le_of_ble_eq_true rfl⟩) (fun r u H locs hp hnz w => ?_)
        obtain ⟨rfl, rfl⟩ := hp
        dsimp only at w
        refine lv_if_ne (tgt := 56) hx hb dX8_reckon_46 (by decide) (fun c_46 => ?_) (fun c_46 => ?_)
        · refine lv_aload_n hx hb dX8_reckon_56 rfl (lv_at hl 3 rfl) ?_
          refine g_calll w (g_runV (As := []) (rest := []) S hE w hl (hX1_pop l D ar κ G x Z sz i0 hk ) (k_RX8_409 S.2.2.2.2 ⟨Nat.le_of_ble_eq_true rfl, Nat.le_of_ble_eq_true rfl⟩) (ov_r (t := .fr i0) (hk.e (.fr i0) rfl)) rfl rfl rfl rfl (Nat.le_of_ble_eq_true rfl) dX8_reckon_57 ⟨Nat.le_of_ble_eq_true rfl, Nat.le_of_ble_eq_true rfl⟩) (fun r19 u H locs hp hnz w => ?_)
          obtain ⟨T20, e21, hu9, hk22, sq23⟩ := hp
          subst hu9
          dsimp only at w
          refine lv_pop2_2 hx hb dX8_reckon_60 rfl ?_
          refine lv_aload_n hx hb dX8_reckon_61 rfl (lv_at hl 3 rfl) ?_
          refine g_calll w (g_runV (As := []) (rest := []) S hE w hl (hX1_pop l D ar κ G x T20 sz i0 hk22 ) (k_RX8_409 S.2.2.2.2 ⟨Nat.le_of_ble_eq_true rfl, Nat.le_of_ble_eq_true rfl⟩) (ov_r (t := .fr i0) (hk22.e (.fr i0) rfl)) rfl rfl rfl rfl (Nat.le_of_ble_eq_true rfl) dX8_reckon_62 ⟨Nat.le_of_ble_eq_true rfl, Nat.le_of_ble_eq_true rfl⟩) (fun r24 u H locs hp hnz w => ?_)
          obtain ⟨T25, e26, hu9, hk27, sq28⟩ := hp
          subst hu9
          dsimp only at w
          refine lv_pop2_2 hx hb dX8_reckon_65 rfl ?_
          refine lv_aload_n hx hb dX8_reckon_66 rfl (lv_at hl 3 rfl) ?_
          refine lv_iload_n hx hb dX8_reckon_67 rfl (lv_at hl 4 rfl) ?_
          refine lv_lload_n hx hb dX8_reckon_68 rfl (lv_at hl 1 rfl) ?_
          refine g_calli w (g_runS (As := [.long (sX1_fromTop Z i0 1)]) (rest := [.int c0, .ref (x.f (.fr i0))]) S hE w hl (c_X8_numberOf l D ar κ (ov κ ar x T25 G) sz (sX1_fromTop Z i0 1)) (k_RX8_230 S.2.2.2.2 ⟨Nat.le_of_ble_eq_true rfl, Nat.le_of_ble_eq_true rfl⟩) rfl rfl (Nat.le_of_ble_eq_true rfl) dX8_reckon_69 ⟨Nat.le_of_ble_eq_true rfl, Nat.le_of_ble_eq_true rfl⟩) (fun r u H locs hp hnz w => ?_)
          obtain ⟨rfl, rfl⟩ := hp
          dsimp only at w
          refine lv_lload hx hb dX8_reckon_72 (lv_at hl 0 rfl) ?_
          refine g_calli w (g_runS (As := [.long (sX1_fromTop Z i0 0)]) (rest := [.int (nf (sX1_fromTop Z i0 1)), .int c0, .ref (x.f (.fr i0))]) S hE w hl (c_X8_numberOf l D ar κ (ov κ ar x T25 G) sz (sX1_fromTop Z i0 0)) (k_RX8_230 S.2.2.2.2 ⟨Nat.le_of_ble_eq_true rfl, Nat.le_of_ble_eq_true rfl⟩) rfl rfl (Nat.le_of_ble_eq_true rfl) dX8_reckon_74 ⟨Nat.le_of_ble_eq_true rfl, Nat.le_of_ble_eq_true rfl⟩) (fun r u H locs hp hnz w => ?_)
          obtain ⟨rfl, rfl⟩ := hp
          dsimp only at w
          refine g_calli w (g_runS (As := [.int c0, .int (nf (sX1_fromTop Z i0 1)), .int (nf (sX1_fromTop Z i0 0))]) (rest := [.ref (x.f (.fr i0))]) S hE w hl (hX8_outcome l D ar κ G x T25 sz c0 (nf (sX1_fromTop Z i0 1)) (nf (sX1_fromTop Z i0 0)) hk27 ) (k_RX8_439 S.2.2.2.2 ⟨Nat.le_of_ble_eq_true rfl, Nat.le_of_ble_eq_true rfl⟩) rfl rfl (Nat.le_of_ble_eq_true rfl) dX8_reckon_77 ⟨Nat.le_of_ble_eq_true rfl, Nat.le_of_ble_eq_true rfl⟩) (fun r u H locs hp hnz w => ?_)
          obtain ⟨rfl, rfl⟩ := hp
          dsimp only at w
          refine g_calll w (g_runS (As := [.int (sX8_outcome T25 c0 (nf (sX1_fromTop Z i0 1)) (nf (sX1_fromTop Z i0 0)))]) (rest := [.ref (x.f (.fr i0))]) S hE w hl (hX8_ofNumber l D ar κ G x T25 sz (sX8_outcome T25 c0 (nf (sX1_fromTop Z i0 1)) (nf (sX1_fromTop Z i0 0))) hk27 ) (k_RX8_199 S.2.2.2.2 ⟨Nat.le_of_ble_eq_true rfl, Nat.le_of_ble_eq_true rfl⟩) rfl rfl (Nat.le_of_ble_eq_true rfl) dX8_reckon_80 ⟨Nat.le_of_ble_eq_true rfl, Nat.le_of_ble_eq_true rfl⟩) (fun r u H locs hp hnz w => ?_)
          obtain ⟨rfl, rfl⟩ := hp
          dsimp only at w
          refine g_callv w (g_runV (As := [.long (sX8_ofNumber T25 (sX8_outcome T25 c0 (nf (sX1_fromTop Z i0 1)) (nf (sX1_fromTop Z i0 0))))]) (rest := []) S hE w hl (hX1_push l D ar κ G x T25 sz i0 (sX8_ofNumber T25 (sX8_outcome T25 c0 (nf (sX1_fromTop Z i0 1)) (nf (sX1_fromTop Z i0 0)))) hk27 ) (k_RX8_424 S.2.2.2.2 ⟨Nat.le_of_ble_eq_true rfl, Nat.le_of_ble_eq_true rfl⟩) (ov_r (t := .fr i0) (hk27.e (.fr i0) rfl)) rfl rfl rfl rfl (Nat.le_of_ble_eq_true rfl) dX8_reckon_83 ⟨Nat.le_of_ble_eq_true rfl, Nat.le_of_ble_eq_true rfl⟩) (fun u H locs hp hnz w => ?_)
          obtain ⟨T29, e30, hu9, hk31, sq32⟩ := hp
          subst hu9
          dsimp only at w
          refine lv_aload_n hx hb dX8_reckon_86 rfl (lv_at hl 3 rfl) ?_
          refine lv_dup hx hb dX8_reckon_87 rfl ?_
          refine gf_RX8_324_7 (v := .int ((T29.fr i0).w)) S hE w (ov_r (t := .fr i0) (hk31.e (.fr i0) rfl)) rfl dX8_reckon_88 ?_
          refine lv_iconst (v := 1) hx hb dX8_reckon_91 (by decide) ?_
          refine lv_iadd hx hb dX8_reckon_92 ?_
          refine pf_RX8_324_7 (fs1 := [.ref (x.f (.fa i0)), .ref (x.f (.ft i0)), .ref (x.f (.fp i0)), va_rf (((T29.fr i0).o).map (fun k9 => x.f (.to k9))), .long ((T29.fr i0).v), .int (((T29.fr i0).w) + 1), .int ((T29.fr i0).d)]) S hE w (ov_r (t := .fr i0) (hk31.e (.fr i0) rfl)) rfl rfl (Nat.le_of_ble_eq_true rfl) rfl dX8_reckon_93 (fun H locs w => ?_)
          have w := g_eqw w (congrArg (fun Z9 => g_up (ov κ ar x Z9 G) (x.f (.fr i0)) (.inr (7, [.ref (x.f (.fa i0)), .ref (x.f (.ft i0)), .ref (x.f (.fp i0)), va_rf (((T29.fr i0).o).map (fun k9 => x.f (.to k9))), .long ((T29.fr i0).v), .int (((T29.fr i0).w) + 1), .int ((T29.fr i0).d)]))) (frS_id (S := T29) (i := i0)).symm)
          have w : g_S D vwCl (g_A (ov κ ar x Z G) sz) s.heap (ov κ ar x (T29.frS i0 ((T29.fr i0).sw (((T29.fr i0).w) + 1))) G) H _ sz := g_eqw w (ov_wfr (S := T29) (v := (T29.fr i0)) (v' := ((T29.fr i0).sw (((T29.fr i0).w) + 1))) hk31.v (hk31.e (.fr i0) rfl) rfl Fr_a_sw Fr_t_sw Fr_p_sw)
          exact g_vret hx hb hr hlk w (Nat.le_of_ble_eq_true rfl) (Nat.le_of_ble_eq_true rfl) dX8_reckon_96 ⟨_, ((sX8_reckon_u Z i0 c0).trans ((if_neg c_17).trans ((if_neg c_25).trans ((if_pos c_38).trans ((if_neg c_46).trans ((pc_e e21).trans ((pc_e e26).trans (vc_e e30)))))))), rfl, (OK.frS (S := T29) hk31 (fun k9 q9 => hk31.o (i := i0) q9)), (SZ.t sq32 (SZ.t sq28 (SZ.t sq23 ⟨rfl, rfl, rfl, rfl⟩)))⟩
        · refine lv_aload_n hx hb dX8_reckon_49 rfl (lv_at hl 2 rfl) ?_
          refine lv_bipush (v := 122) hx hb dX8_reckon_50 (by decide) ?_
          refine g_callv w (g_runV (As := [.int 122]) (rest := []) S hE w hl (hX8_fault l D ar κ G x Z sz 122 hk rfl rfl) (k_RX8_435 S.2.2.2.2 ⟨Nat.le_of_ble_eq_true rfl, Nat.le_of_ble_eq_true rfl⟩) (ov_r (t := .ho) (hk.e (.ho) rfl)) rfl rfl rfl rfl (Nat.le_of_ble_eq_true rfl) dX8_reckon_52 ⟨Nat.le_of_ble_eq_true rfl, Nat.le_of_ble_eq_true rfl⟩) (fun u H locs hp hnz w => ?_)
          obtain ⟨T33, e34, hu9, hk35, sq36⟩ := hp
          subst hu9
          dsimp only at w
          exact g_vret hx hb hr hlk w (Nat.le_of_ble_eq_true rfl) (Nat.le_of_ble_eq_true rfl) dX8_reckon_55 ⟨_, ((sX8_reckon_u Z i0 c0).trans ((if_neg c_17).trans ((if_neg c_25).trans ((if_pos c_38).trans ((if_pos c_46).trans (vc_e e34)))))), rfl, hk35, (SZ.t sq36 ⟨rfl, rfl, rfl, rfl⟩)⟩
    · refine lv_aload_n hx hb dX8_reckon_28 rfl (lv_at hl 2 rfl) ?_
      refine lv_bipush (v := 107) hx hb dX8_reckon_29 (by decide) ?_
      refine g_callv w (g_runV (As := [.int 107]) (rest := []) S hE w hl (hX8_fault l D ar κ G x Z sz 107 hk rfl rfl) (k_RX8_435 S.2.2.2.2 ⟨Nat.le_of_ble_eq_true rfl, Nat.le_of_ble_eq_true rfl⟩) (ov_r (t := .ho) (hk.e (.ho) rfl)) rfl rfl rfl rfl (Nat.le_of_ble_eq_true rfl) dX8_reckon_31 ⟨Nat.le_of_ble_eq_true rfl, Nat.le_of_ble_eq_true rfl⟩) (fun u H locs hp hnz w => ?_)
      obtain ⟨T37, e38, hu9, hk39, sq40⟩ := hp
      subst hu9
      dsimp only at w
      exact g_vret hx hb hr hlk w (Nat.le_of_ble_eq_true rfl) (Nat.le_of_ble_eq_true rfl) dX8_reckon_34 ⟨_, ((sX8_reckon_u Z i0 c0).trans ((if_neg c_17).trans ((if_pos c_25).trans (vc_e e38)))), rfl, hk39, (SZ.t sq40 ⟨rfl, rfl, rfl, rfl⟩)⟩
def sX8_makeThing (Z : Ho) (i0 : Fin 12) (j0 : Int32) : Ho := if sX5_isFull Z = 0 then (pc (sX5_enlist Z j0 (aA Z.fc 0 j0)) (fun r1 T2 => vc (sX1_push T2 i0 (sX8_ofThing T2 r1)) (fun T6 => (T6.frS i0 ((T6.fr i0).sw (((T6.fr i0).w) + 1)))))) else (vc (sX8_fault Z 109) (fun T10 => T10))
theorem sX8_makeThing_u (Z : Ho) (i0 : Fin 12) (j0 : Int32) : sX8_makeThing Z i0 j0 = if sX5_isFull Z = 0 then (pc (sX5_enlist Z j0 (aA Z.fc 0 j0)) (fun r1 T2 => vc (sX1_push T2 i0 (sX8_ofThing T2 r1)) (fun T6 => (T6.frS i0 ((T6.fr i0).sw (((T6.fr i0).w) + 1)))))) else (vc (sX8_fault Z 109) (fun T10 => T10)) := rfl
set_option maxHeartbeats 4000000 in
set_option maxRecDepth 100000 in
theorem hX8_makeThing (l : Launch) (D : va_G) (ar : Nat → ClassId) (κ : Nat → Nat) (G : gW) (x : Xo) (Z : Ho) (sz : Nat) (i0 : Fin 12) (j0 : Int32) (hk : OK x Z) : Met l yX8_makeThing (lwC yX8_makeThing cX8_makeThing 3 none) (rD 8 0 0) (g_Pc D vwCl (gT ar) (EX1 κ) (ov κ ar x Z G) sz [.ref (x.f .ho), .ref (x.f (.fr i0)), .int j0]) (g_Qv D vwCl (g_A (ov κ ar x Z G) sz) (fun u => ∃ T9 : Ho, sX8_makeThing Z i0 j0 = T9 ∧ u = (ov κ ar x T9 G, sz) ∧ OK x T9 ∧ SZ T9 Z)) 0 0 (g_A (ov κ ar x Z G) sz) := by
  refine g_ofW (by decide +kernel) (Nat.le_of_ble_eq_true rfl) ?_
  intro p e s m below meth c ls S hr hlk hin hE w hl
  have hx := S.1
  have hb := S.2.1
  have hl : lv_has ls 3 [(0, .ref (x.f .ho)), (1, .ref (x.f (.fr i0))), (2, .int j0)] := hl
  refine lv_aload_n hx hb dX8_makeThing_0 rfl (lv_at hl 0 rfl) ?_
  refine gf_RX8_40_14 (v := .ref (x.f .ts)) S hE w (ov_r (t := .ho) (hk.e (.ho) rfl)) rfl dX8_makeThing_1 ?_
  refine g_calli w (g_runV (As := []) (rest := []) S hE w hl (hX5_isFull l D ar κ G x Z sz  hk ) (k_RX8_212 S.2.2.2.2 ⟨Nat.le_of_ble_eq_true rfl, Nat.le_of_ble_eq_true rfl⟩) (ov_r (t := .ts) (hk.e (.ts) rfl)) rfl rfl rfl rfl (Nat.le_of_ble_eq_true rfl) dX8_makeThing_4 ⟨Nat.le_of_ble_eq_true rfl, Nat.le_of_ble_eq_true rfl⟩) (fun r u H locs hp hnz w => ?_)
  obtain ⟨rfl, rfl⟩ := hp
  dsimp only at w
  refine lv_if_eq (tgt := 17) hx hb dX8_makeThing_7 (by decide) (fun c_7 => ?_) (fun c_7 => ?_)
  · refine lv_aload_n hx hb dX8_makeThing_17 rfl (lv_at hl 1 rfl) ?_
    refine lv_aload_n hx hb dX8_makeThing_18 rfl (lv_at hl 0 rfl) ?_
    refine gf_RX8_40_14 (v := .ref (x.f .ts)) S hE w (ov_r (t := .ho) (hk.e (.ho) rfl)) rfl dX8_makeThing_19 ?_
    refine lv_iload_n hx hb dX8_makeThing_22 rfl (lv_at hl 2 rfl) ?_
    refine lv_aload_n hx hb dX8_makeThing_23 rfl (lv_at hl 0 rfl) ?_
    refine gf_RX8_10_14 (v := .ref (x.f .cl)) S hE w (ov_r (t := .ho) (hk.e (.ho) rfl)) rfl dX8_makeThing_24 ?_
    refine lv_iload_n hx hb dX8_makeThing_27 rfl (lv_at hl 2 rfl) ?_
    refine g_calli w (g_runV (As := [.int j0]) (rest := [.int j0, .ref (x.f .ts), .ref (x.f (.fr i0))]) S hE w hl (c_X0_fieldsOf l D ar κ (ov κ ar x Z G) sz (x.f .cl) j0 (x.f .ab) (x.f .fc) Z.cn Z.fc (ov_r (t := .cl) (hk.e (.cl) rfl)) (ov_r (t := .fc) (hk.e (.fc) rfl))) (k_RX8_101 S.2.2.2.2 ⟨Nat.le_of_ble_eq_true rfl, Nat.le_of_ble_eq_true rfl⟩) (ov_r (t := .cl) (hk.e (.cl) rfl)) rfl rfl rfl rfl (Nat.le_of_ble_eq_true rfl) dX8_makeThing_28 ⟨Nat.le_of_ble_eq_true rfl, Nat.le_of_ble_eq_true rfl⟩) (fun r u H locs hp hnz w => ?_)
    obtain ⟨rfl, rfl⟩ := hp
    dsimp only at w
    refine g_calli w (g_runV (As := [.int j0, .int (aA Z.fc 0 j0)]) (rest := [.ref (x.f (.fr i0))]) S hE w hl (hX5_enlist l D ar κ G x Z sz j0 (aA Z.fc 0 j0) hk ) (k_RX8_218 S.2.2.2.2 ⟨Nat.le_of_ble_eq_true rfl, Nat.le_of_ble_eq_true rfl⟩) (ov_r (t := .ts) (hk.e (.ts) rfl)) rfl rfl rfl rfl (Nat.le_of_ble_eq_true rfl) dX8_makeThing_31 ⟨Nat.le_of_ble_eq_true rfl, Nat.le_of_ble_eq_true rfl⟩) (fun r1 u H locs hp hnz w => ?_)
    obtain ⟨T2, e3, hu9, hk4, sq5⟩ := hp
    subst hu9
    dsimp only at w
    refine g_calll w (g_runS (As := [.int r1]) (rest := [.ref (x.f (.fr i0))]) S hE w hl (hX8_ofThing l D ar κ G x T2 sz r1 hk4 ) (k_RX8_219 S.2.2.2.2 ⟨Nat.le_of_ble_eq_true rfl, Nat.le_of_ble_eq_true rfl⟩) rfl rfl (Nat.le_of_ble_eq_true rfl) dX8_makeThing_34 ⟨Nat.le_of_ble_eq_true rfl, Nat.le_of_ble_eq_true rfl⟩) (fun r u H locs hp hnz w => ?_)
    obtain ⟨rfl, rfl⟩ := hp
    dsimp only at w
    refine g_callv w (g_runV (As := [.long (sX8_ofThing T2 r1)]) (rest := []) S hE w hl (hX1_push l D ar κ G x T2 sz i0 (sX8_ofThing T2 r1) hk4 ) (k_RX8_424 S.2.2.2.2 ⟨Nat.le_of_ble_eq_true rfl, Nat.le_of_ble_eq_true rfl⟩) (ov_r (t := .fr i0) (hk4.e (.fr i0) rfl)) rfl rfl rfl rfl (Nat.le_of_ble_eq_true rfl) dX8_makeThing_37 ⟨Nat.le_of_ble_eq_true rfl, Nat.le_of_ble_eq_true rfl⟩) (fun u H locs hp hnz w => ?_)
    obtain ⟨T6, e7, hu9, hk8, sq9⟩ := hp
    subst hu9
    dsimp only at w
    refine lv_aload_n hx hb dX8_makeThing_40 rfl (lv_at hl 1 rfl) ?_
    refine lv_dup hx hb dX8_makeThing_41 rfl ?_
    refine gf_RX8_324_7 (v := .int ((T6.fr i0).w)) S hE w (ov_r (t := .fr i0) (hk8.e (.fr i0) rfl)) rfl dX8_makeThing_42 ?_
    refine lv_iconst (v := 1) hx hb dX8_makeThing_45 (by decide) ?_
    refine lv_iadd hx hb dX8_makeThing_46 ?_
    refine pf_RX8_324_7 (fs1 := [.ref (x.f (.fa i0)), .ref (x.f (.ft i0)), .ref (x.f (.fp i0)), va_rf (((T6.fr i0).o).map (fun k9 => x.f (.to k9))), .long ((T6.fr i0).v), .int (((T6.fr i0).w) + 1), .int ((T6.fr i0).d)]) S hE w (ov_r (t := .fr i0) (hk8.e (.fr i0) rfl)) rfl rfl (Nat.le_of_ble_eq_true rfl) rfl dX8_makeThing_47 (fun H locs w => ?_)
    have w := g_eqw w (congrArg (fun Z9 => g_up (ov κ ar x Z9 G) (x.f (.fr i0)) (.inr (7, [.ref (x.f (.fa i0)), .ref (x.f (.ft i0)), .ref (x.f (.fp i0)), va_rf (((T6.fr i0).o).map (fun k9 => x.f (.to k9))), .long ((T6.fr i0).v), .int (((T6.fr i0).w) + 1), .int ((T6.fr i0).d)]))) (frS_id (S := T6) (i := i0)).symm)
    have w : g_S D vwCl (g_A (ov κ ar x Z G) sz) s.heap (ov κ ar x (T6.frS i0 ((T6.fr i0).sw (((T6.fr i0).w) + 1))) G) H _ sz := g_eqw w (ov_wfr (S := T6) (v := (T6.fr i0)) (v' := ((T6.fr i0).sw (((T6.fr i0).w) + 1))) hk8.v (hk8.e (.fr i0) rfl) rfl Fr_a_sw Fr_t_sw Fr_p_sw)
    exact g_vret hx hb hr hlk w (Nat.le_of_ble_eq_true rfl) (Nat.le_of_ble_eq_true rfl) dX8_makeThing_50 ⟨_, ((sX8_makeThing_u Z i0 j0).trans ((if_pos c_7).trans ((pc_e e3).trans (vc_e e7)))), rfl, (OK.frS (S := T6) hk8 (fun k9 q9 => hk8.o (i := i0) q9)), (SZ.t sq9 (SZ.t sq5 ⟨rfl, rfl, rfl, rfl⟩))⟩
  · refine lv_aload_n hx hb dX8_makeThing_10 rfl (lv_at hl 0 rfl) ?_
    refine lv_bipush (v := 109) hx hb dX8_makeThing_11 (by decide) ?_
    refine g_callv w (g_runV (As := [.int 109]) (rest := []) S hE w hl (hX8_fault l D ar κ G x Z sz 109 hk rfl rfl) (k_RX8_435 S.2.2.2.2 ⟨Nat.le_of_ble_eq_true rfl, Nat.le_of_ble_eq_true rfl⟩) (ov_r (t := .ho) (hk.e (.ho) rfl)) rfl rfl rfl rfl (Nat.le_of_ble_eq_true rfl) dX8_makeThing_13 ⟨Nat.le_of_ble_eq_true rfl, Nat.le_of_ble_eq_true rfl⟩) (fun u H locs hp hnz w => ?_)
    obtain ⟨T10, e11, hu9, hk12, sq13⟩ := hp
    subst hu9
    dsimp only at w
    exact g_vret hx hb hr hlk w (Nat.le_of_ble_eq_true rfl) (Nat.le_of_ble_eq_true rfl) dX8_makeThing_16 ⟨_, ((sX8_makeThing_u Z i0 j0).trans ((if_neg c_7).trans (vc_e e11))), rfl, hk12, (SZ.t sq13 ⟨rfl, rfl, rfl, rfl⟩)⟩
def sX8_goThereIfNotZero (Z : Ho) (i0 : Fin 12) (j0 : Int32) : Ho := if isN (sX1_fromTop Z i0 0) = 0 then (vc (sX8_fault Z 107) (fun T6 => T6)) else (pc (sX1_pop Z i0) (fun r1 T2 => if nf (sX1_fromTop Z i0 0) = 0 then ((T2.frS i0 ((T2.fr i0).sw (((T2.fr i0).w) + 1)))) else ((T2.frS i0 ((T2.fr i0).sw j0)))))
theorem sX8_goThereIfNotZero_u (Z : Ho) (i0 : Fin 12) (j0 : Int32) : sX8_goThereIfNotZero Z i0 j0 = if isN (sX1_fromTop Z i0 0) = 0 then (vc (sX8_fault Z 107) (fun T6 => T6)) else (pc (sX1_pop Z i0) (fun r1 T2 => if nf (sX1_fromTop Z i0 0) = 0 then ((T2.frS i0 ((T2.fr i0).sw (((T2.fr i0).w) + 1)))) else ((T2.frS i0 ((T2.fr i0).sw j0))))) := rfl
set_option maxHeartbeats 4000000 in
set_option maxRecDepth 100000 in
theorem hX8_goThereIfNotZero (l : Launch) (D : va_G) (ar : Nat → ClassId) (κ : Nat → Nat) (G : gW) (x : Xo) (Z : Ho) (sz : Nat) (i0 : Fin 12) (j0 : Int32) (hk : OK x Z) : Met l yX8_goThereIfNotZero (lwC yX8_goThereIfNotZero cX8_goThereIfNotZero 5 none) (rD 6 0 0) (g_Pc D vwCl (gT ar) (EX1 κ) (ov κ ar x Z G) sz [.ref (x.f .ho), .ref (x.f (.fr i0)), .int j0]) (g_Qv D vwCl (g_A (ov κ ar x Z G) sz) (fun u => ∃ T9 : Ho, sX8_goThereIfNotZero Z i0 j0 = T9 ∧ u = (ov κ ar x T9 G, sz) ∧ OK x T9 ∧ SZ T9 Z)) 0 0 (g_A (ov κ ar x Z G) sz) := by
  refine g_ofW (by decide +kernel) (Nat.le_of_ble_eq_true rfl) ?_
  intro p e s m below meth c ls S hr hlk hin hE w hl
  have hx := S.1
  have hb := S.2.1
  have hl : lv_has ls 5 [(0, .ref (x.f .ho)), (1, .ref (x.f (.fr i0))), (2, .int j0)] := hl
  refine lv_aload_n hx hb dX8_goThereIfNotZero_0 rfl (lv_at hl 1 rfl) ?_
  refine lv_iconst (v := 0) hx hb dX8_goThereIfNotZero_1 (by decide) ?_
  refine g_calll w (g_runV (As := [.int 0]) (rest := []) S hE w hl (hX1_fromTop l D ar κ G x Z sz i0 0 hk ) (k_RX8_375 S.2.2.2.2 ⟨Nat.le_of_ble_eq_true rfl, Nat.le_of_ble_eq_true rfl⟩) (ov_r (t := .fr i0) (hk.e (.fr i0) rfl)) rfl rfl rfl rfl (Nat.le_of_ble_eq_true rfl) dX8_goThereIfNotZero_2 ⟨Nat.le_of_ble_eq_true rfl, Nat.le_of_ble_eq_true rfl⟩) (fun r u H locs hp hnz w => ?_)
  obtain ⟨rfl, rfl⟩ := hp
  dsimp only at w
  refine lv_lstore_n (lv' := [(3, .long (sX1_fromTop Z i0 0)), (0, .ref (x.f .ho)), (1, .ref (x.f (.fr i0))), (2, .int j0)]) hx hb dX8_goThereIfNotZero_5 rfl hl (by decide) rfl (fun ls hl => ?_)
  refine lv_lload_n hx hb dX8_goThereIfNotZero_6 rfl (lv_at hl 0 rfl) ?_
  refine g_calli w (g_runS (As := [.long (sX1_fromTop Z i0 0)]) (rest := []) S hE w hl (c_X8_isNumber l D ar κ (ov κ ar x Z G) sz (sX1_fromTop Z i0 0)) (k_RX8_382 S.2.2.2.2 ⟨Nat.le_of_ble_eq_true rfl, Nat.le_of_ble_eq_true rfl⟩) rfl rfl (Nat.le_of_ble_eq_true rfl) dX8_goThereIfNotZero_7 ⟨Nat.le_of_ble_eq_true rfl, Nat.le_of_ble_eq_true rfl⟩) (fun r u H locs hp hnz w => ?_)
  obtain ⟨rfl, rfl⟩ := hp
  dsimp only at w
  refine lv_if_ne (tgt := 20) hx hb dX8_goThereIfNotZero_10 (by decide) (fun c_10 => ?_) (fun c_10 => ?_)
  · refine lv_aload_n hx hb dX8_goThereIfNotZero_20 rfl (lv_at hl 2 rfl) ?_
    refine g_calll w (g_runV (As := []) (rest := []) S hE w hl (hX1_pop l D ar κ G x Z sz i0 hk ) (k_RX8_409 S.2.2.2.2 ⟨Nat.le_of_ble_eq_true rfl, Nat.le_of_ble_eq_true rfl⟩) (ov_r (t := .fr i0) (hk.e (.fr i0) rfl)) rfl rfl rfl rfl (Nat.le_of_ble_eq_true rfl) dX8_goThereIfNotZero_21 ⟨Nat.le_of_ble_eq_true rfl, Nat.le_of_ble_eq_true rfl⟩) (fun r1 u H locs hp hnz w => ?_)
    obtain ⟨T2, e3, hu9, hk4, sq5⟩ := hp
    subst hu9
    dsimp only at w
    refine lv_pop2_2 hx hb dX8_goThereIfNotZero_24 rfl ?_
    refine lv_aload_n hx hb dX8_goThereIfNotZero_25 rfl (lv_at hl 2 rfl) ?_
    refine lv_lload_n hx hb dX8_goThereIfNotZero_26 rfl (lv_at hl 0 rfl) ?_
    refine g_calli w (g_runS (As := [.long (sX1_fromTop Z i0 0)]) (rest := [.ref (x.f (.fr i0))]) S hE w hl (c_X8_numberOf l D ar κ (ov κ ar x T2 G) sz (sX1_fromTop Z i0 0)) (k_RX8_230 S.2.2.2.2 ⟨Nat.le_of_ble_eq_true rfl, Nat.le_of_ble_eq_true rfl⟩) rfl rfl (Nat.le_of_ble_eq_true rfl) dX8_goThereIfNotZero_27 ⟨Nat.le_of_ble_eq_true rfl, Nat.le_of_ble_eq_true rfl⟩) (fun r u H locs hp hnz w => ?_)
    obtain ⟨rfl, rfl⟩ := hp
    dsimp only at w
    refine lv_if_eq (tgt := 37) hx hb dX8_goThereIfNotZero_30 (by decide) (fun c_30 => ?_) (fun c_30 => ?_)
    · refine lv_aload_n hx hb dX8_goThereIfNotZero_37 rfl (lv_at hl 2 rfl) ?_
      refine gf_RX8_324_7 (v := .int ((T2.fr i0).w)) S hE w (ov_r (t := .fr i0) (hk4.e (.fr i0) rfl)) rfl dX8_goThereIfNotZero_38 ?_
      refine lv_iconst (v := 1) hx hb dX8_goThereIfNotZero_41 (by decide) ?_
      refine lv_iadd hx hb dX8_goThereIfNotZero_42 ?_
      refine pf_RX8_324_7 (fs1 := [.ref (x.f (.fa i0)), .ref (x.f (.ft i0)), .ref (x.f (.fp i0)), va_rf (((T2.fr i0).o).map (fun k9 => x.f (.to k9))), .long ((T2.fr i0).v), .int (((T2.fr i0).w) + 1), .int ((T2.fr i0).d)]) S hE w (ov_r (t := .fr i0) (hk4.e (.fr i0) rfl)) rfl rfl (Nat.le_of_ble_eq_true rfl) rfl dX8_goThereIfNotZero_43 (fun H locs w => ?_)
      have w := g_eqw w (congrArg (fun Z9 => g_up (ov κ ar x Z9 G) (x.f (.fr i0)) (.inr (7, [.ref (x.f (.fa i0)), .ref (x.f (.ft i0)), .ref (x.f (.fp i0)), va_rf (((T2.fr i0).o).map (fun k9 => x.f (.to k9))), .long ((T2.fr i0).v), .int (((T2.fr i0).w) + 1), .int ((T2.fr i0).d)]))) (frS_id (S := T2) (i := i0)).symm)
      have w : g_S D vwCl (g_A (ov κ ar x Z G) sz) s.heap (ov κ ar x (T2.frS i0 ((T2.fr i0).sw (((T2.fr i0).w) + 1))) G) H _ sz := g_eqw w (ov_wfr (S := T2) (v := (T2.fr i0)) (v' := ((T2.fr i0).sw (((T2.fr i0).w) + 1))) hk4.v (hk4.e (.fr i0) rfl) rfl Fr_a_sw Fr_t_sw Fr_p_sw)
      exact g_vret hx hb hr hlk w (Nat.le_of_ble_eq_true rfl) (Nat.le_of_ble_eq_true rfl) dX8_goThereIfNotZero_46 ⟨_, ((sX8_goThereIfNotZero_u Z i0 j0).trans ((if_neg c_10).trans ((pc_e e3).trans (if_pos c_30)))), rfl, (OK.frS (S := T2) hk4 (fun k9 q9 => hk4.o (i := i0) q9)), (SZ.t sq5 ⟨rfl, rfl, rfl, rfl⟩)⟩
    · refine lv_iload_n hx hb dX8_goThereIfNotZero_33 rfl (lv_at hl 3 rfl) ?_
      refine lv_goto (tgt := 43) hx hb dX8_goThereIfNotZero_34 (by decide) ?_
      refine pf_RX8_324_7 (fs1 := [.ref (x.f (.fa i0)), .ref (x.f (.ft i0)), .ref (x.f (.fp i0)), va_rf (((T2.fr i0).o).map (fun k9 => x.f (.to k9))), .long ((T2.fr i0).v), .int j0, .int ((T2.fr i0).d)]) S hE w (ov_r (t := .fr i0) (hk4.e (.fr i0) rfl)) rfl rfl (Nat.le_of_ble_eq_true rfl) rfl dX8_goThereIfNotZero_43 (fun H locs w => ?_)
      have w := g_eqw w (congrArg (fun Z9 => g_up (ov κ ar x Z9 G) (x.f (.fr i0)) (.inr (7, [.ref (x.f (.fa i0)), .ref (x.f (.ft i0)), .ref (x.f (.fp i0)), va_rf (((T2.fr i0).o).map (fun k9 => x.f (.to k9))), .long ((T2.fr i0).v), .int j0, .int ((T2.fr i0).d)]))) (frS_id (S := T2) (i := i0)).symm)
      have w : g_S D vwCl (g_A (ov κ ar x Z G) sz) s.heap (ov κ ar x (T2.frS i0 ((T2.fr i0).sw j0)) G) H _ sz := g_eqw w (ov_wfr (S := T2) (v := (T2.fr i0)) (v' := ((T2.fr i0).sw j0)) hk4.v (hk4.e (.fr i0) rfl) rfl Fr_a_sw Fr_t_sw Fr_p_sw)
      exact g_vret hx hb hr hlk w (Nat.le_of_ble_eq_true rfl) (Nat.le_of_ble_eq_true rfl) dX8_goThereIfNotZero_46 ⟨_, ((sX8_goThereIfNotZero_u Z i0 j0).trans ((if_neg c_10).trans ((pc_e e3).trans (if_neg c_30)))), rfl, (OK.frS (S := T2) hk4 (fun k9 q9 => hk4.o (i := i0) q9)), (SZ.t sq5 ⟨rfl, rfl, rfl, rfl⟩)⟩
  · refine lv_aload_n hx hb dX8_goThereIfNotZero_13 rfl (lv_at hl 1 rfl) ?_
    refine lv_bipush (v := 107) hx hb dX8_goThereIfNotZero_14 (by decide) ?_
    refine g_callv w (g_runV (As := [.int 107]) (rest := []) S hE w hl (hX8_fault l D ar κ G x Z sz 107 hk rfl rfl) (k_RX8_435 S.2.2.2.2 ⟨Nat.le_of_ble_eq_true rfl, Nat.le_of_ble_eq_true rfl⟩) (ov_r (t := .ho) (hk.e (.ho) rfl)) rfl rfl rfl rfl (Nat.le_of_ble_eq_true rfl) dX8_goThereIfNotZero_16 ⟨Nat.le_of_ble_eq_true rfl, Nat.le_of_ble_eq_true rfl⟩) (fun u H locs hp hnz w => ?_)
    obtain ⟨T6, e7, hu9, hk8, sq9⟩ := hp
    subst hu9
    dsimp only at w
    exact g_vret hx hb hr hlk w (Nat.le_of_ble_eq_true rfl) (Nat.le_of_ble_eq_true rfl) dX8_goThereIfNotZero_19 ⟨_, ((sX8_goThereIfNotZero_u Z i0 j0).trans ((if_pos c_10).trans (vc_e e7))), rfl, hk8, (SZ.t sq9 ⟨rfl, rfl, rfl, rfl⟩)⟩
def sX8_giveBack (Z : Ho) (v0 : Int64) : Ho := oc (sX8_frameAt (Z.sfn (Z.fn - 1)) ((Z.fn - 1) - 1)) ((((Z.sfn (Z.fn - 1)).sst 114).san v0)) (fun k1 => vc (sX1_push (Z.sfn (Z.fn - 1)) k1 v0) (fun T3 => (T3.frS k1 ((T3.fr k1).sw (((T3.fr k1).w) + 1)))))
theorem sX8_giveBack_u (Z : Ho) (v0 : Int64) : sX8_giveBack Z v0 = oc (sX8_frameAt (Z.sfn (Z.fn - 1)) ((Z.fn - 1) - 1)) ((((Z.sfn (Z.fn - 1)).sst 114).san v0)) (fun k1 => vc (sX1_push (Z.sfn (Z.fn - 1)) k1 v0) (fun T3 => (T3.frS k1 ((T3.fr k1).sw (((T3.fr k1).w) + 1))))) := rfl
set_option maxHeartbeats 4000000 in
set_option maxRecDepth 100000 in
theorem hX8_giveBack (l : Launch) (D : va_G) (ar : Nat → ClassId) (κ : Nat → Nat) (G : gW) (x : Xo) (Z : Ho) (sz : Nat) (v0 : Int64) (hk : OK x Z) : Met l yX8_giveBack (lwC yX8_giveBack cX8_giveBack 4 none) (rD 6 0 0) (g_Pc D vwCl (gT ar) (EX1 κ) (ov κ ar x Z G) sz [.ref (x.f .ho), .long v0]) (g_Qv D vwCl (g_A (ov κ ar x Z G) sz) (fun u => ∃ T9 : Ho, sX8_giveBack Z v0 = T9 ∧ u = (ov κ ar x T9 G, sz) ∧ OK x T9 ∧ SZ T9 Z)) 0 0 (g_A (ov κ ar x Z G) sz) := by
  refine g_ofW (by decide +kernel) (Nat.le_of_ble_eq_true rfl) ?_
  intro p e s m below meth c ls S hr hlk hin hE w hl
  have hx := S.1
  have hb := S.2.1
  have hl : lv_has ls 4 [(0, .ref (x.f .ho)), (1, .long v0)] := hl
  refine lv_aload_n hx hb dX8_giveBack_0 rfl (lv_at hl 0 rfl) ?_
  refine lv_dup hx hb dX8_giveBack_1 rfl ?_
  refine gf_RX8_50_14 (v := .int Z.fn) S hE w (ov_r (t := .ho) (hk.e (.ho) rfl)) rfl dX8_giveBack_2 ?_
  refine lv_iconst (v := 1) hx hb dX8_giveBack_5 (by decide) ?_
  refine lv_isub hx hb dX8_giveBack_6 ?_
  refine pf_RX8_50_14 (fs1 := [.ref (x.f .cl), .ref (x.f .me), .ref (x.f (.ro Z.ty)), .int x.ht, .ref (x.f .gl), .ref (x.f .ts), .ref (x.f .fs), .int (Z.fn - 1), .int Z.st, .int Z.rs, .long Z.an, .int Z.sp, .ref (x.f .wr)]) S hE w (ov_r (t := .ho) (hk.e (.ho) rfl)) rfl rfl (Nat.le_of_ble_eq_true rfl) rfl dX8_giveBack_7 (fun H locs w => ?_)
  have w : g_S D vwCl (g_A (ov κ ar x Z G) sz) s.heap (ov κ ar x (Z.sfn (Z.fn - 1)) G) H _ sz := g_eqw w (ov_who (S := Z) (T := (Z.sfn (Z.fn - 1))) hk.v (hk.e (.ho) rfl) rfl Ho_ab_sfn Ho_fc_sfn Ho_cn_sfn Ho_me_sfn Ho_nt_sfn Ho_nr_sfn Ho_to_sfn Ho_ro_sfn Ho_gl_sfn Ho_al_sfn Ho_re_sfn Ho_th_sfn Ho_tc_sfn Ho_rc_sfn Ho_mk_sfn Ho_fr_sfn Ho_np_sfn Ho_pg_sfn Ho_wc_sfn Ho_ws_sfn Ho_wp_sfn)
  refine lv_aload_n hx hb dX8_giveBack_10 rfl (lv_at hl 0 rfl) ?_
  refine lv_aload_n hx hb dX8_giveBack_11 rfl (lv_at hl 0 rfl) ?_
  refine gf_RX8_50_14 (v := .int (Z.fn - 1)) S hE w (ov_r (t := .ho) (hk.e (.ho) rfl)) rfl dX8_giveBack_12 ?_
  refine lv_iconst (v := 1) hx hb dX8_giveBack_15 (by decide) ?_
  refine lv_isub hx hb dX8_giveBack_16 ?_
  refine g_callq w (g_runV (As := [.int ((Z.fn - 1) - 1)]) (rest := []) S hE w hl (hX8_frameAt l D ar κ G x (Z.sfn (Z.fn - 1)) sz ((Z.fn - 1) - 1) (hk.plain (T := (Z.sfn (Z.fn - 1))) rfl rfl rfl rfl rfl rfl rfl) ) (k_RX8_251 S.2.2.2.2 ⟨Nat.le_of_ble_eq_true rfl, Nat.le_of_ble_eq_true rfl⟩) (ov_r (t := .ho) (hk.e (.ho) rfl)) rfl rfl rfl rfl (Nat.le_of_ble_eq_true rfl) dX8_giveBack_17 ⟨Nat.le_of_ble_eq_true rfl, Nat.le_of_ble_eq_true rfl⟩) (fun r u H locs hp hnz w => ?_)
  obtain ⟨rfl, rfl⟩ := hp
  dsimp only at w
  refine lv_astore_nQ (lv' := [(3, va_rf ((sX8_frameAt (Z.sfn (Z.fn - 1)) ((Z.fn - 1) - 1)).map (fun k9 => x.f (.fr k9)))), (0, .ref (x.f .ho)), (1, .long v0)]) hx hb dX8_giveBack_20 rfl hl (by decide) rfl (fun ls hl => ?_)
  refine lv_aload_nQ hx hb dX8_giveBack_21 rfl (lv_at hl 0 rfl) ?_
  rcases he2 : sX8_frameAt (Z.sfn (Z.fn - 1)) ((Z.fn - 1) - 1) with _ | k1
  · have hl : lv_has ls 4 [(3, .null), (0, .ref (x.f .ho)), (1, .long v0)] := by rw [he2] at hl; exact hl
    show W p l e _ s m _ below meth c _ _ _ _ _ (F0 m 22 ls [.null])
    refine lv_ifnonnullN hx hb dX8_giveBack_22 ?_
    refine lv_aload_n hx hb dX8_giveBack_25 rfl (lv_at hl 1 rfl) ?_
    refine lv_bipush (v := 114) hx hb dX8_giveBack_26 (by decide) ?_
    refine pf_RX8_53_14 (fs1 := [.ref (x.f .cl), .ref (x.f .me), .ref (x.f (.ro Z.ty)), .int x.ht, .ref (x.f .gl), .ref (x.f .ts), .ref (x.f .fs), .int (Z.fn - 1), .int 114, .int Z.rs, .long Z.an, .int Z.sp, .ref (x.f .wr)]) S hE w (ov_r (t := .ho) (hk.e (.ho) rfl)) rfl rfl (Nat.le_of_ble_eq_true rfl) rfl dX8_giveBack_28 (fun H locs w => ?_)
    have w : g_S D vwCl (g_A (ov κ ar x Z G) sz) s.heap (ov κ ar x ((Z.sfn (Z.fn - 1)).sst 114) G) H _ sz := g_eqw w (ov_who (S := (Z.sfn (Z.fn - 1))) (T := ((Z.sfn (Z.fn - 1)).sst 114)) hk.v (hk.e (.ho) rfl) rfl ((Ho_ab_sst.trans Ho_ab_sfn).trans Ho_ab_sfn.symm) ((Ho_fc_sst.trans Ho_fc_sfn).trans Ho_fc_sfn.symm) ((Ho_cn_sst.trans Ho_cn_sfn).trans Ho_cn_sfn.symm) ((Ho_me_sst.trans Ho_me_sfn).trans Ho_me_sfn.symm) ((Ho_nt_sst.trans Ho_nt_sfn).trans Ho_nt_sfn.symm) ((Ho_nr_sst.trans Ho_nr_sfn).trans Ho_nr_sfn.symm) ((Ho_to_sst.trans Ho_to_sfn).trans Ho_to_sfn.symm) ((Ho_ro_sst.trans Ho_ro_sfn).trans Ho_ro_sfn.symm) ((Ho_gl_sst.trans Ho_gl_sfn).trans Ho_gl_sfn.symm) ((Ho_al_sst.trans Ho_al_sfn).trans Ho_al_sfn.symm) ((Ho_re_sst.trans Ho_re_sfn).trans Ho_re_sfn.symm) ((Ho_th_sst.trans Ho_th_sfn).trans Ho_th_sfn.symm) ((Ho_tc_sst.trans Ho_tc_sfn).trans Ho_tc_sfn.symm) ((Ho_rc_sst.trans Ho_rc_sfn).trans Ho_rc_sfn.symm) ((Ho_mk_sst.trans Ho_mk_sfn).trans Ho_mk_sfn.symm) ((Ho_fr_sst.trans Ho_fr_sfn).trans Ho_fr_sfn.symm) ((Ho_np_sst.trans Ho_np_sfn).trans Ho_np_sfn.symm) ((Ho_pg_sst.trans Ho_pg_sfn).trans Ho_pg_sfn.symm) ((Ho_wc_sst.trans Ho_wc_sfn).trans Ho_wc_sfn.symm) ((Ho_ws_sst.trans Ho_ws_sfn).trans Ho_ws_sfn.symm) ((Ho_wp_sst.trans Ho_wp_sfn).trans Ho_wp_sfn.symm))
    refine lv_aload_n hx hb dX8_giveBack_31 rfl (lv_at hl 1 rfl) ?_
    refine lv_lload_n hx hb dX8_giveBack_32 rfl (lv_at hl 2 rfl) ?_
    refine pf_RX8_62_14 (fs1 := [.ref (x.f .cl), .ref (x.f .me), .ref (x.f (.ro Z.ty)), .int x.ht, .ref (x.f .gl), .ref (x.f .ts), .ref (x.f .fs), .int (Z.fn - 1), .int 114, .int Z.rs, .long v0, .int Z.sp, .ref (x.f .wr)]) S hE w (ov_r (t := .ho) (hk.e (.ho) rfl)) rfl rfl (Nat.le_of_ble_eq_true rfl) rfl dX8_giveBack_33 (fun H locs w => ?_)
    have w : g_S D vwCl (g_A (ov κ ar x Z G) sz) s.heap (ov κ ar x (((Z.sfn (Z.fn - 1)).sst 114).san v0) G) H _ sz := g_eqw w (ov_who (S := ((Z.sfn (Z.fn - 1)).sst 114)) (T := (((Z.sfn (Z.fn - 1)).sst 114).san v0)) hk.v (hk.e (.ho) rfl) rfl ((Ho_ab_san.trans (Ho_ab_sst.trans Ho_ab_sfn)).trans (Ho_ab_sst.trans Ho_ab_sfn).symm) ((Ho_fc_san.trans (Ho_fc_sst.trans Ho_fc_sfn)).trans (Ho_fc_sst.trans Ho_fc_sfn).symm) ((Ho_cn_san.trans (Ho_cn_sst.trans Ho_cn_sfn)).trans (Ho_cn_sst.trans Ho_cn_sfn).symm) ((Ho_me_san.trans (Ho_me_sst.trans Ho_me_sfn)).trans (Ho_me_sst.trans Ho_me_sfn).symm) ((Ho_nt_san.trans (Ho_nt_sst.trans Ho_nt_sfn)).trans (Ho_nt_sst.trans Ho_nt_sfn).symm) ((Ho_nr_san.trans (Ho_nr_sst.trans Ho_nr_sfn)).trans (Ho_nr_sst.trans Ho_nr_sfn).symm) ((Ho_to_san.trans (Ho_to_sst.trans Ho_to_sfn)).trans (Ho_to_sst.trans Ho_to_sfn).symm) ((Ho_ro_san.trans (Ho_ro_sst.trans Ho_ro_sfn)).trans (Ho_ro_sst.trans Ho_ro_sfn).symm) ((Ho_gl_san.trans (Ho_gl_sst.trans Ho_gl_sfn)).trans (Ho_gl_sst.trans Ho_gl_sfn).symm) ((Ho_al_san.trans (Ho_al_sst.trans Ho_al_sfn)).trans (Ho_al_sst.trans Ho_al_sfn).symm) ((Ho_re_san.trans (Ho_re_sst.trans Ho_re_sfn)).trans (Ho_re_sst.trans Ho_re_sfn).symm) ((Ho_th_san.trans (Ho_th_sst.trans Ho_th_sfn)).trans (Ho_th_sst.trans Ho_th_sfn).symm) ((Ho_tc_san.trans (Ho_tc_sst.trans Ho_tc_sfn)).trans (Ho_tc_sst.trans Ho_tc_sfn).symm) ((Ho_rc_san.trans (Ho_rc_sst.trans Ho_rc_sfn)).trans (Ho_rc_sst.trans Ho_rc_sfn).symm) ((Ho_mk_san.trans (Ho_mk_sst.trans Ho_mk_sfn)).trans (Ho_mk_sst.trans Ho_mk_sfn).symm) ((Ho_fr_san.trans (Ho_fr_sst.trans Ho_fr_sfn)).trans (Ho_fr_sst.trans Ho_fr_sfn).symm) ((Ho_np_san.trans (Ho_np_sst.trans Ho_np_sfn)).trans (Ho_np_sst.trans Ho_np_sfn).symm) ((Ho_pg_san.trans (Ho_pg_sst.trans Ho_pg_sfn)).trans (Ho_pg_sst.trans Ho_pg_sfn).symm) ((Ho_wc_san.trans (Ho_wc_sst.trans Ho_wc_sfn)).trans (Ho_wc_sst.trans Ho_wc_sfn).symm) ((Ho_ws_san.trans (Ho_ws_sst.trans Ho_ws_sfn)).trans (Ho_ws_sst.trans Ho_ws_sfn).symm) ((Ho_wp_san.trans (Ho_wp_sst.trans Ho_wp_sfn)).trans (Ho_wp_sst.trans Ho_wp_sfn).symm))
    exact g_vret hx hb hr hlk w (Nat.le_of_ble_eq_true rfl) (Nat.le_of_ble_eq_true rfl) dX8_giveBack_36 ⟨_, ((sX8_giveBack_u Z v0).trans (oc_n he2)), rfl, (hk.plain (T := (((Z.sfn (Z.fn - 1)).sst 114).san v0)) rfl rfl rfl rfl rfl rfl rfl), ⟨rfl, rfl, rfl, rfl⟩⟩
  · have hl : lv_has ls 4 [(3, .ref (x.f (.fr k1))), (0, .ref (x.f .ho)), (1, .long v0)] := by rw [he2] at hl; exact hl
    show W p l e _ s m _ below meth c _ _ _ _ _ (F0 m 22 ls [.ref (x.f (.fr k1))])
    refine lv_ifnonnull (tgt := 37) hx hb dX8_giveBack_22 (by decide) ?_
    refine lv_aload_n hx hb dX8_giveBack_37 rfl (lv_at hl 0 rfl) ?_
    refine lv_lload_n hx hb dX8_giveBack_38 rfl (lv_at hl 2 rfl) ?_
    refine g_callv w (g_runV (As := [.long v0]) (rest := []) S hE w hl (hX1_push l D ar κ G x (Z.sfn (Z.fn - 1)) sz k1 v0 (hk.plain (T := (Z.sfn (Z.fn - 1))) rfl rfl rfl rfl rfl rfl rfl) ) (k_RX8_424 S.2.2.2.2 ⟨Nat.le_of_ble_eq_true rfl, Nat.le_of_ble_eq_true rfl⟩) (ov_r (t := .fr k1) (hk.e (.fr k1) rfl)) rfl rfl rfl rfl (Nat.le_of_ble_eq_true rfl) dX8_giveBack_39 ⟨Nat.le_of_ble_eq_true rfl, Nat.le_of_ble_eq_true rfl⟩) (fun u H locs hp hnz w => ?_)
    obtain ⟨T3, e4, hu9, hk5, sq6⟩ := hp
    subst hu9
    dsimp only at w
    refine lv_aload_n hx hb dX8_giveBack_42 rfl (lv_at hl 0 rfl) ?_
    refine lv_dup hx hb dX8_giveBack_43 rfl ?_
    refine gf_RX8_324_7 (v := .int ((T3.fr k1).w)) S hE w (ov_r (t := .fr k1) (hk5.e (.fr k1) rfl)) rfl dX8_giveBack_44 ?_
    refine lv_iconst (v := 1) hx hb dX8_giveBack_47 (by decide) ?_
    refine lv_iadd hx hb dX8_giveBack_48 ?_
    refine pf_RX8_324_7 (fs1 := [.ref (x.f (.fa k1)), .ref (x.f (.ft k1)), .ref (x.f (.fp k1)), va_rf (((T3.fr k1).o).map (fun k9 => x.f (.to k9))), .long ((T3.fr k1).v), .int (((T3.fr k1).w) + 1), .int ((T3.fr k1).d)]) S hE w (ov_r (t := .fr k1) (hk5.e (.fr k1) rfl)) rfl rfl (Nat.le_of_ble_eq_true rfl) rfl dX8_giveBack_49 (fun H locs w => ?_)
    have w := g_eqw w (congrArg (fun Z9 => g_up (ov κ ar x Z9 G) (x.f (.fr k1)) (.inr (7, [.ref (x.f (.fa k1)), .ref (x.f (.ft k1)), .ref (x.f (.fp k1)), va_rf (((T3.fr k1).o).map (fun k9 => x.f (.to k9))), .long ((T3.fr k1).v), .int (((T3.fr k1).w) + 1), .int ((T3.fr k1).d)]))) (frS_id (S := T3) (i := k1)).symm)
    have w : g_S D vwCl (g_A (ov κ ar x Z G) sz) s.heap (ov κ ar x (T3.frS k1 ((T3.fr k1).sw (((T3.fr k1).w) + 1))) G) H _ sz := g_eqw w (ov_wfr (S := T3) (v := (T3.fr k1)) (v' := ((T3.fr k1).sw (((T3.fr k1).w) + 1))) hk5.v (hk5.e (.fr k1) rfl) rfl Fr_a_sw Fr_t_sw Fr_p_sw)
    exact g_vret hx hb hr hlk w (Nat.le_of_ble_eq_true rfl) (Nat.le_of_ble_eq_true rfl) dX8_giveBack_52 ⟨_, ((sX8_giveBack_u Z v0).trans ((oc_s he2).trans (vc_e e4))), rfl, (OK.frS (S := T3) hk5 (fun k9 q9 => hk5.o (i := k1) q9)), (SZ.t sq6 ⟨rfl, rfl, rfl, rfl⟩)⟩
def sX8_countCall (Z : Ho) (k0 : Nat) : Ho := (Z.toS k0 ((Z.to k0).sn (((Z.to k0).n) + 1)))
theorem sX8_countCall_u (Z : Ho) (k0 : Nat) : sX8_countCall Z k0 = (Z.toS k0 ((Z.to k0).sn (((Z.to k0).n) + 1))) := rfl
set_option maxHeartbeats 4000000 in
set_option maxRecDepth 100000 in
theorem hX8_countCall (l : Launch) (D : va_G) (ar : Nat → ClassId) (κ : Nat → Nat) (G : gW) (x : Xo) (Z : Ho) (sz : Nat) (k0 : Nat) (hk : OK x Z) (hv_k0 : k0 < Z.nt) : Met l yX8_countCall (lwC yX8_countCall cX8_countCall 2 none) (rD 4 0 0) (g_Pc D vwCl (gT ar) (EX1 κ) (ov κ ar x Z G) sz [.ref (x.f .ho), .ref (x.f (.to k0))]) (g_Qv D vwCl (g_A (ov κ ar x Z G) sz) (fun u => ∃ z9 : Zo, ∃ T9 : Ho, sX8_countCall Z k0 = T9 ∧ u.1 = ov κ ar (x.pgs z9) T9 G ∧ OK (x.pgs z9) T9 ∧ BX x z9 sz ∧ SZ T9 Z)) 0 0 (g_A (ov κ ar x Z G) sz) := by
  refine g_ofW (by decide +kernel) (Nat.le_of_ble_eq_true rfl) ?_
  intro p e s m below meth c ls S hr hlk hin hE w hl
  have hx := S.1
  have hb := S.2.1
  have hl : lv_has ls 2 [(0, .ref (x.f .ho)), (1, .ref (x.f (.to k0)))] := hl
  refine lv_aload_n hx hb dX8_countCall_0 rfl (lv_at hl 1 rfl) ?_
  refine lv_dup hx hb dX8_countCall_1 rfl ?_
  refine gf_RX8_163_12 (v := .int ((Z.to k0).n)) S hE w (ov_r (t := .to k0) (hk.e_to hv_k0)) rfl dX8_countCall_2 ?_
  refine lv_iconst (v := 1) hx hb dX8_countCall_5 (by decide) ?_
  refine lv_iadd hx hb dX8_countCall_6 ?_
  refine pf_RX8_163_12 (fs1 := [.int ((Z.to k0).c), .int ((Z.to k0).s), .int ((Z.to k0).a), .int ((Z.to k0).t), .ref (x.f (.ro ((Z.to k0).q))), .int (((Z.to k0).n) + 1), .int (x.cm k0)]) S hE w (ov_r (t := .to k0) (hk.e_to hv_k0)) rfl rfl (Nat.le_of_ble_eq_true rfl) rfl dX8_countCall_7 (fun H locs w => ?_)
  have w := g_eqw w (congrArg (fun Z9 => g_up (ov κ ar x Z9 G) (x.f (.to k0)) (.inr (12, [.int ((Z.to k0).c), .int ((Z.to k0).s), .int ((Z.to k0).a), .int ((Z.to k0).t), .ref (x.f (.ro ((Z.to k0).q))), .int (((Z.to k0).n) + 1), .int (x.cm k0)]))) (toS_id (S := Z) (i := k0)).symm)
  have w : g_S D vwCl (g_A (ov κ ar x Z G) sz) s.heap (ov κ ar x (Z.toS k0 ((Z.to k0).sn (((Z.to k0).n) + 1))) G) H _ sz := g_eqw w (ov_wto (S := Z) (v := (Z.to k0)) (v' := ((Z.to k0).sn (((Z.to k0).n) + 1))) hk.v (hk.e_to hv_k0) rfl )
  refine lv_aload_n hx hb dX8_countCall_10 rfl (lv_at hl 0 rfl) ?_
  refine gf_RX8_29_14 (v := .int x.ht) S hE w (ov_r (t := .ho) (hk.e (.ho) rfl)) rfl dX8_countCall_11 ?_
  refine lv_if_eq (tgt := 33) hx hb dX8_countCall_14 (by decide) (fun c_14 => ?_) (fun c_14 => ?_)
  · exact g_vret hx hb hr hlk w (Nat.le_of_ble_eq_true rfl) (Nat.le_of_ble_eq_true rfl) dX8_countCall_33 ⟨x.z, _, (sX8_countCall_u Z k0), rfl, (OK.toS (S := Z) (i := k0) hk rfl), (fun a9 t9 h9 => Or.inl h9), ⟨rfl, rfl, rfl, rfl⟩⟩
  · refine lv_aload_n hx hb dX8_countCall_17 rfl (lv_at hl 1 rfl) ?_
    refine gf_RX8_163_12 (v := .int (((Z.to k0).n) + 1)) S hE w (ov_rto (hk.e_to hv_k0)) rfl dX8_countCall_18 ?_
    refine lv_aload_n hx hb dX8_countCall_21 rfl (lv_at hl 0 rfl) ?_
    refine gf_RX8_29_14 (v := .int x.ht) S hE w (ov_r (t := .ho) (hk.e (.ho) rfl)) rfl dX8_countCall_22 ?_
    refine lv_icmp_lt (tgt := 33) hx hb dX8_countCall_25 (by decide) (fun c_25 => ?_) (fun c_25 => ?_)
    · exact g_vret hx hb hr hlk w (Nat.le_of_ble_eq_true rfl) (Nat.le_of_ble_eq_true rfl) dX8_countCall_33 ⟨x.z, _, (sX8_countCall_u Z k0), rfl, (OK.toS (S := Z) (i := k0) hk rfl), (fun a9 t9 h9 => Or.inl h9), ⟨rfl, rfl, rfl, rfl⟩⟩
    · refine lv_aload_n hx hb dX8_countCall_28 rfl (lv_at hl 1 rfl) ?_
      refine lv_iconst (v := 1) hx hb dX8_countCall_29 (by decide) ?_
      refine pf_RX8_187_12 (fs1 := [.int ((Z.to k0).c), .int ((Z.to k0).s), .int ((Z.to k0).a), .int ((Z.to k0).t), .ref (x.f (.ro ((Z.to k0).q))), .int (((Z.to k0).n) + 1), .int 1]) S hE w (ov_rto (hk.e_to hv_k0)) rfl rfl (Nat.le_of_ble_eq_true rfl) rfl dX8_countCall_30 (fun H locs w => ?_)
      have w := g_eqw w (ov_wcm (S := Z) (v := ((Z.to k0).sn (((Z.to k0).n) + 1))) hk.v (hk.e_to hv_k0) rfl)
      exact g_vret hx hb hr hlk w (Nat.le_of_ble_eq_true rfl) (Nat.le_of_ble_eq_true rfl) dX8_countCall_33 ⟨(x.zcm (updN x.cm k0 1)), _, (sX8_countCall_u Z k0), rfl, (OK.toS (S := Z) (i := k0) hk rfl), (fun a9 t9 h9 => Or.inl h9), ⟨rfl, rfl, rfl, rfl⟩⟩
def sX8_openFrame (Z : Ho) (k0 : Nat) (v0 : Int64) : Option (Fin 12) × Ho := oc (sX8_frameAt Z Z.fn) ((none, Z)) (fun k1 => vc (sX1_open Z k1 k0 v0) (fun T3 => vc (sX8_countCall (T3.sfn (T3.fn + 1)) k0) (fun T8 => (some k1, T8))))
theorem sX8_openFrame_u (Z : Ho) (k0 : Nat) (v0 : Int64) : sX8_openFrame Z k0 v0 = oc (sX8_frameAt Z Z.fn) ((none, Z)) (fun k1 => vc (sX1_open Z k1 k0 v0) (fun T3 => vc (sX8_countCall (T3.sfn (T3.fn + 1)) k0) (fun T8 => (some k1, T8)))) := rfl
set_option maxHeartbeats 4000000 in
set_option maxRecDepth 100000 in
theorem hX8_openFrame (l : Launch) (D : va_G) (ar : Nat → ClassId) (κ : Nat → Nat) (G : gW) (x : Xo) (Z : Ho) (sz : Nat) (k0 : Nat) (v0 : Int64) (hk : OK x Z) (hv_k0 : k0 < Z.nt) : Met l yX8_openFrame (lwC yX8_openFrame cX8_openFrame 5 (some (.object "Sendhouse$Frame"))) (rD 7 0 0) (g_Pc D vwCl (gT ar) (EX1 κ) (ov κ ar x Z G) sz [.ref (x.f .ho), .ref (x.f (.to k0)), .long v0]) (g_Qq D vwCl (g_A (ov κ ar x Z G) sz) (fun r u => ∃ z9 : Zo, ∃ r9 T9, sX8_openFrame Z k0 v0 = (r9, T9) ∧ r = Option.map (fun k9 => x.f (.fr k9)) r9 ∧ u.1 = ov κ ar (x.pgs z9) T9 G ∧ OK (x.pgs z9) T9 ∧ BX x z9 sz ∧ SZ T9 Z)) 0 0 (g_A (ov κ ar x Z G) sz) := by
  refine g_ofW (by decide +kernel) (Nat.le_of_ble_eq_true rfl) ?_
  intro p e s m below meth c ls S hr hlk hin hE w hl
  have hx := S.1
  have hb := S.2.1
  have hl : lv_has ls 5 [(0, .ref (x.f .ho)), (1, .ref (x.f (.to k0))), (2, .long v0)] := hl
  refine lv_aload_n hx hb dX8_openFrame_0 rfl (lv_at hl 0 rfl) ?_
  refine lv_aload_n hx hb dX8_openFrame_1 rfl (lv_at hl 0 rfl) ?_
  refine gf_RX8_50_14 (v := .int Z.fn) S hE w (ov_r (t := .ho) (hk.e (.ho) rfl)) rfl dX8_openFrame_2 ?_
  refine g_callq w (g_runV (As := [.int Z.fn]) (rest := []) S hE w hl (hX8_frameAt l D ar κ G x Z sz Z.fn hk ) (k_RX8_251 S.2.2.2.2 ⟨Nat.le_of_ble_eq_true rfl, Nat.le_of_ble_eq_true rfl⟩) (ov_r (t := .ho) (hk.e (.ho) rfl)) rfl rfl rfl rfl (Nat.le_of_ble_eq_true rfl) dX8_openFrame_5 ⟨Nat.le_of_ble_eq_true rfl, Nat.le_of_ble_eq_true rfl⟩) (fun r u H locs hp hnz w => ?_)
  obtain ⟨rfl, rfl⟩ := hp
  dsimp only at w
  refine lv_astoreQ (lv' := [(4, va_rf ((sX8_frameAt Z Z.fn).map (fun k9 => x.f (.fr k9)))), (0, .ref (x.f .ho)), (1, .ref (x.f (.to k0))), (2, .long v0)]) hx hb dX8_openFrame_8 hl (by decide) rfl (fun ls hl => ?_)
  refine lv_aloadQ hx hb dX8_openFrame_10 (lv_at hl 0 rfl) ?_
  rcases he2 : sX8_frameAt Z Z.fn with _ | k1
  · have hl : lv_has ls 5 [(4, .null), (0, .ref (x.f .ho)), (1, .ref (x.f (.to k0))), (2, .long v0)] := by rw [he2] at hl; exact hl
    show W p l e _ s m _ below meth c _ _ _ _ _ (F0 m 12 ls [.null])
    refine lv_ifnullN (tgt := 37) hx hb dX8_openFrame_12 (by decide) ?_
    refine lv_aloadN hx hb dX8_openFrame_37 (lv_at hl 0 rfl) ?_
    exact g_qret (r := none) hx hb hr (Or.inl ⟨_, rfl⟩) hlk w (Nat.le_of_ble_eq_true rfl) (Nat.le_of_ble_eq_true rfl) dX8_openFrame_39 ⟨x.z, _, _, ((sX8_openFrame_u Z k0 v0).trans (oc_n he2)), rfl, rfl, hk, (fun a9 t9 h9 => Or.inl h9), ⟨rfl, rfl, rfl, rfl⟩⟩
  · have hl : lv_has ls 5 [(4, .ref (x.f (.fr k1))), (0, .ref (x.f .ho)), (1, .ref (x.f (.to k0))), (2, .long v0)] := by rw [he2] at hl; exact hl
    show W p l e _ s m _ below meth c _ _ _ _ _ (F0 m 12 ls [.ref (x.f (.fr k1))])
    refine lv_ifnull hx hb dX8_openFrame_12 ?_
    refine lv_aload hx hb dX8_openFrame_15 (lv_at hl 0 rfl) ?_
    refine lv_aload_n hx hb dX8_openFrame_17 rfl (lv_at hl 2 rfl) ?_
    refine lv_lload_n hx hb dX8_openFrame_18 rfl (lv_at hl 3 rfl) ?_
    refine g_callv w (g_runV (As := [.ref (x.f (.to k0)), .long v0]) (rest := []) S hE w hl (hX1_open l D ar κ G x Z sz k1 k0 v0 hk hv_k0) (k_RX8_360 S.2.2.2.2 ⟨Nat.le_of_ble_eq_true rfl, Nat.le_of_ble_eq_true rfl⟩) (ov_r (t := .fr k1) (hk.e (.fr k1) rfl)) rfl rfl rfl rfl (Nat.le_of_ble_eq_true rfl) dX8_openFrame_19 ⟨Nat.le_of_ble_eq_true rfl, Nat.le_of_ble_eq_true rfl⟩) (fun u H locs hp hnz w => ?_)
    obtain ⟨T3, e4, hu9, hk5, sq6⟩ := hp
    subst hu9
    dsimp only at w
    have vk7 : k0 < T3.nt := SZ.to sq6 hv_k0
    refine lv_aload_n hx hb dX8_openFrame_22 rfl (lv_at hl 1 rfl) ?_
    refine lv_dup hx hb dX8_openFrame_23 rfl ?_
    refine gf_RX8_50_14 (v := .int T3.fn) S hE w (ov_r (t := .ho) (hk5.e (.ho) rfl)) rfl dX8_openFrame_24 ?_
    refine lv_iconst (v := 1) hx hb dX8_openFrame_27 (by decide) ?_
    refine lv_iadd hx hb dX8_openFrame_28 ?_
    refine pf_RX8_50_14 (fs1 := [.ref (x.f .cl), .ref (x.f .me), .ref (x.f (.ro T3.ty)), .int x.ht, .ref (x.f .gl), .ref (x.f .ts), .ref (x.f .fs), .int (T3.fn + 1), .int T3.st, .int T3.rs, .long T3.an, .int T3.sp, .ref (x.f .wr)]) S hE w (ov_r (t := .ho) (hk5.e (.ho) rfl)) rfl rfl (Nat.le_of_ble_eq_true rfl) rfl dX8_openFrame_29 (fun H locs w => ?_)
    have w : g_S D vwCl (g_A (ov κ ar x Z G) sz) s.heap (ov κ ar x (T3.sfn (T3.fn + 1)) G) H _ sz := g_eqw w (ov_who (S := T3) (T := (T3.sfn (T3.fn + 1))) hk5.v (hk5.e (.ho) rfl) rfl Ho_ab_sfn Ho_fc_sfn Ho_cn_sfn Ho_me_sfn Ho_nt_sfn Ho_nr_sfn Ho_to_sfn Ho_ro_sfn Ho_gl_sfn Ho_al_sfn Ho_re_sfn Ho_th_sfn Ho_tc_sfn Ho_rc_sfn Ho_mk_sfn Ho_fr_sfn Ho_np_sfn Ho_pg_sfn Ho_wc_sfn Ho_ws_sfn Ho_wp_sfn)
    refine lv_aload_n hx hb dX8_openFrame_32 rfl (lv_at hl 1 rfl) ?_
    refine lv_aload_n hx hb dX8_openFrame_33 rfl (lv_at hl 2 rfl) ?_
    refine g_callv w (g_runV (As := [.ref (x.f (.to k0))]) (rest := []) S hE w hl (hX8_countCall l D ar κ G x (T3.sfn (T3.fn + 1)) sz k0 (hk5.plain (T := (T3.sfn (T3.fn + 1))) rfl rfl rfl rfl rfl rfl rfl) vk7) (k_RX8_364 S.2.2.2.2 ⟨Nat.le_of_ble_eq_true rfl, Nat.le_of_ble_eq_true rfl⟩) (ov_r (t := .ho) (hk5.e (.ho) rfl)) rfl rfl rfl rfl (Nat.le_of_ble_eq_true rfl) dX8_openFrame_34 ⟨Nat.le_of_ble_eq_true rfl, Nat.le_of_ble_eq_true rfl⟩) (fun u H locs hp hnz w => ?_)
    obtain ⟨z11, T8, e9, hu9, hk10, bx12, sq13⟩ := hp
    obtain ⟨u15, n14⟩ := u
    dsimp only at hu9 w hnz
    subst hu9
    have hz16 := hnz
    have vk17 : k0 < T8.nt := SZ.to sq13 vk7
    refine lv_aload hx hb dX8_openFrame_37 (lv_at hl 0 rfl) ?_
    exact g_qret (r := (some (x.f (.fr k1)))) hx hb hr (Or.inl ⟨_, rfl⟩) hlk w (Nat.le_of_ble_eq_true rfl) (Nat.le_of_ble_eq_true rfl) dX8_openFrame_39 ⟨z11, _, _, ((sX8_openFrame_u Z k0 v0).trans ((oc_s he2).trans ((vc_e e4).trans (vc_e e9)))), rfl, rfl, hk10, bx12, (SZ.t sq13 (SZ.t sq6 ⟨rfl, rfl, rfl, rfl⟩))⟩
