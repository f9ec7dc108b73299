theorem dX8_reachFrom_0 : decode cX8_reachFrom 0 = .ok (.aload_n 1, 1) := by decide +kernel
theorem dX8_reachFrom_1 : decode cX8_reachFrom 1 = .ok (.ifnonnull 4, 3) := by decide +kernel
theorem dX8_reachFrom_4 : decode cX8_reachFrom 4 = .ok (.return_, 1) := by decide +kernel
theorem dX8_reachFrom_5 : decode cX8_reachFrom 5 = .ok (.iconst 0, 1) := by decide +kernel
theorem dX8_reachFrom_6 : decode cX8_reachFrom 6 = .ok (.istore_n 2, 1) := by decide +kernel
theorem dX8_reachFrom_7 : decode cX8_reachFrom 7 = .ok (.iload_n 2, 1) := by decide +kernel
theorem dX8_reachFrom_8 : decode cX8_reachFrom 8 = .ok (.aload_n 1, 1) := by decide +kernel
theorem dX8_reachFrom_9 : decode cX8_reachFrom 9 = .ok (.invokevirtual 275, 3) := by decide +kernel
theorem dX8_reachFrom_12 : decode cX8_reachFrom 12 = .ok (.if_icmp .ge 21, 3) := by decide +kernel
theorem dX8_reachFrom_15 : decode cX8_reachFrom 15 = .ok (.aload_n 0, 1) := by decide +kernel
theorem dX8_reachFrom_16 : decode cX8_reachFrom 16 = .ok (.getfield 40, 3) := by decide +kernel
theorem dX8_reachFrom_19 : decode cX8_reachFrom 19 = .ok (.aload_n 1, 1) := by decide +kernel
theorem dX8_reachFrom_20 : decode cX8_reachFrom 20 = .ok (.iload_n 2, 1) := by decide +kernel
theorem dX8_reachFrom_21 : decode cX8_reachFrom 21 = .ok (.invokevirtual 277, 3) := by decide +kernel
theorem dX8_reachFrom_24 : decode cX8_reachFrom 24 = .ok (.invokevirtual 247, 3) := by decide +kernel
theorem dX8_reachFrom_27 : decode cX8_reachFrom 27 = .ok (.iinc 2 1, 3) := by decide +kernel
theorem dX8_reachFrom_30 : decode cX8_reachFrom 30 = .ok (.goto (-23), 3) := by decide +kernel
theorem dX8_reachFrom_33 : decode cX8_reachFrom 33 = .ok (.return_, 1) := by decide +kernel
theorem dX8_collect_0 : decode cX8_collect 0 = .ok (.aload_n 0, 1) := by decide +kernel
theorem dX8_collect_1 : decode cX8_collect 1 = .ok (.getfield 33, 3) := by decide +kernel
theorem dX8_collect_4 : decode cX8_collect 4 = .ok (.astore_n 1, 1) := by decide +kernel
theorem dX8_collect_5 : decode cX8_collect 5 = .ok (.aload_n 1, 1) := by decide +kernel
theorem dX8_collect_6 : decode cX8_collect 6 = .ok (.arraylength, 1) := by decide +kernel
theorem dX8_collect_7 : decode cX8_collect 7 = .ok (.istore_n 2, 1) := by decide +kernel
theorem dX8_collect_8 : decode cX8_collect 8 = .ok (.iconst 0, 1) := by decide +kernel
theorem dX8_collect_9 : decode cX8_collect 9 = .ok (.istore_n 3, 1) := by decide +kernel
theorem dX8_collect_10 : decode cX8_collect 10 = .ok (.iload_n 3, 1) := by decide +kernel
theorem dX8_collect_11 : decode cX8_collect 11 = .ok (.iload_n 2, 1) := by decide +kernel
theorem dX8_collect_12 : decode cX8_collect 12 = .ok (.if_icmp .ge 23, 3) := by decide +kernel
theorem dX8_collect_15 : decode cX8_collect 15 = .ok (.aload_n 1, 1) := by decide +kernel
theorem dX8_collect_16 : decode cX8_collect 16 = .ok (.iload_n 3, 1) := by decide +kernel
theorem dX8_collect_17 : decode cX8_collect 17 = .ok (.laload, 1) := by decide +kernel
theorem dX8_collect_18 : decode cX8_collect 18 = .ok (.lstore 4, 2) := by decide +kernel
theorem dX8_collect_20 : decode cX8_collect 20 = .ok (.aload_n 0, 1) := by decide +kernel
theorem dX8_collect_21 : decode cX8_collect 21 = .ok (.getfield 40, 3) := by decide +kernel
theorem dX8_collect_24 : decode cX8_collect 24 = .ok (.lload 4, 2) := by decide +kernel
theorem dX8_collect_26 : decode cX8_collect 26 = .ok (.invokevirtual 247, 3) := by decide +kernel
theorem dX8_collect_29 : decode cX8_collect 29 = .ok (.iinc 3 1, 3) := by decide +kernel
theorem dX8_collect_32 : decode cX8_collect 32 = .ok (.goto (-22), 3) := by decide +kernel
theorem dX8_collect_35 : decode cX8_collect 35 = .ok (.iconst 0, 1) := by decide +kernel
theorem dX8_collect_36 : decode cX8_collect 36 = .ok (.istore_n 1, 1) := by decide +kernel
theorem dX8_collect_37 : decode cX8_collect 37 = .ok (.iload_n 1, 1) := by decide +kernel
theorem dX8_collect_38 : decode cX8_collect 38 = .ok (.aload_n 0, 1) := by decide +kernel
theorem dX8_collect_39 : decode cX8_collect 39 = .ok (.getfield 50, 3) := by decide +kernel
theorem dX8_collect_42 : decode cX8_collect 42 = .ok (.if_icmp .ge 18, 3) := by decide +kernel
theorem dX8_collect_45 : decode cX8_collect 45 = .ok (.aload_n 0, 1) := by decide +kernel
theorem dX8_collect_46 : decode cX8_collect 46 = .ok (.aload_n 0, 1) := by decide +kernel
theorem dX8_collect_47 : decode cX8_collect 47 = .ok (.iload_n 1, 1) := by decide +kernel
theorem dX8_collect_48 : decode cX8_collect 48 = .ok (.invokevirtual 251, 3) := by decide +kernel
theorem dX8_collect_51 : decode cX8_collect 51 = .ok (.invokevirtual 255, 3) := by decide +kernel
theorem dX8_collect_54 : decode cX8_collect 54 = .ok (.iinc 1 1, 3) := by decide +kernel
theorem dX8_collect_57 : decode cX8_collect 57 = .ok (.goto (-20), 3) := by decide +kernel
theorem dX8_collect_60 : decode cX8_collect 60 = .ok (.aload_n 0, 1) := by decide +kernel
theorem dX8_collect_61 : decode cX8_collect 61 = .ok (.getfield 53, 3) := by decide +kernel
theorem dX8_collect_64 : decode cX8_collect 64 = .ok (.bipush 114, 2) := by decide +kernel
theorem dX8_collect_66 : decode cX8_collect 66 = .ok (.if_icmp .ne 14, 3) := by decide +kernel
theorem dX8_collect_69 : decode cX8_collect 69 = .ok (.aload_n 0, 1) := by decide +kernel
theorem dX8_collect_70 : decode cX8_collect 70 = .ok (.getfield 40, 3) := by decide +kernel
theorem dX8_collect_73 : decode cX8_collect 73 = .ok (.aload_n 0, 1) := by decide +kernel
theorem dX8_collect_74 : decode cX8_collect 74 = .ok (.getfield 62, 3) := by decide +kernel
theorem dX8_collect_77 : decode cX8_collect 77 = .ok (.invokevirtual 247, 3) := by decide +kernel
theorem dX8_collect_80 : decode cX8_collect 80 = .ok (.aload_n 0, 1) := by decide +kernel
theorem dX8_collect_81 : decode cX8_collect 81 = .ok (.getfield 40, 3) := by decide +kernel
theorem dX8_collect_84 : decode cX8_collect 84 = .ok (.invokevirtual 259, 3) := by decide +kernel
theorem dX8_collect_87 : decode cX8_collect 87 = .ok (.aload_n 0, 1) := by decide +kernel
theorem dX8_collect_88 : decode cX8_collect 88 = .ok (.getfield 40, 3) := by decide +kernel
theorem dX8_collect_91 : decode cX8_collect 91 = .ok (.invokevirtual 262, 3) := by decide +kernel
theorem dX8_collect_94 : decode cX8_collect 94 = .ok (.ireturn, 1) := by decide +kernel
theorem dX8_plusThing_0 : decode cX8_plusThing 0 = .ok (.aload_n 2, 1) := by decide +kernel
theorem dX8_plusThing_1 : decode cX8_plusThing 1 = .ok (.ifnonnull 5, 3) := by decide +kernel
theorem dX8_plusThing_4 : decode cX8_plusThing 4 = .ok (.lload_n 0, 1) := by decide +kernel
theorem dX8_plusThing_5 : decode cX8_plusThing 5 = .ok (.lreturn, 1) := by decide +kernel
theorem dX8_plusThing_6 : decode cX8_plusThing 6 = .ok (.lload_n 0, 1) := by decide +kernel
theorem dX8_plusThing_7 : decode cX8_plusThing 7 = .ok (.aload_n 2, 1) := by decide +kernel
theorem dX8_plusThing_8 : decode cX8_plusThing 8 = .ok (.getfield 493, 3) := by decide +kernel
theorem dX8_plusThing_11 : decode cX8_plusThing 11 = .ok (.i2l, 1) := by decide +kernel
theorem dX8_plusThing_12 : decode cX8_plusThing 12 = .ok (.invokestatic 453, 3) := by decide +kernel
theorem dX8_plusThing_15 : decode cX8_plusThing 15 = .ok (.aload_n 2, 1) := by decide +kernel
theorem dX8_plusThing_16 : decode cX8_plusThing 16 = .ok (.getfield 240, 3) := by decide +kernel
theorem dX8_plusThing_19 : decode cX8_plusThing 19 = .ok (.i2l, 1) := by decide +kernel
theorem dX8_plusThing_20 : decode cX8_plusThing 20 = .ok (.invokestatic 453, 3) := by decide +kernel
theorem dX8_plusThing_23 : decode cX8_plusThing 23 = .ok (.lstore_n 3, 1) := by decide +kernel
theorem dX8_plusThing_24 : decode cX8_plusThing 24 = .ok (.iconst 0, 1) := by decide +kernel
theorem dX8_plusThing_25 : decode cX8_plusThing 25 = .ok (.istore 5, 2) := by decide +kernel
theorem dX8_plusThing_27 : decode cX8_plusThing 27 = .ok (.iload 5, 2) := by decide +kernel
theorem dX8_plusThing_29 : decode cX8_plusThing 29 = .ok (.aload_n 2, 1) := by decide +kernel
theorem dX8_plusThing_30 : decode cX8_plusThing 30 = .ok (.getfield 496, 3) := by decide +kernel
theorem dX8_plusThing_33 : decode cX8_plusThing 33 = .ok (.if_icmp .ge 23, 3) := by decide +kernel
theorem dX8_plusThing_36 : decode cX8_plusThing 36 = .ok (.lload_n 3, 1) := by decide +kernel
theorem dX8_plusThing_37 : decode cX8_plusThing 37 = .ok (.aload_n 2, 1) := by decide +kernel
theorem dX8_plusThing_38 : decode cX8_plusThing 38 = .ok (.getfield 272, 3) := by decide +kernel
theorem dX8_plusThing_41 : decode cX8_plusThing 41 = .ok (.iload 5, 2) := by decide +kernel
theorem dX8_plusThing_43 : decode cX8_plusThing 43 = .ok (.invokestatic 222, 3) := by decide +kernel
theorem dX8_plusThing_46 : decode cX8_plusThing 46 = .ok (.invokestatic 457, 3) := by decide +kernel
theorem dX8_plusThing_49 : decode cX8_plusThing 49 = .ok (.lstore_n 3, 1) := by decide +kernel
theorem dX8_plusThing_50 : decode cX8_plusThing 50 = .ok (.iinc 5 1, 3) := by decide +kernel
theorem dX8_plusThing_53 : decode cX8_plusThing 53 = .ok (.goto (-26), 3) := by decide +kernel
theorem dX8_plusThing_56 : decode cX8_plusThing 56 = .ok (.lload_n 3, 1) := by decide +kernel
theorem dX8_plusThing_57 : decode cX8_plusThing 57 = .ok (.lreturn, 1) := by decide +kernel
theorem dX8_plusFrame_0 : decode cX8_plusFrame 0 = .ok (.aload_n 2, 1) := by decide +kernel
theorem dX8_plusFrame_1 : decode cX8_plusFrame 1 = .ok (.ifnonnull 5, 3) := by decide +kernel
theorem dX8_plusFrame_4 : decode cX8_plusFrame 4 = .ok (.lload_n 0, 1) := by decide +kernel
theorem dX8_plusFrame_5 : decode cX8_plusFrame 5 = .ok (.lreturn, 1) := by decide +kernel
theorem dX8_plusFrame_6 : decode cX8_plusFrame 6 = .ok (.lload_n 0, 1) := by decide +kernel
theorem dX8_plusFrame_7 : decode cX8_plusFrame 7 = .ok (.aload_n 2, 1) := by decide +kernel
theorem dX8_plusFrame_8 : decode cX8_plusFrame 8 = .ok (.invokevirtual 319, 3) := by decide +kernel
theorem dX8_plusFrame_11 : decode cX8_plusFrame 11 = .ok (.i2l, 1) := by decide +kernel
theorem dX8_plusFrame_12 : decode cX8_plusFrame 12 = .ok (.invokestatic 453, 3) := by decide +kernel
theorem dX8_plusFrame_15 : decode cX8_plusFrame 15 = .ok (.aload_n 2, 1) := by decide +kernel
theorem dX8_plusFrame_16 : decode cX8_plusFrame 16 = .ok (.invokevirtual 321, 3) := by decide +kernel
theorem dX8_plusFrame_19 : decode cX8_plusFrame 19 = .ok (.i2l, 1) := by decide +kernel
theorem dX8_plusFrame_20 : decode cX8_plusFrame 20 = .ok (.invokestatic 453, 3) := by decide +kernel
theorem dX8_plusFrame_23 : decode cX8_plusFrame 23 = .ok (.aload_n 2, 1) := by decide +kernel
theorem dX8_plusFrame_24 : decode cX8_plusFrame 24 = .ok (.getfield 324, 3) := by decide +kernel
theorem dX8_plusFrame_27 : decode cX8_plusFrame 27 = .ok (.i2l, 1) := by decide +kernel
theorem dX8_plusFrame_28 : decode cX8_plusFrame 28 = .ok (.invokestatic 453, 3) := by decide +kernel
theorem dX8_plusFrame_31 : decode cX8_plusFrame 31 = .ok (.lstore_n 3, 1) := by decide +kernel
theorem dX8_plusFrame_32 : decode cX8_plusFrame 32 = .ok (.iconst 0, 1) := by decide +kernel
theorem dX8_plusFrame_33 : decode cX8_plusFrame 33 = .ok (.istore 5, 2) := by decide +kernel
theorem dX8_plusFrame_35 : decode cX8_plusFrame 35 = .ok (.iload 5, 2) := by decide +kernel
theorem dX8_plusFrame_37 : decode cX8_plusFrame 37 = .ok (.aload_n 2, 1) := by decide +kernel
theorem dX8_plusFrame_38 : decode cX8_plusFrame 38 = .ok (.invokevirtual 275, 3) := by decide +kernel
theorem dX8_plusFrame_41 : decode cX8_plusFrame 41 = .ok (.if_icmp .ge 20, 3) := by decide +kernel
theorem dX8_plusFrame_44 : decode cX8_plusFrame 44 = .ok (.lload_n 3, 1) := by decide +kernel
theorem dX8_plusFrame_45 : decode cX8_plusFrame 45 = .ok (.aload_n 2, 1) := by decide +kernel
theorem dX8_plusFrame_46 : decode cX8_plusFrame 46 = .ok (.iload 5, 2) := by decide +kernel
theorem dX8_plusFrame_48 : decode cX8_plusFrame 48 = .ok (.invokevirtual 277, 3) := by decide +kernel
theorem dX8_plusFrame_51 : decode cX8_plusFrame 51 = .ok (.invokestatic 457, 3) := by decide +kernel
theorem dX8_plusFrame_54 : decode cX8_plusFrame 54 = .ok (.lstore_n 3, 1) := by decide +kernel
theorem dX8_plusFrame_55 : decode cX8_plusFrame 55 = .ok (.iinc 5 1, 3) := by decide +kernel
theorem dX8_plusFrame_58 : decode cX8_plusFrame 58 = .ok (.goto (-23), 3) := by decide +kernel
theorem dX8_plusFrame_61 : decode cX8_plusFrame 61 = .ok (.lload_n 3, 1) := by decide +kernel
theorem dX8_plusFrame_62 : decode cX8_plusFrame 62 = .ok (.lreturn, 1) := by decide +kernel
theorem dX8_checksum_0 : decode cX8_checksum 0 = .ok (.ldc2_w 451, 3) := by decide +kernel
theorem dX8_checksum_3 : decode cX8_checksum 3 = .ok (.aload_n 0, 1) := by decide +kernel
theorem dX8_checksum_4 : decode cX8_checksum 4 = .ok (.getfield 66, 3) := by decide +kernel
theorem dX8_checksum_7 : decode cX8_checksum 7 = .ok (.i2l, 1) := by decide +kernel
theorem dX8_checksum_8 : decode cX8_checksum 8 = .ok (.invokestatic 453, 3) := by decide +kernel
theorem dX8_checksum_11 : decode cX8_checksum 11 = .ok (.lstore_n 1, 1) := by decide +kernel
theorem dX8_checksum_12 : decode cX8_checksum 12 = .ok (.aload_n 0, 1) := by decide +kernel
theorem dX8_checksum_13 : decode cX8_checksum 13 = .ok (.getfield 33, 3) := by decide +kernel
theorem dX8_checksum_16 : decode cX8_checksum 16 = .ok (.astore_n 3, 1) := by decide +kernel
theorem dX8_checksum_17 : decode cX8_checksum 17 = .ok (.aload_n 3, 1) := by decide +kernel
theorem dX8_checksum_18 : decode cX8_checksum 18 = .ok (.arraylength, 1) := by decide +kernel
theorem dX8_checksum_19 : decode cX8_checksum 19 = .ok (.istore 4, 2) := by decide +kernel
theorem dX8_checksum_21 : decode cX8_checksum 21 = .ok (.iconst 0, 1) := by decide +kernel
theorem dX8_checksum_22 : decode cX8_checksum 22 = .ok (.istore 5, 2) := by decide +kernel
theorem dX8_checksum_24 : decode cX8_checksum 24 = .ok (.iload 5, 2) := by decide +kernel
theorem dX8_checksum_26 : decode cX8_checksum 26 = .ok (.iload 4, 2) := by decide +kernel
theorem dX8_checksum_28 : decode cX8_checksum 28 = .ok (.if_icmp .ge 22, 3) := by decide +kernel
theorem dX8_checksum_31 : decode cX8_checksum 31 = .ok (.aload_n 3, 1) := by decide +kernel
theorem dX8_checksum_32 : decode cX8_checksum 32 = .ok (.iload 5, 2) := by decide +kernel
theorem dX8_checksum_34 : decode cX8_checksum 34 = .ok (.laload, 1) := by decide +kernel
theorem dX8_checksum_35 : decode cX8_checksum 35 = .ok (.lstore 6, 2) := by decide +kernel
theorem dX8_checksum_37 : decode cX8_checksum 37 = .ok (.lload_n 1, 1) := by decide +kernel
theorem dX8_checksum_38 : decode cX8_checksum 38 = .ok (.lload 6, 2) := by decide +kernel
theorem dX8_checksum_40 : decode cX8_checksum 40 = .ok (.invokestatic 457, 3) := by decide +kernel
theorem dX8_checksum_43 : decode cX8_checksum 43 = .ok (.lstore_n 1, 1) := by decide +kernel
theorem dX8_checksum_44 : decode cX8_checksum 44 = .ok (.iinc 5 1, 3) := by decide +kernel
theorem dX8_checksum_47 : decode cX8_checksum 47 = .ok (.goto (-23), 3) := by decide +kernel
theorem dX8_checksum_50 : decode cX8_checksum 50 = .ok (.iconst 0, 1) := by decide +kernel
theorem dX8_checksum_51 : decode cX8_checksum 51 = .ok (.istore_n 3, 1) := by decide +kernel
theorem dX8_checksum_52 : decode cX8_checksum 52 = .ok (.iload_n 3, 1) := by decide +kernel
theorem dX8_checksum_53 : decode cX8_checksum 53 = .ok (.aload_n 0, 1) := by decide +kernel
theorem dX8_checksum_54 : decode cX8_checksum 54 = .ok (.getfield 40, 3) := by decide +kernel
theorem dX8_checksum_57 : decode cX8_checksum 57 = .ok (.getfield 207, 3) := by decide +kernel
theorem dX8_checksum_60 : decode cX8_checksum 60 = .ok (.if_icmp .ge 22, 3) := by decide +kernel
theorem dX8_checksum_63 : decode cX8_checksum 63 = .ok (.lload_n 1, 1) := by decide +kernel
theorem dX8_checksum_64 : decode cX8_checksum 64 = .ok (.aload_n 0, 1) := by decide +kernel
theorem dX8_checksum_65 : decode cX8_checksum 65 = .ok (.getfield 40, 3) := by decide +kernel
theorem dX8_checksum_68 : decode cX8_checksum 68 = .ok (.iload_n 3, 1) := by decide +kernel
theorem dX8_checksum_69 : decode cX8_checksum 69 = .ok (.invokevirtual 460, 3) := by decide +kernel
theorem dX8_checksum_72 : decode cX8_checksum 72 = .ok (.invokestatic 463, 3) := by decide +kernel
theorem dX8_checksum_75 : decode cX8_checksum 75 = .ok (.lstore_n 1, 1) := by decide +kernel
theorem dX8_checksum_76 : decode cX8_checksum 76 = .ok (.iinc 3 1, 3) := by decide +kernel
theorem dX8_checksum_79 : decode cX8_checksum 79 = .ok (.goto (-27), 3) := by decide +kernel
theorem dX8_checksum_82 : decode cX8_checksum 82 = .ok (.lload_n 1, 1) := by decide +kernel
theorem dX8_checksum_83 : decode cX8_checksum 83 = .ok (.aload_n 0, 1) := by decide +kernel
theorem dX8_checksum_84 : decode cX8_checksum 84 = .ok (.getfield 53, 3) := by decide +kernel
theorem dX8_checksum_87 : decode cX8_checksum 87 = .ok (.i2l, 1) := by decide +kernel
theorem dX8_checksum_88 : decode cX8_checksum 88 = .ok (.invokestatic 453, 3) := by decide +kernel
theorem dX8_checksum_91 : decode cX8_checksum 91 = .ok (.lstore_n 1, 1) := by decide +kernel
theorem dX8_checksum_92 : decode cX8_checksum 92 = .ok (.iconst 0, 1) := by decide +kernel
theorem dX8_checksum_93 : decode cX8_checksum 93 = .ok (.istore_n 3, 1) := by decide +kernel
theorem dX8_checksum_94 : decode cX8_checksum 94 = .ok (.iload_n 3, 1) := by decide +kernel
theorem dX8_checksum_95 : decode cX8_checksum 95 = .ok (.aload_n 0, 1) := by decide +kernel
theorem dX8_checksum_96 : decode cX8_checksum 96 = .ok (.getfield 50, 3) := by decide +kernel
theorem dX8_checksum_99 : decode cX8_checksum 99 = .ok (.if_icmp .ge 19, 3) := by decide +kernel
theorem dX8_checksum_102 : decode cX8_checksum 102 = .ok (.lload_n 1, 1) := by decide +kernel
theorem dX8_checksum_103 : decode cX8_checksum 103 = .ok (.aload_n 0, 1) := by decide +kernel
theorem dX8_checksum_104 : decode cX8_checksum 104 = .ok (.iload_n 3, 1) := by decide +kernel
theorem dX8_checksum_105 : decode cX8_checksum 105 = .ok (.invokevirtual 251, 3) := by decide +kernel
theorem dX8_checksum_108 : decode cX8_checksum 108 = .ok (.invokestatic 467, 3) := by decide +kernel
theorem dX8_checksum_111 : decode cX8_checksum 111 = .ok (.lstore_n 1, 1) := by decide +kernel
theorem dX8_checksum_112 : decode cX8_checksum 112 = .ok (.iinc 3 1, 3) := by decide +kernel
theorem dX8_checksum_115 : decode cX8_checksum 115 = .ok (.goto (-21), 3) := by decide +kernel
theorem dX8_checksum_118 : decode cX8_checksum 118 = .ok (.lload_n 1, 1) := by decide +kernel
theorem dX8_checksum_119 : decode cX8_checksum 119 = .ok (.aload_n 0, 1) := by decide +kernel
theorem dX8_checksum_120 : decode cX8_checksum 120 = .ok (.getfield 72, 3) := by decide +kernel
theorem dX8_checksum_123 : decode cX8_checksum 123 = .ok (.getfield 471, 3) := by decide +kernel
theorem dX8_checksum_126 : decode cX8_checksum 126 = .ok (.lmul, 1) := by decide +kernel
theorem dX8_checksum_127 : decode cX8_checksum 127 = .ok (.aload_n 0, 1) := by decide +kernel
theorem dX8_checksum_128 : decode cX8_checksum 128 = .ok (.getfield 72, 3) := by decide +kernel
theorem dX8_checksum_131 : decode cX8_checksum 131 = .ok (.getfield 474, 3) := by decide +kernel
theorem dX8_checksum_134 : decode cX8_checksum 134 = .ok (.ladd, 1) := by decide +kernel
theorem dX8_checksum_135 : decode cX8_checksum 135 = .ok (.lreturn, 1) := by decide +kernel
section SITES
variable {p : Program} {l : Launch} {e : Env} {R : Room} {s : State} {m : MethodId} {args : Array Value} {below : List Frame} {meth : Method} {c : Code} {H : Heap} {locs : List Loc} {cells slots : Nat} {Q : State → Prop}
variable {pc : Nat} {ls : Array Slot} {rest : List Value} {D : va_G} {ar : Nat → ClassId} {κ : Nat → Nat} {A : Nat → Prop} {a : Nat} {H0 : Heap} {G : gW} {nz nL : Nat} {cc : ByteArray}
theorem m_3_5 : (Cond.code yX1_places cX1_places 1 (some .int)) ∈ lwA := lwA_mk (ck_3 _ (List.mem_of_getElem? (i := 5) rfl)) rfl
theorem m_3_2 : (Cond.methodLink RX8 275 yX1_places) ∈ lwA := lwA_mk (ck_3 _ (List.mem_of_getElem? (i := 2) rfl)) rfl
theorem m_3_3 : (Cond.instanceMethod yX1_places) ∈ lwA := lwA_mk (ck_3 _ (List.mem_of_getElem? (i := 3) rfl)) rfl
theorem m_3_4 : (Cond.selects RX1 yX1_places yX1_places) ∈ lwA := lwA_mk (ck_3 _ (List.mem_of_getElem? (i := 4) rfl)) rfl
theorem k_RX8_275 {args : Array Value} {s : State} {R rm : Room} (hts : ∀ w ∈ lwA, w.before args s = true) (hR : rm.frames + 1 ≤ R.frames ∧ 8 + (1 + 11) + rm.locals ≤ R.locals) : CallW R s args RX8 RX1 275 yX1_places cX1_places 1 (some .int) (lwC yX1_places cX1_places 1 (some .int)) rm rm.cells rm.slots 0 := cwV 0 hts (gdV m_3_2 m_3_3 m_3_4 m_1_11 m_3_5) rfl rfl rfl (by decide +kernel) hR
theorem m_3_13 : (Cond.code yX1_place cX1_place 4 (some .long)) ∈ lwA := lwA_mk (ck_3 _ (List.mem_of_getElem? (i := 13) rfl)) rfl
theorem m_3_10 : (Cond.methodLink RX8 277 yX1_place) ∈ lwA := lwA_mk (ck_3 _ (List.mem_of_getElem? (i := 10) rfl)) rfl
theorem m_3_11 : (Cond.instanceMethod yX1_place) ∈ lwA := lwA_mk (ck_3 _ (List.mem_of_getElem? (i := 11) rfl)) rfl
theorem m_3_12 : (Cond.selects RX1 yX1_place yX1_place) ∈ lwA := lwA_mk (ck_3 _ (List.mem_of_getElem? (i := 12) rfl)) rfl
theorem k_RX8_277 {args : Array Value} {s : State} {R rm : Room} (hts : ∀ w ∈ lwA, w.before args s = true) (hR : rm.frames + 1 ≤ R.frames ∧ 8 + (4 + 11) + rm.locals ≤ R.locals) : CallW R s args RX8 RX1 277 yX1_place cX1_place 4 (some .long) (lwC yX1_place cX1_place 4 (some .long)) rm rm.cells rm.slots 1 := cwV 1 hts (gdV m_3_10 m_3_11 m_3_12 m_1_11 m_3_13) rfl rfl rfl (by decide +kernel) hR
theorem m_2_212 : (Cond.methodLink RX8 247 yX5_reach) ∈ lwA := lwA_mk (ck_2 _ (List.mem_of_getElem? (i := 212) rfl)) rfl
theorem k_RX8_247 {args : Array Value} {s : State} {R rm : Room} (hts : ∀ w ∈ lwA, w.before args s = true) (hR : rm.frames + 1 ≤ R.frames ∧ 8 + (4 + 11) + rm.locals ≤ R.locals) : CallW R s args RX8 RX5 247 yX5_reach cX5_reach 4 none (lwC yX5_reach cX5_reach 4 none) rm rm.cells rm.slots 1 := cwV 1 hts (gdV m_2_212 m_2_213 m_2_214 m_1_4 m_2_215) rfl rfl rfl (by decide +kernel) hR
theorem m_3_24 : (Cond.code yX5_reachFields cX5_reachFields 4 none) ∈ lwA := lwA_mk (ck_3 _ (List.mem_of_getElem? (i := 24) rfl)) rfl
theorem m_3_21 : (Cond.methodLink RX8 259 yX5_reachFields) ∈ lwA := lwA_mk (ck_3 _ (List.mem_of_getElem? (i := 21) rfl)) rfl
theorem m_3_22 : (Cond.instanceMethod yX5_reachFields) ∈ lwA := lwA_mk (ck_3 _ (List.mem_of_getElem? (i := 22) rfl)) rfl
theorem m_3_23 : (Cond.selects RX5 yX5_reachFields yX5_reachFields) ∈ lwA := lwA_mk (ck_3 _ (List.mem_of_getElem? (i := 23) rfl)) rfl
theorem k_RX8_259 {args : Array Value} {s : State} {R rm : Room} (hts : ∀ w ∈ lwA, w.before args s = true) (hR : rm.frames + 1 ≤ R.frames ∧ 8 + (4 + 11) + rm.locals ≤ R.locals) : CallW R s args RX8 RX5 259 yX5_reachFields cX5_reachFields 4 none (lwC yX5_reachFields cX5_reachFields 4 none) rm rm.cells rm.slots 0 := cwV 0 hts (gdV m_3_21 m_3_22 m_3_23 m_1_4 m_3_24) rfl rfl rfl (by decide +kernel) hR
theorem m_3_30 : (Cond.code yX5_sweep cX5_sweep 5 (some .int)) ∈ lwA := lwA_mk (ck_3 _ (List.mem_of_getElem? (i := 30) rfl)) rfl
theorem m_3_27 : (Cond.methodLink RX8 262 yX5_sweep) ∈ lwA := lwA_mk (ck_3 _ (List.mem_of_getElem? (i := 27) rfl)) rfl
theorem m_3_28 : (Cond.instanceMethod yX5_sweep) ∈ lwA := lwA_mk (ck_3 _ (List.mem_of_getElem? (i := 28) rfl)) rfl
theorem m_3_29 : (Cond.selects RX5 yX5_sweep yX5_sweep) ∈ lwA := lwA_mk (ck_3 _ (List.mem_of_getElem? (i := 29) rfl)) rfl
theorem k_RX8_262 {args : Array Value} {s : State} {R rm : Room} (hts : ∀ w ∈ lwA, w.before args s = true) (hR : rm.frames + 1 ≤ R.frames ∧ 8 + (5 + 11) + rm.locals ≤ R.locals) : CallW R s args RX8 RX5 262 yX5_sweep cX5_sweep 5 (some .int) (lwC yX5_sweep cX5_sweep 5 (some .int)) rm rm.cells rm.slots 0 := cwV 0 hts (gdV m_3_27 m_3_28 m_3_29 m_1_4 m_3_30) rfl rfl rfl (by decide +kernel) hR
theorem m_3_1 : (Cond.code yX8_reachFrom cX8_reachFrom 3 none) ∈ lwA := lwA_mk (ck_3 _ (List.mem_of_getElem? (i := 1) rfl)) rfl
theorem m_2_238 : (Cond.methodLink RX8 255 yX8_reachFrom) ∈ lwA := lwA_mk (ck_2 _ (List.mem_of_getElem? (i := 238) rfl)) rfl
theorem m_3_0 : (Cond.instanceMethod yX8_reachFrom) ∈ lwA := lwA_mk (ck_3 _ (List.mem_of_getElem? (i := 0) rfl)) rfl
theorem ms_6 : (Cond.selects RX8 yX8_reachFrom yX8_reachFrom) ∈ lwA := lwA_mk (List.mem_append_left _ (List.mem_of_getElem? (i := 6) rfl)) rfl
theorem k_RX8_255 {args : Array Value} {s : State} {R rm : Room} (hts : ∀ w ∈ lwA, w.before args s = true) (hR : rm.frames + 1 ≤ R.frames ∧ 8 + (3 + 11) + rm.locals ≤ R.locals) : CallW R s args RX8 RX8 255 yX8_reachFrom cX8_reachFrom 3 none (lwC yX8_reachFrom cX8_reachFrom 3 none) rm rm.cells rm.slots 1 := cwV 1 hts (gdV m_2_238 m_3_0 ms_6 m_1_1 m_3_1) rfl rfl rfl (by decide +kernel) hR
theorem gf_RX8_493_10 {A9 : Nat → Prop} {H9 : Heap} {fs : List Value} {v : Value} (S : CallFix p m c cc nL s args lwA RX8) (hE : g_E D vwCl (gT ar) (EX1 κ) A9 s H9) (w : g_S D vwCl A H0 G H locs nz) (ha : G a = some (.inr (10, fs))) (hv : fs[1]? = some v) (hdg : decode cc pc = .ok (.getfield 493, 3)) (kk : W p l e R s m args below meth c H locs cells slots Q (F0 m (pc + 3) ls (v :: rest))) : W p l e R s m args below meth c H locs cells slots Q (F0 m pc ls (.ref a :: rest)) :=
  va_getN (ci := 10) (C := RX4) (T := TX4) (N := 5) S.1 S.2.1 S.2.2.2.2 inA_RX4 S.2.2.2.1 hE.1 (g_1 w.1 ha) 0 rfl rfl 1 (by decide) (va_Nw.use rfl (hE.2.1.1 _ (ckN_0 _ (List.mem_of_getElem? (i := 10) rfl)))) (fun _ h => h) hv hdg kk
theorem gf_RX8_240_10 {A9 : Nat → Prop} {H9 : Heap} {fs : List Value} {v : Value} (S : CallFix p m c cc nL s args lwA RX8) (hE : g_E D vwCl (gT ar) (EX1 κ) A9 s H9) (w : g_S D vwCl A H0 G H locs nz) (ha : G a = some (.inr (10, fs))) (hv : fs[2]? = some v) (hdg : decode cc pc = .ok (.getfield 240, 3)) (kk : W p l e R s m args below meth c H locs cells slots Q (F0 m (pc + 3) ls (v :: rest))) : W p l e R s m args below meth c H locs cells slots Q (F0 m pc ls (.ref a :: rest)) :=
  va_getN (ci := 10) (C := RX4) (T := TX4) (N := 5) S.1 S.2.1 S.2.2.2.2 inA_RX4 S.2.2.2.1 hE.1 (g_1 w.1 ha) 0 rfl rfl 2 (by decide) (va_Nw.use rfl (hE.2.1.1 _ (ckN_0 _ (List.mem_of_getElem? (i := 12) rfl)))) (fun _ h => h) hv hdg kk
theorem gf_RX8_496_10 {A9 : Nat → Prop} {H9 : Heap} {fs : List Value} {v : Value} (S : CallFix p m c cc nL s args lwA RX8) (hE : g_E D vwCl (gT ar) (EX1 κ) A9 s H9) (w : g_S D vwCl A H0 G H locs nz) (ha : G a = some (.inr (10, fs))) (hv : fs[3]? = some v) (hdg : decode cc pc = .ok (.getfield 496, 3)) (kk : W p l e R s m args below meth c H locs cells slots Q (F0 m (pc + 3) ls (v :: rest))) : W p l e R s m args below meth c H locs cells slots Q (F0 m pc ls (.ref a :: rest)) :=
  va_getN (ci := 10) (C := RX4) (T := TX4) (N := 5) S.1 S.2.1 S.2.2.2.2 inA_RX4 S.2.2.2.1 hE.1 (g_1 w.1 ha) 0 rfl rfl 3 (by decide) (va_Nw.use rfl (hE.2.1.1 _ (ckN_0 _ (List.mem_of_getElem? (i := 14) rfl)))) (fun _ h => h) hv hdg kk
theorem m_4_129 : (Cond.code yX8_plusValue cX8_plusValue 4 (some .long)) ∈ lwA := lwA_mk (ck_4 _ (List.mem_of_getElem? (i := 129) rfl)) rfl
theorem m_8_11 : (Cond.methodLink RX8 457 yX8_plusValue) ∈ lwA := lwA_mk (ck_8 _ (List.mem_of_getElem? (i := 11) rfl)) rfl
theorem m_4_128 : (Cond.static yX8_plusValue) ∈ lwA := lwA_mk (ck_4 _ (List.mem_of_getElem? (i := 128) rfl)) rfl
theorem k_RX8_457 {args : Array Value} {s : State} {R rm : Room} (hts : ∀ w ∈ lwA, w.before args s = true) (hR : rm.frames + 1 ≤ R.frames ∧ 8 + (4 + 11) + rm.locals ≤ R.locals) : CallB R s args RX8 457 yX8_plusValue cX8_plusValue 4 (some .long) (lwC yX8_plusValue cX8_plusValue 4 (some .long)) rm rm.cells rm.slots 2 ∧ (Cond.static yX8_plusValue).before args s = true := cwS 2 hts (gdS m_8_11 m_4_128 m_1_1 m_4_129) rfl rfl rfl (by decide +kernel) hR
theorem m_8_25 : (Cond.code yX1_selector cX1_selector 1 (some .int)) ∈ lwA := lwA_mk (ck_8 _ (List.mem_of_getElem? (i := 25) rfl)) rfl
theorem m_8_22 : (Cond.methodLink RX8 321 yX1_selector) ∈ lwA := lwA_mk (ck_8 _ (List.mem_of_getElem? (i := 22) rfl)) rfl
theorem m_8_23 : (Cond.instanceMethod yX1_selector) ∈ lwA := lwA_mk (ck_8 _ (List.mem_of_getElem? (i := 23) rfl)) rfl
theorem m_8_24 : (Cond.selects RX1 yX1_selector yX1_selector) ∈ lwA := lwA_mk (ck_8 _ (List.mem_of_getElem? (i := 24) rfl)) rfl
theorem k_RX8_321 {args : Array Value} {s : State} {R rm : Room} (hts : ∀ w ∈ lwA, w.before args s = true) (hR : rm.frames + 1 ≤ R.frames ∧ 8 + (1 + 11) + rm.locals ≤ R.locals) : CallW R s args RX8 RX1 321 yX1_selector cX1_selector 1 (some .int) (lwC yX1_selector cX1_selector 1 (some .int)) rm rm.cells rm.slots 0 := cwV 0 hts (gdV m_8_22 m_8_23 m_8_24 m_1_11 m_8_25) rfl rfl rfl (by decide +kernel) hR
theorem m_8_10 : (Cond.constantLong RX8 451 (7)) ∈ lwA := lwA_mk (ck_8 _ (List.mem_of_getElem? (i := 10) rfl)) rfl
theorem gf_RX8_66_14 {A9 : Nat → Prop} {H9 : Heap} {fs : List Value} {v : Value} (S : CallFix p m c cc nL s args lwA RX8) (hE : g_E D vwCl (gT ar) (EX1 κ) A9 s H9) (w : g_S D vwCl A H0 G H locs nz) (ha : G a = some (.inr (14, fs))) (hv : fs[11]? = some v) (hdg : decode cc pc = .ok (.getfield 66, 3)) (kk : W p l e R s m args below meth c H locs cells slots Q (F0 m (pc + 3) ls (v :: rest))) : W p l e R s m args below meth c H locs cells slots Q (F0 m pc ls (.ref a :: rest)) :=
  va_get (ci := 14) (C := RX8) (T := TX8) (N := 13) S.1 S.2.1 S.2.2.2.2 inA_RX8 S.2.2.2.1 hE.1 (g_1 w.1 ha) 0 rfl rfl 11 (by decide) (S.2.2.2.2 _ m_2_16) (fun _ h => h) hv hdg kk
theorem gf_RX8_72_14 {A9 : Nat → Prop} {H9 : Heap} {fs : List Value} {v : Value} (S : CallFix p m c cc nL s args lwA RX8) (hE : g_E D vwCl (gT ar) (EX1 κ) A9 s H9) (w : g_S D vwCl A H0 G H locs nz) (ha : G a = some (.inr (14, fs))) (hv : fs[12]? = some v) (hdg : decode cc pc = .ok (.getfield 72, 3)) (kk : W p l e R s m args below meth c H locs cells slots Q (F0 m (pc + 3) ls (v :: rest))) : W p l e R s m args below meth c H locs cells slots Q (F0 m pc ls (.ref a :: rest)) :=
  va_get (ci := 14) (C := RX8) (T := TX8) (N := 13) S.1 S.2.1 S.2.2.2.2 inA_RX8 S.2.2.2.1 hE.1 (g_1 w.1 ha) 0 rfl rfl 12 (by decide) (S.2.2.2.2 _ m_2_17) (fun _ h => h) hv hdg kk
theorem gf_RX8_471_13 {A9 : Nat → Prop} {H9 : Heap} {fs : List Value} {v : Value} (S : CallFix p m c cc nL s args lwA RX8) (hE : g_E D vwCl (gT ar) (EX1 κ) A9 s H9) (w : g_S D vwCl A H0 G H locs nz) (ha : G a = some (.inr (13, fs))) (hv : fs[3]? = some v) (hdg : decode cc pc = .ok (.getfield 471, 3)) (kk : W p l e R s m args below meth c H locs cells slots Q (F0 m (pc + 3) ls (v :: rest))) : W p l e R s m args below meth c H locs cells slots Q (F0 m pc ls (.ref a :: rest)) :=
  va_getN (ci := 13) (C := RX7) (T := TX7) (N := 4) S.1 S.2.1 S.2.2.2.2 inA_RX7 S.2.2.2.1 hE.1 (g_1 w.1 ha) 0 rfl rfl 3 (by decide) (va_Nw.use rfl (hE.2.1.1 _ (ckN_0 _ (List.mem_of_getElem? (i := 20) rfl)))) (fun _ h => h) hv hdg kk
theorem gf_RX8_474_13 {A9 : Nat → Prop} {H9 : Heap} {fs : List Value} {v : Value} (S : CallFix p m c cc nL s args lwA RX8) (hE : g_E D vwCl (gT ar) (EX1 κ) A9 s H9) (w : g_S D vwCl A H0 G H locs nz) (ha : G a = some (.inr (13, fs))) (hv : fs[2]? = some v) (hdg : decode cc pc = .ok (.getfield 474, 3)) (kk : W p l e R s m args below meth c H locs cells slots Q (F0 m (pc + 3) ls (v :: rest))) : W p l e R s m args below meth c H locs cells slots Q (F0 m pc ls (.ref a :: rest)) :=
  va_getN (ci := 13) (C := RX7) (T := TX7) (N := 4) S.1 S.2.1 S.2.2.2.2 inA_RX7 S.2.2.2.1 hE.1 (g_1 w.1 ha) 0 rfl rfl 2 (by decide) (va_Nw.use rfl (hE.2.1.1 _ (ckN_0 _ (List.mem_of_getElem? (i := 19) rfl)))) (fun _ h => h) hv hdg kk
theorem m_8_21 : (Cond.code yX8_plusFrame cX8_plusFrame 6 (some .long)) ∈ lwA := lwA_mk (ck_8 _ (List.mem_of_getElem? (i := 21) rfl)) rfl
theorem m_8_19 : (Cond.methodLink RX8 467 yX8_plusFrame) ∈ lwA := lwA_mk (ck_8 _ (List.mem_of_getElem? (i := 19) rfl)) rfl
theorem m_8_20 : (Cond.static yX8_plusFrame) ∈ lwA := lwA_mk (ck_8 _ (List.mem_of_getElem? (i := 20) rfl)) rfl
theorem k_RX8_467 {args : Array Value} {s : State} {R rm : Room} (hts : ∀ w ∈ lwA, w.before args s = true) (hR : rm.frames + 1 ≤ R.frames ∧ 8 + (6 + 11) + rm.locals ≤ R.locals) : CallB R s args RX8 467 yX8_plusFrame cX8_plusFrame 6 (some .long) (lwC yX8_plusFrame cX8_plusFrame 6 (some .long)) rm rm.cells rm.slots 2 ∧ (Cond.static yX8_plusFrame).before args s = true := cwS 2 hts (gdS m_8_19 m_8_20 m_1_1 m_8_21) rfl rfl rfl (by decide +kernel) hR
theorem m_8_12 : (Cond.methodLink RX8 460 yX5_inOrder) ∈ lwA := lwA_mk (ck_8 _ (List.mem_of_getElem? (i := 12) rfl)) rfl
theorem k_RX8_460 {args : Array Value} {s : State} {R rm : Room} (hts : ∀ w ∈ lwA, w.before args s = true) (hR : rm.frames + 1 ≤ R.frames ∧ 8 + (2 + 11) + rm.locals ≤ R.locals) : CallW R s args RX8 RX5 460 yX5_inOrder cX5_inOrder 2 (some (.object "Sendhouse$Thing")) (lwC yX5_inOrder cX5_inOrder 2 (some (.object "Sendhouse$Thing"))) rm rm.cells rm.slots 1 := cwV 1 hts (gdV m_8_12 m_8_13 m_8_14 m_1_4 m_8_15) rfl rfl rfl (by decide +kernel) hR
theorem m_8_18 : (Cond.code yX8_plusThing cX8_plusThing 6 (some .long)) ∈ lwA := lwA_mk (ck_8 _ (List.mem_of_getElem? (i := 18) rfl)) rfl
theorem m_8_16 : (Cond.methodLink RX8 463 yX8_plusThing) ∈ lwA := lwA_mk (ck_8 _ (List.mem_of_getElem? (i := 16) rfl)) rfl
theorem m_8_17 : (Cond.static yX8_plusThing) ∈ lwA := lwA_mk (ck_8 _ (List.mem_of_getElem? (i := 17) rfl)) rfl
theorem k_RX8_463 {args : Array Value} {s : State} {R rm : Room} (hts : ∀ w ∈ lwA, w.before args s = true) (hR : rm.frames + 1 ≤ R.frames ∧ 8 + (6 + 11) + rm.locals ≤ R.locals) : CallB R s args RX8 463 yX8_plusThing cX8_plusThing 6 (some .long) (lwC yX8_plusThing cX8_plusThing 6 (some .long)) rm rm.cells rm.slots 2 ∧ (Cond.static yX8_plusThing).before args s = true := cwS 2 hts (gdS m_8_16 m_8_17 m_1_1 m_8_18) rfl rfl rfl (by decide +kernel) hR
end SITES
def sX8_reachNone (Z : Ho) : Ho := Z
theorem sX8_reachNone_u (Z : Ho) : sX8_reachNone Z = Z := rfl
set_option maxHeartbeats 4000000 in
set_option maxRecDepth 100000 in
theorem hX8_reachNone (l : Launch) (D : va_G) (ar : Nat → ClassId) (κ : Nat → Nat) (G : gW) (x : Xo) (Z : Ho) (sz : Nat) (hk : OK x Z) : Met l yX8_reachFrom (lwC yX8_reachFrom cX8_reachFrom 3 none) (rD 8 0 0) (g_Pc D vwCl (gT ar) (EX1 κ) (ov κ ar x Z G) sz [.ref (x.f .ho), .null]) (g_Qv D vwCl (g_A (ov κ ar x Z G) sz) (fun u => ∃ T9 : Ho, sX8_reachNone Z = T9 ∧ u = (ov κ ar x T9 G, sz) ∧ OK x T9 ∧ SZ T9 Z)) 0 0 (g_A (ov κ ar x Z G) sz) := by
  refine g_ofW (by decide +kernel) (Nat.le_of_ble_eq_true rfl) ?_
  intro p e s m below meth c ls S hr hlk hin hE w hl
  have hx := S.1
  have hb := S.2.1
  have hl : lv_has ls 3 [(0, .ref (x.f .ho)), (1, .null)] := hl
  refine lv_aload_nN hx hb dX8_reachFrom_0 rfl (lv_at hl 1 rfl) ?_
  refine lv_ifnonnullN hx hb dX8_reachFrom_1 ?_
  exact g_vret hx hb hr hlk w (Nat.le_of_ble_eq_true rfl) (Nat.le_of_ble_eq_true rfl) dX8_reachFrom_4 ⟨_, (sX8_reachNone_u Z), rfl, hk, ⟨rfl, rfl, rfl, rfl⟩⟩
noncomputable def LX8_reachFrom_7 (i0 : Fin 12) : Nat → Int32 → Ho → Ho
  | 0, _, S2 => S2
  | nx1 + 1, x1, S2 => if sX1_places S2 i0 ≤ x1 then (S2) else (vc (sX5_reach S2 (sX1_place S2 i0 x1)) (fun T8 => LX8_reachFrom_7 i0 nx1 (x1 + 1) T8))
theorem LX8_reachFrom_7_u (i0 : Fin 12) (nx1 : Nat) (x1 : Int32) (S2 : Ho) : LX8_reachFrom_7 i0 (nx1 + 1) x1 S2 = if sX1_places S2 i0 ≤ x1 then (S2) else (vc (sX5_reach S2 (sX1_place S2 i0 x1)) (fun T8 => LX8_reachFrom_7 i0 nx1 (x1 + 1) T8)) := rfl
noncomputable def sX8_reachFrom (Z : Ho) (i0 : Fin 12) : Ho := LX8_reachFrom_7 i0 FU 0 Z
theorem sX8_reachFrom_u (Z : Ho) (i0 : Fin 12) : sX8_reachFrom Z i0 = LX8_reachFrom_7 i0 FU 0 Z := rfl
set_option maxHeartbeats 4000000 in
set_option maxRecDepth 100000 in
theorem hX8_reachFrom (l : Launch) (D : va_G) (ar : Nat → ClassId) (κ : Nat → Nat) (G : gW) (x : Xo) (Z : Ho) (sz : Nat) (i0 : Fin 12) (hk : OK x Z) : Met l yX8_reachFrom (lwC yX8_reachFrom cX8_reachFrom 3 none) (rD 8 0 0) (g_Pc D vwCl (gT ar) (EX1 κ) (ov κ ar x Z G) sz [.ref (x.f .ho), .ref (x.f (.fr i0))]) (g_Qv D vwCl (g_A (ov κ ar x Z G) sz) (fun u => ∃ T9 : Ho, sX8_reachFrom Z i0 = T9 ∧ u = (ov κ ar x T9 G, sz) ∧ OK x T9 ∧ SZ T9 Z)) 0 0 (g_A (ov κ ar x Z G) sz) := by
  refine g_ofW (by decide +kernel) (Nat.le_of_ble_eq_true rfl) ?_
  intro p e s m below meth c ls S hr hlk hin hE w hl
  have hx := S.1
  have hb := S.2.1
  have hl : lv_has ls 3 [(0, .ref (x.f .ho)), (1, .ref (x.f (.fr i0)))] := hl
  refine lv_aload_n hx hb dX8_reachFrom_0 rfl (lv_at hl 1 rfl) ?_
  refine lv_ifnonnull (tgt := 5) hx hb dX8_reachFrom_1 (by decide) ?_
  refine lv_iconst (v := 0) hx hb dX8_reachFrom_5 (by decide) ?_
  refine lv_istore_n (lv' := [(2, .int 0), (0, .ref (x.f .ho)), (1, .ref (x.f (.fr i0)))]) hx hb dX8_reachFrom_6 rfl hl (by decide) rfl (fun ls hl => ?_)
  have key7 : ∀ (nx1 ix1 : Nat), ix1 ≤ 2147483647 → 2147483647 + 1 ≤ ix1 + nx1 → ∀ (x1 : Int32), x1 = nI ix1 → ∀ (S2 : Ho), OK x S2 → SZ S2 Z → sX8_reachFrom Z i0 = LX8_reachFrom_7 i0 nx1 x1 S2 → ∀ (H : Heap) (locs : List Loc) (ls : Array Slot), g_S D vwCl (g_A (ov κ ar x Z G) sz) s.heap (ov κ ar x S2 G) H locs sz → lv_has ls 3 [(2, .int x1), (0, .ref (x.f .ho)), (1, .ref (x.f (.fr i0)))] → W p l e (rD 8 0 0) s m ([.ref (x.f .ho), .ref (x.f (.fr i0))] : List Value).toArray below meth c H locs 0 0 (MQ below (g_Qv D vwCl (g_A (ov κ ar x Z G) sz) (fun u => ∃ T9 : Ho, sX8_reachFrom Z i0 = T9 ∧ u = (ov κ ar x T9 G, sz) ∧ OK x T9 ∧ SZ T9 Z)) ([.ref (x.f .ho), .ref (x.f (.fr i0))] : List Value).toArray s 0 0 (g_A (ov κ ar x Z G) sz)) (F0 m 7 ls []) := by
    intro nx1
    induction nx1 with
    | zero => intro ix1 hix1 hi2; exact absurd hi2 (by omega)
    | succ nx1 ihx1 =>
      intro ix1 hix1 hi2 x1 exx1 S2 hk3 sq4 hsp6 H locs ls w hl
      refine lv_iload_n hx hb dX8_reachFrom_7 rfl (lv_at hl 0 rfl) ?_
      refine lv_aload_n hx hb dX8_reachFrom_8 rfl (lv_at hl 2 rfl) ?_
      refine g_calli w (g_runV (As := []) (rest := [.int x1]) S hE w hl (hX1_places l D ar κ G x S2 sz i0 hk3 ) (k_RX8_275 S.2.2.2.2 ⟨Nat.le_of_ble_eq_true rfl, Nat.le_of_ble_eq_true rfl⟩) (ov_r (t := .fr i0) (hk3.e (.fr i0) rfl)) rfl rfl rfl rfl (Nat.le_of_ble_eq_true rfl) dX8_reachFrom_9 ⟨Nat.le_of_ble_eq_true rfl, Nat.le_of_ble_eq_true rfl⟩) (fun r u H locs hp hnz w => ?_)
      obtain ⟨rfl, rfl⟩ := hp
      dsimp only at w
      refine lv_icmp_ge (tgt := 33) hx hb dX8_reachFrom_12 (by decide) (fun c_12 => ?_) (fun c_12 => ?_)
      · exact g_vret hx hb hr hlk w (Nat.le_of_ble_eq_true rfl) (Nat.le_of_ble_eq_true rfl) dX8_reachFrom_33 ⟨_, ((hsp6).trans ((LX8_reachFrom_7_u i0 nx1 x1 S2).trans (if_pos c_12))), rfl, hk3, sq4⟩
      · refine lv_aload_n hx hb dX8_reachFrom_15 rfl (lv_at hl 1 rfl) ?_
        refine gf_RX8_40_14 (v := .ref (x.f .ts)) S hE w (ov_r (t := .ho) (hk3.e (.ho) rfl)) rfl dX8_reachFrom_16 ?_
        refine lv_aload_n hx hb dX8_reachFrom_19 rfl (lv_at hl 2 rfl) ?_
        refine lv_iload_n hx hb dX8_reachFrom_20 rfl (lv_at hl 0 rfl) ?_
        refine g_calll w (g_runV (As := [.int x1]) (rest := [.ref (x.f .ts)]) S hE w hl (hX1_place l D ar κ G x S2 sz i0 x1 hk3 ) (k_RX8_277 S.2.2.2.2 ⟨Nat.le_of_ble_eq_true rfl, Nat.le_of_ble_eq_true rfl⟩) (ov_r (t := .fr i0) (hk3.e (.fr i0) rfl)) rfl rfl rfl rfl (Nat.le_of_ble_eq_true rfl) dX8_reachFrom_21 ⟨Nat.le_of_ble_eq_true rfl, Nat.le_of_ble_eq_true rfl⟩) (fun r u H locs hp hnz w => ?_)
        obtain ⟨rfl, rfl⟩ := hp
        dsimp only at w
        refine g_callv w (g_runV (As := [.long (sX1_place S2 i0 x1)]) (rest := []) S hE w hl (hX5_reach l D ar κ G x S2 sz (sX1_place S2 i0 x1) hk3 ) (k_RX8_247 S.2.2.2.2 ⟨Nat.le_of_ble_eq_true rfl, Nat.le_of_ble_eq_true rfl⟩) (ov_r (t := .ts) (hk3.e (.ts) rfl)) rfl rfl rfl rfl (Nat.le_of_ble_eq_true rfl) dX8_reachFrom_24 ⟨Nat.le_of_ble_eq_true rfl, Nat.le_of_ble_eq_true rfl⟩) (fun u H locs hp hnz w => ?_)
        obtain ⟨T8, e9, hu9, hk10, sq11⟩ := hp
        subst hu9
        dsimp only at w
        refine lv_iinc (v := x1 + 1) (lv' := [(2, .int (x1 + 1)), (0, .ref (x.f .ho)), (1, .ref (x.f (.fr i0)))]) hx hb dX8_reachFrom_27 hl (k := 0) rfl rfl (by decide) rfl (fun ls hl => ?_)
        refine lv_goto (tgt := 7) hx hb dX8_reachFrom_30 (by decide) ?_
        exact ihx1 (ix1 + 1) (lp_fu exx1 hix1 c_12) (by omega) (x1 + 1) (by rw [exx1]; exact nI_1 ix1) T8 hk10 (SZ.t sq11 sq4) ((hsp6).trans ((LX8_reachFrom_7_u i0 nx1 x1 S2).trans ((if_neg c_12).trans (vc_e e9)))) H _ ls w (lv_sub hl [0, 1, 2] rfl)
  exact key7 FU 0 (Nat.zero_le _) (by rw [FU_e]; decide) 0 rfl Z hk ⟨rfl, rfl, rfl, rfl⟩ (sX8_reachFrom_u Z i0) _ _ _ w (lv_sub hl [0, 1, 2] rfl)
noncomputable def LX8_collect_37 : Nat → Int32 → Ho → Int32 × Ho
  | 0, _, S9 => (0, S9)
  | nx8 + 1, x8, S9 => if S9.fn ≤ x8 then (if S9.st = 114 then (vc (sX5_reach S9 S9.an) (fun T24 => vc (sX5_reachFields T24) (fun T28 => pc (sX5_sweep T28) (fun r32 T33 => (r32, T33))))) else (vc (sX5_reachFields S9) (fun T15 => pc (sX5_sweep T15) (fun r19 T20 => (r19, T20))))) else (oc (sX8_frameAt S9 x8) (vc (sX8_reachNone S9) (fun T39 => LX8_collect_37 nx8 (x8 + 1) T39)) (fun k37 => vc (sX8_reachFrom S9 k37) (fun T43 => LX8_collect_37 nx8 (x8 + 1) T43)))
theorem LX8_collect_37_u (nx8 : Nat) (x8 : Int32) (S9 : Ho) : LX8_collect_37 (nx8 + 1) x8 S9 = if S9.fn ≤ x8 then (if S9.st = 114 then (vc (sX5_reach S9 S9.an) (fun T24 => vc (sX5_reachFields T24) (fun T28 => pc (sX5_sweep T28) (fun r32 T33 => (r32, T33))))) else (vc (sX5_reachFields S9) (fun T15 => pc (sX5_sweep T15) (fun r19 T20 => (r19, T20))))) else (oc (sX8_frameAt S9 x8) (vc (sX8_reachNone S9) (fun T39 => LX8_collect_37 nx8 (x8 + 1) T39)) (fun k37 => vc (sX8_reachFrom S9 k37) (fun T43 => LX8_collect_37 nx8 (x8 + 1) T43))) := rfl
noncomputable def LX8_collect_10 (Z : Ho) : Nat → Int32 → Ho → Int32 × Ho
  | 0, _, S2 => (0, S2)
  | nx1 + 1, x1, S2 => if 8 ≤ x1 then (LX8_collect_37 FU 0 S2) else (vc (sX5_reach S2 (S2.gl (Int32.toNatClampNeg x1))) (fun T47 => LX8_collect_10 Z nx1 (x1 + 1) T47))
theorem LX8_collect_10_u (Z : Ho) (nx1 : Nat) (x1 : Int32) (S2 : Ho) : LX8_collect_10 Z (nx1 + 1) x1 S2 = if 8 ≤ x1 then (LX8_collect_37 FU 0 S2) else (vc (sX5_reach S2 (S2.gl (Int32.toNatClampNeg x1))) (fun T47 => LX8_collect_10 Z nx1 (x1 + 1) T47)) := rfl
noncomputable def sX8_collect (Z : Ho) : Int32 × Ho := LX8_collect_10 Z 9 0 Z
theorem sX8_collect_u (Z : Ho) : sX8_collect Z = LX8_collect_10 Z 9 0 Z := rfl
set_option maxHeartbeats 4000000 in
set_option maxRecDepth 100000 in
theorem hX8_collect (l : Launch) (D : va_G) (ar : Nat → ClassId) (κ : Nat → Nat) (G : gW) (x : Xo) (Z : Ho) (sz : Nat) (hk : OK x Z) : Met l yX8_collect (lwC yX8_collect cX8_collect 6 (some .int)) (rD 9 0 0) (g_Pc D vwCl (gT ar) (EX1 κ) (ov κ ar x Z G) sz [.ref (x.f .ho)]) (g_Qi D vwCl (g_A (ov κ ar x Z G) sz) (fun r u => ∃ T9 : Ho, sX8_collect Z = (r, T9) ∧ u = (ov κ ar x T9 G, sz) ∧ OK x T9 ∧ SZ T9 Z)) 0 0 (g_A (ov κ ar x Z G) sz) := by
  refine g_ofW (by decide +kernel) (Nat.le_of_ble_eq_true rfl) ?_
  intro p e s m below meth c ls S hr hlk hin hE w hl
  have hx := S.1
  have hb := S.2.1
  have hl : lv_has ls 6 [(0, .ref (x.f .ho))] := hl
  refine lv_aload_n hx hb dX8_collect_0 rfl (lv_at hl 0 rfl) ?_
  refine gf_RX8_33_14 (v := .ref (x.f .gl)) S hE w (ov_r (t := .ho) (hk.e (.ho) rfl)) rfl dX8_collect_1 ?_
  refine lv_astore_n (lv' := [(1, .ref (x.f .gl)), (0, .ref (x.f .ho))]) hx hb dX8_collect_4 rfl hl (by decide) rfl (fun ls hl => ?_)
  refine lv_aload_n hx hb dX8_collect_5 rfl (lv_at hl 0 rfl) ?_
  refine va_alen (v := 8) hx hb hE.1 (g_1 w.1 (ov_r (t := .gl) (hk.e (.gl) rfl))) 0 1 rfl rfl rfl dX8_collect_6 ?_
  refine lv_istore_n (lv' := [(2, .int 8), (1, .ref (x.f .gl)), (0, .ref (x.f .ho))]) hx hb dX8_collect_7 rfl hl (by decide) rfl (fun ls hl => ?_)
  refine lv_iconst (v := 0) hx hb dX8_collect_8 (by decide) ?_
  refine lv_istore_n (lv' := [(3, .int 0), (2, .int 8), (1, .ref (x.f .gl)), (0, .ref (x.f .ho))]) hx hb dX8_collect_9 rfl hl (by decide) rfl (fun ls hl => ?_)
  have key7 : ∀ (nx1 ix1 : Nat), ix1 ≤ 8 → 8 + 1 ≤ ix1 + nx1 → ∀ (x1 : Int32), x1 = nI ix1 → ∀ (S2 : Ho), OK x S2 → SZ S2 Z → sX8_collect Z = LX8_collect_10 Z nx1 x1 S2 → ∀ (H : Heap) (locs : List Loc) (ls : Array Slot), g_S D vwCl (g_A (ov κ ar x Z G) sz) s.heap (ov κ ar x S2 G) H locs sz → lv_has ls 6 [(3, .int x1), (2, .int 8), (1, .ref (x.f .gl)), (0, .ref (x.f .ho))] → W p l e (rD 9 0 0) s m ([.ref (x.f .ho)] : List Value).toArray below meth c H locs 0 0 (MQ below (g_Qi D vwCl (g_A (ov κ ar x Z G) sz) (fun r u => ∃ T9 : Ho, sX8_collect Z = (r, T9) ∧ u = (ov κ ar x T9 G, sz) ∧ OK x T9 ∧ SZ T9 Z)) ([.ref (x.f .ho)] : List Value).toArray s 0 0 (g_A (ov κ ar x Z G) sz)) (F0 m 10 ls []) := by
    intro nx1
    induction nx1 with
    | zero => intro ix1 hix1 hi2; exact absurd hi2 (by omega)
    | succ nx1 ihx1 =>
      intro ix1 hix1 hi2 x1 exx1 S2 hk3 sq4 hsp6 H locs ls w hl
      refine lv_iload_n hx hb dX8_collect_10 rfl (lv_at hl 0 rfl) ?_
      refine lv_iload_n hx hb dX8_collect_11 rfl (lv_at hl 1 rfl) ?_
      refine lv_icmp_ge (tgt := 35) hx hb dX8_collect_12 (by decide) (fun c_12 => ?_) (fun c_12 => ?_)
      · refine lv_iconst (v := 0) hx hb dX8_collect_35 (by decide) ?_
        refine lv_istore_n (lv' := [(1, .int 0), (3, .int x1), (2, .int 8), (0, .ref (x.f .ho))]) hx hb dX8_collect_36 rfl hl (by decide) rfl (fun ls hl => ?_)
        have key14 : ∀ (nx8 ix8 : Nat), ix8 ≤ 2147483647 → 2147483647 + 1 ≤ ix8 + nx8 → ∀ (x8 : Int32), x8 = nI ix8 → ∀ (S9 : Ho), OK x S9 → SZ S9 Z → sX8_collect Z = LX8_collect_37 nx8 x8 S9 → ∀ (H : Heap) (locs : List Loc) (ls : Array Slot), g_S D vwCl (g_A (ov κ ar x Z G) sz) s.heap (ov κ ar x S9 G) H locs sz → lv_has ls 6 [(1, .int x8), (0, .ref (x.f .ho))] → W p l e (rD 9 0 0) s m ([.ref (x.f .ho)] : List Value).toArray below meth c H locs 0 0 (MQ below (g_Qi D vwCl (g_A (ov κ ar x Z G) sz) (fun r u => ∃ T9 : Ho, sX8_collect Z = (r, T9) ∧ u = (ov κ ar x T9 G, sz) ∧ OK x T9 ∧ SZ T9 Z)) ([.ref (x.f .ho)] : List Value).toArray s 0 0 (g_A (ov κ ar x Z G) sz)) (F0 m 37 ls []) := by
          intro nx8
          induction nx8 with
          | zero => intro ix8 hix8 hi2; exact absurd hi2 (by omega)
          | succ nx8 ihx8 =>
            intro ix8 hix8 hi2 x8 exx8 S9 hk10 sq11 hsp13 H locs ls w hl
            refine lv_iload_n hx hb dX8_collect_37 rfl (lv_at hl 0 rfl) ?_
            refine lv_aload_n hx hb dX8_collect_38 rfl (lv_at hl 1 rfl) ?_
            refine gf_RX8_50_14 (v := .int S9.fn) S hE w (ov_r (t := .ho) (hk10.e (.ho) rfl)) rfl dX8_collect_39 ?_
            refine lv_icmp_ge (tgt := 60) hx hb dX8_collect_42 (by decide) (fun c_42 => ?_) (fun c_42 => ?_)
            · refine lv_aload_n hx hb dX8_collect_60 rfl (lv_at hl 1 rfl) ?_
              refine gf_RX8_53_14 (v := .int S9.st) S hE w (ov_r (t := .ho) (hk10.e (.ho) rfl)) rfl dX8_collect_61 ?_
              refine lv_bipush (v := 114) hx hb dX8_collect_64 (by decide) ?_
              refine lv_icmp_ne (tgt := 80) hx hb dX8_collect_66 (by decide) (fun c_66 => ?_) (fun c_66 => ?_)
              · refine lv_aload_n hx hb dX8_collect_80 rfl (lv_at hl 1 rfl) ?_
                refine gf_RX8_40_14 (v := .ref (x.f .ts)) S hE w (ov_r (t := .ho) (hk10.e (.ho) rfl)) rfl dX8_collect_81 ?_
                refine g_callv w (g_runV (As := []) (rest := []) S hE w hl (hX5_reachFields l D ar κ G x S9 sz  hk10 ) (k_RX8_259 S.2.2.2.2 ⟨Nat.le_of_ble_eq_true rfl, Nat.le_of_ble_eq_true rfl⟩) (ov_r (t := .ts) (hk10.e (.ts) rfl)) rfl rfl rfl rfl (Nat.le_of_ble_eq_true rfl) dX8_collect_84 ⟨Nat.le_of_ble_eq_true rfl, Nat.le_of_ble_eq_true rfl⟩) (fun u H locs hp hnz w => ?_)
                obtain ⟨T15, e16, hu9, hk17, sq18⟩ := hp
                subst hu9
                dsimp only at w
                refine lv_aload_n hx hb dX8_collect_87 rfl (lv_at hl 1 rfl) ?_
                refine gf_RX8_40_14 (v := .ref (x.f .ts)) S hE w (ov_r (t := .ho) (hk17.e (.ho) rfl)) rfl dX8_collect_88 ?_
                refine g_calli w (g_runV (As := []) (rest := []) S hE w hl (hX5_sweep l D ar κ G x T15 sz  hk17 ) (k_RX8_262 S.2.2.2.2 ⟨Nat.le_of_ble_eq_true rfl, Nat.le_of_ble_eq_true rfl⟩) (ov_r (t := .ts) (hk17.e (.ts) rfl)) rfl rfl rfl rfl (Nat.le_of_ble_eq_true rfl) dX8_collect_91 ⟨Nat.le_of_ble_eq_true rfl, Nat.le_of_ble_eq_true rfl⟩) (fun r19 u H locs hp hnz w => ?_)
                obtain ⟨T20, e21, hu9, hk22, sq23⟩ := hp
                subst hu9
                dsimp only at w
                exact g_iret hx hb hr hlk w (Nat.le_of_ble_eq_true rfl) (Nat.le_of_ble_eq_true rfl) dX8_collect_94 ⟨_, ((hsp13).trans ((LX8_collect_37_u nx8 x8 S9).trans ((if_pos c_42).trans ((if_neg c_66).trans ((vc_e e16).trans (pc_e e21)))))), rfl, hk22, (SZ.t sq23 (SZ.t sq18 sq11))⟩
              · refine lv_aload_n hx hb dX8_collect_69 rfl (lv_at hl 1 rfl) ?_
                refine gf_RX8_40_14 (v := .ref (x.f .ts)) S hE w (ov_r (t := .ho) (hk10.e (.ho) rfl)) rfl dX8_collect_70 ?_
                refine lv_aload_n hx hb dX8_collect_73 rfl (lv_at hl 1 rfl) ?_
                refine gf_RX8_62_14 (v := .long S9.an) S hE w (ov_r (t := .ho) (hk10.e (.ho) rfl)) rfl dX8_collect_74 ?_
                refine g_callv w (g_runV (As := [.long S9.an]) (rest := []) S hE w hl (hX5_reach l D ar κ G x S9 sz S9.an hk10 ) (k_RX8_247 S.2.2.2.2 ⟨Nat.le_of_ble_eq_true rfl, Nat.le_of_ble_eq_true rfl⟩) (ov_r (t := .ts) (hk10.e (.ts) rfl)) rfl rfl rfl rfl (Nat.le_of_ble_eq_true rfl) dX8_collect_77 ⟨Nat.le_of_ble_eq_true rfl, Nat.le_of_ble_eq_true rfl⟩) (fun u H locs hp hnz w => ?_)
                obtain ⟨T24, e25, hu9, hk26, sq27⟩ := hp
                subst hu9
                dsimp only at w
                refine lv_aload_n hx hb dX8_collect_80 rfl (lv_at hl 1 rfl) ?_
                refine gf_RX8_40_14 (v := .ref (x.f .ts)) S hE w (ov_r (t := .ho) (hk26.e (.ho) rfl)) rfl dX8_collect_81 ?_
                refine g_callv w (g_runV (As := []) (rest := []) S hE w hl (hX5_reachFields l D ar κ G x T24 sz  hk26 ) (k_RX8_259 S.2.2.2.2 ⟨Nat.le_of_ble_eq_true rfl, Nat.le_of_ble_eq_true rfl⟩) (ov_r (t := .ts) (hk26.e (.ts) rfl)) rfl rfl rfl rfl (Nat.le_of_ble_eq_true rfl) dX8_collect_84 ⟨Nat.le_of_ble_eq_true rfl, Nat.le_of_ble_eq_true rfl⟩) (fun u H locs hp hnz w => ?_)
                obtain ⟨T28, e29, hu9, hk30, sq31⟩ := hp
                subst hu9
                dsimp only at w
                refine lv_aload_n hx hb dX8_collect_87 rfl (lv_at hl 1 rfl) ?_
                refine gf_RX8_40_14 (v := .ref (x.f .ts)) S hE w (ov_r (t := .ho) (hk30.e (.ho) rfl)) rfl dX8_collect_88 ?_
                refine g_calli w (g_runV (As := []) (rest := []) S hE w hl (hX5_sweep l D ar κ G x T28 sz  hk30 ) (k_RX8_262 S.2.2.2.2 ⟨Nat.le_of_ble_eq_true rfl, Nat.le_of_ble_eq_true rfl⟩) (ov_r (t := .ts) (hk30.e (.ts) rfl)) rfl rfl rfl rfl (Nat.le_of_ble_eq_true rfl) dX8_collect_91 ⟨Nat.le_of_ble_eq_true rfl, Nat.le_of_ble_eq_true rfl⟩) (fun r32 u H locs hp hnz w => ?_)
                obtain ⟨T33, e34, hu9, hk35, sq36⟩ := hp
                subst hu9
                dsimp only at w
                exact g_iret hx hb hr hlk w (Nat.le_of_ble_eq_true rfl) (Nat.le_of_ble_eq_true rfl) dX8_collect_94 ⟨_, ((hsp13).trans ((LX8_collect_37_u nx8 x8 S9).trans ((if_pos c_42).trans ((if_pos c_66).trans ((vc_e e25).trans ((vc_e e29).trans (pc_e e34))))))), rfl, hk35, (SZ.t sq36 (SZ.t sq31 (SZ.t sq27 sq11)))⟩
            · refine lv_aload_n hx hb dX8_collect_45 rfl (lv_at hl 1 rfl) ?_
              refine lv_aload_n hx hb dX8_collect_46 rfl (lv_at hl 1 rfl) ?_
              refine lv_iload_n hx hb dX8_collect_47 rfl (lv_at hl 0 rfl) ?_
              refine g_callq w (g_runV (As := [.int x8]) (rest := [.ref (x.f .ho)]) S hE w hl (hX8_frameAt l D ar κ G x S9 sz x8 hk10 ) (k_RX8_251 S.2.2.2.2 ⟨Nat.le_of_ble_eq_true rfl, Nat.le_of_ble_eq_true rfl⟩) (ov_r (t := .ho) (hk10.e (.ho) rfl)) rfl rfl rfl rfl (Nat.le_of_ble_eq_true rfl) dX8_collect_48 ⟨Nat.le_of_ble_eq_true rfl, Nat.le_of_ble_eq_true rfl⟩) (fun r u H locs hp hnz w => ?_)
              obtain ⟨rfl, rfl⟩ := hp
              dsimp only at w
              rcases he38 : sX8_frameAt S9 x8 with _ | k37
              · show W p l e _ s m _ below meth c _ _ _ _ _ (F0 m 51 ls [.null, .ref (x.f .ho)])
                refine g_callv w (g_runV (As := [.null]) (rest := []) S hE w hl (hX8_reachNone l D ar κ G x S9 sz  hk10 ) (k_RX8_255 S.2.2.2.2 ⟨Nat.le_of_ble_eq_true rfl, Nat.le_of_ble_eq_true rfl⟩) (ov_r (t := .ho) (hk10.e (.ho) rfl)) rfl rfl rfl rfl (Nat.le_of_ble_eq_true rfl) dX8_collect_51 ⟨Nat.le_of_ble_eq_true rfl, Nat.le_of_ble_eq_true rfl⟩) (fun u H locs hp hnz w => ?_)
                obtain ⟨T39, e40, hu9, hk41, sq42⟩ := hp
                subst hu9
                dsimp only at w
                refine lv_iinc (v := x8 + 1) (lv' := [(1, .int (x8 + 1)), (0, .ref (x.f .ho))]) hx hb dX8_collect_54 hl (k := 0) rfl rfl (by decide) rfl (fun ls hl => ?_)
                refine lv_goto (tgt := 37) hx hb dX8_collect_57 (by decide) ?_
                exact ihx8 (ix8 + 1) (lp_fu exx8 hix8 c_42) (by omega) (x8 + 1) (by rw [exx8]; exact nI_1 ix8) T39 hk41 (SZ.t sq42 sq11) ((hsp13).trans ((LX8_collect_37_u nx8 x8 S9).trans ((if_neg c_42).trans ((oc_n he38).trans (vc_e e40))))) H _ ls w (lv_sub hl [0, 1] rfl)
              · show W p l e _ s m _ below meth c _ _ _ _ _ (F0 m 51 ls [.ref (x.f (.fr k37)), .ref (x.f .ho)])
                refine g_callv w (g_runV (As := [.ref (x.f (.fr k37))]) (rest := []) S hE w hl (hX8_reachFrom l D ar κ G x S9 sz k37 hk10 ) (k_RX8_255 S.2.2.2.2 ⟨Nat.le_of_ble_eq_true rfl, Nat.le_of_ble_eq_true rfl⟩) (ov_r (t := .ho) (hk10.e (.ho) rfl)) rfl rfl rfl rfl (Nat.le_of_ble_eq_true rfl) dX8_collect_51 ⟨Nat.le_of_ble_eq_true rfl, Nat.le_of_ble_eq_true rfl⟩) (fun u H locs hp hnz w => ?_)
                obtain ⟨T43, e44, hu9, hk45, sq46⟩ := hp
                subst hu9
                dsimp only at w
                refine lv_iinc (v := x8 + 1) (lv' := [(1, .int (x8 + 1)), (0, .ref (x.f .ho))]) hx hb dX8_collect_54 hl (k := 0) rfl rfl (by decide) rfl (fun ls hl => ?_)
                refine lv_goto (tgt := 37) hx hb dX8_collect_57 (by decide) ?_
                exact ihx8 (ix8 + 1) (lp_fu exx8 hix8 c_42) (by omega) (x8 + 1) (by rw [exx8]; exact nI_1 ix8) T43 hk45 (SZ.t sq46 sq11) ((hsp13).trans ((LX8_collect_37_u nx8 x8 S9).trans ((if_neg c_42).trans ((oc_s he38).trans (vc_e e44))))) H _ ls w (lv_sub hl [0, 1] rfl)
        exact key14 FU 0 (Nat.zero_le _) (by rw [FU_e]; decide) 0 rfl S2 hk3 sq4 ((hsp6).trans ((LX8_collect_10_u Z nx1 x1 S2).trans (if_pos c_12))) _ _ _ w (lv_sub hl [0, 3] rfl)
      · refine lv_aload_n hx hb dX8_collect_15 rfl (lv_at hl 2 rfl) ?_
        refine lv_iload_n hx hb dX8_collect_16 rfl (lv_at hl 0 rfl) ?_
        refine va_lald hx hb hE.1 (g_1 w.1 (ov_r (t := .gl) (hk3.e (.gl) rfl))) 0 1 rfl rfl (in_lt (n := 8) rfl exx1 hix1 (by decide) (by decide) c_12) dX8_collect_17 ?_
        show W p l e _ s m _ below meth c _ _ _ _ _ (F0 m 18 ls [.long (S2.gl (Int32.toNatClampNeg x1))])
        refine lv_lstore (lv' := [(4, .long (S2.gl (Int32.toNatClampNeg x1))), (3, .int x1), (2, .int 8), (1, .ref (x.f .gl)), (0, .ref (x.f .ho))]) hx hb dX8_collect_18 hl (by decide) rfl (fun ls hl => ?_)
        refine lv_aload_n hx hb dX8_collect_20 rfl (lv_at hl 4 rfl) ?_
        refine gf_RX8_40_14 (v := .ref (x.f .ts)) S hE w (ov_r (t := .ho) (hk3.e (.ho) rfl)) rfl dX8_collect_21 ?_
        refine lv_lload hx hb dX8_collect_24 (lv_at hl 0 rfl) ?_
        refine g_callv w (g_runV (As := [.long (S2.gl (Int32.toNatClampNeg x1))]) (rest := []) S hE w hl (hX5_reach l D ar κ G x S2 sz (S2.gl (Int32.toNatClampNeg x1)) hk3 ) (k_RX8_247 S.2.2.2.2 ⟨Nat.le_of_ble_eq_true rfl, Nat.le_of_ble_eq_true rfl⟩) (ov_r (t := .ts) (hk3.e (.ts) rfl)) rfl rfl rfl rfl (Nat.le_of_ble_eq_true rfl) dX8_collect_26 ⟨Nat.le_of_ble_eq_true rfl, Nat.le_of_ble_eq_true rfl⟩) (fun u H locs hp hnz w => ?_)
        obtain ⟨T47, e48, hu9, hk49, sq50⟩ := hp
        subst hu9
        dsimp only at w
        refine lv_iinc (v := x1 + 1) (lv' := [(3, .int (x1 + 1)), (4, .long (S2.gl (Int32.toNatClampNeg x1))), (2, .int 8), (1, .ref (x.f .gl)), (0, .ref (x.f .ho))]) hx hb dX8_collect_29 hl (k := 1) rfl rfl (by decide) rfl (fun ls hl => ?_)
        refine lv_goto (tgt := 10) hx hb dX8_collect_32 (by decide) ?_
        exact ihx1 (ix1 + 1) (lp_up (n := 8) rfl exx1 hix1 (by decide) (by decide) (by decide) c_12) (by omega) (x1 + 1) (by rw [exx1]; exact nI_1 ix1) T47 hk49 (SZ.t sq50 sq4) ((hsp6).trans ((LX8_collect_10_u Z nx1 x1 S2).trans ((if_neg c_12).trans (vc_e e48)))) H _ ls w (lv_sub hl [0, 2, 3, 4] rfl)
  exact key7 9 0 (Nat.zero_le _) (by decide) 0 rfl Z hk ⟨rfl, rfl, rfl, rfl⟩ (sX8_collect_u Z) _ _ _ w (lv_sub hl [0, 1, 2, 3] rfl)
def sX8_plusNone (Z : Ho) (u0 : Int64) : Int64 := u0
theorem sX8_plusNone_u (Z : Ho) (u0 : Int64) : sX8_plusNone Z u0 = u0 := rfl
set_option maxHeartbeats 4000000 in
set_option maxRecDepth 100000 in
theorem hX8_plusNone (l : Launch) (D : va_G) (ar : Nat → ClassId) (κ : Nat → Nat) (G : gW) (x : Xo) (Z : Ho) (sz : Nat) (u0 : Int64) (hk : OK x Z) : Met l yX8_plusThing (lwC yX8_plusThing cX8_plusThing 6 (some .long)) (rD 5 0 0) (g_Pc D vwCl (gT ar) (EX1 κ) (ov κ ar x Z G) sz [.long u0, .null]) (g_Ql D vwCl (g_A (ov κ ar x Z G) sz) (fun r u => r = sX8_plusNone Z u0 ∧ u = (ov κ ar x Z G, sz))) 0 0 (g_A (ov κ ar x Z G) sz) := by
  refine g_ofW (by decide +kernel) (Nat.le_of_ble_eq_true rfl) ?_
  intro p e s m below meth c ls S hr hlk hin hE w hl
  have hx := S.1
  have hb := S.2.1
  have hl : lv_has ls 6 [(0, .long u0), (2, .null)] := hl
  refine lv_aload_nN hx hb dX8_plusThing_0 rfl (lv_at hl 1 rfl) ?_
  refine lv_ifnonnullN hx hb dX8_plusThing_1 ?_
  refine lv_lload_n hx hb dX8_plusThing_4 rfl (lv_at hl 0 rfl) ?_
  exact g_lret hx hb hr hlk w (Nat.le_of_ble_eq_true rfl) (Nat.le_of_ble_eq_true rfl) dX8_plusThing_5 ⟨((sX8_plusNone_u Z u0)).symm, rfl⟩
noncomputable def LX8_plusThing_27 (i0 : Fin 60) : Nat → Int32 → Int64 → Ho → Int64
  | 0, _, _, Z => 0
  | nx1 + 1, x1, vx1, Z => if (Z.th i0).z ≤ x1 then (vx1) else (LX8_plusThing_27 i0 nx1 (x1 + 1) (sX8_plusValue Z vx1 (pA ((Z.th i0).p) 8 x1)) Z)
theorem LX8_plusThing_27_u (i0 : Fin 60) (nx1 : Nat) (x1 : Int32) (vx1 : Int64) (Z : Ho) : LX8_plusThing_27 i0 (nx1 + 1) x1 vx1 Z = if (Z.th i0).z ≤ x1 then (vx1) else (LX8_plusThing_27 i0 nx1 (x1 + 1) (sX8_plusValue Z vx1 (pA ((Z.th i0).p) 8 x1)) Z) := rfl
noncomputable def sX8_plusThing (Z : Ho) (u0 : Int64) (i0 : Fin 60) : Int64 := LX8_plusThing_27 i0 FU 0 (sX8_plus Z (sX8_plus Z u0 (((Z.th i0).n).toInt64)) (((Z.th i0).c).toInt64)) Z
theorem sX8_plusThing_u (Z : Ho) (u0 : Int64) (i0 : Fin 60) : sX8_plusThing Z u0 i0 = LX8_plusThing_27 i0 FU 0 (sX8_plus Z (sX8_plus Z u0 (((Z.th i0).n).toInt64)) (((Z.th i0).c).toInt64)) Z := rfl
set_option maxHeartbeats 4000000 in
set_option maxRecDepth 100000 in
theorem hX8_plusThing (l : Launch) (D : va_G) (ar : Nat → ClassId) (κ : Nat → Nat) (G : gW) (x : Xo) (Z : Ho) (sz : Nat) (u0 : Int64) (i0 : Fin 60) (hk : OK x Z) : Met l yX8_plusThing (lwC yX8_plusThing cX8_plusThing 6 (some .long)) (rD 5 0 0) (g_Pc D vwCl (gT ar) (EX1 κ) (ov κ ar x Z G) sz [.long u0, .ref (x.f (.th i0))]) (g_Ql D vwCl (g_A (ov κ ar x Z G) sz) (fun r u => r = sX8_plusThing Z u0 i0 ∧ u = (ov κ ar x Z G, sz))) 0 0 (g_A (ov κ ar x Z G) sz) := by
  refine g_ofW (by decide +kernel) (Nat.le_of_ble_eq_true rfl) ?_
  intro p e s m below meth c ls S hr hlk hin hE w hl
  have hx := S.1
  have hb := S.2.1
  have hl : lv_has ls 6 [(0, .long u0), (2, .ref (x.f (.th i0)))] := hl
  refine lv_aload_n hx hb dX8_plusThing_0 rfl (lv_at hl 1 rfl) ?_
  refine lv_ifnonnull (tgt := 6) hx hb dX8_plusThing_1 (by decide) ?_
  refine lv_lload_n hx hb dX8_plusThing_6 rfl (lv_at hl 0 rfl) ?_
  refine lv_aload_n hx hb dX8_plusThing_7 rfl (lv_at hl 1 rfl) ?_
  refine gf_RX8_493_10 (v := .int ((Z.th i0).n)) S hE w (ov_r (t := .th i0) (hk.e (.th i0) rfl)) rfl dX8_plusThing_8 ?_
  refine lv_i2l hx hb dX8_plusThing_11 rfl ?_
  refine g_calll w (g_runS (As := [.long u0, .long (((Z.th i0).n).toInt64)]) (rest := []) S hE w hl (hX8_plus l D ar κ G x Z sz u0 (((Z.th i0).n).toInt64) hk ) (k_RX8_453 S.2.2.2.2 ⟨Nat.le_of_ble_eq_true rfl, Nat.le_of_ble_eq_true rfl⟩) rfl rfl (Nat.le_of_ble_eq_true rfl) dX8_plusThing_12 ⟨Nat.le_of_ble_eq_true rfl, Nat.le_of_ble_eq_true rfl⟩) (fun r u H locs hp hnz w => ?_)
  obtain ⟨rfl, rfl⟩ := hp
  dsimp only at w
  refine lv_aload_n hx hb dX8_plusThing_15 rfl (lv_at hl 1 rfl) ?_
  refine gf_RX8_240_10 (v := .int ((Z.th i0).c)) S hE w (ov_r (t := .th i0) (hk.e (.th i0) rfl)) rfl dX8_plusThing_16 ?_
  refine lv_i2l hx hb dX8_plusThing_19 rfl ?_
  refine g_calll w (g_runS (As := [.long (sX8_plus Z u0 (((Z.th i0).n).toInt64)), .long (((Z.th i0).c).toInt64)]) (rest := []) S hE w hl (hX8_plus l D ar κ G x Z sz (sX8_plus Z u0 (((Z.th i0).n).toInt64)) (((Z.th i0).c).toInt64) hk ) (k_RX8_453 S.2.2.2.2 ⟨Nat.le_of_ble_eq_true rfl, Nat.le_of_ble_eq_true rfl⟩) rfl rfl (Nat.le_of_ble_eq_true rfl) dX8_plusThing_20 ⟨Nat.le_of_ble_eq_true rfl, Nat.le_of_ble_eq_true rfl⟩) (fun r u H locs hp hnz w => ?_)
  obtain ⟨rfl, rfl⟩ := hp
  dsimp only at w
  refine lv_lstore_n (lv' := [(3, .long (sX8_plus Z (sX8_plus Z u0 (((Z.th i0).n).toInt64)) (((Z.th i0).c).toInt64))), (0, .long u0), (2, .ref (x.f (.th i0)))]) hx hb dX8_plusThing_23 rfl hl (by decide) rfl (fun ls hl => ?_)
  refine lv_iconst (v := 0) hx hb dX8_plusThing_24 (by decide) ?_
  refine lv_istore (lv' := [(5, .int 0), (3, .long (sX8_plus Z (sX8_plus Z u0 (((Z.th i0).n).toInt64)) (((Z.th i0).c).toInt64))), (0, .long u0), (2, .ref (x.f (.th i0)))]) hx hb dX8_plusThing_25 hl (by decide) rfl (fun ls hl => ?_)
  have key4 : ∀ (nx1 ix1 : Nat), ix1 ≤ 2147483647 → 2147483647 + 1 ≤ ix1 + nx1 → ∀ (x1 : Int32), x1 = nI ix1 → ∀ (vx1 : Int64), sX8_plusThing Z u0 i0 = LX8_plusThing_27 i0 nx1 x1 vx1 Z → ∀ (H : Heap) (locs : List Loc) (ls : Array Slot), g_S D vwCl (g_A (ov κ ar x Z G) sz) s.heap (ov κ ar x Z G) H locs sz → lv_has ls 6 [(5, .int x1), (3, .long vx1), (0, .long u0), (2, .ref (x.f (.th i0)))] → W p l e (rD 5 0 0) s m ([.long u0, .ref (x.f (.th i0))] : List Value).toArray below meth c H locs 0 0 (MQ below (g_Ql D vwCl (g_A (ov κ ar x Z G) sz) (fun r u => r = sX8_plusThing Z u0 i0 ∧ u = (ov κ ar x Z G, sz))) ([.long u0, .ref (x.f (.th i0))] : List Value).toArray s 0 0 (g_A (ov κ ar x Z G) sz)) (F0 m 27 ls []) := by
    intro nx1
    induction nx1 with
    | zero => intro ix1 hix1 hi2; exact absurd hi2 (by omega)
    | succ nx1 ihx1 =>
      intro ix1 hix1 hi2 x1 exx1 vx1 hsp3 H locs ls w hl
      refine lv_iload hx hb dX8_plusThing_27 (lv_at hl 0 rfl) ?_
      refine lv_aload_n hx hb dX8_plusThing_29 rfl (lv_at hl 3 rfl) ?_
      refine gf_RX8_496_10 (v := .int ((Z.th i0).z)) S hE w (ov_r (t := .th i0) (hk.e (.th i0) rfl)) rfl dX8_plusThing_30 ?_
      refine lv_icmp_ge (tgt := 56) hx hb dX8_plusThing_33 (by decide) (fun c_33 => ?_) (fun c_33 => ?_)
      · refine lv_lload_n hx hb dX8_plusThing_56 rfl (lv_at hl 1 rfl) ?_
        exact g_lret hx hb hr hlk w (Nat.le_of_ble_eq_true rfl) (Nat.le_of_ble_eq_true rfl) dX8_plusThing_57 ⟨(((hsp3).trans ((LX8_plusThing_27_u i0 nx1 x1 vx1 Z).trans (if_pos c_33)))).symm, rfl⟩
      · refine lv_lload_n hx hb dX8_plusThing_36 rfl (lv_at hl 1 rfl) ?_
        refine lv_aload_n hx hb dX8_plusThing_37 rfl (lv_at hl 3 rfl) ?_
        refine gf_RX8_272_10 (v := .ref (x.f (.tp i0))) S hE w (ov_r (t := .th i0) (hk.e (.th i0) rfl)) rfl dX8_plusThing_38 ?_
        refine lv_iload hx hb dX8_plusThing_41 (lv_at hl 0 rfl) ?_
        refine g_calll w (g_runS (As := [.ref (x.f (.tp i0)), .int x1]) (rest := [.long vx1]) S hE w hl (c_X8_placeAt l D ar κ (ov κ ar x Z G) sz (x.f (.tp i0)) x1 8 ((Z.th i0).p) (ov_r (t := .tp i0) (hk.e (.tp i0) rfl)) (by decide)) (k_RX8_222 S.2.2.2.2 ⟨Nat.le_of_ble_eq_true rfl, Nat.le_of_ble_eq_true rfl⟩) rfl rfl (Nat.le_of_ble_eq_true rfl) dX8_plusThing_43 ⟨Nat.le_of_ble_eq_true rfl, Nat.le_of_ble_eq_true rfl⟩) (fun r u H locs hp hnz w => ?_)
        obtain ⟨rfl, rfl⟩ := hp
        dsimp only at w
        refine g_calll w (g_runS (As := [.long vx1, .long (pA ((Z.th i0).p) 8 x1)]) (rest := []) S hE w hl (hX8_plusValue l D ar κ G x Z sz vx1 (pA ((Z.th i0).p) 8 x1) hk ) (k_RX8_457 S.2.2.2.2 ⟨Nat.le_of_ble_eq_true rfl, Nat.le_of_ble_eq_true rfl⟩) rfl rfl (Nat.le_of_ble_eq_true rfl) dX8_plusThing_46 ⟨Nat.le_of_ble_eq_true rfl, Nat.le_of_ble_eq_true rfl⟩) (fun r u H locs hp hnz w => ?_)
        obtain ⟨rfl, rfl⟩ := hp
        dsimp only at w
        refine lv_lstore_n (lv' := [(3, .long (sX8_plusValue Z vx1 (pA ((Z.th i0).p) 8 x1))), (5, .int x1), (0, .long u0), (2, .ref (x.f (.th i0)))]) hx hb dX8_plusThing_49 rfl hl (by decide) rfl (fun ls hl => ?_)
        refine lv_iinc (v := x1 + 1) (lv' := [(5, .int (x1 + 1)), (3, .long (sX8_plusValue Z vx1 (pA ((Z.th i0).p) 8 x1))), (0, .long u0), (2, .ref (x.f (.th i0)))]) hx hb dX8_plusThing_50 hl (k := 1) rfl rfl (by decide) rfl (fun ls hl => ?_)
        refine lv_goto (tgt := 27) hx hb dX8_plusThing_53 (by decide) ?_
        exact ihx1 (ix1 + 1) (lp_fu exx1 hix1 c_33) (by omega) (x1 + 1) (by rw [exx1]; exact nI_1 ix1) (sX8_plusValue Z vx1 (pA ((Z.th i0).p) 8 x1)) ((hsp3).trans ((LX8_plusThing_27_u i0 nx1 x1 vx1 Z).trans (if_neg c_33))) H _ ls w (lv_sub hl [0, 1, 2, 3] rfl)
  exact key4 FU 0 (Nat.zero_le _) (by rw [FU_e]; decide) 0 rfl (sX8_plus Z (sX8_plus Z u0 (((Z.th i0).n).toInt64)) (((Z.th i0).c).toInt64)) (sX8_plusThing_u Z u0 i0) _ _ _ w (lv_sub hl [0, 1, 2, 3] rfl)
def sX8_plusNoFr (Z : Ho) (u0 : Int64) : Int64 := u0
theorem sX8_plusNoFr_u (Z : Ho) (u0 : Int64) : sX8_plusNoFr Z u0 = u0 := rfl
set_option maxHeartbeats 4000000 in
set_option maxRecDepth 100000 in
theorem hX8_plusNoFr (l : Launch) (D : va_G) (ar : Nat → ClassId) (κ : Nat → Nat) (G : gW) (x : Xo) (Z : Ho) (sz : Nat) (u0 : Int64) (hk : OK x Z) : Met l yX8_plusFrame (lwC yX8_plusFrame cX8_plusFrame 6 (some .long)) (rD 8 0 0) (g_Pc D vwCl (gT ar) (EX1 κ) (ov κ ar x Z G) sz [.long u0, .null]) (g_Ql D vwCl (g_A (ov κ ar x Z G) sz) (fun r u => r = sX8_plusNoFr Z u0 ∧ u = (ov κ ar x Z G, sz))) 0 0 (g_A (ov κ ar x Z G) sz) := by
  refine g_ofW (by decide +kernel) (Nat.le_of_ble_eq_true rfl) ?_
  intro p e s m below meth c ls S hr hlk hin hE w hl
  have hx := S.1
  have hb := S.2.1
  have hl : lv_has ls 6 [(0, .long u0), (2, .null)] := hl
  refine lv_aload_nN hx hb dX8_plusFrame_0 rfl (lv_at hl 1 rfl) ?_
  refine lv_ifnonnullN hx hb dX8_plusFrame_1 ?_
  refine lv_lload_n hx hb dX8_plusFrame_4 rfl (lv_at hl 0 rfl) ?_
  exact g_lret hx hb hr hlk w (Nat.le_of_ble_eq_true rfl) (Nat.le_of_ble_eq_true rfl) dX8_plusFrame_5 ⟨((sX8_plusNoFr_u Z u0)).symm, rfl⟩
noncomputable def LX8_plusFrame_35 (i0 : Fin 12) : Nat → Int32 → Int64 → Ho → Int64
  | 0, _, _, Z => 0
  | nx1 + 1, x1, vx1, Z => if sX1_places Z i0 ≤ x1 then (vx1) else (LX8_plusFrame_35 i0 nx1 (x1 + 1) (sX8_plusValue Z vx1 (sX1_place Z i0 x1)) Z)
theorem LX8_plusFrame_35_u (i0 : Fin 12) (nx1 : Nat) (x1 : Int32) (vx1 : Int64) (Z : Ho) : LX8_plusFrame_35 i0 (nx1 + 1) x1 vx1 Z = if sX1_places Z i0 ≤ x1 then (vx1) else (LX8_plusFrame_35 i0 nx1 (x1 + 1) (sX8_plusValue Z vx1 (sX1_place Z i0 x1)) Z) := rfl
noncomputable def sX8_plusFrame (Z : Ho) (u0 : Int64) (i0 : Fin 12) : Int64 := LX8_plusFrame_35 i0 FU 0 (sX8_plus Z (sX8_plus Z (sX8_plus Z u0 ((sX1_cls Z i0).toInt64)) ((sX1_selector Z i0).toInt64)) (((Z.fr i0).w).toInt64)) Z
theorem sX8_plusFrame_u (Z : Ho) (u0 : Int64) (i0 : Fin 12) : sX8_plusFrame Z u0 i0 = LX8_plusFrame_35 i0 FU 0 (sX8_plus Z (sX8_plus Z (sX8_plus Z u0 ((sX1_cls Z i0).toInt64)) ((sX1_selector Z i0).toInt64)) (((Z.fr i0).w).toInt64)) Z := rfl
set_option maxHeartbeats 4000000 in
set_option maxRecDepth 100000 in
theorem hX8_plusFrame (l : Launch) (D : va_G) (ar : Nat → ClassId) (κ : Nat → Nat) (G : gW) (x : Xo) (Z : Ho) (sz : Nat) (u0 : Int64) (i0 : Fin 12) (hk : OK x Z) : Met l yX8_plusFrame (lwC yX8_plusFrame cX8_plusFrame 6 (some .long)) (rD 8 0 0) (g_Pc D vwCl (gT ar) (EX1 κ) (ov κ ar x Z G) sz [.long u0, .ref (x.f (.fr i0))]) (g_Ql D vwCl (g_A (ov κ ar x Z G) sz) (fun r u => r = sX8_plusFrame Z u0 i0 ∧ u = (ov κ ar x Z G, sz))) 0 0 (g_A (ov κ ar x Z G) sz) := by
  refine g_ofW (by decide +kernel) (Nat.le_of_ble_eq_true rfl) ?_
  intro p e s m below meth c ls S hr hlk hin hE w hl
  have hx := S.1
  have hb := S.2.1
  have hl : lv_has ls 6 [(0, .long u0), (2, .ref (x.f (.fr i0)))] := hl
  refine lv_aload_n hx hb dX8_plusFrame_0 rfl (lv_at hl 1 rfl) ?_
  refine lv_ifnonnull (tgt := 6) hx hb dX8_plusFrame_1 (by decide) ?_
  refine lv_lload_n hx hb dX8_plusFrame_6 rfl (lv_at hl 0 rfl) ?_
  refine lv_aload_n hx hb dX8_plusFrame_7 rfl (lv_at hl 1 rfl) ?_
  refine g_calli w (g_runV (As := []) (rest := [.long u0]) S hE w hl (hX1_cls l D ar κ G x Z sz i0 hk ) (k_RX8_319 S.2.2.2.2 ⟨Nat.le_of_ble_eq_true rfl, Nat.le_of_ble_eq_true rfl⟩) (ov_r (t := .fr i0) (hk.e (.fr i0) rfl)) rfl rfl rfl rfl (Nat.le_of_ble_eq_true rfl) dX8_plusFrame_8 ⟨Nat.le_of_ble_eq_true rfl, Nat.le_of_ble_eq_true rfl⟩) (fun r u H locs hp hnz w => ?_)
  obtain ⟨rfl, rfl⟩ := hp
  dsimp only at w
  refine lv_i2l hx hb dX8_plusFrame_11 rfl ?_
  refine g_calll w (g_runS (As := [.long u0, .long ((sX1_cls Z i0).toInt64)]) (rest := []) S hE w hl (hX8_plus l D ar κ G x Z sz u0 ((sX1_cls Z i0).toInt64) hk ) (k_RX8_453 S.2.2.2.2 ⟨Nat.le_of_ble_eq_true rfl, Nat.le_of_ble_eq_true rfl⟩) rfl rfl (Nat.le_of_ble_eq_true rfl) dX8_plusFrame_12 ⟨Nat.le_of_ble_eq_true rfl, Nat.le_of_ble_eq_true rfl⟩) (fun r u H locs hp hnz w => ?_)
  obtain ⟨rfl, rfl⟩ := hp
  dsimp only at w
  refine lv_aload_n hx hb dX8_plusFrame_15 rfl (lv_at hl 1 rfl) ?_
  refine g_calli w (g_runV (As := []) (rest := [.long (sX8_plus Z u0 ((sX1_cls Z i0).toInt64))]) S hE w hl (hX1_selector l D ar κ G x Z sz i0 hk ) (k_RX8_321 S.2.2.2.2 ⟨Nat.le_of_ble_eq_true rfl, Nat.le_of_ble_eq_true rfl⟩) (ov_r (t := .fr i0) (hk.e (.fr i0) rfl)) rfl rfl rfl rfl (Nat.le_of_ble_eq_true rfl) dX8_plusFrame_16 ⟨Nat.le_of_ble_eq_true rfl, Nat.le_of_ble_eq_true rfl⟩) (fun r u H locs hp hnz w => ?_)
  obtain ⟨rfl, rfl⟩ := hp
  dsimp only at w
  refine lv_i2l hx hb dX8_plusFrame_19 rfl ?_
  refine g_calll w (g_runS (As := [.long (sX8_plus Z u0 ((sX1_cls Z i0).toInt64)), .long ((sX1_selector Z i0).toInt64)]) (rest := []) S hE w hl (hX8_plus l D ar κ G x Z sz (sX8_plus Z u0 ((sX1_cls Z i0).toInt64)) ((sX1_selector Z i0).toInt64) hk ) (k_RX8_453 S.2.2.2.2 ⟨Nat.le_of_ble_eq_true rfl, Nat.le_of_ble_eq_true rfl⟩) rfl rfl (Nat.le_of_ble_eq_true rfl) dX8_plusFrame_20 ⟨Nat.le_of_ble_eq_true rfl, Nat.le_of_ble_eq_true rfl⟩) (fun r u H locs hp hnz w => ?_)
  obtain ⟨rfl, rfl⟩ := hp
  dsimp only at w
  refine lv_aload_n hx hb dX8_plusFrame_23 rfl (lv_at hl 1 rfl) ?_
  refine gf_RX8_324_7 (v := .int ((Z.fr i0).w)) S hE w (ov_r (t := .fr i0) (hk.e (.fr i0) rfl)) rfl dX8_plusFrame_24 ?_
  refine lv_i2l hx hb dX8_plusFrame_27 rfl ?_
  refine g_calll w (g_runS (As := [.long (sX8_plus Z (sX8_plus Z u0 ((sX1_cls Z i0).toInt64)) ((sX1_selector Z i0).toInt64)), .long (((Z.fr i0).w).toInt64)]) (rest := []) S hE w hl (hX8_plus l D ar κ G x Z sz (sX8_plus Z (sX8_plus Z u0 ((sX1_cls Z i0).toInt64)) ((sX1_selector Z i0).toInt64)) (((Z.fr i0).w).toInt64) hk ) (k_RX8_453 S.2.2.2.2 ⟨Nat.le_of_ble_eq_true rfl, Nat.le_of_ble_eq_true rfl⟩) rfl rfl (Nat.le_of_ble_eq_true rfl) dX8_plusFrame_28 ⟨Nat.le_of_ble_eq_true rfl, Nat.le_of_ble_eq_true rfl⟩) (fun r u H locs hp hnz w => ?_)
  obtain ⟨rfl, rfl⟩ := hp
  dsimp only at w
  refine lv_lstore_n (lv' := [(3, .long (sX8_plus Z (sX8_plus Z (sX8_plus Z u0 ((sX1_cls Z i0).toInt64)) ((sX1_selector Z i0).toInt64)) (((Z.fr i0).w).toInt64))), (0, .long u0), (2, .ref (x.f (.fr i0)))]) hx hb dX8_plusFrame_31 rfl hl (by decide) rfl (fun ls hl => ?_)
  refine lv_iconst (v := 0) hx hb dX8_plusFrame_32 (by decide) ?_
  refine lv_istore (lv' := [(5, .int 0), (3, .long (sX8_plus Z (sX8_plus Z (sX8_plus Z u0 ((sX1_cls Z i0).toInt64)) ((sX1_selector Z i0).toInt64)) (((Z.fr i0).w).toInt64))), (0, .long u0), (2, .ref (x.f (.fr i0)))]) hx hb dX8_plusFrame_33 hl (by decide) rfl (fun ls hl => ?_)
  have key4 : ∀ (nx1 ix1 : Nat), ix1 ≤ 2147483647 → 2147483647 + 1 ≤ ix1 + nx1 → ∀ (x1 : Int32), x1 = nI ix1 → ∀ (vx1 : Int64), sX8_plusFrame Z u0 i0 = LX8_plusFrame_35 i0 nx1 x1 vx1 Z → ∀ (H : Heap) (locs : List Loc) (ls : Array Slot), g_S D vwCl (g_A (ov κ ar x Z G) sz) s.heap (ov κ ar x Z G) H locs sz → lv_has ls 6 [(5, .int x1), (3, .long vx1), (0, .long u0), (2, .ref (x.f (.fr i0)))] → W p l e (rD 8 0 0) s m ([.long u0, .ref (x.f (.fr i0))] : List Value).toArray below meth c H locs 0 0 (MQ below (g_Ql D vwCl (g_A (ov κ ar x Z G) sz) (fun r u => r = sX8_plusFrame Z u0 i0 ∧ u = (ov κ ar x Z G, sz))) ([.long u0, .ref (x.f (.fr i0))] : List Value).toArray s 0 0 (g_A (ov κ ar x Z G) sz)) (F0 m 35 ls []) := by
    intro nx1
    induction nx1 with
    | zero => intro ix1 hix1 hi2; exact absurd hi2 (by omega)
    | succ nx1 ihx1 =>
      intro ix1 hix1 hi2 x1 exx1 vx1 hsp3 H locs ls w hl
      refine lv_iload hx hb dX8_plusFrame_35 (lv_at hl 0 rfl) ?_
      refine lv_aload_n hx hb dX8_plusFrame_37 rfl (lv_at hl 3 rfl) ?_
      refine g_calli w (g_runV (As := []) (rest := [.int x1]) S hE w hl (hX1_places l D ar κ G x Z sz i0 hk ) (k_RX8_275 S.2.2.2.2 ⟨Nat.le_of_ble_eq_true rfl, Nat.le_of_ble_eq_true rfl⟩) (ov_r (t := .fr i0) (hk.e (.fr i0) rfl)) rfl rfl rfl rfl (Nat.le_of_ble_eq_true rfl) dX8_plusFrame_38 ⟨Nat.le_of_ble_eq_true rfl, Nat.le_of_ble_eq_true rfl⟩) (fun r u H locs hp hnz w => ?_)
      obtain ⟨rfl, rfl⟩ := hp
      dsimp only at w
      refine lv_icmp_ge (tgt := 61) hx hb dX8_plusFrame_41 (by decide) (fun c_41 => ?_) (fun c_41 => ?_)
      · refine lv_lload_n hx hb dX8_plusFrame_61 rfl (lv_at hl 1 rfl) ?_
        exact g_lret hx hb hr hlk w (Nat.le_of_ble_eq_true rfl) (Nat.le_of_ble_eq_true rfl) dX8_plusFrame_62 ⟨(((hsp3).trans ((LX8_plusFrame_35_u i0 nx1 x1 vx1 Z).trans (if_pos c_41)))).symm, rfl⟩
      · refine lv_lload_n hx hb dX8_plusFrame_44 rfl (lv_at hl 1 rfl) ?_
        refine lv_aload_n hx hb dX8_plusFrame_45 rfl (lv_at hl 3 rfl) ?_
        refine lv_iload hx hb dX8_plusFrame_46 (lv_at hl 0 rfl) ?_
        refine g_calll w (g_runV (As := [.int x1]) (rest := [.long vx1]) S hE w hl (hX1_place l D ar κ G x Z sz i0 x1 hk ) (k_RX8_277 S.2.2.2.2 ⟨Nat.le_of_ble_eq_true rfl, Nat.le_of_ble_eq_true rfl⟩) (ov_r (t := .fr i0) (hk.e (.fr i0) rfl)) rfl rfl rfl rfl (Nat.le_of_ble_eq_true rfl) dX8_plusFrame_48 ⟨Nat.le_of_ble_eq_true rfl, Nat.le_of_ble_eq_true rfl⟩) (fun r u H locs hp hnz w => ?_)
        obtain ⟨rfl, rfl⟩ := hp
        dsimp only at w
        refine g_calll w (g_runS (As := [.long vx1, .long (sX1_place Z i0 x1)]) (rest := []) S hE w hl (hX8_plusValue l D ar κ G x Z sz vx1 (sX1_place Z i0 x1) hk ) (k_RX8_457 S.2.2.2.2 ⟨Nat.le_of_ble_eq_true rfl, Nat.le_of_ble_eq_true rfl⟩) rfl rfl (Nat.le_of_ble_eq_true rfl) dX8_plusFrame_51 ⟨Nat.le_of_ble_eq_true rfl, Nat.le_of_ble_eq_true rfl⟩) (fun r u H locs hp hnz w => ?_)
        obtain ⟨rfl, rfl⟩ := hp
        dsimp only at w
        refine lv_lstore_n (lv' := [(3, .long (sX8_plusValue Z vx1 (sX1_place Z i0 x1))), (5, .int x1), (0, .long u0), (2, .ref (x.f (.fr i0)))]) hx hb dX8_plusFrame_54 rfl hl (by decide) rfl (fun ls hl => ?_)
        refine lv_iinc (v := x1 + 1) (lv' := [(5, .int (x1 + 1)), (3, .long (sX8_plusValue Z vx1 (sX1_place Z i0 x1))), (0, .long u0), (2, .ref (x.f (.fr i0)))]) hx hb dX8_plusFrame_55 hl (k := 1) rfl rfl (by decide) rfl (fun ls hl => ?_)
        refine lv_goto (tgt := 35) hx hb dX8_plusFrame_58 (by decide) ?_
        exact ihx1 (ix1 + 1) (lp_fu exx1 hix1 c_41) (by omega) (x1 + 1) (by rw [exx1]; exact nI_1 ix1) (sX8_plusValue Z vx1 (sX1_place Z i0 x1)) ((hsp3).trans ((LX8_plusFrame_35_u i0 nx1 x1 vx1 Z).trans (if_neg c_41))) H _ ls w (lv_sub hl [0, 1, 2, 3] rfl)
  exact key4 FU 0 (Nat.zero_le _) (by rw [FU_e]; decide) 0 rfl (sX8_plus Z (sX8_plus Z (sX8_plus Z u0 ((sX1_cls Z i0).toInt64)) ((sX1_selector Z i0).toInt64)) (((Z.fr i0).w).toInt64)) (sX8_plusFrame_u Z u0 i0) _ _ _ w (lv_sub hl [0, 1, 2, 3] rfl)
noncomputable def LX8_checksum_94 : Nat → Int32 → Int64 → Ho → Int64
  | 0, _, _, Z => 0
  | nx9 + 1, x9, vx9, Z => if Z.fn ≤ x9 then ((vx9 * Z.wp) + Z.ws) else (oc (sX8_frameAt Z x9) (LX8_checksum_94 nx9 (x9 + 1) (sX8_plusNoFr Z vx9) Z) (fun k13 => LX8_checksum_94 nx9 (x9 + 1) (sX8_plusFrame Z vx9 k13) Z))
theorem LX8_checksum_94_u (nx9 : Nat) (x9 : Int32) (vx9 : Int64) (Z : Ho) : LX8_checksum_94 (nx9 + 1) x9 vx9 Z = if Z.fn ≤ x9 then ((vx9 * Z.wp) + Z.ws) else (oc (sX8_frameAt Z x9) (LX8_checksum_94 nx9 (x9 + 1) (sX8_plusNoFr Z vx9) Z) (fun k13 => LX8_checksum_94 nx9 (x9 + 1) (sX8_plusFrame Z vx9 k13) Z)) := rfl
noncomputable def LX8_checksum_52 (x1 : Int32) (vx1 : Int64) : Nat → Int32 → Int64 → Ho → Int64
  | 0, _, _, Z => 0
  | nx5 + 1, x5, vx5, Z => if Z.tc ≤ x5 then (LX8_checksum_94 FU 0 (sX8_plus Z vx5 Z.st.toInt64) Z) else (oc (sX5_inOrder Z x5) (LX8_checksum_52 x1 vx1 nx5 (x5 + 1) (sX8_plusNone Z vx5) Z) (fun k15 => LX8_checksum_52 x1 vx1 nx5 (x5 + 1) (sX8_plusThing Z vx5 k15) Z))
theorem LX8_checksum_52_u (x1 : Int32) (vx1 : Int64) (nx5 : Nat) (x5 : Int32) (vx5 : Int64) (Z : Ho) : LX8_checksum_52 x1 vx1 (nx5 + 1) x5 vx5 Z = if Z.tc ≤ x5 then (LX8_checksum_94 FU 0 (sX8_plus Z vx5 Z.st.toInt64) Z) else (oc (sX5_inOrder Z x5) (LX8_checksum_52 x1 vx1 nx5 (x5 + 1) (sX8_plusNone Z vx5) Z) (fun k15 => LX8_checksum_52 x1 vx1 nx5 (x5 + 1) (sX8_plusThing Z vx5 k15) Z)) := rfl
noncomputable def LX8_checksum_24 : Nat → Int32 → Int64 → Ho → Int64
  | 0, _, _, Z => 0
  | nx1 + 1, x1, vx1, Z => if 8 ≤ x1 then (LX8_checksum_52 x1 vx1 FU 0 vx1 Z) else (LX8_checksum_24 nx1 (x1 + 1) (sX8_plusValue Z vx1 (Z.gl (Int32.toNatClampNeg x1))) Z)
theorem LX8_checksum_24_u (nx1 : Nat) (x1 : Int32) (vx1 : Int64) (Z : Ho) : LX8_checksum_24 (nx1 + 1) x1 vx1 Z = if 8 ≤ x1 then (LX8_checksum_52 x1 vx1 FU 0 vx1 Z) else (LX8_checksum_24 nx1 (x1 + 1) (sX8_plusValue Z vx1 (Z.gl (Int32.toNatClampNeg x1))) Z) := rfl
noncomputable def sX8_checksum (Z : Ho) : Int64 := LX8_checksum_24 9 0 (sX8_plus Z 7 Z.sp.toInt64) Z
theorem sX8_checksum_u (Z : Ho) : sX8_checksum Z = LX8_checksum_24 9 0 (sX8_plus Z 7 Z.sp.toInt64) Z := rfl
set_option maxHeartbeats 4000000 in
set_option maxRecDepth 100000 in
theorem hX8_checksum (l : Launch) (D : va_G) (ar : Nat → ClassId) (κ : Nat → Nat) (G : gW) (x : Xo) (Z : Ho) (sz : Nat) (hk : OK x Z) : Met l yX8_checksum (lwC yX8_checksum cX8_checksum 8 (some .long)) (rD 9 0 0) (g_Pc D vwCl (gT ar) (EX1 κ) (ov κ ar x Z G) sz [.ref (x.f .ho)]) (g_Ql D vwCl (g_A (ov κ ar x Z G) sz) (fun r u => r = sX8_checksum Z ∧ u = (ov κ ar x Z G, sz))) 0 0 (g_A (ov κ ar x Z G) sz) := by
  refine g_ofW (by decide +kernel) (Nat.le_of_ble_eq_true rfl) ?_
  intro p e s m below meth c ls S hr hlk hin hE w hl
  have hx := S.1
  have hb := S.2.1
  have hl : lv_has ls 8 [(0, .ref (x.f .ho))] := hl
  refine lv_ldc2 hx hb S.2.2.2.1 (S.2.2.2.2 _ m_8_10) dX8_checksum_0 ?_
  refine lv_aload_n hx hb dX8_checksum_3 rfl (lv_at hl 0 rfl) ?_
  refine gf_RX8_66_14 (v := .int Z.sp) S hE w (ov_r (t := .ho) (hk.e (.ho) rfl)) rfl dX8_checksum_4 ?_
  refine lv_i2l hx hb dX8_checksum_7 rfl ?_
  refine g_calll w (g_runS (As := [.long 7, .long Z.sp.toInt64]) (rest := []) S hE w hl (hX8_plus l D ar κ G x Z sz 7 Z.sp.toInt64 hk ) (k_RX8_453 S.2.2.2.2 ⟨Nat.le_of_ble_eq_true rfl, Nat.le_of_ble_eq_true rfl⟩) rfl rfl (Nat.le_of_ble_eq_true rfl) dX8_checksum_8 ⟨Nat.le_of_ble_eq_true rfl, Nat.le_of_ble_eq_true rfl⟩) (fun r u H locs hp hnz w => ?_)
  obtain ⟨rfl, rfl⟩ := hp
  dsimp only at w
  refine lv_lstore_n (lv' := [(1, .long (sX8_plus Z 7 Z.sp.toInt64)), (0, .ref (x.f .ho))]) hx hb dX8_checksum_11 rfl hl (by decide) rfl (fun ls hl => ?_)
  refine lv_aload_n hx hb dX8_checksum_12 rfl (lv_at hl 1 rfl) ?_
  refine gf_RX8_33_14 (v := .ref (x.f .gl)) S hE w (ov_r (t := .ho) (hk.e (.ho) rfl)) rfl dX8_checksum_13 ?_
  refine lv_astore_n (lv' := [(3, .ref (x.f .gl)), (1, .long (sX8_plus Z 7 Z.sp.toInt64)), (0, .ref (x.f .ho))]) hx hb dX8_checksum_16 rfl hl (by decide) rfl (fun ls hl => ?_)
  refine lv_aload_n hx hb dX8_checksum_17 rfl (lv_at hl 0 rfl) ?_
  refine va_alen (v := 8) hx hb hE.1 (g_1 w.1 (ov_r (t := .gl) (hk.e (.gl) rfl))) 0 1 rfl rfl rfl dX8_checksum_18 ?_
  refine lv_istore (lv' := [(4, .int 8), (3, .ref (x.f .gl)), (1, .long (sX8_plus Z 7 Z.sp.toInt64)), (0, .ref (x.f .ho))]) hx hb dX8_checksum_19 hl (by decide) rfl (fun ls hl => ?_)
  refine lv_iconst (v := 0) hx hb dX8_checksum_21 (by decide) ?_
  refine lv_istore (lv' := [(5, .int 0), (4, .int 8), (3, .ref (x.f .gl)), (1, .long (sX8_plus Z 7 Z.sp.toInt64)), (0, .ref (x.f .ho))]) hx hb dX8_checksum_22 hl (by decide) rfl (fun ls hl => ?_)
  have key4 : ∀ (nx1 ix1 : Nat), ix1 ≤ 8 → 8 + 1 ≤ ix1 + nx1 → ∀ (x1 : Int32), x1 = nI ix1 → ∀ (vx1 : Int64), sX8_checksum Z = LX8_checksum_24 nx1 x1 vx1 Z → ∀ (H : Heap) (locs : List Loc) (ls : Array Slot), g_S D vwCl (g_A (ov κ ar x Z G) sz) s.heap (ov κ ar x Z G) H locs sz → lv_has ls 8 [(5, .int x1), (1, .long vx1), (4, .int 8), (3, .ref (x.f .gl)), (0, .ref (x.f .ho))] → W p l e (rD 9 0 0) s m ([.ref (x.f .ho)] : List Value).toArray below meth c H locs 0 0 (MQ below (g_Ql D vwCl (g_A (ov κ ar x Z G) sz) (fun r u => r = sX8_checksum Z ∧ u = (ov κ ar x Z G, sz))) ([.ref (x.f .ho)] : List Value).toArray s 0 0 (g_A (ov κ ar x Z G) sz)) (F0 m 24 ls []) := by
    intro nx1
    induction nx1 with
    | zero => intro ix1 hix1 hi2; exact absurd hi2 (by omega)
    | succ nx1 ihx1 =>
      intro ix1 hix1 hi2 x1 exx1 vx1 hsp3 H locs ls w hl
      refine lv_iload hx hb dX8_checksum_24 (lv_at hl 0 rfl) ?_
      refine lv_iload hx hb dX8_checksum_26 (lv_at hl 2 rfl) ?_
      refine lv_icmp_ge (tgt := 50) hx hb dX8_checksum_28 (by decide) (fun c_28 => ?_) (fun c_28 => ?_)
      · refine lv_iconst (v := 0) hx hb dX8_checksum_50 (by decide) ?_
        refine lv_istore_n (lv' := [(3, .int 0), (5, .int x1), (1, .long vx1), (4, .int 8), (0, .ref (x.f .ho))]) hx hb dX8_checksum_51 rfl hl (by decide) rfl (fun ls hl => ?_)
        have key8 : ∀ (nx5 ix5 : Nat), ix5 ≤ 2147483647 → 2147483647 + 1 ≤ ix5 + nx5 → ∀ (x5 : Int32), x5 = nI ix5 → ∀ (vx5 : Int64), sX8_checksum Z = LX8_checksum_52 x1 vx1 nx5 x5 vx5 Z → ∀ (H : Heap) (locs : List Loc) (ls : Array Slot), g_S D vwCl (g_A (ov κ ar x Z G) sz) s.heap (ov κ ar x Z G) H locs sz → lv_has ls 8 [(3, .int x5), (1, .long vx5), (0, .ref (x.f .ho))] → W p l e (rD 9 0 0) s m ([.ref (x.f .ho)] : List Value).toArray below meth c H locs 0 0 (MQ below (g_Ql D vwCl (g_A (ov κ ar x Z G) sz) (fun r u => r = sX8_checksum Z ∧ u = (ov κ ar x Z G, sz))) ([.ref (x.f .ho)] : List Value).toArray s 0 0 (g_A (ov κ ar x Z G) sz)) (F0 m 52 ls []) := by
          intro nx5
          induction nx5 with
          | zero => intro ix5 hix5 hi2; exact absurd hi2 (by omega)
          | succ nx5 ihx5 =>
            intro ix5 hix5 hi2 x5 exx5 vx5 hsp7 H locs ls w hl
            refine lv_iload_n hx hb dX8_checksum_52 rfl (lv_at hl 0 rfl) ?_
            refine lv_aload_n hx hb dX8_checksum_53 rfl (lv_at hl 2 rfl) ?_
            refine gf_RX8_40_14 (v := .ref (x.f .ts)) S hE w (ov_r (t := .ho) (hk.e (.ho) rfl)) rfl dX8_checksum_54 ?_
            refine gf_RX8_207_11 (v := .int Z.tc) S hE w (ov_r (t := .ts) (hk.e (.ts) rfl)) rfl dX8_checksum_57 ?_
            refine lv_icmp_ge (tgt := 82) hx hb dX8_checksum_60 (by decide) (fun c_60 => ?_) (fun c_60 => ?_)
            · refine lv_lload_n hx hb dX8_checksum_82 rfl (lv_at hl 1 rfl) ?_
              refine lv_aload_n hx hb dX8_checksum_83 rfl (lv_at hl 2 rfl) ?_
              refine gf_RX8_53_14 (v := .int Z.st) S hE w (ov_r (t := .ho) (hk.e (.ho) rfl)) rfl dX8_checksum_84 ?_
              refine lv_i2l hx hb dX8_checksum_87 rfl ?_
              refine g_calll w (g_runS (As := [.long vx5, .long Z.st.toInt64]) (rest := []) S hE w hl (hX8_plus l D ar κ G x Z sz vx5 Z.st.toInt64 hk ) (k_RX8_453 S.2.2.2.2 ⟨Nat.le_of_ble_eq_true rfl, Nat.le_of_ble_eq_true rfl⟩) rfl rfl (Nat.le_of_ble_eq_true rfl) dX8_checksum_88 ⟨Nat.le_of_ble_eq_true rfl, Nat.le_of_ble_eq_true rfl⟩) (fun r u H locs hp hnz w => ?_)
              obtain ⟨rfl, rfl⟩ := hp
              dsimp only at w
              refine lv_lstore_n (lv' := [(1, .long (sX8_plus Z vx5 Z.st.toInt64)), (3, .int x5), (0, .ref (x.f .ho))]) hx hb dX8_checksum_91 rfl hl (by decide) rfl (fun ls hl => ?_)
              refine lv_iconst (v := 0) hx hb dX8_checksum_92 (by decide) ?_
              refine lv_istore_n (lv' := [(3, .int 0), (1, .long (sX8_plus Z vx5 Z.st.toInt64)), (0, .ref (x.f .ho))]) hx hb dX8_checksum_93 rfl hl (by decide) rfl (fun ls hl => ?_)
              have key12 : ∀ (nx9 ix9 : Nat), ix9 ≤ 2147483647 → 2147483647 + 1 ≤ ix9 + nx9 → ∀ (x9 : Int32), x9 = nI ix9 → ∀ (vx9 : Int64), sX8_checksum Z = LX8_checksum_94 nx9 x9 vx9 Z → ∀ (H : Heap) (locs : List Loc) (ls : Array Slot), g_S D vwCl (g_A (ov κ ar x Z G) sz) s.heap (ov κ ar x Z G) H locs sz → lv_has ls 8 [(3, .int x9), (1, .long vx9), (0, .ref (x.f .ho))] → W p l e (rD 9 0 0) s m ([.ref (x.f .ho)] : List Value).toArray below meth c H locs 0 0 (MQ below (g_Ql D vwCl (g_A (ov κ ar x Z G) sz) (fun r u => r = sX8_checksum Z ∧ u = (ov κ ar x Z G, sz))) ([.ref (x.f .ho)] : List Value).toArray s 0 0 (g_A (ov κ ar x Z G) sz)) (F0 m 94 ls []) := by
                intro nx9
                induction nx9 with
                | zero => intro ix9 hix9 hi2; exact absurd hi2 (by omega)
                | succ nx9 ihx9 =>
                  intro ix9 hix9 hi2 x9 exx9 vx9 hsp11 H locs ls w hl
                  refine lv_iload_n hx hb dX8_checksum_94 rfl (lv_at hl 0 rfl) ?_
                  refine lv_aload_n hx hb dX8_checksum_95 rfl (lv_at hl 2 rfl) ?_
                  refine gf_RX8_50_14 (v := .int Z.fn) S hE w (ov_r (t := .ho) (hk.e (.ho) rfl)) rfl dX8_checksum_96 ?_
                  refine lv_icmp_ge (tgt := 118) hx hb dX8_checksum_99 (by decide) (fun c_99 => ?_) (fun c_99 => ?_)
                  · refine lv_lload_n hx hb dX8_checksum_118 rfl (lv_at hl 1 rfl) ?_
                    refine lv_aload_n hx hb dX8_checksum_119 rfl (lv_at hl 2 rfl) ?_
                    refine gf_RX8_72_14 (v := .ref (x.f .wr)) S hE w (ov_r (t := .ho) (hk.e (.ho) rfl)) rfl dX8_checksum_120 ?_
                    refine gf_RX8_471_13 (v := .long Z.wp) S hE w (ov_r (t := .wr) (hk.e (.wr) rfl)) rfl dX8_checksum_123 ?_
                    refine lv_lmul hx hb dX8_checksum_126 ?_
                    refine lv_aload_n hx hb dX8_checksum_127 rfl (lv_at hl 2 rfl) ?_
                    refine gf_RX8_72_14 (v := .ref (x.f .wr)) S hE w (ov_r (t := .ho) (hk.e (.ho) rfl)) rfl dX8_checksum_128 ?_
                    refine gf_RX8_474_13 (v := .long Z.ws) S hE w (ov_r (t := .wr) (hk.e (.wr) rfl)) rfl dX8_checksum_131 ?_
                    refine lv_ladd hx hb dX8_checksum_134 ?_
                    exact g_lret hx hb hr hlk w (Nat.le_of_ble_eq_true rfl) (Nat.le_of_ble_eq_true rfl) dX8_checksum_135 ⟨(((hsp11).trans ((LX8_checksum_94_u nx9 x9 vx9 Z).trans (if_pos c_99)))).symm, rfl⟩
                  · refine lv_lload_n hx hb dX8_checksum_102 rfl (lv_at hl 1 rfl) ?_
                    refine lv_aload_n hx hb dX8_checksum_103 rfl (lv_at hl 2 rfl) ?_
                    refine lv_iload_n hx hb dX8_checksum_104 rfl (lv_at hl 0 rfl) ?_
                    refine g_callq w (g_runV (As := [.int x9]) (rest := [.long vx9]) S hE w hl (hX8_frameAt l D ar κ G x Z sz x9 hk ) (k_RX8_251 S.2.2.2.2 ⟨Nat.le_of_ble_eq_true rfl, Nat.le_of_ble_eq_true rfl⟩) (ov_r (t := .ho) (hk.e (.ho) rfl)) rfl rfl rfl rfl (Nat.le_of_ble_eq_true rfl) dX8_checksum_105 ⟨Nat.le_of_ble_eq_true rfl, Nat.le_of_ble_eq_true rfl⟩) (fun r u H locs hp hnz w => ?_)
                    obtain ⟨rfl, rfl⟩ := hp
                    dsimp only at w
                    rcases he14 : sX8_frameAt Z x9 with _ | k13
                    · show W p l e _ s m _ below meth c _ _ _ _ _ (F0 m 108 ls [.null, .long vx9])
                      refine g_calll w (g_runS (As := [.long vx9, .null]) (rest := []) S hE w hl (hX8_plusNoFr l D ar κ G x Z sz vx9 hk ) (k_RX8_467 S.2.2.2.2 ⟨Nat.le_of_ble_eq_true rfl, Nat.le_of_ble_eq_true rfl⟩) rfl rfl (Nat.le_of_ble_eq_true rfl) dX8_checksum_108 ⟨Nat.le_of_ble_eq_true rfl, Nat.le_of_ble_eq_true rfl⟩) (fun r u H locs hp hnz w => ?_)
                      obtain ⟨hr9, rfl⟩ := hp; rw [hr9]; clear hr9
                      dsimp only at w
                      refine lv_lstore_n (lv' := [(1, .long (sX8_plusNoFr Z vx9)), (3, .int x9), (0, .ref (x.f .ho))]) hx hb dX8_checksum_111 rfl hl (by decide) rfl (fun ls hl => ?_)
                      refine lv_iinc (v := x9 + 1) (lv' := [(3, .int (x9 + 1)), (1, .long (sX8_plusNoFr Z vx9)), (0, .ref (x.f .ho))]) hx hb dX8_checksum_112 hl (k := 1) rfl rfl (by decide) rfl (fun ls hl => ?_)
                      refine lv_goto (tgt := 94) hx hb dX8_checksum_115 (by decide) ?_
                      exact ihx9 (ix9 + 1) (lp_fu exx9 hix9 c_99) (by omega) (x9 + 1) (by rw [exx9]; exact nI_1 ix9) (sX8_plusNoFr Z vx9) ((hsp11).trans ((LX8_checksum_94_u nx9 x9 vx9 Z).trans ((if_neg c_99).trans (oc_n he14)))) H _ ls w (lv_sub hl [0, 1, 2] rfl)
                    · show W p l e _ s m _ below meth c _ _ _ _ _ (F0 m 108 ls [.ref (x.f (.fr k13)), .long vx9])
                      refine g_calll w (g_runS (As := [.long vx9, .ref (x.f (.fr k13))]) (rest := []) S hE w hl (hX8_plusFrame l D ar κ G x Z sz vx9 k13 hk ) (k_RX8_467 S.2.2.2.2 ⟨Nat.le_of_ble_eq_true rfl, Nat.le_of_ble_eq_true rfl⟩) rfl rfl (Nat.le_of_ble_eq_true rfl) dX8_checksum_108 ⟨Nat.le_of_ble_eq_true rfl, Nat.le_of_ble_eq_true rfl⟩) (fun r u H locs hp hnz w => ?_)
                      obtain ⟨rfl, rfl⟩ := hp
                      dsimp only at w
                      refine lv_lstore_n (lv' := [(1, .long (sX8_plusFrame Z vx9 k13)), (3, .int x9), (0, .ref (x.f .ho))]) hx hb dX8_checksum_111 rfl hl (by decide) rfl (fun ls hl => ?_)
                      refine lv_iinc (v := x9 + 1) (lv' := [(3, .int (x9 + 1)), (1, .long (sX8_plusFrame Z vx9 k13)), (0, .ref (x.f .ho))]) hx hb dX8_checksum_112 hl (k := 1) rfl rfl (by decide) rfl (fun ls hl => ?_)
                      refine lv_goto (tgt := 94) hx hb dX8_checksum_115 (by decide) ?_
                      exact ihx9 (ix9 + 1) (lp_fu exx9 hix9 c_99) (by omega) (x9 + 1) (by rw [exx9]; exact nI_1 ix9) (sX8_plusFrame Z vx9 k13) ((hsp11).trans ((LX8_checksum_94_u nx9 x9 vx9 Z).trans ((if_neg c_99).trans (oc_s he14)))) H _ ls w (lv_sub hl [0, 1, 2] rfl)
              exact key12 FU 0 (Nat.zero_le _) (by rw [FU_e]; decide) 0 rfl (sX8_plus Z vx5 Z.st.toInt64) ((hsp7).trans ((LX8_checksum_52_u x1 vx1 nx5 x5 vx5 Z).trans (if_pos c_60))) _ _ _ w (lv_sub hl [0, 1, 2] rfl)
            · refine lv_lload_n hx hb dX8_checksum_63 rfl (lv_at hl 1 rfl) ?_
              refine lv_aload_n hx hb dX8_checksum_64 rfl (lv_at hl 2 rfl) ?_
              refine gf_RX8_40_14 (v := .ref (x.f .ts)) S hE w (ov_r (t := .ho) (hk.e (.ho) rfl)) rfl dX8_checksum_65 ?_
              refine lv_iload_n hx hb dX8_checksum_68 rfl (lv_at hl 0 rfl) ?_
              refine g_callq w (g_runV (As := [.int x5]) (rest := [.long vx5]) S hE w hl (hX5_inOrder l D ar κ G x Z sz x5 hk ) (k_RX8_460 S.2.2.2.2 ⟨Nat.le_of_ble_eq_true rfl, Nat.le_of_ble_eq_true rfl⟩) (ov_r (t := .ts) (hk.e (.ts) rfl)) rfl rfl rfl rfl (Nat.le_of_ble_eq_true rfl) dX8_checksum_69 ⟨Nat.le_of_ble_eq_true rfl, Nat.le_of_ble_eq_true rfl⟩) (fun r u H locs hp hnz w => ?_)
              obtain ⟨rfl, rfl⟩ := hp
              dsimp only at w
              rcases he16 : sX5_inOrder Z x5 with _ | k15
              · show W p l e _ s m _ below meth c _ _ _ _ _ (F0 m 72 ls [.null, .long vx5])
                refine g_calll w (g_runS (As := [.long vx5, .null]) (rest := []) S hE w hl (hX8_plusNone l D ar κ G x Z sz vx5 hk ) (k_RX8_463 S.2.2.2.2 ⟨Nat.le_of_ble_eq_true rfl, Nat.le_of_ble_eq_true rfl⟩) rfl rfl (Nat.le_of_ble_eq_true rfl) dX8_checksum_72 ⟨Nat.le_of_ble_eq_true rfl, Nat.le_of_ble_eq_true rfl⟩) (fun r u H locs hp hnz w => ?_)
                obtain ⟨hr9, rfl⟩ := hp; rw [hr9]; clear hr9
                dsimp only at w
                refine lv_lstore_n (lv' := [(1, .long (sX8_plusNone Z vx5)), (3, .int x5), (0, .ref (x.f .ho))]) hx hb dX8_checksum_75 rfl hl (by decide) rfl (fun ls hl => ?_)
                refine lv_iinc (v := x5 + 1) (lv' := [(3, .int (x5 + 1)), (1, .long (sX8_plusNone Z vx5)), (0, .ref (x.f .ho))]) hx hb dX8_checksum_76 hl (k := 1) rfl rfl (by decide) rfl (fun ls hl => ?_)
                refine lv_goto (tgt := 52) hx hb dX8_checksum_79 (by decide) ?_
                exact ihx5 (ix5 + 1) (lp_fu exx5 hix5 c_60) (by omega) (x5 + 1) (by rw [exx5]; exact nI_1 ix5) (sX8_plusNone Z vx5) ((hsp7).trans ((LX8_checksum_52_u x1 vx1 nx5 x5 vx5 Z).trans ((if_neg c_60).trans (oc_n he16)))) H _ ls w (lv_sub hl [0, 1, 2] rfl)
              · show W p l e _ s m _ below meth c _ _ _ _ _ (F0 m 72 ls [.ref (x.f (.th k15)), .long vx5])
                refine g_calll w (g_runS (As := [.long vx5, .ref (x.f (.th k15))]) (rest := []) S hE w hl (hX8_plusThing l D ar κ G x Z sz vx5 k15 hk ) (k_RX8_463 S.2.2.2.2 ⟨Nat.le_of_ble_eq_true rfl, Nat.le_of_ble_eq_true rfl⟩) rfl rfl (Nat.le_of_ble_eq_true rfl) dX8_checksum_72 ⟨Nat.le_of_ble_eq_true rfl, Nat.le_of_ble_eq_true rfl⟩) (fun r u H locs hp hnz w => ?_)
                obtain ⟨rfl, rfl⟩ := hp
                dsimp only at w
                refine lv_lstore_n (lv' := [(1, .long (sX8_plusThing Z vx5 k15)), (3, .int x5), (0, .ref (x.f .ho))]) hx hb dX8_checksum_75 rfl hl (by decide) rfl (fun ls hl => ?_)
                refine lv_iinc (v := x5 + 1) (lv' := [(3, .int (x5 + 1)), (1, .long (sX8_plusThing Z vx5 k15)), (0, .ref (x.f .ho))]) hx hb dX8_checksum_76 hl (k := 1) rfl rfl (by decide) rfl (fun ls hl => ?_)
                refine lv_goto (tgt := 52) hx hb dX8_checksum_79 (by decide) ?_
                exact ihx5 (ix5 + 1) (lp_fu exx5 hix5 c_60) (by omega) (x5 + 1) (by rw [exx5]; exact nI_1 ix5) (sX8_plusThing Z vx5 k15) ((hsp7).trans ((LX8_checksum_52_u x1 vx1 nx5 x5 vx5 Z).trans ((if_neg c_60).trans (oc_s he16)))) H _ ls w (lv_sub hl [0, 1, 2] rfl)
        exact key8 FU 0 (Nat.zero_le _) (by rw [FU_e]; decide) 0 rfl vx1 ((hsp3).trans ((LX8_checksum_24_u nx1 x1 vx1 Z).trans (if_pos c_28))) _ _ _ w (lv_sub hl [0, 2, 4] rfl)
      · refine lv_aload_n hx hb dX8_checksum_31 rfl (lv_at hl 3 rfl) ?_
        refine lv_iload hx hb dX8_checksum_32 (lv_at hl 0 rfl) ?_
        refine va_lald hx hb hE.1 (g_1 w.1 (ov_r (t := .gl) (hk.e (.gl) rfl))) 0 1 rfl rfl (in_lt (n := 8) rfl exx1 hix1 (by decide) (by decide) c_28) dX8_checksum_34 ?_
        show W p l e _ s m _ below meth c _ _ _ _ _ (F0 m 35 ls [.long (Z.gl (Int32.toNatClampNeg x1))])
        refine lv_lstore (lv' := [(6, .long (Z.gl (Int32.toNatClampNeg x1))), (5, .int x1), (1, .long vx1), (4, .int 8), (3, .ref (x.f .gl)), (0, .ref (x.f .ho))]) hx hb dX8_checksum_35 hl (by decide) rfl (fun ls hl => ?_)
        refine lv_lload_n hx hb dX8_checksum_37 rfl (lv_at hl 2 rfl) ?_
        refine lv_lload hx hb dX8_checksum_38 (lv_at hl 0 rfl) ?_
        refine g_calll w (g_runS (As := [.long vx1, .long (Z.gl (Int32.toNatClampNeg x1))]) (rest := []) S hE w hl (hX8_plusValue l D ar κ G x Z sz vx1 (Z.gl (Int32.toNatClampNeg x1)) hk ) (k_RX8_457 S.2.2.2.2 ⟨Nat.le_of_ble_eq_true rfl, Nat.le_of_ble_eq_true rfl⟩) rfl rfl (Nat.le_of_ble_eq_true rfl) dX8_checksum_40 ⟨Nat.le_of_ble_eq_true rfl, Nat.le_of_ble_eq_true rfl⟩) (fun r u H locs hp hnz w => ?_)
        obtain ⟨rfl, rfl⟩ := hp
        dsimp only at w
        refine lv_lstore_n (lv' := [(1, .long (sX8_plusValue Z vx1 (Z.gl (Int32.toNatClampNeg x1)))), (6, .long (Z.gl (Int32.toNatClampNeg x1))), (5, .int x1), (4, .int 8), (3, .ref (x.f .gl)), (0, .ref (x.f .ho))]) hx hb dX8_checksum_43 rfl hl (by decide) rfl (fun ls hl => ?_)
        refine lv_iinc (v := x1 + 1) (lv' := [(5, .int (x1 + 1)), (1, .long (sX8_plusValue Z vx1 (Z.gl (Int32.toNatClampNeg x1)))), (6, .long (Z.gl (Int32.toNatClampNeg x1))), (4, .int 8), (3, .ref (x.f .gl)), (0, .ref (x.f .ho))]) hx hb dX8_checksum_44 hl (k := 2) rfl rfl (by decide) rfl (fun ls hl => ?_)
        refine lv_goto (tgt := 24) hx hb dX8_checksum_47 (by decide) ?_
        exact ihx1 (ix1 + 1) (lp_up (n := 8) rfl exx1 hix1 (by decide) (by decide) (by decide) c_28) (by omega) (x1 + 1) (by rw [exx1]; exact nI_1 ix1) (sX8_plusValue Z vx1 (Z.gl (Int32.toNatClampNeg x1))) ((hsp3).trans ((LX8_checksum_24_u nx1 x1 vx1 Z).trans (if_neg c_28))) H _ ls w (lv_sub hl [0, 1, 3, 4, 5] rfl)
  exact key4 9 0 (Nat.zero_le _) (by decide) 0 rfl (sX8_plus Z 7 Z.sp.toInt64) (sX8_checksum_u Z) _ _ _ w (lv_sub hl [0, 3, 1, 2, 4] rfl)
