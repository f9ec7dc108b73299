theorem dJ7_fill_53178_0 : decode cJ7_fill_53178 0 = .ok (.iconst 0, 1) := by decide +kernel
theorem dJ7_fill_53178_1 : decode cJ7_fill_53178 1 = .ok (.istore_n 2, 1) := by decide +kernel
theorem dJ7_fill_53178_2 : decode cJ7_fill_53178 2 = .ok (.aload_n 0, 1) := by decide +kernel
theorem dJ7_fill_53178_3 : decode cJ7_fill_53178 3 = .ok (.arraylength, 1) := by decide +kernel
theorem dJ7_fill_53178_4 : decode cJ7_fill_53178 4 = .ok (.istore_n 3, 1) := by decide +kernel
theorem dJ7_fill_53178_5 : decode cJ7_fill_53178 5 = .ok (.iload_n 2, 1) := by decide +kernel
theorem dJ7_fill_53178_6 : decode cJ7_fill_53178 6 = .ok (.iload_n 3, 1) := by decide +kernel
theorem dJ7_fill_53178_7 : decode cJ7_fill_53178 7 = .ok (.if_icmp .ge 13, 3) := by decide +kernel
theorem dJ7_fill_53178_10 : decode cJ7_fill_53178 10 = .ok (.aload_n 0, 1) := by decide +kernel
theorem dJ7_fill_53178_11 : decode cJ7_fill_53178 11 = .ok (.iload_n 2, 1) := by decide +kernel
theorem dJ7_fill_53178_12 : decode cJ7_fill_53178 12 = .ok (.iload_n 1, 1) := by decide +kernel
theorem dJ7_fill_53178_13 : decode cJ7_fill_53178 13 = .ok (.iastore, 1) := by decide +kernel
theorem dJ7_fill_53178_14 : decode cJ7_fill_53178 14 = .ok (.iinc 2 1, 3) := by decide +kernel
theorem dJ7_fill_53178_17 : decode cJ7_fill_53178 17 = .ok (.goto (-12), 3) := by decide +kernel
theorem dJ7_fill_53178_20 : decode cJ7_fill_53178 20 = .ok (.return_, 1) := by decide +kernel
theorem dX3_comeTo_0 : decode cX3_comeTo 0 = .ok (.iload_n 1, 1) := by decide +kernel
theorem dX3_comeTo_1 : decode cX3_comeTo 1 = .ok (.aload_n 0, 1) := by decide +kernel
theorem dX3_comeTo_2 : decode cX3_comeTo 2 = .ok (.getfield 28, 3) := by decide +kernel
theorem dX3_comeTo_5 : decode cX3_comeTo 5 = .ok (.invokestatic 35, 3) := by decide +kernel
theorem dX3_comeTo_8 : decode cX3_comeTo 8 = .ok (.ifCond .eq 18, 3) := by decide +kernel
theorem dX3_comeTo_11 : decode cX3_comeTo 11 = .ok (.iload_n 1, 1) := by decide +kernel
theorem dX3_comeTo_12 : decode cX3_comeTo 12 = .ok (.bipush 24, 2) := by decide +kernel
theorem dX3_comeTo_14 : decode cX3_comeTo 14 = .ok (.invokestatic 35, 3) := by decide +kernel
theorem dX3_comeTo_17 : decode cX3_comeTo 17 = .ok (.ifCond .eq 9, 3) := by decide +kernel
theorem dX3_comeTo_20 : decode cX3_comeTo 20 = .ok (.iload_n 2, 1) := by decide +kernel
theorem dX3_comeTo_21 : decode cX3_comeTo 21 = .ok (.bipush 8, 2) := by decide +kernel
theorem dX3_comeTo_23 : decode cX3_comeTo 23 = .ok (.if_icmp .le 5, 3) := by decide +kernel
theorem dX3_comeTo_26 : decode cX3_comeTo 26 = .ok (.iconst 0, 1) := by decide +kernel
theorem dX3_comeTo_27 : decode cX3_comeTo 27 = .ok (.ireturn, 1) := by decide +kernel
theorem dX3_comeTo_28 : decode cX3_comeTo 28 = .ok (.aload_n 0, 1) := by decide +kernel
theorem dX3_comeTo_29 : decode cX3_comeTo 29 = .ok (.getfield 22, 3) := by decide +kernel
theorem dX3_comeTo_32 : decode cX3_comeTo 32 = .ok (.iload_n 1, 1) := by decide +kernel
theorem dX3_comeTo_33 : decode cX3_comeTo 33 = .ok (.iaload, 1) := by decide +kernel
theorem dX3_comeTo_34 : decode cX3_comeTo 34 = .ok (.iconst (-1), 1) := by decide +kernel
theorem dX3_comeTo_35 : decode cX3_comeTo 35 = .ok (.if_icmp .eq 19, 3) := by decide +kernel
theorem dX3_comeTo_38 : decode cX3_comeTo 38 = .ok (.aload_n 0, 1) := by decide +kernel
theorem dX3_comeTo_39 : decode cX3_comeTo 39 = .ok (.getfield 22, 3) := by decide +kernel
theorem dX3_comeTo_42 : decode cX3_comeTo 42 = .ok (.iload_n 1, 1) := by decide +kernel
theorem dX3_comeTo_43 : decode cX3_comeTo 43 = .ok (.iaload, 1) := by decide +kernel
theorem dX3_comeTo_44 : decode cX3_comeTo 44 = .ok (.iload_n 2, 1) := by decide +kernel
theorem dX3_comeTo_45 : decode cX3_comeTo 45 = .ok (.if_icmp .ne 7, 3) := by decide +kernel
theorem dX3_comeTo_48 : decode cX3_comeTo 48 = .ok (.iconst 1, 1) := by decide +kernel
theorem dX3_comeTo_49 : decode cX3_comeTo 49 = .ok (.goto 4, 3) := by decide +kernel
theorem dX3_comeTo_52 : decode cX3_comeTo 52 = .ok (.iconst 0, 1) := by decide +kernel
theorem dX3_comeTo_53 : decode cX3_comeTo 53 = .ok (.ireturn, 1) := by decide +kernel
theorem dX3_comeTo_54 : decode cX3_comeTo 54 = .ok (.aload_n 0, 1) := by decide +kernel
theorem dX3_comeTo_55 : decode cX3_comeTo 55 = .ok (.getfield 22, 3) := by decide +kernel
theorem dX3_comeTo_58 : decode cX3_comeTo 58 = .ok (.iload_n 1, 1) := by decide +kernel
theorem dX3_comeTo_59 : decode cX3_comeTo 59 = .ok (.iload_n 2, 1) := by decide +kernel
theorem dX3_comeTo_60 : decode cX3_comeTo 60 = .ok (.iastore, 1) := by decide +kernel
theorem dX3_comeTo_61 : decode cX3_comeTo 61 = .ok (.aload_n 0, 1) := by decide +kernel
theorem dX3_comeTo_62 : decode cX3_comeTo 62 = .ok (.getfield 32, 3) := by decide +kernel
theorem dX3_comeTo_65 : decode cX3_comeTo 65 = .ok (.bipush 24, 2) := by decide +kernel
theorem dX3_comeTo_67 : decode cX3_comeTo 67 = .ok (.invokestatic 35, 3) := by decide +kernel
theorem dX3_comeTo_70 : decode cX3_comeTo 70 = .ok (.ifCond .eq 23, 3) := by decide +kernel
theorem dX3_comeTo_73 : decode cX3_comeTo 73 = .ok (.aload_n 0, 1) := by decide +kernel
theorem dX3_comeTo_74 : decode cX3_comeTo 74 = .ok (.getfield 25, 3) := by decide +kernel
theorem dX3_comeTo_77 : decode cX3_comeTo 77 = .ok (.aload_n 0, 1) := by decide +kernel
theorem dX3_comeTo_78 : decode cX3_comeTo 78 = .ok (.getfield 32, 3) := by decide +kernel
theorem dX3_comeTo_81 : decode cX3_comeTo 81 = .ok (.iload_n 1, 1) := by decide +kernel
theorem dX3_comeTo_82 : decode cX3_comeTo 82 = .ok (.iastore, 1) := by decide +kernel
theorem dX3_comeTo_83 : decode cX3_comeTo 83 = .ok (.aload_n 0, 1) := by decide +kernel
theorem dX3_comeTo_84 : decode cX3_comeTo 84 = .ok (.dup, 1) := by decide +kernel
theorem dX3_comeTo_85 : decode cX3_comeTo 85 = .ok (.getfield 32, 3) := by decide +kernel
theorem dX3_comeTo_88 : decode cX3_comeTo 88 = .ok (.iconst 1, 1) := by decide +kernel
theorem dX3_comeTo_89 : decode cX3_comeTo 89 = .ok (.iadd, 1) := by decide +kernel
theorem dX3_comeTo_90 : decode cX3_comeTo 90 = .ok (.putfield 32, 3) := by decide +kernel
theorem dX3_comeTo_93 : decode cX3_comeTo 93 = .ok (.iconst 1, 1) := by decide +kernel
theorem dX3_comeTo_94 : decode cX3_comeTo 94 = .ok (.ireturn, 1) := by decide +kernel
theorem dX3_comeToFirst_0 : decode cX3_comeToFirst 0 = .ok (.aload_n 0, 1) := by decide +kernel
theorem dX3_comeToFirst_1 : decode cX3_comeToFirst 1 = .ok (.getfield 22, 3) := by decide +kernel
theorem dX3_comeToFirst_4 : decode cX3_comeToFirst 4 = .ok (.iconst (-1), 1) := by decide +kernel
theorem dX3_comeToFirst_5 : decode cX3_comeToFirst 5 = .ok (.invokestatic 39, 3) := by decide +kernel
theorem dX3_comeToFirst_8 : decode cX3_comeToFirst 8 = .ok (.aload_n 0, 1) := by decide +kernel
theorem dX3_comeToFirst_9 : decode cX3_comeToFirst 9 = .ok (.iconst 0, 1) := by decide +kernel
theorem dX3_comeToFirst_10 : decode cX3_comeToFirst 10 = .ok (.putfield 32, 3) := by decide +kernel
theorem dX3_comeToFirst_13 : decode cX3_comeToFirst 13 = .ok (.aload_n 0, 1) := by decide +kernel
theorem dX3_comeToFirst_14 : decode cX3_comeToFirst 14 = .ok (.iconst 0, 1) := by decide +kernel
theorem dX3_comeToFirst_15 : decode cX3_comeToFirst 15 = .ok (.iconst 0, 1) := by decide +kernel
theorem dX3_comeToFirst_16 : decode cX3_comeToFirst 16 = .ok (.invokevirtual 45, 3) := by decide +kernel
theorem dX3_comeToFirst_19 : decode cX3_comeToFirst 19 = .ok (.ireturn, 1) := by decide +kernel
theorem dX3_leadOnFrom_0 : decode cX3_leadOnFrom 0 = .ok (.aload_n 0, 1) := by decide +kernel
theorem dX3_leadOnFrom_1 : decode cX3_leadOnFrom 1 = .ok (.iload_n 1, 1) := by decide +kernel
theorem dX3_leadOnFrom_2 : decode cX3_leadOnFrom 2 = .ok (.invokevirtual 47, 3) := by decide +kernel
theorem dX3_leadOnFrom_5 : decode cX3_leadOnFrom 5 = .ok (.istore_n 2, 1) := by decide +kernel
theorem dX3_leadOnFrom_6 : decode cX3_leadOnFrom 6 = .ok (.iload_n 2, 1) := by decide +kernel
theorem dX3_leadOnFrom_7 : decode cX3_leadOnFrom 7 = .ok (.aload_n 0, 1) := by decide +kernel
theorem dX3_leadOnFrom_8 : decode cX3_leadOnFrom 8 = .ok (.iload_n 1, 1) := by decide +kernel
theorem dX3_leadOnFrom_9 : decode cX3_leadOnFrom 9 = .ok (.invokevirtual 51, 3) := by decide +kernel
theorem dX3_leadOnFrom_12 : decode cX3_leadOnFrom 12 = .ok (.invokestatic 55, 3) := by decide +kernel
theorem dX3_leadOnFrom_15 : decode cX3_leadOnFrom 15 = .ok (.istore_n 3, 1) := by decide +kernel
theorem dX3_leadOnFrom_16 : decode cX3_leadOnFrom 16 = .ok (.iload_n 3, 1) := by decide +kernel
theorem dX3_leadOnFrom_17 : decode cX3_leadOnFrom 17 = .ok (.aload_n 0, 1) := by decide +kernel
theorem dX3_leadOnFrom_18 : decode cX3_leadOnFrom 18 = .ok (.iload_n 1, 1) := by decide +kernel
theorem dX3_leadOnFrom_19 : decode cX3_leadOnFrom 19 = .ok (.invokevirtual 59, 3) := by decide +kernel
theorem dX3_leadOnFrom_22 : decode cX3_leadOnFrom 22 = .ok (.if_icmp .le 5, 3) := by decide +kernel
theorem dX3_leadOnFrom_25 : decode cX3_leadOnFrom 25 = .ok (.iconst 0, 1) := by decide +kernel
theorem dX3_leadOnFrom_26 : decode cX3_leadOnFrom 26 = .ok (.ireturn, 1) := by decide +kernel
theorem dX3_leadOnFrom_27 : decode cX3_leadOnFrom 27 = .ok (.aload_n 0, 1) := by decide +kernel
theorem dX3_leadOnFrom_28 : decode cX3_leadOnFrom 28 = .ok (.iload_n 1, 1) := by decide +kernel
theorem dX3_leadOnFrom_29 : decode cX3_leadOnFrom 29 = .ok (.invokevirtual 59, 3) := by decide +kernel
theorem dX3_leadOnFrom_32 : decode cX3_leadOnFrom 32 = .ok (.iload_n 3, 1) := by decide +kernel
theorem dX3_leadOnFrom_33 : decode cX3_leadOnFrom 33 = .ok (.isub, 1) := by decide +kernel
theorem dX3_leadOnFrom_34 : decode cX3_leadOnFrom 34 = .ok (.iload_n 2, 1) := by decide +kernel
theorem dX3_leadOnFrom_35 : decode cX3_leadOnFrom 35 = .ok (.invokestatic 62, 3) := by decide +kernel
theorem dX3_leadOnFrom_38 : decode cX3_leadOnFrom 38 = .ok (.iadd, 1) := by decide +kernel
theorem dX3_leadOnFrom_39 : decode cX3_leadOnFrom 39 = .ok (.istore 4, 2) := by decide +kernel
theorem dX3_leadOnFrom_41 : decode cX3_leadOnFrom 41 = .ok (.iload_n 2, 1) := by decide +kernel
theorem dX3_leadOnFrom_42 : decode cX3_leadOnFrom 42 = .ok (.lookupswitch 80 #[(106, 36), (114, 34), (121, 48)], 34) := by decide +kernel
theorem dX3_leadOnFrom_76 : decode cX3_leadOnFrom 76 = .ok (.iconst 1, 1) := by decide +kernel
theorem dX3_leadOnFrom_77 : decode cX3_leadOnFrom 77 = .ok (.ireturn, 1) := by decide +kernel
theorem dX3_leadOnFrom_78 : decode cX3_leadOnFrom 78 = .ok (.aload_n 0, 1) := by decide +kernel
theorem dX3_leadOnFrom_79 : decode cX3_leadOnFrom 79 = .ok (.aload_n 0, 1) := by decide +kernel
theorem dX3_leadOnFrom_80 : decode cX3_leadOnFrom 80 = .ok (.iload_n 1, 1) := by decide +kernel
theorem dX3_leadOnFrom_81 : decode cX3_leadOnFrom 81 = .ok (.invokevirtual 66, 3) := by decide +kernel
theorem dX3_leadOnFrom_84 : decode cX3_leadOnFrom 84 = .ok (.iload 4, 2) := by decide +kernel
theorem dX3_leadOnFrom_86 : decode cX3_leadOnFrom 86 = .ok (.invokevirtual 45, 3) := by decide +kernel
theorem dX3_leadOnFrom_89 : decode cX3_leadOnFrom 89 = .ok (.ireturn, 1) := by decide +kernel
theorem dX3_leadOnFrom_90 : decode cX3_leadOnFrom 90 = .ok (.aload_n 0, 1) := by decide +kernel
theorem dX3_leadOnFrom_91 : decode cX3_leadOnFrom 91 = .ok (.aload_n 0, 1) := by decide +kernel
theorem dX3_leadOnFrom_92 : decode cX3_leadOnFrom 92 = .ok (.iload_n 1, 1) := by decide +kernel
theorem dX3_leadOnFrom_93 : decode cX3_leadOnFrom 93 = .ok (.invokevirtual 66, 3) := by decide +kernel
theorem dX3_leadOnFrom_96 : decode cX3_leadOnFrom 96 = .ok (.iload 4, 2) := by decide +kernel
theorem dX3_leadOnFrom_98 : decode cX3_leadOnFrom 98 = .ok (.invokevirtual 45, 3) := by decide +kernel
theorem dX3_leadOnFrom_101 : decode cX3_leadOnFrom 101 = .ok (.ifCond .eq 19, 3) := by decide +kernel
theorem dX3_leadOnFrom_104 : decode cX3_leadOnFrom 104 = .ok (.aload_n 0, 1) := by decide +kernel
theorem dX3_leadOnFrom_105 : decode cX3_leadOnFrom 105 = .ok (.iload_n 1, 1) := by decide +kernel
theorem dX3_leadOnFrom_106 : decode cX3_leadOnFrom 106 = .ok (.iconst 1, 1) := by decide +kernel
theorem dX3_leadOnFrom_107 : decode cX3_leadOnFrom 107 = .ok (.iadd, 1) := by decide +kernel
theorem dX3_leadOnFrom_108 : decode cX3_leadOnFrom 108 = .ok (.iload 4, 2) := by decide +kernel
theorem dX3_leadOnFrom_110 : decode cX3_leadOnFrom 110 = .ok (.invokevirtual 45, 3) := by decide +kernel
theorem dX3_leadOnFrom_113 : decode cX3_leadOnFrom 113 = .ok (.ifCond .eq 7, 3) := by decide +kernel
theorem dX3_leadOnFrom_116 : decode cX3_leadOnFrom 116 = .ok (.iconst 1, 1) := by decide +kernel
theorem dX3_leadOnFrom_117 : decode cX3_leadOnFrom 117 = .ok (.goto 4, 3) := by decide +kernel
theorem dX3_leadOnFrom_120 : decode cX3_leadOnFrom 120 = .ok (.iconst 0, 1) := by decide +kernel
theorem dX3_leadOnFrom_121 : decode cX3_leadOnFrom 121 = .ok (.ireturn, 1) := by decide +kernel
theorem dX3_leadOnFrom_122 : decode cX3_leadOnFrom 122 = .ok (.aload_n 0, 1) := by decide +kernel
theorem dX3_leadOnFrom_123 : decode cX3_leadOnFrom 123 = .ok (.iload_n 1, 1) := by decide +kernel
theorem dX3_leadOnFrom_124 : decode cX3_leadOnFrom 124 = .ok (.iconst 1, 1) := by decide +kernel
theorem dX3_leadOnFrom_125 : decode cX3_leadOnFrom 125 = .ok (.iadd, 1) := by decide +kernel
theorem dX3_leadOnFrom_126 : decode cX3_leadOnFrom 126 = .ok (.iload 4, 2) := by decide +kernel
theorem dX3_leadOnFrom_128 : decode cX3_leadOnFrom 128 = .ok (.invokevirtual 45, 3) := by decide +kernel
theorem dX3_leadOnFrom_131 : decode cX3_leadOnFrom 131 = .ok (.ireturn, 1) := by decide +kernel
theorem dX6_init_0 : decode cX6_init 0 = .ok (.aload_n 0, 1) := by decide +kernel
theorem dX6_init_1 : decode cX6_init 1 = .ok (.invokespecial 3, 3) := by decide +kernel
theorem dX6_init_4 : decode cX6_init 4 = .ok (.aload_n 0, 1) := by decide +kernel
theorem dX6_init_5 : decode cX6_init 5 = .ok (.iconst 0, 1) := by decide +kernel
theorem dX6_init_6 : decode cX6_init 6 = .ok (.putfield 9, 3) := by decide +kernel
theorem dX6_init_9 : decode cX6_init 9 = .ok (.aload_n 0, 1) := by decide +kernel
theorem dX6_init_10 : decode cX6_init 10 = .ok (.iconst 0, 1) := by decide +kernel
theorem dX6_init_11 : decode cX6_init 11 = .ok (.putfield 15, 3) := by decide +kernel
theorem dX6_init_14 : decode cX6_init 14 = .ok (.aload_n 0, 1) := by decide +kernel
theorem dX6_init_15 : decode cX6_init 15 = .ok (.iload_n 1, 1) := by decide +kernel
theorem dX6_init_16 : decode cX6_init 16 = .ok (.putfield 19, 3) := by decide +kernel
theorem dX6_init_19 : decode cX6_init 19 = .ok (.aload_n 0, 1) := by decide +kernel
theorem dX6_init_20 : decode cX6_init 20 = .ok (.iload_n 2, 1) := by decide +kernel
theorem dX6_init_21 : decode cX6_init 21 = .ok (.putfield 22, 3) := by decide +kernel
theorem dX6_init_24 : decode cX6_init 24 = .ok (.aload_n 0, 1) := by decide +kernel
theorem dX6_init_25 : decode cX6_init 25 = .ok (.iload_n 3, 1) := by decide +kernel
theorem dX6_init_26 : decode cX6_init 26 = .ok (.putfield 25, 3) := by decide +kernel
theorem dX6_init_29 : decode cX6_init 29 = .ok (.aload_n 0, 1) := by decide +kernel
theorem dX6_init_30 : decode cX6_init 30 = .ok (.iload 4, 2) := by decide +kernel
theorem dX6_init_32 : decode cX6_init 32 = .ok (.putfield 28, 3) := by decide +kernel
theorem dX6_init_35 : decode cX6_init 35 = .ok (.aload_n 0, 1) := by decide +kernel
theorem dX6_init_36 : decode cX6_init 36 = .ok (.aload 5, 2) := by decide +kernel
theorem dX6_init_38 : decode cX6_init 38 = .ok (.putfield 31, 3) := by decide +kernel
theorem dX6_init_41 : decode cX6_init 41 = .ok (.return_, 1) := by decide +kernel
theorem dX6_isNamingWhatIsThere_0 : decode cX6_isNamingWhatIsThere 0 = .ok (.aload_n 0, 1) := by decide +kernel
theorem dX6_isNamingWhatIsThere_1 : decode cX6_isNamingWhatIsThere 1 = .ok (.getfield 31, 3) := by decide +kernel
theorem dX6_isNamingWhatIsThere_4 : decode cX6_isNamingWhatIsThere 4 = .ok (.iload_n 1, 1) := by decide +kernel
theorem dX6_isNamingWhatIsThere_5 : decode cX6_isNamingWhatIsThere 5 = .ok (.invokevirtual 56, 3) := by decide +kernel
theorem dX6_isNamingWhatIsThere_8 : decode cX6_isNamingWhatIsThere 8 = .ok (.istore_n 3, 1) := by decide +kernel
theorem dX6_isNamingWhatIsThere_9 : decode cX6_isNamingWhatIsThere 9 = .ok (.aload_n 0, 1) := by decide +kernel
theorem dX6_isNamingWhatIsThere_10 : decode cX6_isNamingWhatIsThere 10 = .ok (.getfield 31, 3) := by decide +kernel
theorem dX6_isNamingWhatIsThere_13 : decode cX6_isNamingWhatIsThere 13 = .ok (.iload_n 1, 1) := by decide +kernel
theorem dX6_isNamingWhatIsThere_14 : decode cX6_isNamingWhatIsThere 14 = .ok (.invokevirtual 59, 3) := by decide +kernel
theorem dX6_isNamingWhatIsThere_17 : decode cX6_isNamingWhatIsThere 17 = .ok (.lookupswitch 180 #[(70, 109), (71, 122), (77, 150), (84, 100), (97, 91), (99, 129), (102, 109), (103, 122), (109, 150), (116, 100)], 91) := by decide +kernel
theorem dX6_isNamingWhatIsThere_108 : decode cX6_isNamingWhatIsThere 108 = .ok (.iload_n 3, 1) := by decide +kernel
theorem dX6_isNamingWhatIsThere_109 : decode cX6_isNamingWhatIsThere 109 = .ok (.aload_n 0, 1) := by decide +kernel
theorem dX6_isNamingWhatIsThere_110 : decode cX6_isNamingWhatIsThere 110 = .ok (.getfield 25, 3) := by decide +kernel
theorem dX6_isNamingWhatIsThere_113 : decode cX6_isNamingWhatIsThere 113 = .ok (.invokestatic 63, 3) := by decide +kernel
theorem dX6_isNamingWhatIsThere_116 : decode cX6_isNamingWhatIsThere 116 = .ok (.ireturn, 1) := by decide +kernel
theorem dX6_isNamingWhatIsThere_117 : decode cX6_isNamingWhatIsThere 117 = .ok (.iload_n 3, 1) := by decide +kernel
theorem dX6_isNamingWhatIsThere_118 : decode cX6_isNamingWhatIsThere 118 = .ok (.aload_n 0, 1) := by decide +kernel
theorem dX6_isNamingWhatIsThere_119 : decode cX6_isNamingWhatIsThere 119 = .ok (.getfield 28, 3) := by decide +kernel
theorem dX6_isNamingWhatIsThere_122 : decode cX6_isNamingWhatIsThere 122 = .ok (.invokestatic 63, 3) := by decide +kernel
theorem dX6_isNamingWhatIsThere_125 : decode cX6_isNamingWhatIsThere 125 = .ok (.ireturn, 1) := by decide +kernel
theorem dX6_isNamingWhatIsThere_126 : decode cX6_isNamingWhatIsThere 126 = .ok (.iload_n 3, 1) := by decide +kernel
theorem dX6_isNamingWhatIsThere_127 : decode cX6_isNamingWhatIsThere 127 = .ok (.aload_n 2, 1) := by decide +kernel
theorem dX6_isNamingWhatIsThere_128 : decode cX6_isNamingWhatIsThere 128 = .ok (.aload_n 0, 1) := by decide +kernel
theorem dX6_isNamingWhatIsThere_129 : decode cX6_isNamingWhatIsThere 129 = .ok (.getfield 19, 3) := by decide +kernel
theorem dX6_isNamingWhatIsThere_132 : decode cX6_isNamingWhatIsThere 132 = .ok (.invokevirtual 67, 3) := by decide +kernel
theorem dX6_isNamingWhatIsThere_135 : decode cX6_isNamingWhatIsThere 135 = .ok (.invokestatic 63, 3) := by decide +kernel
theorem dX6_isNamingWhatIsThere_138 : decode cX6_isNamingWhatIsThere 138 = .ok (.ireturn, 1) := by decide +kernel
theorem dX6_isNamingWhatIsThere_139 : decode cX6_isNamingWhatIsThere 139 = .ok (.iload_n 3, 1) := by decide +kernel
theorem dX6_isNamingWhatIsThere_140 : decode cX6_isNamingWhatIsThere 140 = .ok (.bipush 8, 2) := by decide +kernel
theorem dX6_isNamingWhatIsThere_142 : decode cX6_isNamingWhatIsThere 142 = .ok (.invokestatic 63, 3) := by decide +kernel
theorem dX6_isNamingWhatIsThere_145 : decode cX6_isNamingWhatIsThere 145 = .ok (.ireturn, 1) := by decide +kernel
theorem dX6_isNamingWhatIsThere_146 : decode cX6_isNamingWhatIsThere 146 = .ok (.aload_n 2, 1) := by decide +kernel
theorem dX6_isNamingWhatIsThere_147 : decode cX6_isNamingWhatIsThere 147 = .ok (.iload_n 3, 1) := by decide +kernel
theorem dX6_isNamingWhatIsThere_148 : decode cX6_isNamingWhatIsThere 148 = .ok (.invokevirtual 72, 3) := by decide +kernel
theorem dX6_isNamingWhatIsThere_151 : decode cX6_isNamingWhatIsThere 151 = .ok (.ifCond .eq 14, 3) := by decide +kernel
theorem dX6_isNamingWhatIsThere_154 : decode cX6_isNamingWhatIsThere 154 = .ok (.iload_n 3, 1) := by decide +kernel
theorem dX6_isNamingWhatIsThere_155 : decode cX6_isNamingWhatIsThere 155 = .ok (.invokestatic 75, 3) := by decide +kernel
theorem dX6_isNamingWhatIsThere_158 : decode cX6_isNamingWhatIsThere 158 = .ok (.ifCond .ne 7, 3) := by decide +kernel
theorem dX6_isNamingWhatIsThere_161 : decode cX6_isNamingWhatIsThere 161 = .ok (.iconst 1, 1) := by decide +kernel
theorem dX6_isNamingWhatIsThere_162 : decode cX6_isNamingWhatIsThere 162 = .ok (.goto 4, 3) := by decide +kernel
theorem dX6_isNamingWhatIsThere_165 : decode cX6_isNamingWhatIsThere 165 = .ok (.iconst 0, 1) := by decide +kernel
theorem dX6_isNamingWhatIsThere_166 : decode cX6_isNamingWhatIsThere 166 = .ok (.ireturn, 1) := by decide +kernel
theorem dX6_isNamingWhatIsThere_167 : decode cX6_isNamingWhatIsThere 167 = .ok (.iload_n 3, 1) := by decide +kernel
theorem dX6_isNamingWhatIsThere_168 : decode cX6_isNamingWhatIsThere 168 = .ok (.bipush 16, 2) := by decide +kernel
theorem dX6_isNamingWhatIsThere_170 : decode cX6_isNamingWhatIsThere 170 = .ok (.invokestatic 63, 3) := by decide +kernel
theorem dX6_isNamingWhatIsThere_173 : decode cX6_isNamingWhatIsThere 173 = .ok (.ifCond .eq 22, 3) := by decide +kernel
theorem dX6_isNamingWhatIsThere_176 : decode cX6_isNamingWhatIsThere 176 = .ok (.aload_n 0, 1) := by decide +kernel
theorem dX6_isNamingWhatIsThere_177 : decode cX6_isNamingWhatIsThere 177 = .ok (.getfield 31, 3) := by decide +kernel
theorem dX6_isNamingWhatIsThere_180 : decode cX6_isNamingWhatIsThere 180 = .ok (.iload_n 1, 1) := by decide +kernel
theorem dX6_isNamingWhatIsThere_181 : decode cX6_isNamingWhatIsThere 181 = .ok (.invokevirtual 78, 3) := by decide +kernel
theorem dX6_isNamingWhatIsThere_184 : decode cX6_isNamingWhatIsThere 184 = .ok (.iconst 3, 1) := by decide +kernel
theorem dX6_isNamingWhatIsThere_185 : decode cX6_isNamingWhatIsThere 185 = .ok (.invokestatic 63, 3) := by decide +kernel
theorem dX6_isNamingWhatIsThere_188 : decode cX6_isNamingWhatIsThere 188 = .ok (.ifCond .eq 7, 3) := by decide +kernel
theorem dX6_isNamingWhatIsThere_191 : decode cX6_isNamingWhatIsThere 191 = .ok (.iconst 1, 1) := by decide +kernel
theorem dX6_isNamingWhatIsThere_192 : decode cX6_isNamingWhatIsThere 192 = .ok (.goto 4, 3) := by decide +kernel
theorem dX6_isNamingWhatIsThere_195 : decode cX6_isNamingWhatIsThere 195 = .ok (.iconst 0, 1) := by decide +kernel
theorem dX6_isNamingWhatIsThere_196 : decode cX6_isNamingWhatIsThere 196 = .ok (.ireturn, 1) := by decide +kernel
theorem dX6_isNamingWhatIsThere_197 : decode cX6_isNamingWhatIsThere 197 = .ok (.iconst 1, 1) := by decide +kernel
theorem dX6_isNamingWhatIsThere_198 : decode cX6_isNamingWhatIsThere 198 = .ok (.ireturn, 1) := by decide +kernel
theorem dX6_isWellTold_0 : decode cX6_isWellTold 0 = .ok (.aload_n 0, 1) := by decide +kernel
theorem dX6_isWellTold_1 : decode cX6_isWellTold 1 = .ok (.getfield 31, 3) := by decide +kernel
theorem dX6_isWellTold_4 : decode cX6_isWellTold 4 = .ok (.invokevirtual 35, 3) := by decide +kernel
theorem dX6_isWellTold_7 : decode cX6_isWellTold 7 = .ok (.ifCond .ne 5, 3) := by decide +kernel
theorem dX6_isWellTold_10 : decode cX6_isWellTold 10 = .ok (.iconst 0, 1) := by decide +kernel
theorem dX6_isWellTold_11 : decode cX6_isWellTold 11 = .ok (.ireturn, 1) := by decide +kernel
theorem dX6_isWellTold_12 : decode cX6_isWellTold 12 = .ok (.iconst 0, 1) := by decide +kernel
theorem dX6_isWellTold_13 : decode cX6_isWellTold 13 = .ok (.istore_n 2, 1) := by decide +kernel
theorem dX6_isWellTold_14 : decode cX6_isWellTold 14 = .ok (.iload_n 2, 1) := by decide +kernel
theorem dX6_isWellTold_15 : decode cX6_isWellTold 15 = .ok (.bipush 24, 2) := by decide +kernel
theorem dX6_isWellTold_17 : decode cX6_isWellTold 17 = .ok (.if_icmp .ge 51, 3) := by decide +kernel
theorem dX6_isWellTold_20 : decode cX6_isWellTold 20 = .ok (.iload_n 2, 1) := by decide +kernel
theorem dX6_isWellTold_21 : decode cX6_isWellTold 21 = .ok (.aload_n 0, 1) := by decide +kernel
theorem dX6_isWellTold_22 : decode cX6_isWellTold 22 = .ok (.getfield 31, 3) := by decide +kernel
theorem dX6_isWellTold_25 : decode cX6_isWellTold 25 = .ok (.getfield 41, 3) := by decide +kernel
theorem dX6_isWellTold_28 : decode cX6_isWellTold 28 = .ok (.if_icmp .ge 40, 3) := by decide +kernel
theorem dX6_isWellTold_31 : decode cX6_isWellTold 31 = .ok (.aload_n 0, 1) := by decide +kernel
theorem dX6_isWellTold_32 : decode cX6_isWellTold 32 = .ok (.getfield 31, 3) := by decide +kernel
theorem dX6_isWellTold_35 : decode cX6_isWellTold 35 = .ok (.iload_n 2, 1) := by decide +kernel
theorem dX6_isWellTold_36 : decode cX6_isWellTold 36 = .ok (.invokevirtual 44, 3) := by decide +kernel
theorem dX6_isWellTold_39 : decode cX6_isWellTold 39 = .ok (.istore_n 3, 1) := by decide +kernel
theorem dX6_isWellTold_40 : decode cX6_isWellTold 40 = .ok (.aload_n 0, 1) := by decide +kernel
theorem dX6_isWellTold_41 : decode cX6_isWellTold 41 = .ok (.iload_n 3, 1) := by decide +kernel
theorem dX6_isWellTold_42 : decode cX6_isWellTold 42 = .ok (.aload_n 1, 1) := by decide +kernel
theorem dX6_isWellTold_43 : decode cX6_isWellTold 43 = .ok (.invokevirtual 48, 3) := by decide +kernel
theorem dX6_isWellTold_46 : decode cX6_isWellTold 46 = .ok (.ifCond .eq 14, 3) := by decide +kernel
theorem dX6_isWellTold_49 : decode cX6_isWellTold 49 = .ok (.aload_n 0, 1) := by decide +kernel
theorem dX6_isWellTold_50 : decode cX6_isWellTold 50 = .ok (.getfield 31, 3) := by decide +kernel
theorem dX6_isWellTold_53 : decode cX6_isWellTold 53 = .ok (.iload_n 3, 1) := by decide +kernel
theorem dX6_isWellTold_54 : decode cX6_isWellTold 54 = .ok (.invokevirtual 52, 3) := by decide +kernel
theorem dX6_isWellTold_57 : decode cX6_isWellTold 57 = .ok (.ifCond .ne 5, 3) := by decide +kernel
theorem dX6_isWellTold_60 : decode cX6_isWellTold 60 = .ok (.iconst 0, 1) := by decide +kernel
theorem dX6_isWellTold_61 : decode cX6_isWellTold 61 = .ok (.ireturn, 1) := by decide +kernel
theorem dX6_isWellTold_62 : decode cX6_isWellTold 62 = .ok (.iinc 2 1, 3) := by decide +kernel
theorem dX6_isWellTold_65 : decode cX6_isWellTold 65 = .ok (.goto (-51), 3) := by decide +kernel
theorem dX6_isWellTold_68 : decode cX6_isWellTold 68 = .ok (.iconst 1, 1) := by decide +kernel
theorem dX6_isWellTold_69 : decode cX6_isWellTold 69 = .ok (.ireturn, 1) := by decide +kernel
theorem dX8_methodAt_0 : decode cX8_methodAt 0 = .ok (.iload_n 1, 1) := by decide +kernel
theorem dX8_methodAt_1 : decode cX8_methodAt 1 = .ok (.bipush 12, 2) := by decide +kernel
theorem dX8_methodAt_3 : decode cX8_methodAt 3 = .ok (.invokestatic 97, 3) := by decide +kernel
theorem dX8_methodAt_6 : decode cX8_methodAt 6 = .ok (.ifCond .eq 12, 3) := by decide +kernel
theorem dX8_methodAt_9 : decode cX8_methodAt 9 = .ok (.iload_n 2, 1) := by decide +kernel
theorem dX8_methodAt_10 : decode cX8_methodAt 10 = .ok (.bipush 16, 2) := by decide +kernel
theorem dX8_methodAt_12 : decode cX8_methodAt 12 = .ok (.invokestatic 97, 3) := by decide +kernel
theorem dX8_methodAt_15 : decode cX8_methodAt 15 = .ok (.ifCond .ne 5, 3) := by decide +kernel
theorem dX8_methodAt_18 : decode cX8_methodAt 18 = .ok (.aconst_null, 1) := by decide +kernel
theorem dX8_methodAt_19 : decode cX8_methodAt 19 = .ok (.areturn, 1) := by decide +kernel
theorem dX8_methodAt_20 : decode cX8_methodAt 20 = .ok (.aload_n 0, 1) := by decide +kernel
theorem dX8_methodAt_21 : decode cX8_methodAt 21 = .ok (.getfield 18, 3) := by decide +kernel
theorem dX8_methodAt_24 : decode cX8_methodAt 24 = .ok (.iload_n 1, 1) := by decide +kernel
theorem dX8_methodAt_25 : decode cX8_methodAt 25 = .ok (.bipush 16, 2) := by decide +kernel
theorem dX8_methodAt_27 : decode cX8_methodAt 27 = .ok (.imul, 1) := by decide +kernel
theorem dX8_methodAt_28 : decode cX8_methodAt 28 = .ok (.iload_n 2, 1) := by decide +kernel
theorem dX8_methodAt_29 : decode cX8_methodAt 29 = .ok (.iadd, 1) := by decide +kernel
theorem dX8_methodAt_30 : decode cX8_methodAt 30 = .ok (.aaload, 1) := by decide +kernel
theorem dX8_methodAt_31 : decode cX8_methodAt 31 = .ok (.areturn, 1) := by decide +kernel
theorem dX8_lookUp_0 : decode cX8_lookUp 0 = .ok (.iload_n 1, 1) := by decide +kernel
theorem dX8_lookUp_1 : decode cX8_lookUp 1 = .ok (.istore_n 3, 1) := by decide +kernel
theorem dX8_lookUp_2 : decode cX8_lookUp 2 = .ok (.iconst 0, 1) := by decide +kernel
theorem dX8_lookUp_3 : decode cX8_lookUp 3 = .ok (.istore 4, 2) := by decide +kernel
theorem dX8_lookUp_5 : decode cX8_lookUp 5 = .ok (.iload 4, 2) := by decide +kernel
theorem dX8_lookUp_7 : decode cX8_lookUp 7 = .ok (.bipush 12, 2) := by decide +kernel
theorem dX8_lookUp_9 : decode cX8_lookUp 9 = .ok (.if_icmp .ge 39, 3) := by decide +kernel
theorem dX8_lookUp_12 : decode cX8_lookUp 12 = .ok (.iload_n 3, 1) := by decide +kernel
theorem dX8_lookUp_13 : decode cX8_lookUp 13 = .ok (.iconst (-1), 1) := by decide +kernel
theorem dX8_lookUp_14 : decode cX8_lookUp 14 = .ok (.if_icmp .eq 34, 3) := by decide +kernel
theorem dX8_lookUp_17 : decode cX8_lookUp 17 = .ok (.aload_n 0, 1) := by decide +kernel
theorem dX8_lookUp_18 : decode cX8_lookUp 18 = .ok (.iload_n 3, 1) := by decide +kernel
theorem dX8_lookUp_19 : decode cX8_lookUp 19 = .ok (.iload_n 2, 1) := by decide +kernel
theorem dX8_lookUp_20 : decode cX8_lookUp 20 = .ok (.invokevirtual 179, 3) := by decide +kernel
theorem dX8_lookUp_23 : decode cX8_lookUp 23 = .ok (.astore 5, 2) := by decide +kernel
theorem dX8_lookUp_25 : decode cX8_lookUp 25 = .ok (.aload 5, 2) := by decide +kernel
theorem dX8_lookUp_27 : decode cX8_lookUp 27 = .ok (.ifnull 6, 3) := by decide +kernel
theorem dX8_lookUp_30 : decode cX8_lookUp 30 = .ok (.aload 5, 2) := by decide +kernel
theorem dX8_lookUp_32 : decode cX8_lookUp 32 = .ok (.areturn, 1) := by decide +kernel
theorem dX8_lookUp_33 : decode cX8_lookUp 33 = .ok (.aload_n 0, 1) := by decide +kernel
theorem dX8_lookUp_34 : decode cX8_lookUp 34 = .ok (.getfield 10, 3) := by decide +kernel
theorem dX8_lookUp_37 : decode cX8_lookUp 37 = .ok (.iload_n 3, 1) := by decide +kernel
theorem dX8_lookUp_38 : decode cX8_lookUp 38 = .ok (.invokevirtual 184, 3) := by decide +kernel
theorem dX8_lookUp_41 : decode cX8_lookUp 41 = .ok (.istore_n 3, 1) := by decide +kernel
theorem dX8_lookUp_42 : decode cX8_lookUp 42 = .ok (.iinc 4 1, 3) := by decide +kernel
theorem dX8_lookUp_45 : decode cX8_lookUp 45 = .ok (.goto (-40), 3) := by decide +kernel
theorem dX8_lookUp_48 : decode cX8_lookUp 48 = .ok (.aconst_null, 1) := by decide +kernel
theorem dX8_lookUp_49 : decode cX8_lookUp 49 = .ok (.areturn, 1) := by decide +kernel
theorem dX8_placeMethod_0 : decode cX8_placeMethod 0 = .ok (.iload_n 1, 1) := by decide +kernel
theorem dX8_placeMethod_1 : decode cX8_placeMethod 1 = .ok (.bipush 12, 2) := by decide +kernel
theorem dX8_placeMethod_3 : decode cX8_placeMethod 3 = .ok (.invokestatic 97, 3) := by decide +kernel
theorem dX8_placeMethod_6 : decode cX8_placeMethod 6 = .ok (.ifCond .eq 24, 3) := by decide +kernel
theorem dX8_placeMethod_9 : decode cX8_placeMethod 9 = .ok (.iload_n 2, 1) := by decide +kernel
theorem dX8_placeMethod_10 : decode cX8_placeMethod 10 = .ok (.bipush 16, 2) := by decide +kernel
theorem dX8_placeMethod_12 : decode cX8_placeMethod 12 = .ok (.invokestatic 97, 3) := by decide +kernel
theorem dX8_placeMethod_15 : decode cX8_placeMethod 15 = .ok (.ifCond .eq 15, 3) := by decide +kernel
theorem dX8_placeMethod_18 : decode cX8_placeMethod 18 = .ok (.aload_n 0, 1) := by decide +kernel
theorem dX8_placeMethod_19 : decode cX8_placeMethod 19 = .ok (.getfield 18, 3) := by decide +kernel
theorem dX8_placeMethod_22 : decode cX8_placeMethod 22 = .ok (.iload_n 1, 1) := by decide +kernel
theorem dX8_placeMethod_23 : decode cX8_placeMethod 23 = .ok (.bipush 16, 2) := by decide +kernel
theorem dX8_placeMethod_25 : decode cX8_placeMethod 25 = .ok (.imul, 1) := by decide +kernel
theorem dX8_placeMethod_26 : decode cX8_placeMethod 26 = .ok (.iload_n 2, 1) := by decide +kernel
theorem dX8_placeMethod_27 : decode cX8_placeMethod 27 = .ok (.iadd, 1) := by decide +kernel
theorem dX8_placeMethod_28 : decode cX8_placeMethod 28 = .ok (.aload_n 3, 1) := by decide +kernel
theorem dX8_placeMethod_29 : decode cX8_placeMethod 29 = .ok (.aastore, 1) := by decide +kernel
theorem dX8_placeMethod_30 : decode cX8_placeMethod 30 = .ok (.return_, 1) := by decide +kernel
theorem dX8_frameAt_0 : decode cX8_frameAt 0 = .ok (.iload_n 1, 1) := by decide +kernel
theorem dX8_frameAt_1 : decode cX8_frameAt 1 = .ok (.aload_n 0, 1) := by decide +kernel
theorem dX8_frameAt_2 : decode cX8_frameAt 2 = .ok (.getfield 46, 3) := by decide +kernel
theorem dX8_frameAt_5 : decode cX8_frameAt 5 = .ok (.arraylength, 1) := by decide +kernel
theorem dX8_frameAt_6 : decode cX8_frameAt 6 = .ok (.invokestatic 97, 3) := by decide +kernel
theorem dX8_frameAt_9 : decode cX8_frameAt 9 = .ok (.ifCond .eq 12, 3) := by decide +kernel
theorem dX8_frameAt_12 : decode cX8_frameAt 12 = .ok (.aload_n 0, 1) := by decide +kernel
theorem dX8_frameAt_13 : decode cX8_frameAt 13 = .ok (.getfield 46, 3) := by decide +kernel
theorem dX8_frameAt_16 : decode cX8_frameAt 16 = .ok (.iload_n 1, 1) := by decide +kernel
theorem dX8_frameAt_17 : decode cX8_frameAt 17 = .ok (.aaload, 1) := by decide +kernel
theorem dX8_frameAt_18 : decode cX8_frameAt 18 = .ok (.goto 4, 3) := by decide +kernel
theorem dX8_frameAt_21 : decode cX8_frameAt 21 = .ok (.aconst_null, 1) := by decide +kernel
theorem dX8_frameAt_22 : decode cX8_frameAt 22 = .ok (.areturn, 1) := by decide +kernel
theorem dX8_fault_0 : decode cX8_fault 0 = .ok (.aload_n 0, 1) := by decide +kernel
theorem dX8_fault_1 : decode cX8_fault 1 = .ok (.bipush 120, 2) := by decide +kernel
theorem dX8_fault_3 : decode cX8_fault 3 = .ok (.putfield 53, 3) := by decide +kernel
theorem dX8_fault_6 : decode cX8_fault 6 = .ok (.aload_n 0, 1) := by decide +kernel
theorem dX8_fault_7 : decode cX8_fault 7 = .ok (.iload_n 1, 1) := by decide +kernel
theorem dX8_fault_8 : decode cX8_fault 8 = .ok (.putfield 57, 3) := by decide +kernel
theorem dX8_fault_11 : decode cX8_fault 11 = .ok (.return_, 1) := by decide +kernel
section SITES
variable {p : Program} {l : Launch} {e : Env} {R : Room} {s : State} {m : MethodId} {args : Array Value} {below : List Frame} {meth : Method} {c : Code} {H : Heap} {locs : List Loc} {cells slots : Nat} {Q : State → Prop}
variable {pc : Nat} {ls : Array Slot} {rest : List Value} {D : va_G} {ar : Nat → ClassId} {κ : Nat → Nat} {A : Nat → Prop} {a : Nat} {H0 : Heap} {G : gW} {nz nL : Nat} {cc : ByteArray}
theorem Ho_fc_sab {v9 : Ho} {y9 : Nat → Int32} : (v9.sab y9).fc = v9.fc := rfl
theorem Ho_cn_sab {v9 : Ho} {y9 : Nat → Int32} : (v9.sab y9).cn = v9.cn := rfl
theorem Ho_me_sab {v9 : Ho} {y9 : Nat → Int32} : (v9.sab y9).me = v9.me := rfl
theorem Ho_nt_sab {v9 : Ho} {y9 : Nat → Int32} : (v9.sab y9).nt = v9.nt := rfl
theorem Ho_nr_sab {v9 : Ho} {y9 : Nat → Int32} : (v9.sab y9).nr = v9.nr := rfl
theorem Ho_ty_sab {v9 : Ho} {y9 : Nat → Int32} : (v9.sab y9).ty = v9.ty := rfl
theorem Ho_to_sab {v9 : Ho} {y9 : Nat → Int32} : (v9.sab y9).to = v9.to := rfl
theorem Ho_ro_sab {v9 : Ho} {y9 : Nat → Int32} : (v9.sab y9).ro = v9.ro := rfl
theorem Ho_gl_sab {v9 : Ho} {y9 : Nat → Int32} : (v9.sab y9).gl = v9.gl := rfl
theorem Ho_al_sab {v9 : Ho} {y9 : Nat → Int32} : (v9.sab y9).al = v9.al := rfl
theorem Ho_re_sab {v9 : Ho} {y9 : Nat → Int32} : (v9.sab y9).re = v9.re := rfl
theorem Ho_th_sab {v9 : Ho} {y9 : Nat → Int32} : (v9.sab y9).th = v9.th := rfl
theorem Ho_tc_sab {v9 : Ho} {y9 : Nat → Int32} : (v9.sab y9).tc = v9.tc := rfl
theorem Ho_rc_sab {v9 : Ho} {y9 : Nat → Int32} : (v9.sab y9).rc = v9.rc := rfl
theorem Ho_mk_sab {v9 : Ho} {y9 : Nat → Int32} : (v9.sab y9).mk = v9.mk := rfl
theorem Ho_fr_sab {v9 : Ho} {y9 : Nat → Int32} : (v9.sab y9).fr = v9.fr := rfl
theorem Ho_fn_sab {v9 : Ho} {y9 : Nat → Int32} : (v9.sab y9).fn = v9.fn := rfl
theorem Ho_st_sab {v9 : Ho} {y9 : Nat → Int32} : (v9.sab y9).st = v9.st := rfl
theorem Ho_rs_sab {v9 : Ho} {y9 : Nat → Int32} : (v9.sab y9).rs = v9.rs := rfl
theorem Ho_an_sab {v9 : Ho} {y9 : Nat → Int32} : (v9.sab y9).an = v9.an := rfl
theorem Ho_sp_sab {v9 : Ho} {y9 : Nat → Int32} : (v9.sab y9).sp = v9.sp := rfl
theorem Ho_np_sab {v9 : Ho} {y9 : Nat → Int32} : (v9.sab y9).np = v9.np := rfl
theorem Ho_pg_sab {v9 : Ho} {y9 : Nat → Int32} : (v9.sab y9).pg = v9.pg := rfl
theorem Ho_wc_sab {v9 : Ho} {y9 : Nat → Int32} : (v9.sab y9).wc = v9.wc := rfl
theorem Ho_ws_sab {v9 : Ho} {y9 : Nat → Int32} : (v9.sab y9).ws = v9.ws := rfl
theorem Ho_wp_sab {v9 : Ho} {y9 : Nat → Int32} : (v9.sab y9).wp = v9.wp := rfl
theorem Ho_ab_sfc {v9 : Ho} {y9 : Nat → Int32} : (v9.sfc y9).ab = v9.ab := rfl
theorem Ho_ab_sab {v9 : Ho} {y9 : Nat → Int32} : (v9.sab y9).ab = y9 := rfl
theorem Ho_cn_sfc {v9 : Ho} {y9 : Nat → Int32} : (v9.sfc y9).cn = v9.cn := rfl
theorem Ho_me_sfc {v9 : Ho} {y9 : Nat → Int32} : (v9.sfc y9).me = v9.me := rfl
theorem Ho_nt_sfc {v9 : Ho} {y9 : Nat → Int32} : (v9.sfc y9).nt = v9.nt := rfl
theorem Ho_nr_sfc {v9 : Ho} {y9 : Nat → Int32} : (v9.sfc y9).nr = v9.nr := rfl
theorem Ho_ty_sfc {v9 : Ho} {y9 : Nat → Int32} : (v9.sfc y9).ty = v9.ty := rfl
theorem Ho_to_sfc {v9 : Ho} {y9 : Nat → Int32} : (v9.sfc y9).to = v9.to := rfl
theorem Ho_ro_sfc {v9 : Ho} {y9 : Nat → Int32} : (v9.sfc y9).ro = v9.ro := rfl
theorem Ho_gl_sfc {v9 : Ho} {y9 : Nat → Int32} : (v9.sfc y9).gl = v9.gl := rfl
theorem Ho_al_sfc {v9 : Ho} {y9 : Nat → Int32} : (v9.sfc y9).al = v9.al := rfl
theorem Ho_re_sfc {v9 : Ho} {y9 : Nat → Int32} : (v9.sfc y9).re = v9.re := rfl
theorem Ho_th_sfc {v9 : Ho} {y9 : Nat → Int32} : (v9.sfc y9).th = v9.th := rfl
theorem Ho_tc_sfc {v9 : Ho} {y9 : Nat → Int32} : (v9.sfc y9).tc = v9.tc := rfl
theorem Ho_rc_sfc {v9 : Ho} {y9 : Nat → Int32} : (v9.sfc y9).rc = v9.rc := rfl
theorem Ho_mk_sfc {v9 : Ho} {y9 : Nat → Int32} : (v9.sfc y9).mk = v9.mk := rfl
theorem Ho_fr_sfc {v9 : Ho} {y9 : Nat → Int32} : (v9.sfc y9).fr = v9.fr := rfl
theorem Ho_fn_sfc {v9 : Ho} {y9 : Nat → Int32} : (v9.sfc y9).fn = v9.fn := rfl
theorem Ho_st_sfc {v9 : Ho} {y9 : Nat → Int32} : (v9.sfc y9).st = v9.st := rfl
theorem Ho_rs_sfc {v9 : Ho} {y9 : Nat → Int32} : (v9.sfc y9).rs = v9.rs := rfl
theorem Ho_an_sfc {v9 : Ho} {y9 : Nat → Int32} : (v9.sfc y9).an = v9.an := rfl
theorem Ho_sp_sfc {v9 : Ho} {y9 : Nat → Int32} : (v9.sfc y9).sp = v9.sp := rfl
theorem Ho_np_sfc {v9 : Ho} {y9 : Nat → Int32} : (v9.sfc y9).np = v9.np := rfl
theorem Ho_pg_sfc {v9 : Ho} {y9 : Nat → Int32} : (v9.sfc y9).pg = v9.pg := rfl
theorem Ho_wc_sfc {v9 : Ho} {y9 : Nat → Int32} : (v9.sfc y9).wc = v9.wc := rfl
theorem Ho_ws_sfc {v9 : Ho} {y9 : Nat → Int32} : (v9.sfc y9).ws = v9.ws := rfl
theorem Ho_wp_sfc {v9 : Ho} {y9 : Nat → Int32} : (v9.sfc y9).wp = v9.wp := rfl
theorem Ho_ab_scn {v9 : Ho} {y9 : Int32} : (v9.scn y9).ab = v9.ab := rfl
theorem Ho_fc_scn {v9 : Ho} {y9 : Int32} : (v9.scn y9).fc = v9.fc := rfl
theorem Ho_fc_sfc {v9 : Ho} {y9 : Nat → Int32} : (v9.sfc y9).fc = y9 := rfl
theorem Ho_me_scn {v9 : Ho} {y9 : Int32} : (v9.scn y9).me = v9.me := rfl
theorem Ho_nt_scn {v9 : Ho} {y9 : Int32} : (v9.scn y9).nt = v9.nt := rfl
theorem Ho_nr_scn {v9 : Ho} {y9 : Int32} : (v9.scn y9).nr = v9.nr := rfl
theorem Ho_ty_scn {v9 : Ho} {y9 : Int32} : (v9.scn y9).ty = v9.ty := rfl
theorem Ho_to_scn {v9 : Ho} {y9 : Int32} : (v9.scn y9).to = v9.to := rfl
theorem Ho_ro_scn {v9 : Ho} {y9 : Int32} : (v9.scn y9).ro = v9.ro := rfl
theorem Ho_gl_scn {v9 : Ho} {y9 : Int32} : (v9.scn y9).gl = v9.gl := rfl
theorem Ho_al_scn {v9 : Ho} {y9 : Int32} : (v9.scn y9).al = v9.al := rfl
theorem Ho_re_scn {v9 : Ho} {y9 : Int32} : (v9.scn y9).re = v9.re := rfl
theorem Ho_th_scn {v9 : Ho} {y9 : Int32} : (v9.scn y9).th = v9.th := rfl
theorem Ho_tc_scn {v9 : Ho} {y9 : Int32} : (v9.scn y9).tc = v9.tc := rfl
theorem Ho_rc_scn {v9 : Ho} {y9 : Int32} : (v9.scn y9).rc = v9.rc := rfl
theorem Ho_mk_scn {v9 : Ho} {y9 : Int32} : (v9.scn y9).mk = v9.mk := rfl
theorem Ho_fr_scn {v9 : Ho} {y9 : Int32} : (v9.scn y9).fr = v9.fr := rfl
theorem Ho_fn_scn {v9 : Ho} {y9 : Int32} : (v9.scn y9).fn = v9.fn := rfl
theorem Ho_st_scn {v9 : Ho} {y9 : Int32} : (v9.scn y9).st = v9.st := rfl
theorem Ho_rs_scn {v9 : Ho} {y9 : Int32} : (v9.scn y9).rs = v9.rs := rfl
theorem Ho_an_scn {v9 : Ho} {y9 : Int32} : (v9.scn y9).an = v9.an := rfl
theorem Ho_sp_scn {v9 : Ho} {y9 : Int32} : (v9.scn y9).sp = v9.sp := rfl
theorem Ho_np_scn {v9 : Ho} {y9 : Int32} : (v9.scn y9).np = v9.np := rfl
theorem Ho_pg_scn {v9 : Ho} {y9 : Int32} : (v9.scn y9).pg = v9.pg := rfl
theorem Ho_wc_scn {v9 : Ho} {y9 : Int32} : (v9.scn y9).wc = v9.wc := rfl
theorem Ho_ws_scn {v9 : Ho} {y9 : Int32} : (v9.scn y9).ws = v9.ws := rfl
theorem Ho_wp_scn {v9 : Ho} {y9 : Int32} : (v9.scn y9).wp = v9.wp := rfl
theorem Ro_l_sd {v9 : Ro} {y9 : Nat → Int32} : (v9.sd y9).l = v9.l := rfl
theorem Ro_f_sd {v9 : Ro} {y9 : Nat → Int32} : (v9.sd y9).f = v9.f := rfl
theorem Ro_g_sd {v9 : Ro} {y9 : Nat → Int32} : (v9.sd y9).g = v9.g := rfl
theorem Ro_q_sd {v9 : Ro} {y9 : Nat → Int32} : (v9.sd y9).q = v9.q := rfl
theorem Ro_n_sd {v9 : Ro} {y9 : Nat → Int32} : (v9.sd y9).n = v9.n := rfl
theorem Ro_k_sd {v9 : Ro} {y9 : Nat → Int32} : (v9.sd y9).k = v9.k := rfl
theorem gf_RX3_32_9 {A9 : Nat → Prop} {H9 : Heap} {fs : List Value} {v : Value} (S : CallFix p m c cc nL s args lwA RX3) (hE : g_E D vwCl (gT ar) (EX1 κ) A9 s H9) (w : g_S D vwCl A H0 G H locs nz) (ha : G a = some (.inr (9, fs))) (hv : fs[6]? = some v) (hdg : decode cc pc = .ok (.getfield 32, 3)) (kk : W p l e R s m args below meth c H locs cells slots Q (F0 m (pc + 3) ls (v :: rest))) : W p l e R s m args below meth c H locs cells slots Q (F0 m pc ls (.ref a :: rest)) :=
  va_get (ci := 9) (C := RX3) (T := TX3) (N := 7) S.1 S.2.1 S.2.2.2.2 inA_RX3 S.2.2.2.1 hE.1 (g_1 w.1 ha) 0 rfl rfl 6 (by decide) (S.2.2.2.2 _ m_1_81) (fun _ h => h) hv hdg kk
theorem Ro_l_sq {v9 : Ro} {y9 : Nat → Int32} : (v9.sq y9).l = v9.l := rfl
theorem Ro_f_sq {v9 : Ro} {y9 : Nat → Int32} : (v9.sq y9).f = v9.f := rfl
theorem Ro_g_sq {v9 : Ro} {y9 : Nat → Int32} : (v9.sq y9).g = v9.g := rfl
theorem Ro_d_sq {v9 : Ro} {y9 : Nat → Int32} : (v9.sq y9).d = v9.d := rfl
theorem Ro_d_sd {v9 : Ro} {y9 : Nat → Int32} : (v9.sd y9).d = y9 := rfl
theorem Ro_n_sq {v9 : Ro} {y9 : Nat → Int32} : (v9.sq y9).n = v9.n := rfl
theorem Ro_k_sq {v9 : Ro} {y9 : Nat → Int32} : (v9.sq y9).k = v9.k := rfl
theorem Ro_l_sk {v9 : Ro} {y9 : Int32} : (v9.sk y9).l = v9.l := rfl
theorem Ro_f_sk {v9 : Ro} {y9 : Int32} : (v9.sk y9).f = v9.f := rfl
theorem Ro_g_sk {v9 : Ro} {y9 : Int32} : (v9.sk y9).g = v9.g := rfl
theorem Ro_d_sk {v9 : Ro} {y9 : Int32} : (v9.sk y9).d = v9.d := rfl
theorem Ro_q_sk {v9 : Ro} {y9 : Int32} : (v9.sk y9).q = v9.q := rfl
theorem Ro_q_sq {v9 : Ro} {y9 : Nat → Int32} : (v9.sq y9).q = y9 := rfl
theorem m_7_14 : (Cond.code yJ7_fill_53178 cJ7_fill_53178 4 none) ∈ lwA := lwA_mk (ck_7 _ (List.mem_of_getElem? (i := 14) rfl)) rfl
theorem m_7_12 : (Cond.methodLink RX3 39 yJ7_fill_53178) ∈ lwA := lwA_mk (ck_7 _ (List.mem_of_getElem? (i := 12) rfl)) rfl
theorem m_7_13 : (Cond.static yJ7_fill_53178) ∈ lwA := lwA_mk (ck_7 _ (List.mem_of_getElem? (i := 13) rfl)) rfl
theorem k_RX3_39 {args : Array Value} {s : State} {R rm : Room} (hts : ∀ w ∈ lwA, w.before args s = true) (hR : rm.frames + 1 ≤ R.frames ∧ 8 + (4 + 11) + rm.locals ≤ R.locals) : CallB R s args RX3 39 yJ7_fill_53178 cJ7_fill_53178 4 none (lwC yJ7_fill_53178 cJ7_fill_53178 4 none) rm rm.cells rm.slots 2 ∧ (Cond.static yJ7_fill_53178).before args s = true := va_cwS 2 hts (gdT m_7_12 m_7_13 m_1_10 m_7_14) rfl rfl rfl (by decide +kernel) hR
theorem m_7_18 : (Cond.code yX3_comeTo cX3_comeTo 3 (some .boolean)) ∈ lwA := lwA_mk (ck_7 _ (List.mem_of_getElem? (i := 18) rfl)) rfl
theorem m_7_15 : (Cond.methodLink RX3 45 yX3_comeTo) ∈ lwA := lwA_mk (ck_7 _ (List.mem_of_getElem? (i := 15) rfl)) rfl
theorem m_7_16 : (Cond.instanceMethod yX3_comeTo) ∈ lwA := lwA_mk (ck_7 _ (List.mem_of_getElem? (i := 16) rfl)) rfl
theorem m_7_17 : (Cond.selects RX3 yX3_comeTo yX3_comeTo) ∈ lwA := lwA_mk (ck_7 _ (List.mem_of_getElem? (i := 17) rfl)) rfl
theorem k_RX3_45 {args : Array Value} {s : State} {R rm : Room} (hts : ∀ w ∈ lwA, w.before args s = true) (hR : rm.frames + 1 ≤ R.frames ∧ 8 + (3 + 11) + rm.locals ≤ R.locals) : CallW R s args RX3 RX3 45 yX3_comeTo cX3_comeTo 3 (some .boolean) (lwC yX3_comeTo cX3_comeTo 3 (some .boolean)) rm rm.cells rm.slots 2 := cwV 2 hts (gdV m_7_15 m_7_16 m_7_17 m_1_3 m_7_18) rfl rfl rfl (by decide +kernel) hR
theorem m_7_40 : (Cond.methodLink RX3 47 yX3_letterAt) ∈ lwA := lwA_mk (ck_7 _ (List.mem_of_getElem? (i := 40) rfl)) rfl
theorem k_RX3_47 {args : Array Value} {s : State} {R rm : Room} (hts : ∀ w ∈ lwA, w.before args s = true) (hR : rm.frames + 1 ≤ R.frames ∧ 8 + (2 + 11) + rm.locals ≤ R.locals) : CallW R s args RX3 RX3 47 yX3_letterAt cX3_letterAt 2 (some .char) (lwC yX3_letterAt cX3_letterAt 2 (some .char)) rm rm.cells rm.slots 1 := cwV 1 hts (gdV m_7_40 m_3_147 m_3_148 m_1_3 m_3_149) rfl rfl rfl (by decide +kernel) hR
theorem m_7_41 : (Cond.methodLink RX3 51 yX3_secondAt) ∈ lwA := lwA_mk (ck_7 _ (List.mem_of_getElem? (i := 41) rfl)) rfl
theorem k_RX3_51 {args : Array Value} {s : State} {R rm : Room} (hts : ∀ w ∈ lwA, w.before args s = true) (hR : rm.frames + 1 ≤ R.frames ∧ 8 + (2 + 11) + rm.locals ≤ R.locals) : CallW R s args RX3 RX3 51 yX3_secondAt cX3_secondAt 2 (some .int) (lwC yX3_secondAt cX3_secondAt 2 (some .int)) rm rm.cells rm.slots 1 := cwV 1 hts (gdV m_7_41 m_3_237 m_3_238 m_1_3 m_3_239) rfl rfl rfl (by decide +kernel) hR
theorem m_7_44 : (Cond.code yX3_takenBy cX3_takenBy 2 (some .int)) ∈ lwA := lwA_mk (ck_7 _ (List.mem_of_getElem? (i := 44) rfl)) rfl
theorem m_7_42 : (Cond.methodLink RX3 55 yX3_takenBy) ∈ lwA := lwA_mk (ck_7 _ (List.mem_of_getElem? (i := 42) rfl)) rfl
theorem m_7_43 : (Cond.static yX3_takenBy) ∈ lwA := lwA_mk (ck_7 _ (List.mem_of_getElem? (i := 43) rfl)) rfl
theorem k_RX3_55 {args : Array Value} {s : State} {R rm : Room} (hts : ∀ w ∈ lwA, w.before args s = true) (hR : rm.frames + 1 ≤ R.frames ∧ 8 + (2 + 11) + rm.locals ≤ R.locals) : CallB R s args RX3 55 yX3_takenBy cX3_takenBy 2 (some .int) (lwC yX3_takenBy cX3_takenBy 2 (some .int)) rm rm.cells rm.slots 2 ∧ (Cond.static yX3_takenBy).before args s = true := cwS 2 hts (gdS m_7_42 m_7_43 m_1_3 m_7_44) rfl rfl rfl (by decide +kernel) hR
theorem m_7_45 : (Cond.methodLink RX3 59 yX3_depthAt) ∈ lwA := lwA_mk (ck_7 _ (List.mem_of_getElem? (i := 45) rfl)) rfl
theorem k_RX3_59 {args : Array Value} {s : State} {R rm : Room} (hts : ∀ w ∈ lwA, w.before args s = true) (hR : rm.frames + 1 ≤ R.frames ∧ 8 + (2 + 11) + rm.locals ≤ R.locals) : CallW R s args RX3 RX3 59 yX3_depthAt cX3_depthAt 2 (some .int) (lwC yX3_depthAt cX3_depthAt 2 (some .int)) rm rm.cells rm.slots 1 := cwV 1 hts (gdV m_7_45 m_7_46 m_7_47 m_1_3 m_7_48) rfl rfl rfl (by decide +kernel) hR
theorem m_7_51 : (Cond.code yX3_putBy cX3_putBy 1 (some .int)) ∈ lwA := lwA_mk (ck_7 _ (List.mem_of_getElem? (i := 51) rfl)) rfl
theorem m_7_49 : (Cond.methodLink RX3 62 yX3_putBy) ∈ lwA := lwA_mk (ck_7 _ (List.mem_of_getElem? (i := 49) rfl)) rfl
theorem m_7_50 : (Cond.static yX3_putBy) ∈ lwA := lwA_mk (ck_7 _ (List.mem_of_getElem? (i := 50) rfl)) rfl
theorem k_RX3_62 {args : Array Value} {s : State} {R rm : Room} (hts : ∀ w ∈ lwA, w.before args s = true) (hR : rm.frames + 1 ≤ R.frames ∧ 8 + (1 + 11) + rm.locals ≤ R.locals) : CallB R s args RX3 62 yX3_putBy cX3_putBy 1 (some .int) (lwC yX3_putBy cX3_putBy 1 (some .int)) rm rm.cells rm.slots 1 ∧ (Cond.static yX3_putBy).before args s = true := cwS 1 hts (gdS m_7_49 m_7_50 m_1_3 m_7_51) rfl rfl rfl (by decide +kernel) hR
theorem m_7_52 : (Cond.methodLink RX3 66 yX3_firstAt) ∈ lwA := lwA_mk (ck_7 _ (List.mem_of_getElem? (i := 52) rfl)) rfl
theorem k_RX3_66 {args : Array Value} {s : State} {R rm : Room} (hts : ∀ w ∈ lwA, w.before args s = true) (hR : rm.frames + 1 ≤ R.frames ∧ 8 + (2 + 11) + rm.locals ≤ R.locals) : CallW R s args RX3 RX3 66 yX3_firstAt cX3_firstAt 2 (some .int) (lwC yX3_firstAt cX3_firstAt 2 (some .int)) rm rm.cells rm.slots 1 := cwV 1 hts (gdV m_7_52 m_3_156 m_3_157 m_1_3 m_3_158) rfl rfl rfl (by decide +kernel) hR
theorem ck_6 : ∀ w ∈ tables_1_6, w ∈ lw_tbl := fun _ h => List.mem_append_right _ (List.mem_append_right _ (List.mem_append_right _ (List.mem_append_right _ (List.mem_append_right _ (List.mem_append_right _ (List.mem_append_left _ h))))))
theorem m_6_211 : (Cond.methodLink RX6 3 objectInit) ∈ lwA := lwA_mk (ck_6 _ (List.mem_of_getElem? (i := 211) rfl)) rfl
theorem m_6_225 : (Cond.fieldLink RX6 9 "Sendhouse$Told" "calls" "I") ∈ lwA := lwA_mk (ck_6 _ (List.mem_of_getElem? (i := 225) rfl)) rfl
theorem pf_RX6_9_12 {A9 : Nat → Prop} {H9 : Heap} {fs : List Value} {v : Value} (S : CallFix p m c cc nL s args lwA RX6) (hE : g_E D vwCl (gT ar) (EX1 κ) A9 s H9) (w : g_S D vwCl A H0 G H locs nz) (ha : G a = some (.inr (12, fs))) (hn : narrow .int v = v) (hfit : fits .int v = true) (hl : 5 < fs.length) {fs1 : List Value} (hfs : fs.set 5 v = fs1) (hdg : decode cc pc = .ok (.putfield 9, 3)) (kk : ∀ (H1 : Heap) (locs1 : List Loc), g_S D vwCl A H0 (g_up G a (.inr (12, fs1))) H1 locs1 nz → W p l e R s m args below meth c H1 locs1 cells slots Q (F0 m (pc + 3) ls rest)) : W p l e R s m args below meth c H locs cells slots Q (F0 m pc ls (v :: .ref a :: rest)) :=
  g_put (ci := 12) (ty := .int) (C := RX6) (T := TX6) (N := 7) S.1 S.2.1 S.2.2.2.2 inA_RX6 tyX6 tyX6_ok nmX6 S.2.2.2.1 hE.1 w ha rfl 5 (by decide) (S.2.2.2.2 _ m_6_225) (fun _ h => h) rfl (by decide +kernel) hn hfit hl hdg (fun H1 l1 w1 => kk H1 l1 (by rw [← hfs]; exact w1))
theorem m_6_227 : (Cond.fieldLink RX6 15 "Sendhouse$Told" "compiled" "Z") ∈ lwA := lwA_mk (ck_6 _ (List.mem_of_getElem? (i := 227) rfl)) rfl
theorem pf_RX6_15_12 {A9 : Nat → Prop} {H9 : Heap} {fs : List Value} {v : Value} (S : CallFix p m c cc nL s args lwA RX6) (hE : g_E D vwCl (gT ar) (EX1 κ) A9 s H9) (w : g_S D vwCl A H0 G H locs nz) (ha : G a = some (.inr (12, fs))) (hn : narrow .boolean v = v) (hfit : fits .boolean v = true) (hl : 6 < fs.length) {fs1 : List Value} (hfs : fs.set 6 v = fs1) (hdg : decode cc pc = .ok (.putfield 15, 3)) (kk : ∀ (H1 : Heap) (locs1 : List Loc), g_S D vwCl A H0 (g_up G a (.inr (12, fs1))) H1 locs1 nz → W p l e R s m args below meth c H1 locs1 cells slots Q (F0 m (pc + 3) ls rest)) : W p l e R s m args below meth c H locs cells slots Q (F0 m pc ls (v :: .ref a :: rest)) :=
  g_put (ci := 12) (ty := .boolean) (C := RX6) (T := TX6) (N := 7) S.1 S.2.1 S.2.2.2.2 inA_RX6 tyX6 tyX6_ok nmX6 S.2.2.2.1 hE.1 w ha rfl 6 (by decide) (S.2.2.2.2 _ m_6_227) (fun _ h => h) rfl (by decide +kernel) hn hfit hl hdg (fun H1 l1 w1 => kk H1 l1 (by rw [← hfs]; exact w1))
theorem m_6_212 : (Cond.fieldLink RX6 19 "Sendhouse$Told" "cls" "I") ∈ lwA := lwA_mk (ck_6 _ (List.mem_of_getElem? (i := 212) rfl)) rfl
theorem pf_RX6_19_12 {A9 : Nat → Prop} {H9 : Heap} {fs : List Value} {v : Value} (S : CallFix p m c cc nL s args lwA RX6) (hE : g_E D vwCl (gT ar) (EX1 κ) A9 s H9) (hin : meth.name = "<init>") (w : g_S D vwCl A H0 G H locs nz) (ha : G a = some (.inr (12, fs))) (hn : narrow .int v = v) (hfit : fits .int v = true) (hl : 0 < fs.length) {fs1 : List Value} (hfs : fs.set 0 v = fs1) (hdg : decode cc pc = .ok (.putfield 19, 3)) (kk : ∀ (H1 : Heap) (locs1 : List Loc), g_S D vwCl A H0 (g_up G a (.inr (12, fs1))) H1 locs1 nz → W p l e R s m args below meth c H1 locs1 cells slots Q (F0 m (pc + 3) ls rest)) : W p l e R s m args below meth c H locs cells slots Q (F0 m pc ls (v :: .ref a :: rest)) :=
  g_putF (ci := 12) (ty := .int) (C := RX6) (T := TX6) (N := 7) S.1 S.2.1 S.2.2.2.2 inA_RX6 tyX6 tyX6_ok nmX6 S.2.2.2.1 hE.1 w ha rfl 0 (by decide) (S.2.2.2.2 _ m_6_212) (fun _ h => h) rfl hin rfl (by decide +kernel) hn hfit hl hdg (fun H1 l1 w1 => kk H1 l1 (by rw [← hfs]; exact w1))
theorem m_6_215 : (Cond.fieldLink RX6 22 "Sendhouse$Told" "selector" "I") ∈ lwA := lwA_mk (ck_6 _ (List.mem_of_getElem? (i := 215) rfl)) rfl
theorem pf_RX6_22_12 {A9 : Nat → Prop} {H9 : Heap} {fs : List Value} {v : Value} (S : CallFix p m c cc nL s args lwA RX6) (hE : g_E D vwCl (gT ar) (EX1 κ) A9 s H9) (hin : meth.name = "<init>") (w : g_S D vwCl A H0 G H locs nz) (ha : G a = some (.inr (12, fs))) (hn : narrow .int v = v) (hfit : fits .int v = true) (hl : 1 < fs.length) {fs1 : List Value} (hfs : fs.set 1 v = fs1) (hdg : decode cc pc = .ok (.putfield 22, 3)) (kk : ∀ (H1 : Heap) (locs1 : List Loc), g_S D vwCl A H0 (g_up G a (.inr (12, fs1))) H1 locs1 nz → W p l e R s m args below meth c H1 locs1 cells slots Q (F0 m (pc + 3) ls rest)) : W p l e R s m args below meth c H locs cells slots Q (F0 m pc ls (v :: .ref a :: rest)) :=
  g_putF (ci := 12) (ty := .int) (C := RX6) (T := TX6) (N := 7) S.1 S.2.1 S.2.2.2.2 inA_RX6 tyX6 tyX6_ok nmX6 S.2.2.2.1 hE.1 w ha rfl 1 (by decide) (S.2.2.2.2 _ m_6_215) (fun _ h => h) rfl hin rfl (by decide +kernel) hn hfit hl hdg (fun H1 l1 w1 => kk H1 l1 (by rw [← hfs]; exact w1))
theorem m_6_217 : (Cond.fieldLink RX6 25 "Sendhouse$Told" "arguments" "I") ∈ lwA := lwA_mk (ck_6 _ (List.mem_of_getElem? (i := 217) rfl)) rfl
theorem pf_RX6_25_12 {A9 : Nat → Prop} {H9 : Heap} {fs : List Value} {v : Value} (S : CallFix p m c cc nL s args lwA RX6) (hE : g_E D vwCl (gT ar) (EX1 κ) A9 s H9) (hin : meth.name = "<init>") (w : g_S D vwCl A H0 G H locs nz) (ha : G a = some (.inr (12, fs))) (hn : narrow .int v = v) (hfit : fits .int v = true) (hl : 2 < fs.length) {fs1 : List Value} (hfs : fs.set 2 v = fs1) (hdg : decode cc pc = .ok (.putfield 25, 3)) (kk : ∀ (H1 : Heap) (locs1 : List Loc), g_S D vwCl A H0 (g_up G a (.inr (12, fs1))) H1 locs1 nz → W p l e R s m args below meth c H1 locs1 cells slots Q (F0 m (pc + 3) ls rest)) : W p l e R s m args below meth c H locs cells slots Q (F0 m pc ls (v :: .ref a :: rest)) :=
  g_putF (ci := 12) (ty := .int) (C := RX6) (T := TX6) (N := 7) S.1 S.2.1 S.2.2.2.2 inA_RX6 tyX6 tyX6_ok nmX6 S.2.2.2.1 hE.1 w ha rfl 2 (by decide) (S.2.2.2.2 _ m_6_217) (fun _ h => h) rfl hin rfl (by decide +kernel) hn hfit hl hdg (fun H1 l1 w1 => kk H1 l1 (by rw [← hfs]; exact w1))
theorem m_6_220 : (Cond.fieldLink RX6 28 "Sendhouse$Told" "temporaries" "I") ∈ lwA := lwA_mk (ck_6 _ (List.mem_of_getElem? (i := 220) rfl)) rfl
theorem pf_RX6_28_12 {A9 : Nat → Prop} {H9 : Heap} {fs : List Value} {v : Value} (S : CallFix p m c cc nL s args lwA RX6) (hE : g_E D vwCl (gT ar) (EX1 κ) A9 s H9) (hin : meth.name = "<init>") (w : g_S D vwCl A H0 G H locs nz) (ha : G a = some (.inr (12, fs))) (hn : narrow .int v = v) (hfit : fits .int v = true) (hl : 3 < fs.length) {fs1 : List Value} (hfs : fs.set 3 v = fs1) (hdg : decode cc pc = .ok (.putfield 28, 3)) (kk : ∀ (H1 : Heap) (locs1 : List Loc), g_S D vwCl A H0 (g_up G a (.inr (12, fs1))) H1 locs1 nz → W p l e R s m args below meth c H1 locs1 cells slots Q (F0 m (pc + 3) ls rest)) : W p l e R s m args below meth c H locs cells slots Q (F0 m pc ls (v :: .ref a :: rest)) :=
  g_putF (ci := 12) (ty := .int) (C := RX6) (T := TX6) (N := 7) S.1 S.2.1 S.2.2.2.2 inA_RX6 tyX6 tyX6_ok nmX6 S.2.2.2.1 hE.1 w ha rfl 3 (by decide) (S.2.2.2.2 _ m_6_220) (fun _ h => h) rfl hin rfl (by decide +kernel) hn hfit hl hdg (fun H1 l1 w1 => kk H1 l1 (by rw [← hfs]; exact w1))
theorem m_6_222 : (Cond.fieldLink RX6 31 "Sendhouse$Told" "rows" "LSendhouse$Rows;") ∈ lwA := lwA_mk (ck_6 _ (List.mem_of_getElem? (i := 222) rfl)) rfl
theorem pf_RX6_31_12 {A9 : Nat → Prop} {H9 : Heap} {fs : List Value} {v : Value} (S : CallFix p m c cc nL s args lwA RX6) (hE : g_E D vwCl (gT ar) (EX1 κ) A9 s H9) (hin : meth.name = "<init>") (w : g_S D vwCl A H0 G H locs nz) (ha : G a = some (.inr (12, fs))) (hn : narrow (.object "Sendhouse$Rows") v = v) (hfit : fits (.object "Sendhouse$Rows") v = true) (hl : 4 < fs.length) {fs1 : List Value} (hfs : fs.set 4 v = fs1) (hdg : decode cc pc = .ok (.putfield 31, 3)) (kk : ∀ (H1 : Heap) (locs1 : List Loc), g_S D vwCl A H0 (g_up G a (.inr (12, fs1))) H1 locs1 nz → W p l e R s m args below meth c H1 locs1 cells slots Q (F0 m (pc + 3) ls rest)) : W p l e R s m args below meth c H locs cells slots Q (F0 m pc ls (v :: .ref a :: rest)) :=
  g_putF (ci := 12) (ty := (.object "Sendhouse$Rows")) (C := RX6) (T := TX6) (N := 7) S.1 S.2.1 S.2.2.2.2 inA_RX6 tyX6 tyX6_ok nmX6 S.2.2.2.1 hE.1 w ha rfl 4 (by decide) (S.2.2.2.2 _ m_6_222) (fun _ h => h) rfl hin rfl (by decide +kernel) hn hfit hl hdg (fun H1 l1 w1 => kk H1 l1 (by rw [← hfs]; exact w1))
theorem gf_RX6_31_12 {A9 : Nat → Prop} {H9 : Heap} {fs : List Value} {v : Value} (S : CallFix p m c cc nL s args lwA RX6) (hE : g_E D vwCl (gT ar) (EX1 κ) A9 s H9) (w : g_S D vwCl A H0 G H locs nz) (ha : G a = some (.inr (12, fs))) (hv : fs[4]? = some v) (hdg : decode cc pc = .ok (.getfield 31, 3)) (kk : W p l e R s m args below meth c H locs cells slots Q (F0 m (pc + 3) ls (v :: rest))) : W p l e R s m args below meth c H locs cells slots Q (F0 m pc ls (.ref a :: rest)) :=
  va_get (ci := 12) (C := RX6) (T := TX6) (N := 7) S.1 S.2.1 S.2.2.2.2 inA_RX6 S.2.2.2.1 hE.1 (g_1 w.1 ha) 0 rfl rfl 4 (by decide) (S.2.2.2.2 _ m_6_222) (fun _ h => h) hv hdg kk
theorem m_7_27 : (Cond.methodLink RX6 56 yX3_firstAt) ∈ lwA := lwA_mk (ck_7 _ (List.mem_of_getElem? (i := 27) rfl)) rfl
theorem k_RX6_56 {args : Array Value} {s : State} {R rm : Room} (hts : ∀ w ∈ lwA, w.before args s = true) (hR : rm.frames + 1 ≤ R.frames ∧ 8 + (2 + 11) + rm.locals ≤ R.locals) : CallW R s args RX6 RX3 56 yX3_firstAt cX3_firstAt 2 (some .int) (lwC yX3_firstAt cX3_firstAt 2 (some .int)) rm rm.cells rm.slots 1 := cwV 1 hts (gdV m_7_27 m_3_156 m_3_157 m_1_3 m_3_158) rfl rfl rfl (by decide +kernel) hR
theorem m_7_28 : (Cond.methodLink RX6 59 yX3_letterAt) ∈ lwA := lwA_mk (ck_7 _ (List.mem_of_getElem? (i := 28) rfl)) rfl
theorem k_RX6_59 {args : Array Value} {s : State} {R rm : Room} (hts : ∀ w ∈ lwA, w.before args s = true) (hR : rm.frames + 1 ≤ R.frames ∧ 8 + (2 + 11) + rm.locals ≤ R.locals) : CallW R s args RX6 RX3 59 yX3_letterAt cX3_letterAt 2 (some .char) (lwC yX3_letterAt cX3_letterAt 2 (some .char)) rm rm.cells rm.slots 1 := cwV 1 hts (gdV m_7_28 m_3_147 m_3_148 m_1_3 m_3_149) rfl rfl rfl (by decide +kernel) hR
theorem gf_RX6_19_12 {A9 : Nat → Prop} {H9 : Heap} {fs : List Value} {v : Value} (S : CallFix p m c cc nL s args lwA RX6) (hE : g_E D vwCl (gT ar) (EX1 κ) A9 s H9) (w : g_S D vwCl A H0 G H locs nz) (ha : G a = some (.inr (12, fs))) (hv : fs[0]? = some v) (hdg : decode cc pc = .ok (.getfield 19, 3)) (kk : W p l e R s m args below meth c H locs cells slots Q (F0 m (pc + 3) ls (v :: rest))) : W p l e R s m args below meth c H locs cells slots Q (F0 m pc ls (.ref a :: rest)) :=
  va_get (ci := 12) (C := RX6) (T := TX6) (N := 7) S.1 S.2.1 S.2.2.2.2 inA_RX6 S.2.2.2.1 hE.1 (g_1 w.1 ha) 0 rfl rfl 0 (by decide) (S.2.2.2.2 _ m_6_212) (fun _ h => h) hv hdg kk
theorem m_7_30 : (Cond.methodLink RX6 67 yX0_fieldsOf) ∈ lwA := lwA_mk (ck_7 _ (List.mem_of_getElem? (i := 30) rfl)) rfl
theorem k_RX6_67 {args : Array Value} {s : State} {R rm : Room} (hts : ∀ w ∈ lwA, w.before args s = true) (hR : rm.frames + 1 ≤ R.frames ∧ 8 + (2 + 11) + rm.locals ≤ R.locals) : CallW R s args RX6 RX0 67 yX0_fieldsOf cX0_fieldsOf 2 (some .int) (lwC yX0_fieldsOf cX0_fieldsOf 2 (some .int)) rm rm.cells rm.slots 1 := cwV 1 hts (gdV m_7_30 m_3_215 m_3_216 m_1_2 m_3_217) rfl rfl rfl (by decide +kernel) hR
theorem k_RX6_63 {args : Array Value} {s : State} {R rm : Room} (hts : ∀ w ∈ lwA, w.before args s = true) (hN : va_Nw (.methodLinkNest RX6 63 yX8_isBelow "Sendhouse") s) (hR : rm.frames + 1 ≤ R.frames ∧ 8 + (2 + 11) + rm.locals ≤ R.locals) : va_CN R s args RX6 63 yX8_isBelow "Sendhouse" cX8_isBelow 2 (some .boolean) (lwC yX8_isBelow cX8_isBelow 2 (some .boolean)) rm rm.cells rm.slots 2 ∧ (Cond.static yX8_isBelow).before args s = true ∧ True := ⟨va_cnB 2 hts (gd m_2_157) rfl rfl rfl hN (hts _ m_1_1) (by decide +kernel) hR, hts _ m_2_156, trivial⟩
theorem m_7_35 : (Cond.methodLink RX6 78 yX3_secondAt) ∈ lwA := lwA_mk (ck_7 _ (List.mem_of_getElem? (i := 35) rfl)) rfl
theorem k_RX6_78 {args : Array Value} {s : State} {R rm : Room} (hts : ∀ w ∈ lwA, w.before args s = true) (hR : rm.frames + 1 ≤ R.frames ∧ 8 + (2 + 11) + rm.locals ≤ R.locals) : CallW R s args RX6 RX3 78 yX3_secondAt cX3_secondAt 2 (some .int) (lwC yX3_secondAt cX3_secondAt 2 (some .int)) rm rm.cells rm.slots 1 := cwV 1 hts (gdV m_7_35 m_3_237 m_3_238 m_1_3 m_3_239) rfl rfl rfl (by decide +kernel) hR
theorem gf_RX6_28_12 {A9 : Nat → Prop} {H9 : Heap} {fs : List Value} {v : Value} (S : CallFix p m c cc nL s args lwA RX6) (hE : g_E D vwCl (gT ar) (EX1 κ) A9 s H9) (w : g_S D vwCl A H0 G H locs nz) (ha : G a = some (.inr (12, fs))) (hv : fs[3]? = some v) (hdg : decode cc pc = .ok (.getfield 28, 3)) (kk : W p l e R s m args below meth c H locs cells slots Q (F0 m (pc + 3) ls (v :: rest))) : W p l e R s m args below meth c H locs cells slots Q (F0 m pc ls (.ref a :: rest)) :=
  va_get (ci := 12) (C := RX6) (T := TX6) (N := 7) S.1 S.2.1 S.2.2.2.2 inA_RX6 S.2.2.2.1 hE.1 (g_1 w.1 ha) 0 rfl rfl 3 (by decide) (S.2.2.2.2 _ m_6_220) (fun _ h => h) hv hdg kk
theorem gf_RX6_25_12 {A9 : Nat → Prop} {H9 : Heap} {fs : List Value} {v : Value} (S : CallFix p m c cc nL s args lwA RX6) (hE : g_E D vwCl (gT ar) (EX1 κ) A9 s H9) (w : g_S D vwCl A H0 G H locs nz) (ha : G a = some (.inr (12, fs))) (hv : fs[2]? = some v) (hdg : decode cc pc = .ok (.getfield 25, 3)) (kk : W p l e R s m args below meth c H locs cells slots Q (F0 m (pc + 3) ls (v :: rest))) : W p l e R s m args below meth c H locs cells slots Q (F0 m pc ls (.ref a :: rest)) :=
  va_get (ci := 12) (C := RX6) (T := TX6) (N := 7) S.1 S.2.1 S.2.2.2.2 inA_RX6 S.2.2.2.1 hE.1 (g_1 w.1 ha) 0 rfl rfl 2 (by decide) (S.2.2.2.2 _ m_6_217) (fun _ h => h) hv hdg kk
theorem m_2_154 : (Cond.code yX0_has cX0_has 2 (some .boolean)) ∈ lwA := lwA_mk (ck_2 _ (List.mem_of_getElem? (i := 154) rfl)) rfl
theorem m_7_31 : (Cond.methodLink RX6 72 yX0_has) ∈ lwA := lwA_mk (ck_7 _ (List.mem_of_getElem? (i := 31) rfl)) rfl
theorem m_2_152 : (Cond.instanceMethod yX0_has) ∈ lwA := lwA_mk (ck_2 _ (List.mem_of_getElem? (i := 152) rfl)) rfl
theorem m_2_153 : (Cond.selects RX0 yX0_has yX0_has) ∈ lwA := lwA_mk (ck_2 _ (List.mem_of_getElem? (i := 153) rfl)) rfl
theorem k_RX6_72 {args : Array Value} {s : State} {R rm : Room} (hts : ∀ w ∈ lwA, w.before args s = true) (hR : rm.frames + 1 ≤ R.frames ∧ 8 + (2 + 11) + rm.locals ≤ R.locals) : CallW R s args RX6 RX0 72 yX0_has cX0_has 2 (some .boolean) (lwC yX0_has cX0_has 2 (some .boolean)) rm rm.cells rm.slots 1 := cwV 1 hts (gdV m_7_31 m_2_152 m_2_153 m_1_2 m_2_154) rfl rfl rfl (by decide +kernel) hR
theorem m_7_34 : (Cond.code yX8_isOfPlainValues cX8_isOfPlainValues 1 (some .boolean)) ∈ lwA := lwA_mk (ck_7 _ (List.mem_of_getElem? (i := 34) rfl)) rfl
theorem m_7_33 : (Cond.static yX8_isOfPlainValues) ∈ lwA := lwA_mk (ck_7 _ (List.mem_of_getElem? (i := 33) rfl)) rfl
theorem k_RX6_75 {args : Array Value} {s : State} {R rm : Room} (hts : ∀ w ∈ lwA, w.before args s = true) (hN : va_Nw (.methodLinkNest RX6 75 yX8_isOfPlainValues "Sendhouse") s) (hR : rm.frames + 1 ≤ R.frames ∧ 8 + (1 + 11) + rm.locals ≤ R.locals) : va_CN R s args RX6 75 yX8_isOfPlainValues "Sendhouse" cX8_isOfPlainValues 1 (some .boolean) (lwC yX8_isOfPlainValues cX8_isOfPlainValues 1 (some .boolean)) rm rm.cells rm.slots 1 ∧ (Cond.static yX8_isOfPlainValues).before args s = true ∧ True := ⟨va_cnB 1 hts (gd m_7_34) rfl rfl rfl hN (hts _ m_1_1) (by decide +kernel) hR, hts _ m_7_33, trivial⟩
theorem m_7_11 : (Cond.code yX3_comeToFirst cX3_comeToFirst 1 (some .boolean)) ∈ lwA := lwA_mk (ck_7 _ (List.mem_of_getElem? (i := 11) rfl)) rfl
theorem m_7_8 : (Cond.methodLink RX6 35 yX3_comeToFirst) ∈ lwA := lwA_mk (ck_7 _ (List.mem_of_getElem? (i := 8) rfl)) rfl
theorem m_7_9 : (Cond.instanceMethod yX3_comeToFirst) ∈ lwA := lwA_mk (ck_7 _ (List.mem_of_getElem? (i := 9) rfl)) rfl
theorem m_7_10 : (Cond.selects RX3 yX3_comeToFirst yX3_comeToFirst) ∈ lwA := lwA_mk (ck_7 _ (List.mem_of_getElem? (i := 10) rfl)) rfl
theorem k_RX6_35 {args : Array Value} {s : State} {R rm : Room} (hts : ∀ w ∈ lwA, w.before args s = true) (hR : rm.frames + 1 ≤ R.frames ∧ 8 + (1 + 11) + rm.locals ≤ R.locals) : CallW R s args RX6 RX3 35 yX3_comeToFirst cX3_comeToFirst 1 (some .boolean) (lwC yX3_comeToFirst cX3_comeToFirst 1 (some .boolean)) rm rm.cells rm.slots 0 := cwV 0 hts (gdV m_7_8 m_7_9 m_7_10 m_1_3 m_7_11) rfl rfl rfl (by decide +kernel) hR
theorem gf_RX6_41_9 {A9 : Nat → Prop} {H9 : Heap} {fs : List Value} {v : Value} (S : CallFix p m c cc nL s args lwA RX6) (hE : g_E D vwCl (gT ar) (EX1 κ) A9 s H9) (w : g_S D vwCl A H0 G H locs nz) (ha : G a = some (.inr (9, fs))) (hv : fs[6]? = some v) (hdg : decode cc pc = .ok (.getfield 41, 3)) (kk : W p l e R s m args below meth c H locs cells slots Q (F0 m (pc + 3) ls (v :: rest))) : W p l e R s m args below meth c H locs cells slots Q (F0 m pc ls (.ref a :: rest)) :=
  va_getN (ci := 9) (C := RX3) (T := TX3) (N := 7) S.1 S.2.1 S.2.2.2.2 inA_RX3 S.2.2.2.1 hE.1 (g_1 w.1 ha) 0 rfl rfl 6 (by decide) (va_Nw.use rfl (hE.2.1.1 _ (ckN_0 _ (List.mem_of_getElem? (i := 4) rfl)))) (fun _ h => h) hv hdg kk
theorem m_7_22 : (Cond.code yX3_comeToAt cX3_comeToAt 2 (some .int)) ∈ lwA := lwA_mk (ck_7 _ (List.mem_of_getElem? (i := 22) rfl)) rfl
theorem m_7_19 : (Cond.methodLink RX6 44 yX3_comeToAt) ∈ lwA := lwA_mk (ck_7 _ (List.mem_of_getElem? (i := 19) rfl)) rfl
theorem m_7_20 : (Cond.instanceMethod yX3_comeToAt) ∈ lwA := lwA_mk (ck_7 _ (List.mem_of_getElem? (i := 20) rfl)) rfl
theorem m_7_21 : (Cond.selects RX3 yX3_comeToAt yX3_comeToAt) ∈ lwA := lwA_mk (ck_7 _ (List.mem_of_getElem? (i := 21) rfl)) rfl
theorem k_RX6_44 {args : Array Value} {s : State} {R rm : Room} (hts : ∀ w ∈ lwA, w.before args s = true) (hR : rm.frames + 1 ≤ R.frames ∧ 8 + (2 + 11) + rm.locals ≤ R.locals) : CallW R s args RX6 RX3 44 yX3_comeToAt cX3_comeToAt 2 (some .int) (lwC yX3_comeToAt cX3_comeToAt 2 (some .int)) rm rm.cells rm.slots 1 := cwV 1 hts (gdV m_7_19 m_7_20 m_7_21 m_1_3 m_7_22) rfl rfl rfl (by decide +kernel) hR
theorem m_7_26 : (Cond.code yX6_isNamingWhatIsThere cX6_isNamingWhatIsThere 4 (some .boolean)) ∈ lwA := lwA_mk (ck_7 _ (List.mem_of_getElem? (i := 26) rfl)) rfl
theorem m_1_36 : (Cond.initialized RX6) ∈ lwA := lwA_mk (ck_1 _ (List.mem_of_getElem? (i := 36) rfl)) rfl
theorem m_7_23 : (Cond.methodLink RX6 48 yX6_isNamingWhatIsThere) ∈ lwA := lwA_mk (ck_7 _ (List.mem_of_getElem? (i := 23) rfl)) rfl
theorem m_7_25 : (Cond.instanceMethod yX6_isNamingWhatIsThere) ∈ lwA := lwA_mk (ck_7 _ (List.mem_of_getElem? (i := 25) rfl)) rfl
theorem ms_29 : (Cond.selects RX6 yX6_isNamingWhatIsThere yX6_isNamingWhatIsThere) ∈ lwA := lwA_mk (List.mem_append_left _ (List.mem_of_getElem? (i := 29) rfl)) rfl
theorem k_RX6_48 {args : Array Value} {s : State} {R rm : Room} (hts : ∀ w ∈ lwA, w.before args s = true) (hR : rm.frames + 1 ≤ R.frames ∧ 8 + (4 + 11) + rm.locals ≤ R.locals) : CallW R s args RX6 RX6 48 yX6_isNamingWhatIsThere cX6_isNamingWhatIsThere 4 (some .boolean) (lwC yX6_isNamingWhatIsThere cX6_isNamingWhatIsThere 4 (some .boolean)) rm rm.cells rm.slots 2 := cwV 2 hts (gdV m_7_23 m_7_25 ms_29 m_1_36 m_7_26) rfl rfl rfl (by decide +kernel) hR
theorem m_7_39 : (Cond.code yX3_leadOnFrom cX3_leadOnFrom 5 (some .boolean)) ∈ lwA := lwA_mk (ck_7 _ (List.mem_of_getElem? (i := 39) rfl)) rfl
theorem m_7_36 : (Cond.methodLink RX6 52 yX3_leadOnFrom) ∈ lwA := lwA_mk (ck_7 _ (List.mem_of_getElem? (i := 36) rfl)) rfl
theorem m_7_37 : (Cond.instanceMethod yX3_leadOnFrom) ∈ lwA := lwA_mk (ck_7 _ (List.mem_of_getElem? (i := 37) rfl)) rfl
theorem m_7_38 : (Cond.selects RX3 yX3_leadOnFrom yX3_leadOnFrom) ∈ lwA := lwA_mk (ck_7 _ (List.mem_of_getElem? (i := 38) rfl)) rfl
theorem k_RX6_52 {args : Array Value} {s : State} {R rm : Room} (hts : ∀ w ∈ lwA, w.before args s = true) (hR : rm.frames + 1 ≤ R.frames ∧ 8 + (5 + 11) + rm.locals ≤ R.locals) : CallW R s args RX6 RX3 52 yX3_leadOnFrom cX3_leadOnFrom 5 (some .boolean) (lwC yX3_leadOnFrom cX3_leadOnFrom 5 (some .boolean)) rm rm.cells rm.slots 1 := cwV 1 hts (gdV m_7_36 m_7_37 m_7_38 m_1_3 m_7_39) rfl rfl rfl (by decide +kernel) hR
theorem gf_RX8_18_14 {A9 : Nat → Prop} {H9 : Heap} {fs : List Value} {v : Value} (S : CallFix p m c cc nL s args lwA RX8) (hE : g_E D vwCl (gT ar) (EX1 κ) A9 s H9) (w : g_S D vwCl A H0 G H locs nz) (ha : G a = some (.inr (14, fs))) (hv : fs[1]? = some v) (hdg : decode cc pc = .ok (.getfield 18, 3)) (kk : W p l e R s m args below meth c H locs cells slots Q (F0 m (pc + 3) ls (v :: rest))) : W p l e R s m args below meth c H locs cells slots Q (F0 m pc ls (.ref a :: rest)) :=
  va_get (ci := 14) (C := RX8) (T := TX8) (N := 13) S.1 S.2.1 S.2.2.2.2 inA_RX8 S.2.2.2.1 hE.1 (g_1 w.1 ha) 0 rfl rfl 1 (by decide) (S.2.2.2.2 _ m_2_6) (fun _ h => h) hv hdg kk
theorem m_2_175 : (Cond.code yX8_methodAt cX8_methodAt 3 (some (.object "Sendhouse$Told"))) ∈ lwA := lwA_mk (ck_2 _ (List.mem_of_getElem? (i := 175) rfl)) rfl
theorem m_2_172 : (Cond.methodLink RX8 179 yX8_methodAt) ∈ lwA := lwA_mk (ck_2 _ (List.mem_of_getElem? (i := 172) rfl)) rfl
theorem m_2_174 : (Cond.instanceMethod yX8_methodAt) ∈ lwA := lwA_mk (ck_2 _ (List.mem_of_getElem? (i := 174) rfl)) rfl
theorem ms_3 : (Cond.selects RX8 yX8_methodAt yX8_methodAt) ∈ lwA := lwA_mk (List.mem_append_left _ (List.mem_of_getElem? (i := 3) rfl)) rfl
theorem k_RX8_179 {args : Array Value} {s : State} {R rm : Room} (hts : ∀ w ∈ lwA, w.before args s = true) (hR : rm.frames + 1 ≤ R.frames ∧ 8 + (3 + 11) + rm.locals ≤ R.locals) : CallW R s args RX8 RX8 179 yX8_methodAt cX8_methodAt 3 (some (.object "Sendhouse$Told")) (lwC yX8_methodAt cX8_methodAt 3 (some (.object "Sendhouse$Told"))) rm rm.cells rm.slots 2 := cwV 2 hts (gdV m_2_172 m_2_174 ms_3 m_1_1 m_2_175) rfl rfl rfl (by decide +kernel) hR
theorem gf_RX8_10_14 {A9 : Nat → Prop} {H9 : Heap} {fs : List Value} {v : Value} (S : CallFix p m c cc nL s args lwA RX8) (hE : g_E D vwCl (gT ar) (EX1 κ) A9 s H9) (w : g_S D vwCl A H0 G H locs nz) (ha : G a = some (.inr (14, fs))) (hv : fs[0]? = some v) (hdg : decode cc pc = .ok (.getfield 10, 3)) (kk : W p l e R s m args below meth c H locs cells slots Q (F0 m (pc + 3) ls (v :: rest))) : W p l e R s m args below meth c H locs cells slots Q (F0 m pc ls (.ref a :: rest)) :=
  va_get (ci := 14) (C := RX8) (T := TX8) (N := 13) S.1 S.2.1 S.2.2.2.2 inA_RX8 S.2.2.2.1 hE.1 (g_1 w.1 ha) 0 rfl rfl 0 (by decide) (S.2.2.2.2 _ m_2_5) (fun _ h => h) hv hdg kk
theorem m_3_89 : (Cond.code yX0_aboveOf cX0_aboveOf 2 (some .int)) ∈ lwA := lwA_mk (ck_3 _ (List.mem_of_getElem? (i := 89) rfl)) rfl
theorem m_3_86 : (Cond.methodLink RX8 184 yX0_aboveOf) ∈ lwA := lwA_mk (ck_3 _ (List.mem_of_getElem? (i := 86) rfl)) rfl
theorem m_3_87 : (Cond.instanceMethod yX0_aboveOf) ∈ lwA := lwA_mk (ck_3 _ (List.mem_of_getElem? (i := 87) rfl)) rfl
theorem m_3_88 : (Cond.selects RX0 yX0_aboveOf yX0_aboveOf) ∈ lwA := lwA_mk (ck_3 _ (List.mem_of_getElem? (i := 88) rfl)) rfl
theorem k_RX8_184 {args : Array Value} {s : State} {R rm : Room} (hts : ∀ w ∈ lwA, w.before args s = true) (hR : rm.frames + 1 ≤ R.frames ∧ 8 + (2 + 11) + rm.locals ≤ R.locals) : CallW R s args RX8 RX0 184 yX0_aboveOf cX0_aboveOf 2 (some .int) (lwC yX0_aboveOf cX0_aboveOf 2 (some .int)) rm rm.cells rm.slots 1 := cwV 1 hts (gdV m_3_86 m_3_87 m_3_88 m_1_2 m_3_89) rfl rfl rfl (by decide +kernel) hR
theorem Ho_ab_sme {v9 : Ho} {y9 : Nat → Option Nat} : (v9.sme y9).ab = v9.ab := rfl
theorem Ho_fc_sme {v9 : Ho} {y9 : Nat → Option Nat} : (v9.sme y9).fc = v9.fc := rfl
theorem Ho_cn_sme {v9 : Ho} {y9 : Nat → Option Nat} : (v9.sme y9).cn = v9.cn := rfl
theorem Ho_nt_sme {v9 : Ho} {y9 : Nat → Option Nat} : (v9.sme y9).nt = v9.nt := rfl
theorem Ho_nr_sme {v9 : Ho} {y9 : Nat → Option Nat} : (v9.sme y9).nr = v9.nr := rfl
theorem Ho_ty_sme {v9 : Ho} {y9 : Nat → Option Nat} : (v9.sme y9).ty = v9.ty := rfl
theorem Ho_to_sme {v9 : Ho} {y9 : Nat → Option Nat} : (v9.sme y9).to = v9.to := rfl
theorem Ho_ro_sme {v9 : Ho} {y9 : Nat → Option Nat} : (v9.sme y9).ro = v9.ro := rfl
theorem Ho_gl_sme {v9 : Ho} {y9 : Nat → Option Nat} : (v9.sme y9).gl = v9.gl := rfl
theorem Ho_al_sme {v9 : Ho} {y9 : Nat → Option Nat} : (v9.sme y9).al = v9.al := rfl
theorem Ho_re_sme {v9 : Ho} {y9 : Nat → Option Nat} : (v9.sme y9).re = v9.re := rfl
theorem Ho_th_sme {v9 : Ho} {y9 : Nat → Option Nat} : (v9.sme y9).th = v9.th := rfl
theorem Ho_tc_sme {v9 : Ho} {y9 : Nat → Option Nat} : (v9.sme y9).tc = v9.tc := rfl
theorem Ho_rc_sme {v9 : Ho} {y9 : Nat → Option Nat} : (v9.sme y9).rc = v9.rc := rfl
theorem Ho_mk_sme {v9 : Ho} {y9 : Nat → Option Nat} : (v9.sme y9).mk = v9.mk := rfl
theorem Ho_fr_sme {v9 : Ho} {y9 : Nat → Option Nat} : (v9.sme y9).fr = v9.fr := rfl
theorem Ho_fn_sme {v9 : Ho} {y9 : Nat → Option Nat} : (v9.sme y9).fn = v9.fn := rfl
theorem Ho_st_sme {v9 : Ho} {y9 : Nat → Option Nat} : (v9.sme y9).st = v9.st := rfl
theorem Ho_rs_sme {v9 : Ho} {y9 : Nat → Option Nat} : (v9.sme y9).rs = v9.rs := rfl
theorem Ho_an_sme {v9 : Ho} {y9 : Nat → Option Nat} : (v9.sme y9).an = v9.an := rfl
theorem Ho_sp_sme {v9 : Ho} {y9 : Nat → Option Nat} : (v9.sme y9).sp = v9.sp := rfl
theorem Ho_np_sme {v9 : Ho} {y9 : Nat → Option Nat} : (v9.sme y9).np = v9.np := rfl
theorem Ho_pg_sme {v9 : Ho} {y9 : Nat → Option Nat} : (v9.sme y9).pg = v9.pg := rfl
theorem Ho_wc_sme {v9 : Ho} {y9 : Nat → Option Nat} : (v9.sme y9).wc = v9.wc := rfl
theorem Ho_ws_sme {v9 : Ho} {y9 : Nat → Option Nat} : (v9.sme y9).ws = v9.ws := rfl
theorem Ho_wp_sme {v9 : Ho} {y9 : Nat → Option Nat} : (v9.sme y9).wp = v9.wp := rfl
theorem Ho_ab_sst {v9 : Ho} {y9 : Int32} : (v9.sst y9).ab = v9.ab := rfl
theorem Ho_fc_sst {v9 : Ho} {y9 : Int32} : (v9.sst y9).fc = v9.fc := rfl
theorem Ho_cn_sst {v9 : Ho} {y9 : Int32} : (v9.sst y9).cn = v9.cn := rfl
theorem Ho_me_sst {v9 : Ho} {y9 : Int32} : (v9.sst y9).me = v9.me := rfl
theorem Ho_nt_sst {v9 : Ho} {y9 : Int32} : (v9.sst y9).nt = v9.nt := rfl
theorem Ho_nr_sst {v9 : Ho} {y9 : Int32} : (v9.sst y9).nr = v9.nr := rfl
theorem Ho_to_sst {v9 : Ho} {y9 : Int32} : (v9.sst y9).to = v9.to := rfl
theorem Ho_ro_sst {v9 : Ho} {y9 : Int32} : (v9.sst y9).ro = v9.ro := rfl
theorem Ho_gl_sst {v9 : Ho} {y9 : Int32} : (v9.sst y9).gl = v9.gl := rfl
theorem Ho_al_sst {v9 : Ho} {y9 : Int32} : (v9.sst y9).al = v9.al := rfl
theorem Ho_re_sst {v9 : Ho} {y9 : Int32} : (v9.sst y9).re = v9.re := rfl
theorem Ho_th_sst {v9 : Ho} {y9 : Int32} : (v9.sst y9).th = v9.th := rfl
theorem Ho_tc_sst {v9 : Ho} {y9 : Int32} : (v9.sst y9).tc = v9.tc := rfl
theorem Ho_rc_sst {v9 : Ho} {y9 : Int32} : (v9.sst y9).rc = v9.rc := rfl
theorem Ho_mk_sst {v9 : Ho} {y9 : Int32} : (v9.sst y9).mk = v9.mk := rfl
theorem Ho_fr_sst {v9 : Ho} {y9 : Int32} : (v9.sst y9).fr = v9.fr := rfl
theorem Ho_np_sst {v9 : Ho} {y9 : Int32} : (v9.sst y9).np = v9.np := rfl
theorem Ho_pg_sst {v9 : Ho} {y9 : Int32} : (v9.sst y9).pg = v9.pg := rfl
theorem Ho_wc_sst {v9 : Ho} {y9 : Int32} : (v9.sst y9).wc = v9.wc := rfl
theorem Ho_ws_sst {v9 : Ho} {y9 : Int32} : (v9.sst y9).ws = v9.ws := rfl
theorem Ho_wp_sst {v9 : Ho} {y9 : Int32} : (v9.sst y9).wp = v9.wp := rfl
theorem Ho_ab_srs {v9 : Ho} {y9 : Int32} : (v9.srs y9).ab = v9.ab := rfl
theorem Ho_fc_srs {v9 : Ho} {y9 : Int32} : (v9.srs y9).fc = v9.fc := rfl
theorem Ho_cn_srs {v9 : Ho} {y9 : Int32} : (v9.srs y9).cn = v9.cn := rfl
theorem Ho_me_srs {v9 : Ho} {y9 : Int32} : (v9.srs y9).me = v9.me := rfl
theorem Ho_nt_srs {v9 : Ho} {y9 : Int32} : (v9.srs y9).nt = v9.nt := rfl
theorem Ho_nr_srs {v9 : Ho} {y9 : Int32} : (v9.srs y9).nr = v9.nr := rfl
theorem Ho_to_srs {v9 : Ho} {y9 : Int32} : (v9.srs y9).to = v9.to := rfl
theorem Ho_ro_srs {v9 : Ho} {y9 : Int32} : (v9.srs y9).ro = v9.ro := rfl
theorem Ho_gl_srs {v9 : Ho} {y9 : Int32} : (v9.srs y9).gl = v9.gl := rfl
theorem Ho_al_srs {v9 : Ho} {y9 : Int32} : (v9.srs y9).al = v9.al := rfl
theorem Ho_re_srs {v9 : Ho} {y9 : Int32} : (v9.srs y9).re = v9.re := rfl
theorem Ho_th_srs {v9 : Ho} {y9 : Int32} : (v9.srs y9).th = v9.th := rfl
theorem Ho_tc_srs {v9 : Ho} {y9 : Int32} : (v9.srs y9).tc = v9.tc := rfl
theorem Ho_rc_srs {v9 : Ho} {y9 : Int32} : (v9.srs y9).rc = v9.rc := rfl
theorem Ho_mk_srs {v9 : Ho} {y9 : Int32} : (v9.srs y9).mk = v9.mk := rfl
theorem Ho_fr_srs {v9 : Ho} {y9 : Int32} : (v9.srs y9).fr = v9.fr := rfl
theorem Ho_np_srs {v9 : Ho} {y9 : Int32} : (v9.srs y9).np = v9.np := rfl
theorem Ho_pg_srs {v9 : Ho} {y9 : Int32} : (v9.srs y9).pg = v9.pg := rfl
theorem Ho_wc_srs {v9 : Ho} {y9 : Int32} : (v9.srs y9).wc = v9.wc := rfl
theorem Ho_ws_srs {v9 : Ho} {y9 : Int32} : (v9.srs y9).ws = v9.ws := rfl
theorem Ho_wp_srs {v9 : Ho} {y9 : Int32} : (v9.srs y9).wp = v9.wp := rfl
end SITES
/-- a place set, where there is one -/
def pU (f : Nat → Int64) (b i : Int32) (v : Int64) : Nat → Int64 := if isB i b = 0 then f else vp_updL f i.toNatClampNeg v
def fillI (f : Nat → Int32) (v : Int32) (i : Nat) : Nat → Int32 := fun k => if k < i then v else f k
theorem fillI_0 {f : Nat → Int32} {v : Int32} : fillI f v 0 = f := by funext k; simp [fillI]
theorem fillI_s {f : Nat → Int32} {v : Int32} {i : Nat} (h : i < 2 ^ 31) : upd (fillI f v i) (nI i).toNatClampNeg v = fillI f v (i + 1) := by
  funext k
  rw [nI_clamp h]
  unfold fillI upd
  by_cases h1 : k = i
  · simp [h1]
  · by_cases h2 : k < i
    · have h3 : k < i + 1 := by omega
      simp [h1, h2, h3]
    · have h3 : ¬ k < i + 1 := by omega
      simp [h1, h2, h3]
set_option maxHeartbeats 4000000 in
set_option maxRecDepth 100000 in
theorem c_putAt (l : Launch) (D : va_G) (ar : Nat → ClassId) (κ : Nat → Nat) (G : gW) (sz : Nat) (a : Nat) (i : Int32) (v : Int64) (n : Nat) (f : Nat → Int64) (ha : G a = some (.inl (ar 1, n, .inr (.inl f)))) (hn : n < 2 ^ 31) : Met l yX8_putAt (lwC yX8_putAt cX8_putAt 4 none) (rD 2 0 0) (g_Pc D vwCl (gT ar) (EX1 κ) G sz [.ref a, .int i, .long v]) (g_Qv D vwCl (g_A G sz) (fun u => u = (g_up G a (.inl (ar 1, n, .inr (.inl (pU f (Int32.ofNat n) i v)))), sz))) 0 0 (g_A G sz) := by
  refine g_ofW (by decide +kernel) (Nat.le_of_ble_eq_true rfl) ?_
  intro p e s m below meth c ls S hr hlk hin hE w hl
  have hx := S.1
  have hb := S.2.1
  have hl : lv_has ls 4 [(0, .ref a), (1, .int i), (2, .long v)] := hl
  refine lv_iload_n hx hb dX8_putAt_0 rfl (lv_at hl 1 rfl) ?_
  refine lv_aload_n hx hb dX8_putAt_1 rfl (lv_at hl 0 rfl) ?_
  refine va_alen (v := Int32.ofNat n) hx hb hE.1 (g_1 w.1 ha) 0 1 rfl rfl rfl dX8_putAt_2 ?_
  refine g_calli w (g_runS (As := [.int i, .int (Int32.ofNat n)]) (rest := []) S hE w hl (c_X8_isBelow l D ar κ G sz i (Int32.ofNat n)) (k_RX8_97 S.2.2.2.2 ⟨Nat.le_of_ble_eq_true rfl, Nat.le_of_ble_eq_true rfl⟩) rfl rfl (Nat.le_of_ble_eq_true rfl) dX8_putAt_3 ⟨Nat.le_of_ble_eq_true rfl, Nat.le_of_ble_eq_true rfl⟩) (fun r u H locs hp hnz w => ?_)
  obtain ⟨rfl, rfl⟩ := hp
  dsimp only at w
  refine lv_if_eq (tgt := 13) hx hb dX8_putAt_6 (by decide) (fun c_6 => ?_) (fun c_6 => ?_)
  · exact g_vret hx hb hr hlk w (Nat.le_of_ble_eq_true rfl) (Nat.le_of_ble_eq_true rfl) dX8_putAt_13 (by rw [show pU f (Int32.ofNat n) i v = f from if_pos c_6, g_id ha])
  · refine lv_aload_n hx hb dX8_putAt_9 rfl (lv_at hl 0 rfl) ?_
    refine lv_iload_n hx hb dX8_putAt_10 rfl (lv_at hl 1 rfl) ?_
    refine lv_lload_n hx hb dX8_putAt_11 rfl (lv_at hl 2 rfl) ?_
    refine g_last hx hb hE.1 w 1 ha rfl (vinB rfl hn c_6) dX8_putAt_12 (fun H locs w => ?_)
    exact g_vret hx hb hr hlk w (Nat.le_of_ble_eq_true rfl) (Nat.le_of_ble_eq_true rfl) dX8_putAt_13 (by rw [show pU f (Int32.ofNat n) i v = vp_updL f (Int32.toNatClampNeg i) v from if_neg c_6])
set_option maxHeartbeats 4000000 in
set_option maxRecDepth 100000 in
theorem c_fillI (l : Launch) (D : va_G) (ar : Nat → ClassId) (κ : Nat → Nat) (G : gW) (sz : Nat) (a : Nat) (v : Int32) (n : Nat) (f : Nat → Int32) (ha : G a = some (.inl (ar 0, n, .inl f))) (hn : n < 2 ^ 31) : Met l yJ7_fill_53178 (lwC yJ7_fill_53178 cJ7_fill_53178 4 none) (rD 1 0 0) (g_Pc D vwCl (gT ar) (EX1 κ) G sz [.ref a, .int v]) (g_Qv D vwCl (g_A G sz) (fun u => u = (g_up G a (.inl (ar 0, n, .inl (fillI f v n))), sz))) 0 0 (g_A G sz) := by
  refine g_ofW (by decide +kernel) (Nat.le_of_ble_eq_true rfl) ?_
  intro p e s m below meth c ls S hr hlk hin hE w hl
  have hx := S.1
  have hb := S.2.1
  have hl : lv_has ls 4 [(0, .ref a), (1, .int v)] := hl
  refine lv_iconst (v := 0) hx hb dJ7_fill_53178_0 (by decide) ?_
  refine lv_istore_n (lv' := [(2, .int 0), (0, .ref a), (1, .int v)]) hx hb dJ7_fill_53178_1 rfl hl (by decide) rfl (fun ls hl => ?_)
  refine lv_aload_n hx hb dJ7_fill_53178_2 rfl (lv_at hl 1 rfl) ?_
  refine va_alen (v := Int32.ofNat n) hx hb hE.1 (g_1 w.1 ha) 0 0 rfl rfl rfl dJ7_fill_53178_3 ?_
  refine lv_istore_n (lv' := [(3, .int (Int32.ofNat n)), (2, .int 0), (0, .ref a), (1, .int v)]) hx hb dJ7_fill_53178_4 rfl hl (by decide) rfl (fun ls hl => ?_)
  have key : ∀ (n9 i : Nat), i ≤ n → n + 1 ≤ i + n9 → ∀ (x9 : Int32), x9 = nI i → ∀ (H : Heap) (locs : List Loc) (ls : Array Slot), g_S D vwCl (g_A G sz) s.heap ((g_up G a (.inl (ar 0, n, .inl (fillI f v i))))) H locs (sz) → lv_has ls 4 [(2, .int x9), (3, .int (Int32.ofNat n)), (0, .ref a), (1, .int v)] → W p l e (rD 1 0 0) s m ([.ref a, .int v] : List Value).toArray below meth c H locs (0) (0) (MQ below (g_Qv D vwCl (g_A G sz) (fun u => u = (g_up G a (.inl (ar 0, n, .inl (fillI f v n))), sz))) ([.ref a, .int v] : List Value).toArray s 0 0 (g_A G sz)) (F0 m 5 ls []) := by
    intro n9
    induction n9 with
    | zero => intro i hi1 hi2; exact absurd hi2 (by omega)
    | succ n9 ih =>
      intro i hi1 hi2 x9 ex9 H locs ls w hl
      refine lv_iload_n hx hb dJ7_fill_53178_5 rfl (lv_at hl 0 rfl) ?_
      refine lv_iload_n hx hb dJ7_fill_53178_6 rfl (lv_at hl 1 rfl) ?_
      refine lv_icmp_ge (tgt := 20) hx hb dJ7_fill_53178_7 (by decide) (fun c_7 => ?_) (fun c_7 => ?_)
      · have hin9 := lp_eq rfl ex9 hi1 hn c_7
        exact g_vret hx hb hr hlk w (by (try dsimp only [rD]); omega) (by (try dsimp only [rD]); omega) dJ7_fill_53178_20 (by rw [hin9])
      · have hlt9 := lp_lt rfl ex9 hi1 hn c_7
        refine lv_aload_n hx hb dJ7_fill_53178_10 rfl (lv_at hl 2 rfl) ?_
        refine lv_iload_n hx hb dJ7_fill_53178_11 rfl (lv_at hl 0 rfl) ?_
        refine lv_iload_n hx hb dJ7_fill_53178_12 rfl (lv_at hl 3 rfl) ?_
        refine g_iast hx hb hE.1 w 0 g_up_s rfl (by rw [ex9]; exact vp_in_nI (by omega) hn) dJ7_fill_53178_13 (fun H locs w => ?_)
        have w := g_eqw w g_over
        refine lv_iinc (v := x9 + 1) (lv' := [(2, .int (x9 + 1)), (3, .int (Int32.ofNat n)), (0, .ref a), (1, .int v)]) hx hb dJ7_fill_53178_14 hl (k := 0) rfl rfl (by decide) rfl (fun ls hl => ?_)
        refine lv_goto (tgt := 5) hx hb dJ7_fill_53178_17 (by decide) ?_
        exact ih (i + 1) (by omega) (by omega) _ (by rw [ex9]; exact nI_1 i) _ _ _ (by rw [ex9, fillI_s (by omega)] at w; exact w) (lv_sub hl [0, 1, 2, 3] rfl)
  exact key (n + 1) 0 (Nat.zero_le _) (by omega) 0 rfl _ _ _ (g_eqw w (by rw [fillI_0]; exact (g_id ha).symm)) (lv_sub hl [1, 0, 2, 3] rfl)
def sX0_enlist (Z : Ho) (i0 : Int32) (j0 : Int32) : Int32 × Ho := if isB Z.cn 12 = 0 then (((-1), Z)) else (((Z.cn + 1) - 1, (((Z.sab (upd Z.ab (Int32.toNatClampNeg Z.cn) i0)).sfc (upd Z.fc (Int32.toNatClampNeg Z.cn) ((aA Z.fc 0 i0) + j0))).scn (Z.cn + 1))))
theorem sX0_enlist_u (Z : Ho) (i0 : Int32) (j0 : Int32) : sX0_enlist Z i0 j0 = if isB Z.cn 12 = 0 then (((-1), Z)) else (((Z.cn + 1) - 1, (((Z.sab (upd Z.ab (Int32.toNatClampNeg Z.cn) i0)).sfc (upd Z.fc (Int32.toNatClampNeg Z.cn) ((aA Z.fc 0 i0) + j0))).scn (Z.cn + 1)))) := rfl
set_option maxHeartbeats 4000000 in
set_option maxRecDepth 100000 in
theorem hX0_enlist (l : Launch) (D : va_G) (ar : Nat → ClassId) (κ : Nat → Nat) (G : gW) (x : Xo) (Z : Ho) (sz : Nat) (i0 : Int32) (j0 : Int32) (hk : OK x Z) : Met l yX0_enlist (lwC yX0_enlist cX0_enlist 3 (some .int)) (rD 4 0 0) (g_Pc D vwCl (gT ar) (EX1 κ) (ov κ ar x Z G) sz [.ref (x.f .cl), .int i0, .int j0]) (g_Qi D vwCl (g_A (ov κ ar x Z G) sz) (fun r u => ∃ T9 : Ho, sX0_enlist Z i0 j0 = (r, T9) ∧ u = (ov κ ar x T9 G, sz) ∧ OK x T9 ∧ SZ T9 Z)) 0 0 (g_A (ov κ ar x Z G) sz) := by
  refine g_ofW (by decide +kernel) (Nat.le_of_ble_eq_true rfl) ?_
  intro p e s m below meth c ls S hr hlk hin hE w hl
  have hx := S.1
  have hb := S.2.1
  have hl : lv_has ls 3 [(0, .ref (x.f .cl)), (1, .int i0), (2, .int j0)] := hl
  refine lv_aload_n hx hb dX0_enlist_0 rfl (lv_at hl 0 rfl) ?_
  refine gf_RX0_18_6 (v := .int Z.cn) S hE w (ov_r (t := .cl) (hk.e (.cl) rfl)) rfl dX0_enlist_1 ?_
  refine lv_bipush (v := 12) hx hb dX0_enlist_4 (by decide) ?_
  refine g_calli w (g_runSN (As := [.int Z.cn, .int 12]) (rest := []) S hE w hl (c_X8_isBelow l D ar κ (ov κ ar x Z G) sz Z.cn 12) (k_RX0_22 S.2.2.2.2 (hE.2.1.1 _ (ckN_0 _ (List.mem_of_getElem? (i := 36) rfl))) ⟨Nat.le_of_ble_eq_true rfl, Nat.le_of_ble_eq_true rfl⟩) rfl rfl (Nat.le_of_ble_eq_true rfl) dX0_enlist_6 ⟨Nat.le_of_ble_eq_true rfl, Nat.le_of_ble_eq_true rfl⟩) (fun r u H locs hp hnz w => ?_)
  obtain ⟨rfl, rfl⟩ := hp
  dsimp only at w
  refine lv_if_ne (tgt := 14) hx hb dX0_enlist_9 (by decide) (fun c_9 => ?_) (fun c_9 => ?_)
  · refine lv_aload_n hx hb dX0_enlist_14 rfl (lv_at hl 0 rfl) ?_
    refine gf_RX0_9_6 (v := .ref (x.f .ab)) S hE w (ov_r (t := .cl) (hk.e (.cl) rfl)) rfl dX0_enlist_15 ?_
    refine lv_aload_n hx hb dX0_enlist_18 rfl (lv_at hl 0 rfl) ?_
    refine gf_RX0_18_6 (v := .int Z.cn) S hE w (ov_r (t := .cl) (hk.e (.cl) rfl)) rfl dX0_enlist_19 ?_
    refine lv_iload_n hx hb dX0_enlist_22 rfl (lv_at hl 1 rfl) ?_
    refine g_iast hx hb hE.1 w 0 (ov_r (t := .ab) (hk.e (.ab) rfl)) rfl (vinB (n := 12) rfl (by decide) c_9) dX0_enlist_23 (fun H locs w => ?_)
    have w : g_S D vwCl (g_A (ov κ ar x Z G) sz) s.heap (ov κ ar x (Z.sab (upd Z.ab (Int32.toNatClampNeg Z.cn) i0)) G) H _ sz := g_eqw w (ov_wab (S := Z) (T := (Z.sab (upd Z.ab (Int32.toNatClampNeg Z.cn) i0))) hk.v (hk.e (.ab) rfl) rfl Ho_fc_sab Ho_cn_sab Ho_me_sab Ho_nt_sab Ho_nr_sab Ho_ty_sab Ho_to_sab Ho_ro_sab Ho_gl_sab Ho_al_sab Ho_re_sab Ho_th_sab Ho_tc_sab Ho_rc_sab Ho_mk_sab Ho_fr_sab Ho_fn_sab Ho_st_sab Ho_rs_sab Ho_an_sab Ho_sp_sab Ho_np_sab Ho_pg_sab Ho_wc_sab Ho_ws_sab Ho_wp_sab)
    refine lv_aload_n hx hb dX0_enlist_24 rfl (lv_at hl 0 rfl) ?_
    refine gf_RX0_15_6 (v := .ref (x.f .fc)) S hE w (ov_r (t := .cl) (hk.e (.cl) rfl)) rfl dX0_enlist_25 ?_
    refine lv_aload_n hx hb dX0_enlist_28 rfl (lv_at hl 0 rfl) ?_
    refine gf_RX0_18_6 (v := .int Z.cn) S hE w (ov_r (t := .cl) (hk.e (.cl) rfl)) rfl dX0_enlist_29 ?_
    refine lv_aload_n hx hb dX0_enlist_32 rfl (lv_at hl 0 rfl) ?_
    refine lv_iload_n hx hb dX0_enlist_33 rfl (lv_at hl 1 rfl) ?_
    refine g_calli w (g_runV (As := [.int i0]) (rest := [.int Z.cn, .ref (x.f .fc)]) S hE w hl (c_X0_fieldsOf l D ar κ (ov κ ar x (Z.sab (upd Z.ab (Int32.toNatClampNeg Z.cn) i0)) G) sz (x.f .cl) i0 (x.f .ab) (x.f .fc) Z.cn Z.fc (ov_r (t := .cl) (hk.e (.cl) rfl)) (ov_r (t := .fc) (hk.e (.fc) rfl))) (k_RX0_26 S.2.2.2.2 ⟨Nat.le_of_ble_eq_true rfl, Nat.le_of_ble_eq_true rfl⟩) (ov_r (t := .cl) (hk.e (.cl) rfl)) rfl rfl rfl rfl (Nat.le_of_ble_eq_true rfl) dX0_enlist_34 ⟨Nat.le_of_ble_eq_true rfl, Nat.le_of_ble_eq_true rfl⟩) (fun r u H locs hp hnz w => ?_)
    obtain ⟨rfl, rfl⟩ := hp
    dsimp only at w
    refine lv_iload_n hx hb dX0_enlist_37 rfl (lv_at hl 2 rfl) ?_
    refine lv_iadd hx hb dX0_enlist_38 ?_
    refine g_iast hx hb hE.1 w 0 (ov_r (t := .fc) (hk.e (.fc) rfl)) rfl (vinB (n := 12) rfl (by decide) c_9) dX0_enlist_39 (fun H locs w => ?_)
    have w : g_S D vwCl (g_A (ov κ ar x Z G) sz) s.heap (ov κ ar x ((Z.sab (upd Z.ab (Int32.toNatClampNeg Z.cn) i0)).sfc (upd Z.fc (Int32.toNatClampNeg Z.cn) ((aA Z.fc 0 i0) + j0))) G) H _ sz := g_eqw w (ov_wfc (S := (Z.sab (upd Z.ab (Int32.toNatClampNeg Z.cn) i0))) (T := ((Z.sab (upd Z.ab (Int32.toNatClampNeg Z.cn) i0)).sfc (upd Z.fc (Int32.toNatClampNeg Z.cn) ((aA Z.fc 0 i0) + j0)))) hk.v (hk.e (.fc) rfl) rfl ((Ho_ab_sfc.trans Ho_ab_sab).trans Ho_ab_sab.symm) ((Ho_cn_sfc.trans Ho_cn_sab).trans Ho_cn_sab.symm) ((Ho_me_sfc.trans Ho_me_sab).trans Ho_me_sab.symm) ((Ho_nt_sfc.trans Ho_nt_sab).trans Ho_nt_sab.symm) ((Ho_nr_sfc.trans Ho_nr_sab).trans Ho_nr_sab.symm) ((Ho_ty_sfc.trans Ho_ty_sab).trans Ho_ty_sab.symm) ((Ho_to_sfc.trans Ho_to_sab).trans Ho_to_sab.symm) ((Ho_ro_sfc.trans Ho_ro_sab).trans Ho_ro_sab.symm) ((Ho_gl_sfc.trans Ho_gl_sab).trans Ho_gl_sab.symm) ((Ho_al_sfc.trans Ho_al_sab).trans Ho_al_sab.symm) ((Ho_re_sfc.trans Ho_re_sab).trans Ho_re_sab.symm) ((Ho_th_sfc.trans Ho_th_sab).trans Ho_th_sab.symm) ((Ho_tc_sfc.trans Ho_tc_sab).trans Ho_tc_sab.symm) ((Ho_rc_sfc.trans Ho_rc_sab).trans Ho_rc_sab.symm) ((Ho_mk_sfc.trans Ho_mk_sab).trans Ho_mk_sab.symm) ((Ho_fr_sfc.trans Ho_fr_sab).trans Ho_fr_sab.symm) ((Ho_fn_sfc.trans Ho_fn_sab).trans Ho_fn_sab.symm) ((Ho_st_sfc.trans Ho_st_sab).trans Ho_st_sab.symm) ((Ho_rs_sfc.trans Ho_rs_sab).trans Ho_rs_sab.symm) ((Ho_an_sfc.trans Ho_an_sab).trans Ho_an_sab.symm) ((Ho_sp_sfc.trans Ho_sp_sab).trans Ho_sp_sab.symm) ((Ho_np_sfc.trans Ho_np_sab).trans Ho_np_sab.symm) ((Ho_pg_sfc.trans Ho_pg_sab).trans Ho_pg_sab.symm) ((Ho_wc_sfc.trans Ho_wc_sab).trans Ho_wc_sab.symm) ((Ho_ws_sfc.trans Ho_ws_sab).trans Ho_ws_sab.symm) ((Ho_wp_sfc.trans Ho_wp_sab).trans Ho_wp_sab.symm))
    refine lv_aload_n hx hb dX0_enlist_40 rfl (lv_at hl 0 rfl) ?_
    refine lv_dup hx hb dX0_enlist_41 rfl ?_
    refine gf_RX0_18_6 (v := .int Z.cn) S hE w (ov_r (t := .cl) (hk.e (.cl) rfl)) rfl dX0_enlist_42 ?_
    refine lv_iconst (v := 1) hx hb dX0_enlist_45 (by decide) ?_
    refine lv_iadd hx hb dX0_enlist_46 ?_
    refine pf_RX0_18_6 (fs1 := [.ref (x.f .ab), .ref (x.f .fc), .int (Z.cn + 1)]) S hE w (ov_r (t := .cl) (hk.e (.cl) rfl)) rfl rfl (Nat.le_of_ble_eq_true rfl) rfl dX0_enlist_47 (fun H locs w => ?_)
    have w : g_S D vwCl (g_A (ov κ ar x Z G) sz) s.heap (ov κ ar x (((Z.sab (upd Z.ab (Int32.toNatClampNeg Z.cn) i0)).sfc (upd Z.fc (Int32.toNatClampNeg Z.cn) ((aA Z.fc 0 i0) + j0))).scn (Z.cn + 1)) G) H _ sz := g_eqw w (ov_wcl (S := ((Z.sab (upd Z.ab (Int32.toNatClampNeg Z.cn) i0)).sfc (upd Z.fc (Int32.toNatClampNeg Z.cn) ((aA Z.fc 0 i0) + j0)))) (T := (((Z.sab (upd Z.ab (Int32.toNatClampNeg Z.cn) i0)).sfc (upd Z.fc (Int32.toNatClampNeg Z.cn) ((aA Z.fc 0 i0) + j0))).scn (Z.cn + 1))) hk.v (hk.e (.cl) rfl) rfl ((Ho_ab_scn.trans (Ho_ab_sfc.trans Ho_ab_sab)).trans (Ho_ab_sfc.trans Ho_ab_sab).symm) ((Ho_fc_scn.trans Ho_fc_sfc).trans Ho_fc_sfc.symm) ((Ho_me_scn.trans (Ho_me_sfc.trans Ho_me_sab)).trans (Ho_me_sfc.trans Ho_me_sab).symm) ((Ho_nt_scn.trans (Ho_nt_sfc.trans Ho_nt_sab)).trans (Ho_nt_sfc.trans Ho_nt_sab).symm) ((Ho_nr_scn.trans (Ho_nr_sfc.trans Ho_nr_sab)).trans (Ho_nr_sfc.trans Ho_nr_sab).symm) ((Ho_ty_scn.trans (Ho_ty_sfc.trans Ho_ty_sab)).trans (Ho_ty_sfc.trans Ho_ty_sab).symm) ((Ho_to_scn.trans (Ho_to_sfc.trans Ho_to_sab)).trans (Ho_to_sfc.trans Ho_to_sab).symm) ((Ho_ro_scn.trans (Ho_ro_sfc.trans Ho_ro_sab)).trans (Ho_ro_sfc.trans Ho_ro_sab).symm) ((Ho_gl_scn.trans (Ho_gl_sfc.trans Ho_gl_sab)).trans (Ho_gl_sfc.trans Ho_gl_sab).symm) ((Ho_al_scn.trans (Ho_al_sfc.trans Ho_al_sab)).trans (Ho_al_sfc.trans Ho_al_sab).symm) ((Ho_re_scn.trans (Ho_re_sfc.trans Ho_re_sab)).trans (Ho_re_sfc.trans Ho_re_sab).symm) ((Ho_th_scn.trans (Ho_th_sfc.trans Ho_th_sab)).trans (Ho_th_sfc.trans Ho_th_sab).symm) ((Ho_tc_scn.trans (Ho_tc_sfc.trans Ho_tc_sab)).trans (Ho_tc_sfc.trans Ho_tc_sab).symm) ((Ho_rc_scn.trans (Ho_rc_sfc.trans Ho_rc_sab)).trans (Ho_rc_sfc.trans Ho_rc_sab).symm) ((Ho_mk_scn.trans (Ho_mk_sfc.trans Ho_mk_sab)).trans (Ho_mk_sfc.trans Ho_mk_sab).symm) ((Ho_fr_scn.trans (Ho_fr_sfc.trans Ho_fr_sab)).trans (Ho_fr_sfc.trans Ho_fr_sab).symm) ((Ho_fn_scn.trans (Ho_fn_sfc.trans Ho_fn_sab)).trans (Ho_fn_sfc.trans Ho_fn_sab).symm) ((Ho_st_scn.trans (Ho_st_sfc.trans Ho_st_sab)).trans (Ho_st_sfc.trans Ho_st_sab).symm) ((Ho_rs_scn.trans (Ho_rs_sfc.trans Ho_rs_sab)).trans (Ho_rs_sfc.trans Ho_rs_sab).symm) ((Ho_an_scn.trans (Ho_an_sfc.trans Ho_an_sab)).trans (Ho_an_sfc.trans Ho_an_sab).symm) ((Ho_sp_scn.trans (Ho_sp_sfc.trans Ho_sp_sab)).trans (Ho_sp_sfc.trans Ho_sp_sab).symm) ((Ho_np_scn.trans (Ho_np_sfc.trans Ho_np_sab)).trans (Ho_np_sfc.trans Ho_np_sab).symm) ((Ho_pg_scn.trans (Ho_pg_sfc.trans Ho_pg_sab)).trans (Ho_pg_sfc.trans Ho_pg_sab).symm) ((Ho_wc_scn.trans (Ho_wc_sfc.trans Ho_wc_sab)).trans (Ho_wc_sfc.trans Ho_wc_sab).symm) ((Ho_ws_scn.trans (Ho_ws_sfc.trans Ho_ws_sab)).trans (Ho_ws_sfc.trans Ho_ws_sab).symm) ((Ho_wp_scn.trans (Ho_wp_sfc.trans Ho_wp_sab)).trans (Ho_wp_sfc.trans Ho_wp_sab).symm))
    refine lv_aload_n hx hb dX0_enlist_50 rfl (lv_at hl 0 rfl) ?_
    refine gf_RX0_18_6 (v := .int (Z.cn + 1)) S hE w (ov_r (t := .cl) (hk.e (.cl) rfl)) rfl dX0_enlist_51 ?_
    refine lv_iconst (v := 1) hx hb dX0_enlist_54 (by decide) ?_
    refine lv_isub hx hb dX0_enlist_55 ?_
    exact g_iret hx hb hr hlk w (Nat.le_of_ble_eq_true rfl) (Nat.le_of_ble_eq_true rfl) dX0_enlist_56 ⟨_, ((sX0_enlist_u Z i0 j0).trans (if_neg c_9)), rfl, (hk.plain (T := (((Z.sab (upd Z.ab (Int32.toNatClampNeg Z.cn) i0)).sfc (upd Z.fc (Int32.toNatClampNeg Z.cn) ((aA Z.fc 0 i0) + j0))).scn (Z.cn + 1))) rfl rfl rfl rfl rfl rfl rfl), ⟨rfl, rfl, rfl, rfl⟩⟩
  · refine lv_iconst (v := (-1)) hx hb dX0_enlist_12 (by decide) ?_
    exact g_iret hx hb hr hlk w (Nat.le_of_ble_eq_true rfl) (Nat.le_of_ble_eq_true rfl) dX0_enlist_13 ⟨_, ((sX0_enlist_u Z i0 j0).trans (if_pos c_9)), rfl, hk, ⟨rfl, rfl, rfl, rfl⟩⟩
def sX3_comeTo (Z : Ho) (k0 : Nat) (i0 : Int32) (j0 : Int32) : Int32 × Ho := if isB i0 ((Z.ro k0).n) = 0 then ((0, Z)) else (if isB i0 24 = 0 then ((0, Z)) else (if j0 ≤ 8 then (if ((Z.ro k0).d) (Int32.toNatClampNeg i0) = (-1) then (if isB ((Z.ro k0).k) 24 = 0 then ((1, (Z.roS k0 ((Z.ro k0).sd (upd ((Z.ro k0).d) (Int32.toNatClampNeg i0) j0))))) else ((1, (Z.roS k0 ((((Z.ro k0).sd (upd ((Z.ro k0).d) (Int32.toNatClampNeg i0) j0)).sq (upd ((Z.ro k0).q) (Int32.toNatClampNeg ((Z.ro k0).k)) i0)).sk (((Z.ro k0).k) + 1)))))) else (if ((Z.ro k0).d) (Int32.toNatClampNeg i0) = j0 then ((1, Z)) else ((0, Z)))) else ((0, Z))))
theorem sX3_comeTo_u (Z : Ho) (k0 : Nat) (i0 : Int32) (j0 : Int32) : sX3_comeTo Z k0 i0 j0 = if isB i0 ((Z.ro k0).n) = 0 then ((0, Z)) else (if isB i0 24 = 0 then ((0, Z)) else (if j0 ≤ 8 then (if ((Z.ro k0).d) (Int32.toNatClampNeg i0) = (-1) then (if isB ((Z.ro k0).k) 24 = 0 then ((1, (Z.roS k0 ((Z.ro k0).sd (upd ((Z.ro k0).d) (Int32.toNatClampNeg i0) j0))))) else ((1, (Z.roS k0 ((((Z.ro k0).sd (upd ((Z.ro k0).d) (Int32.toNatClampNeg i0) j0)).sq (upd ((Z.ro k0).q) (Int32.toNatClampNeg ((Z.ro k0).k)) i0)).sk (((Z.ro k0).k) + 1)))))) else (if ((Z.ro k0).d) (Int32.toNatClampNeg i0) = j0 then ((1, Z)) else ((0, Z)))) else ((0, Z)))) := rfl
set_option maxHeartbeats 4000000 in
set_option maxRecDepth 100000 in
theorem hX3_comeTo (l : Launch) (D : va_G) (ar : Nat → ClassId) (κ : Nat → Nat) (G : gW) (x : Xo) (Z : Ho) (sz : Nat) (k0 : Nat) (i0 : Int32) (j0 : Int32) (hk : OK x Z) (hv_k0 : k0 < Z.nr) : Met l yX3_comeTo (lwC yX3_comeTo cX3_comeTo 3 (some .boolean)) (rD 3 0 0) (g_Pc D vwCl (gT ar) (EX1 κ) (ov κ ar x Z G) sz [.ref (x.f (.ro k0)), .int i0, .int j0]) (g_Qi D vwCl (g_A (ov κ ar x Z G) sz) (fun r u => ∃ T9 : Ho, sX3_comeTo Z k0 i0 j0 = (r, T9) ∧ u = (ov κ ar x T9 G, sz) ∧ OK x T9 ∧ SZ T9 Z)) 0 0 (g_A (ov κ ar x Z G) sz) := by
  refine g_ofW (by decide +kernel) (Nat.le_of_ble_eq_true rfl) ?_
  intro p e s m below meth c ls S hr hlk hin hE w hl
  have hx := S.1
  have hb := S.2.1
  have hl : lv_has ls 3 [(0, .ref (x.f (.ro k0))), (1, .int i0), (2, .int j0)] := hl
  refine lv_iload_n hx hb dX3_comeTo_0 rfl (lv_at hl 1 rfl) ?_
  refine lv_aload_n hx hb dX3_comeTo_1 rfl (lv_at hl 0 rfl) ?_
  refine gf_RX3_28_9 (v := .int ((Z.ro k0).n)) S hE w (ov_r (t := .ro k0) (hk.e_ro hv_k0)) rfl dX3_comeTo_2 ?_
  refine g_calli w (g_runSN (As := [.int i0, .int ((Z.ro k0).n)]) (rest := []) S hE w hl (c_X8_isBelow l D ar κ (ov κ ar x Z G) sz i0 ((Z.ro k0).n)) (k_RX3_35 S.2.2.2.2 (hE.2.1.1 _ (ckN_1 _ (List.mem_of_getElem? (i := 8) rfl))) ⟨Nat.le_of_ble_eq_true rfl, Nat.le_of_ble_eq_true rfl⟩) rfl rfl (Nat.le_of_ble_eq_true rfl) dX3_comeTo_5 ⟨Nat.le_of_ble_eq_true rfl, Nat.le_of_ble_eq_true rfl⟩) (fun r u H locs hp hnz w => ?_)
  obtain ⟨rfl, rfl⟩ := hp
  dsimp only at w
  refine lv_if_eq (tgt := 26) hx hb dX3_comeTo_8 (by decide) (fun c_8 => ?_) (fun c_8 => ?_)
  · refine lv_iconst (v := 0) hx hb dX3_comeTo_26 (by decide) ?_
    exact g_zret hx hb hr hlk w (Nat.le_of_ble_eq_true rfl) (Nat.le_of_ble_eq_true rfl) dX3_comeTo_27 rfl ⟨_, ((sX3_comeTo_u Z k0 i0 j0).trans (if_pos c_8)), rfl, hk, ⟨rfl, rfl, rfl, rfl⟩⟩
  · refine lv_iload_n hx hb dX3_comeTo_11 rfl (lv_at hl 1 rfl) ?_
    refine lv_bipush (v := 24) hx hb dX3_comeTo_12 (by decide) ?_
    refine g_calli w (g_runSN (As := [.int i0, .int 24]) (rest := []) S hE w hl (c_X8_isBelow l D ar κ (ov κ ar x Z G) sz i0 24) (k_RX3_35 S.2.2.2.2 (hE.2.1.1 _ (ckN_1 _ (List.mem_of_getElem? (i := 8) rfl))) ⟨Nat.le_of_ble_eq_true rfl, Nat.le_of_ble_eq_true rfl⟩) rfl rfl (Nat.le_of_ble_eq_true rfl) dX3_comeTo_14 ⟨Nat.le_of_ble_eq_true rfl, Nat.le_of_ble_eq_true rfl⟩) (fun r u H locs hp hnz w => ?_)
    obtain ⟨rfl, rfl⟩ := hp
    dsimp only at w
    refine lv_if_eq (tgt := 26) hx hb dX3_comeTo_17 (by decide) (fun c_17 => ?_) (fun c_17 => ?_)
    · refine lv_iconst (v := 0) hx hb dX3_comeTo_26 (by decide) ?_
      exact g_zret hx hb hr hlk w (Nat.le_of_ble_eq_true rfl) (Nat.le_of_ble_eq_true rfl) dX3_comeTo_27 rfl ⟨_, ((sX3_comeTo_u Z k0 i0 j0).trans ((if_neg c_8).trans (if_pos c_17))), rfl, hk, ⟨rfl, rfl, rfl, rfl⟩⟩
    · refine lv_iload_n hx hb dX3_comeTo_20 rfl (lv_at hl 2 rfl) ?_
      refine lv_bipush (v := 8) hx hb dX3_comeTo_21 (by decide) ?_
      refine lv_icmp_le (tgt := 28) hx hb dX3_comeTo_23 (by decide) (fun c_23 => ?_) (fun c_23 => ?_)
      · refine lv_aload_n hx hb dX3_comeTo_28 rfl (lv_at hl 0 rfl) ?_
        refine gf_RX3_22_9 (v := .ref (x.f (.rd k0))) S hE w (ov_r (t := .ro k0) (hk.e_ro hv_k0)) rfl dX3_comeTo_29 ?_
        refine lv_iload_n hx hb dX3_comeTo_32 rfl (lv_at hl 1 rfl) ?_
        refine va_iald hx hb hE.1 (g_1 w.1 (ov_r (t := .rd k0) (hk.e_rd hv_k0))) 0 0 rfl rfl (vinB (n := 24) rfl (by decide) c_17) dX3_comeTo_33 ?_
        show W p l e _ s m _ below meth c _ _ _ _ _ (F0 m 34 ls [.int (((Z.ro k0).d) (Int32.toNatClampNeg i0))])
        refine lv_iconst (v := (-1)) hx hb dX3_comeTo_34 (by decide) ?_
        refine lv_icmp_eq (tgt := 54) hx hb dX3_comeTo_35 (by decide) (fun c_35 => ?_) (fun c_35 => ?_)
        · refine lv_aload_n hx hb dX3_comeTo_54 rfl (lv_at hl 0 rfl) ?_
          refine gf_RX3_22_9 (v := .ref (x.f (.rd k0))) S hE w (ov_r (t := .ro k0) (hk.e_ro hv_k0)) rfl dX3_comeTo_55 ?_
          refine lv_iload_n hx hb dX3_comeTo_58 rfl (lv_at hl 1 rfl) ?_
          refine lv_iload_n hx hb dX3_comeTo_59 rfl (lv_at hl 2 rfl) ?_
          refine g_iast hx hb hE.1 w 0 (ov_r (t := .rd k0) (hk.e_rd hv_k0)) rfl (vinB (n := 24) rfl (by decide) c_17) dX3_comeTo_60 (fun H locs w => ?_)
          have w := g_eqw w (congrArg (fun Z9 => g_up (ov κ ar x Z9 G) (x.f (.rd k0)) (.inl (ar 0, 24, .inl (upd ((Z.ro k0).d) (Int32.toNatClampNeg i0) j0)))) (roS_id (S := Z) (i := k0)).symm)
          have w : g_S D vwCl (g_A (ov κ ar x Z G) sz) s.heap (ov κ ar x (Z.roS k0 ((Z.ro k0).sd (upd ((Z.ro k0).d) (Int32.toNatClampNeg i0) j0))) G) H _ sz := g_eqw w (ov_wrd (S := Z) (v := (Z.ro k0)) (v' := ((Z.ro k0).sd (upd ((Z.ro k0).d) (Int32.toNatClampNeg i0) j0))) hk.v (hk.e_rd hv_k0) rfl Ro_l_sd Ro_f_sd Ro_g_sd Ro_q_sd Ro_n_sd Ro_k_sd)
          refine lv_aload_n hx hb dX3_comeTo_61 rfl (lv_at hl 0 rfl) ?_
          refine gf_RX3_32_9 (v := .int ((Z.ro k0).k)) S hE w (ov_rro (hk.e_ro hv_k0)) rfl dX3_comeTo_62 ?_
          refine lv_bipush (v := 24) hx hb dX3_comeTo_65 (by decide) ?_
          refine g_calli w (g_runSN (As := [.int ((Z.ro k0).k), .int 24]) (rest := []) S hE w hl (c_X8_isBelow l D ar κ (ov κ ar x (Z.roS k0 ((Z.ro k0).sd (upd ((Z.ro k0).d) (Int32.toNatClampNeg i0) j0))) G) sz ((Z.ro k0).k) 24) (k_RX3_35 S.2.2.2.2 (hE.2.1.1 _ (ckN_1 _ (List.mem_of_getElem? (i := 8) rfl))) ⟨Nat.le_of_ble_eq_true rfl, Nat.le_of_ble_eq_true rfl⟩) rfl rfl (Nat.le_of_ble_eq_true rfl) dX3_comeTo_67 ⟨Nat.le_of_ble_eq_true rfl, Nat.le_of_ble_eq_true rfl⟩) (fun r u H locs hp hnz w => ?_)
          obtain ⟨rfl, rfl⟩ := hp
          dsimp only at w
          refine lv_if_eq (tgt := 93) hx hb dX3_comeTo_70 (by decide) (fun c_70 => ?_) (fun c_70 => ?_)
          · refine lv_iconst (v := 1) hx hb dX3_comeTo_93 (by decide) ?_
            exact g_zret hx hb hr hlk w (Nat.le_of_ble_eq_true rfl) (Nat.le_of_ble_eq_true rfl) dX3_comeTo_94 rfl ⟨_, ((sX3_comeTo_u Z k0 i0 j0).trans ((if_neg c_8).trans ((if_neg c_17).trans ((if_pos c_23).trans ((if_pos c_35).trans (if_pos c_70)))))), rfl, (hk.plain (T := (Z.roS k0 ((Z.ro k0).sd (upd ((Z.ro k0).d) (Int32.toNatClampNeg i0) j0)))) rfl rfl rfl rfl rfl rfl rfl), ⟨rfl, rfl, rfl, rfl⟩⟩
          · refine lv_aload_n hx hb dX3_comeTo_73 rfl (lv_at hl 0 rfl) ?_
            refine gf_RX3_25_9 (v := .ref (x.f (.rq k0))) S hE w (ov_rro (hk.e_ro hv_k0)) rfl dX3_comeTo_74 ?_
            refine lv_aload_n hx hb dX3_comeTo_77 rfl (lv_at hl 0 rfl) ?_
            refine gf_RX3_32_9 (v := .int ((Z.ro k0).k)) S hE w (ov_rro (hk.e_ro hv_k0)) rfl dX3_comeTo_78 ?_
            refine lv_iload_n hx hb dX3_comeTo_81 rfl (lv_at hl 1 rfl) ?_
            refine g_iast hx hb hE.1 w 0 (ov_rrq (hk.e_rq hv_k0)) rfl (vinB (n := 24) rfl (by decide) c_70) dX3_comeTo_82 (fun H locs w => ?_)
            have w : g_S D vwCl (g_A (ov κ ar x Z G) sz) s.heap (ov κ ar x (Z.roS k0 (((Z.ro k0).sd (upd ((Z.ro k0).d) (Int32.toNatClampNeg i0) j0)).sq (upd ((Z.ro k0).q) (Int32.toNatClampNeg ((Z.ro k0).k)) i0))) G) H _ sz := g_eqw w (ov_wrq (S := Z) (v := ((Z.ro k0).sd (upd ((Z.ro k0).d) (Int32.toNatClampNeg i0) j0))) (v' := (((Z.ro k0).sd (upd ((Z.ro k0).d) (Int32.toNatClampNeg i0) j0)).sq (upd ((Z.ro k0).q) (Int32.toNatClampNeg ((Z.ro k0).k)) i0))) hk.v (hk.e_rq hv_k0) rfl ((Ro_l_sq.trans Ro_l_sd).trans Ro_l_sd.symm) ((Ro_f_sq.trans Ro_f_sd).trans Ro_f_sd.symm) ((Ro_g_sq.trans Ro_g_sd).trans Ro_g_sd.symm) ((Ro_d_sq.trans Ro_d_sd).trans Ro_d_sd.symm) ((Ro_n_sq.trans Ro_n_sd).trans Ro_n_sd.symm) ((Ro_k_sq.trans Ro_k_sd).trans Ro_k_sd.symm))
            refine lv_aload_n hx hb dX3_comeTo_83 rfl (lv_at hl 0 rfl) ?_
            refine lv_dup hx hb dX3_comeTo_84 rfl ?_
            refine gf_RX3_32_9 (v := .int ((Z.ro k0).k)) S hE w (ov_rro (hk.e_ro hv_k0)) rfl dX3_comeTo_85 ?_
            refine lv_iconst (v := 1) hx hb dX3_comeTo_88 (by decide) ?_
            refine lv_iadd hx hb dX3_comeTo_89 ?_
            refine pf_RX3_32_9 (fs1 := [.ref (x.f (.rl k0)), .ref (x.f (.rf k0)), .ref (x.f (.rg k0)), .ref (x.f (.rd k0)), .ref (x.f (.rq k0)), .int ((Z.ro k0).n), .int (((Z.ro k0).k) + 1)]) S hE w (ov_rro (hk.e_ro hv_k0)) rfl rfl (Nat.le_of_ble_eq_true rfl) rfl dX3_comeTo_90 (fun H locs w => ?_)
            have w : g_S D vwCl (g_A (ov κ ar x Z G) sz) s.heap (ov κ ar x (Z.roS k0 ((((Z.ro k0).sd (upd ((Z.ro k0).d) (Int32.toNatClampNeg i0) j0)).sq (upd ((Z.ro k0).q) (Int32.toNatClampNeg ((Z.ro k0).k)) i0)).sk (((Z.ro k0).k) + 1))) G) H _ sz := g_eqw w (ov_wro (S := Z) (v := (((Z.ro k0).sd (upd ((Z.ro k0).d) (Int32.toNatClampNeg i0) j0)).sq (upd ((Z.ro k0).q) (Int32.toNatClampNeg ((Z.ro k0).k)) i0))) (v' := ((((Z.ro k0).sd (upd ((Z.ro k0).d) (Int32.toNatClampNeg i0) j0)).sq (upd ((Z.ro k0).q) (Int32.toNatClampNeg ((Z.ro k0).k)) i0)).sk (((Z.ro k0).k) + 1))) hk.v (hk.e_ro hv_k0) rfl ((Ro_l_sk.trans (Ro_l_sq.trans Ro_l_sd)).trans (Ro_l_sq.trans Ro_l_sd).symm) ((Ro_f_sk.trans (Ro_f_sq.trans Ro_f_sd)).trans (Ro_f_sq.trans Ro_f_sd).symm) ((Ro_g_sk.trans (Ro_g_sq.trans Ro_g_sd)).trans (Ro_g_sq.trans Ro_g_sd).symm) ((Ro_d_sk.trans (Ro_d_sq.trans Ro_d_sd)).trans (Ro_d_sq.trans Ro_d_sd).symm) ((Ro_q_sk.trans Ro_q_sq).trans Ro_q_sq.symm))
            refine lv_iconst (v := 1) hx hb dX3_comeTo_93 (by decide) ?_
            exact g_zret hx hb hr hlk w (Nat.le_of_ble_eq_true rfl) (Nat.le_of_ble_eq_true rfl) dX3_comeTo_94 rfl ⟨_, ((sX3_comeTo_u Z k0 i0 j0).trans ((if_neg c_8).trans ((if_neg c_17).trans ((if_pos c_23).trans ((if_pos c_35).trans (if_neg c_70)))))), rfl, (hk.plain (T := (Z.roS k0 ((((Z.ro k0).sd (upd ((Z.ro k0).d) (Int32.toNatClampNeg i0) j0)).sq (upd ((Z.ro k0).q) (Int32.toNatClampNeg ((Z.ro k0).k)) i0)).sk (((Z.ro k0).k) + 1)))) rfl rfl rfl rfl rfl rfl rfl), ⟨rfl, rfl, rfl, rfl⟩⟩
        · refine lv_aload_n hx hb dX3_comeTo_38 rfl (lv_at hl 0 rfl) ?_
          refine gf_RX3_22_9 (v := .ref (x.f (.rd k0))) S hE w (ov_r (t := .ro k0) (hk.e_ro hv_k0)) rfl dX3_comeTo_39 ?_
          refine lv_iload_n hx hb dX3_comeTo_42 rfl (lv_at hl 1 rfl) ?_
          refine va_iald hx hb hE.1 (g_1 w.1 (ov_r (t := .rd k0) (hk.e_rd hv_k0))) 0 0 rfl rfl (vinB (n := 24) rfl (by decide) c_17) dX3_comeTo_43 ?_
          show W p l e _ s m _ below meth c _ _ _ _ _ (F0 m 44 ls [.int (((Z.ro k0).d) (Int32.toNatClampNeg i0))])
          refine lv_iload_n hx hb dX3_comeTo_44 rfl (lv_at hl 2 rfl) ?_
          refine lv_icmp_ne (tgt := 52) hx hb dX3_comeTo_45 (by decide) (fun c_45 => ?_) (fun c_45 => ?_)
          · refine lv_iconst (v := 0) hx hb dX3_comeTo_52 (by decide) ?_
            exact g_zret hx hb hr hlk w (Nat.le_of_ble_eq_true rfl) (Nat.le_of_ble_eq_true rfl) dX3_comeTo_53 rfl ⟨_, ((sX3_comeTo_u Z k0 i0 j0).trans ((if_neg c_8).trans ((if_neg c_17).trans ((if_pos c_23).trans ((if_neg c_35).trans (if_neg c_45)))))), rfl, hk, ⟨rfl, rfl, rfl, rfl⟩⟩
          · refine lv_iconst (v := 1) hx hb dX3_comeTo_48 (by decide) ?_
            refine lv_goto (tgt := 53) hx hb dX3_comeTo_49 (by decide) ?_
            exact g_zret hx hb hr hlk w (Nat.le_of_ble_eq_true rfl) (Nat.le_of_ble_eq_true rfl) dX3_comeTo_53 rfl ⟨_, ((sX3_comeTo_u Z k0 i0 j0).trans ((if_neg c_8).trans ((if_neg c_17).trans ((if_pos c_23).trans ((if_neg c_35).trans (if_pos c_45)))))), rfl, hk, ⟨rfl, rfl, rfl, rfl⟩⟩
      · refine lv_iconst (v := 0) hx hb dX3_comeTo_26 (by decide) ?_
        exact g_zret hx hb hr hlk w (Nat.le_of_ble_eq_true rfl) (Nat.le_of_ble_eq_true rfl) dX3_comeTo_27 rfl ⟨_, ((sX3_comeTo_u Z k0 i0 j0).trans ((if_neg c_8).trans ((if_neg c_17).trans (if_neg c_23)))), rfl, hk, ⟨rfl, rfl, rfl, rfl⟩⟩
def sX3_comeToFirst (Z : Ho) (k0 : Nat) : Int32 × Ho := pc (sX3_comeTo (Z.roS k0 (((Z.ro k0).sd (fillI ((Z.ro k0).d) (-1) 24)).sk 0)) k0 0 0) (fun r1 T2 => (vp_nar .boolean r1, T2))
theorem sX3_comeToFirst_u (Z : Ho) (k0 : Nat) : sX3_comeToFirst Z k0 = pc (sX3_comeTo (Z.roS k0 (((Z.ro k0).sd (fillI ((Z.ro k0).d) (-1) 24)).sk 0)) k0 0 0) (fun r1 T2 => (vp_nar .boolean r1, T2)) := rfl
set_option maxHeartbeats 4000000 in
set_option maxRecDepth 100000 in
theorem hX3_comeToFirst (l : Launch) (D : va_G) (ar : Nat → ClassId) (κ : Nat → Nat) (G : gW) (x : Xo) (Z : Ho) (sz : Nat) (k0 : Nat) (hk : OK x Z) (hv_k0 : k0 < Z.nr) : Met l yX3_comeToFirst (lwC yX3_comeToFirst cX3_comeToFirst 1 (some .boolean)) (rD 4 0 0) (g_Pc D vwCl (gT ar) (EX1 κ) (ov κ ar x Z G) sz [.ref (x.f (.ro k0))]) (g_Qi D vwCl (g_A (ov κ ar x Z G) sz) (fun r u => ∃ T9 : Ho, sX3_comeToFirst Z k0 = (r, T9) ∧ u = (ov κ ar x T9 G, sz) ∧ OK x T9 ∧ SZ T9 Z)) 0 0 (g_A (ov κ ar x Z G) sz) := by
  refine g_ofW (by decide +kernel) (Nat.le_of_ble_eq_true rfl) ?_
  intro p e s m below meth c ls S hr hlk hin hE w hl
  have hx := S.1
  have hb := S.2.1
  have hl : lv_has ls 1 [(0, .ref (x.f (.ro k0)))] := hl
  refine lv_aload_n hx hb dX3_comeToFirst_0 rfl (lv_at hl 0 rfl) ?_
  refine gf_RX3_22_9 (v := .ref (x.f (.rd k0))) S hE w (ov_r (t := .ro k0) (hk.e_ro hv_k0)) rfl dX3_comeToFirst_1 ?_
  refine lv_iconst (v := (-1)) hx hb dX3_comeToFirst_4 (by decide) ?_
  refine g_callv w (g_runS (As := [.ref (x.f (.rd k0)), .int (-1)]) (rest := []) S hE w hl (c_fillI l D ar κ (ov κ ar x Z G) sz (x.f (.rd k0)) (-1) 24 ((Z.ro k0).d) (ov_r (t := .rd k0) (hk.e_rd hv_k0)) (by decide)) (k_RX3_39 S.2.2.2.2 ⟨Nat.le_of_ble_eq_true rfl, Nat.le_of_ble_eq_true rfl⟩) rfl rfl (Nat.le_of_ble_eq_true rfl) dX3_comeToFirst_5 ⟨Nat.le_of_ble_eq_true rfl, Nat.le_of_ble_eq_true rfl⟩) (fun u H locs hp hnz w => ?_)
  obtain rfl := hp
  dsimp only at w
  have w := g_eqw w (congrArg (fun Z9 => g_up (ov κ ar x Z9 G) (x.f (.rd k0)) (.inl (ar 0, 24, .inl (fillI ((Z.ro k0).d) (-1) 24)))) (roS_id (S := Z) (i := k0)).symm)
  have w : g_S D vwCl (g_A (ov κ ar x Z G) sz) s.heap (ov κ ar x (Z.roS k0 ((Z.ro k0).sd (fillI ((Z.ro k0).d) (-1) 24))) G) H _ sz := g_eqw w (ov_wrd (S := Z) (v := (Z.ro k0)) (v' := ((Z.ro k0).sd (fillI ((Z.ro k0).d) (-1) 24))) hk.v (hk.e_rd hv_k0) rfl Ro_l_sd Ro_f_sd Ro_g_sd Ro_q_sd Ro_n_sd Ro_k_sd)
  refine lv_aload_n hx hb dX3_comeToFirst_8 rfl (lv_at hl 0 rfl) ?_
  refine lv_iconst (v := 0) hx hb dX3_comeToFirst_9 (by decide) ?_
  refine pf_RX3_32_9 (fs1 := [.ref (x.f (.rl k0)), .ref (x.f (.rf k0)), .ref (x.f (.rg k0)), .ref (x.f (.rd k0)), .ref (x.f (.rq k0)), .int ((Z.ro k0).n), .int 0]) S hE w (ov_rro (hk.e_ro hv_k0)) rfl rfl (Nat.le_of_ble_eq_true rfl) rfl dX3_comeToFirst_10 (fun H locs w => ?_)
  have w : g_S D vwCl (g_A (ov κ ar x Z G) sz) s.heap (ov κ ar x (Z.roS k0 (((Z.ro k0).sd (fillI ((Z.ro k0).d) (-1) 24)).sk 0)) G) H _ sz := g_eqw w (ov_wro (S := Z) (v := ((Z.ro k0).sd (fillI ((Z.ro k0).d) (-1) 24))) (v' := (((Z.ro k0).sd (fillI ((Z.ro k0).d) (-1) 24)).sk 0)) hk.v (hk.e_ro hv_k0) rfl ((Ro_l_sk.trans Ro_l_sd).trans Ro_l_sd.symm) ((Ro_f_sk.trans Ro_f_sd).trans Ro_f_sd.symm) ((Ro_g_sk.trans Ro_g_sd).trans Ro_g_sd.symm) ((Ro_d_sk.trans Ro_d_sd).trans Ro_d_sd.symm) ((Ro_q_sk.trans Ro_q_sd).trans Ro_q_sd.symm))
  refine lv_aload_n hx hb dX3_comeToFirst_13 rfl (lv_at hl 0 rfl) ?_
  refine lv_iconst (v := 0) hx hb dX3_comeToFirst_14 (by decide) ?_
  refine lv_iconst (v := 0) hx hb dX3_comeToFirst_15 (by decide) ?_
  refine g_calli w (g_runV (As := [.int 0, .int 0]) (rest := []) S hE w hl (hX3_comeTo l D ar κ G x (Z.roS k0 (((Z.ro k0).sd (fillI ((Z.ro k0).d) (-1) 24)).sk 0)) sz k0 0 0 (hk.plain (T := (Z.roS k0 (((Z.ro k0).sd (fillI ((Z.ro k0).d) (-1) 24)).sk 0))) rfl rfl rfl rfl rfl rfl rfl) hv_k0) (k_RX3_45 S.2.2.2.2 ⟨Nat.le_of_ble_eq_true rfl, Nat.le_of_ble_eq_true rfl⟩) (ov_rro (hk.e_ro hv_k0)) rfl rfl rfl rfl (Nat.le_of_ble_eq_true rfl) dX3_comeToFirst_16 ⟨Nat.le_of_ble_eq_true rfl, Nat.le_of_ble_eq_true rfl⟩) (fun r1 u H locs hp hnz w => ?_)
  obtain ⟨T2, e3, hu9, hk4, sq5⟩ := hp
  subst hu9
  dsimp only at w
  have vk6 : k0 < T2.nr := SZ.ro sq5 hv_k0
  exact g_zretN (v := vp_nar .boolean r1) hx hb hr hlk w (Nat.le_of_ble_eq_true rfl) (Nat.le_of_ble_eq_true rfl) dX3_comeToFirst_19 rfl ⟨_, ((sX3_comeToFirst_u Z k0).trans (pc_e e3)), rfl, hk4, (SZ.t sq5 ⟨rfl, rfl, rfl, rfl⟩)⟩
def sX3_leadOnFrom (Z : Ho) (k0 : Nat) (i0 : Int32) : Int32 × Ho := if sX3_takenBy Z (sX3_letterAt Z k0 i0) (sX3_secondAt Z k0 i0) ≤ sX3_depthAt Z k0 i0 then (if sX3_letterAt Z k0 i0 = 106 then (pc (sX3_comeTo Z k0 (sX3_firstAt Z k0 i0) (((sX3_depthAt Z k0 i0) - (sX3_takenBy Z (sX3_letterAt Z k0 i0) (sX3_secondAt Z k0 i0))) + (sX3_putBy Z (sX3_letterAt Z k0 i0)))) (fun r1 T2 => (vp_nar .boolean r1, T2))) else (if sX3_letterAt Z k0 i0 = 114 then ((1, Z)) else (if sX3_letterAt Z k0 i0 = 121 then (pc (sX3_comeTo Z k0 (sX3_firstAt Z k0 i0) (((sX3_depthAt Z k0 i0) - (sX3_takenBy Z (sX3_letterAt Z k0 i0) (sX3_secondAt Z k0 i0))) + (sX3_putBy Z (sX3_letterAt Z k0 i0)))) (fun r7 T8 => if r7 = 0 then ((0, T8)) else (pc (sX3_comeTo T8 k0 (i0 + 1) (((sX3_depthAt Z k0 i0) - (sX3_takenBy Z (sX3_letterAt Z k0 i0) (sX3_secondAt Z k0 i0))) + (sX3_putBy Z (sX3_letterAt Z k0 i0)))) (fun r13 T14 => if r13 = 0 then ((0, T14)) else ((1, T14)))))) else (pc (sX3_comeTo Z k0 (i0 + 1) (((sX3_depthAt Z k0 i0) - (sX3_takenBy Z (sX3_letterAt Z k0 i0) (sX3_secondAt Z k0 i0))) + (sX3_putBy Z (sX3_letterAt Z k0 i0)))) (fun r19 T20 => (vp_nar .boolean r19, T20)))))) else ((0, Z))
theorem sX3_leadOnFrom_u (Z : Ho) (k0 : Nat) (i0 : Int32) : sX3_leadOnFrom Z k0 i0 = if sX3_takenBy Z (sX3_letterAt Z k0 i0) (sX3_secondAt Z k0 i0) ≤ sX3_depthAt Z k0 i0 then (if sX3_letterAt Z k0 i0 = 106 then (pc (sX3_comeTo Z k0 (sX3_firstAt Z k0 i0) (((sX3_depthAt Z k0 i0) - (sX3_takenBy Z (sX3_letterAt Z k0 i0) (sX3_secondAt Z k0 i0))) + (sX3_putBy Z (sX3_letterAt Z k0 i0)))) (fun r1 T2 => (vp_nar .boolean r1, T2))) else (if sX3_letterAt Z k0 i0 = 114 then ((1, Z)) else (if sX3_letterAt Z k0 i0 = 121 then (pc (sX3_comeTo Z k0 (sX3_firstAt Z k0 i0) (((sX3_depthAt Z k0 i0) - (sX3_takenBy Z (sX3_letterAt Z k0 i0) (sX3_secondAt Z k0 i0))) + (sX3_putBy Z (sX3_letterAt Z k0 i0)))) (fun r7 T8 => if r7 = 0 then ((0, T8)) else (pc (sX3_comeTo T8 k0 (i0 + 1) (((sX3_depthAt Z k0 i0) - (sX3_takenBy Z (sX3_letterAt Z k0 i0) (sX3_secondAt Z k0 i0))) + (sX3_putBy Z (sX3_letterAt Z k0 i0)))) (fun r13 T14 => if r13 = 0 then ((0, T14)) else ((1, T14)))))) else (pc (sX3_comeTo Z k0 (i0 + 1) (((sX3_depthAt Z k0 i0) - (sX3_takenBy Z (sX3_letterAt Z k0 i0) (sX3_secondAt Z k0 i0))) + (sX3_putBy Z (sX3_letterAt Z k0 i0)))) (fun r19 T20 => (vp_nar .boolean r19, T20)))))) else ((0, Z)) := rfl
set_option maxHeartbeats 4000000 in
set_option maxRecDepth 100000 in
theorem hX3_leadOnFrom (l : Launch) (D : va_G) (ar : Nat → ClassId) (κ : Nat → Nat) (G : gW) (x : Xo) (Z : Ho) (sz : Nat) (k0 : Nat) (i0 : Int32) (hk : OK x Z) (hv_k0 : k0 < Z.nr) : Met l yX3_leadOnFrom (lwC yX3_leadOnFrom cX3_leadOnFrom 5 (some .boolean)) (rD 4 0 0) (g_Pc D vwCl (gT ar) (EX1 κ) (ov κ ar x Z G) sz [.ref (x.f (.ro k0)), .int i0]) (g_Qi D vwCl (g_A (ov κ ar x Z G) sz) (fun r u => ∃ T9 : Ho, sX3_leadOnFrom Z k0 i0 = (r, T9) ∧ u = (ov κ ar x T9 G, sz) ∧ OK x T9 ∧ SZ T9 Z)) 0 0 (g_A (ov κ ar x Z G) sz) := by
  refine g_ofW (by decide +kernel) (Nat.le_of_ble_eq_true rfl) ?_
  intro p e s m below meth c ls S hr hlk hin hE w hl
  have hx := S.1
  have hb := S.2.1
  have hl : lv_has ls 5 [(0, .ref (x.f (.ro k0))), (1, .int i0)] := hl
  refine lv_aload_n hx hb dX3_leadOnFrom_0 rfl (lv_at hl 0 rfl) ?_
  refine lv_iload_n hx hb dX3_leadOnFrom_1 rfl (lv_at hl 1 rfl) ?_
  refine g_calli w (g_runV (As := [.int i0]) (rest := []) S hE w hl (hX3_letterAt l D ar κ G x Z sz k0 i0 hk hv_k0) (k_RX3_47 S.2.2.2.2 ⟨Nat.le_of_ble_eq_true rfl, Nat.le_of_ble_eq_true rfl⟩) (ov_r (t := .ro k0) (hk.e_ro hv_k0)) rfl rfl rfl rfl (Nat.le_of_ble_eq_true rfl) dX3_leadOnFrom_2 ⟨Nat.le_of_ble_eq_true rfl, Nat.le_of_ble_eq_true rfl⟩) (fun r u H locs hp hnz w => ?_)
  obtain ⟨rfl, rfl⟩ := hp
  dsimp only at w
  refine lv_istore_n (lv' := [(2, .int (sX3_letterAt Z k0 i0)), (0, .ref (x.f (.ro k0))), (1, .int i0)]) hx hb dX3_leadOnFrom_5 rfl hl (by decide) rfl (fun ls hl => ?_)
  refine lv_iload_n hx hb dX3_leadOnFrom_6 rfl (lv_at hl 0 rfl) ?_
  refine lv_aload_n hx hb dX3_leadOnFrom_7 rfl (lv_at hl 1 rfl) ?_
  refine lv_iload_n hx hb dX3_leadOnFrom_8 rfl (lv_at hl 2 rfl) ?_
  refine g_calli w (g_runV (As := [.int i0]) (rest := [.int (sX3_letterAt Z k0 i0)]) S hE w hl (hX3_secondAt l D ar κ G x Z sz k0 i0 hk hv_k0) (k_RX3_51 S.2.2.2.2 ⟨Nat.le_of_ble_eq_true rfl, Nat.le_of_ble_eq_true rfl⟩) (ov_r (t := .ro k0) (hk.e_ro hv_k0)) rfl rfl rfl rfl (Nat.le_of_ble_eq_true rfl) dX3_leadOnFrom_9 ⟨Nat.le_of_ble_eq_true rfl, Nat.le_of_ble_eq_true rfl⟩) (fun r u H locs hp hnz w => ?_)
  obtain ⟨rfl, rfl⟩ := hp
  dsimp only at w
  refine g_calli w (g_runS (As := [.int (sX3_letterAt Z k0 i0), .int (sX3_secondAt Z k0 i0)]) (rest := []) S hE w hl (hX3_takenBy l D ar κ G x Z sz (sX3_letterAt Z k0 i0) (sX3_secondAt Z k0 i0) hk ) (k_RX3_55 S.2.2.2.2 ⟨Nat.le_of_ble_eq_true rfl, Nat.le_of_ble_eq_true rfl⟩) rfl rfl (Nat.le_of_ble_eq_true rfl) dX3_leadOnFrom_12 ⟨Nat.le_of_ble_eq_true rfl, Nat.le_of_ble_eq_true rfl⟩) (fun r u H locs hp hnz w => ?_)
  obtain ⟨rfl, rfl⟩ := hp
  dsimp only at w
  refine lv_istore_n (lv' := [(3, .int (sX3_takenBy Z (sX3_letterAt Z k0 i0) (sX3_secondAt Z k0 i0))), (2, .int (sX3_letterAt Z k0 i0)), (0, .ref (x.f (.ro k0))), (1, .int i0)]) hx hb dX3_leadOnFrom_15 rfl hl (by decide) rfl (fun ls hl => ?_)
  refine lv_iload_n hx hb dX3_leadOnFrom_16 rfl (lv_at hl 0 rfl) ?_
  refine lv_aload_n hx hb dX3_leadOnFrom_17 rfl (lv_at hl 2 rfl) ?_
  refine lv_iload_n hx hb dX3_leadOnFrom_18 rfl (lv_at hl 3 rfl) ?_
  refine g_calli w (g_runV (As := [.int i0]) (rest := [.int (sX3_takenBy Z (sX3_letterAt Z k0 i0) (sX3_secondAt Z k0 i0))]) S hE w hl (hX3_depthAt l D ar κ G x Z sz k0 i0 hk hv_k0) (k_RX3_59 S.2.2.2.2 ⟨Nat.le_of_ble_eq_true rfl, Nat.le_of_ble_eq_true rfl⟩) (ov_r (t := .ro k0) (hk.e_ro hv_k0)) rfl rfl rfl rfl (Nat.le_of_ble_eq_true rfl) dX3_leadOnFrom_19 ⟨Nat.le_of_ble_eq_true rfl, Nat.le_of_ble_eq_true rfl⟩) (fun r u H locs hp hnz w => ?_)
  obtain ⟨rfl, rfl⟩ := hp
  dsimp only at w
  refine lv_icmp_le (tgt := 27) hx hb dX3_leadOnFrom_22 (by decide) (fun c_22 => ?_) (fun c_22 => ?_)
  · refine lv_aload_n hx hb dX3_leadOnFrom_27 rfl (lv_at hl 2 rfl) ?_
    refine lv_iload_n hx hb dX3_leadOnFrom_28 rfl (lv_at hl 3 rfl) ?_
    refine g_calli w (g_runV (As := [.int i0]) (rest := []) S hE w hl (hX3_depthAt l D ar κ G x Z sz k0 i0 hk hv_k0) (k_RX3_59 S.2.2.2.2 ⟨Nat.le_of_ble_eq_true rfl, Nat.le_of_ble_eq_true rfl⟩) (ov_r (t := .ro k0) (hk.e_ro hv_k0)) rfl rfl rfl rfl (Nat.le_of_ble_eq_true rfl) dX3_leadOnFrom_29 ⟨Nat.le_of_ble_eq_true rfl, Nat.le_of_ble_eq_true rfl⟩) (fun r u H locs hp hnz w => ?_)
    obtain ⟨rfl, rfl⟩ := hp
    dsimp only at w
    refine lv_iload_n hx hb dX3_leadOnFrom_32 rfl (lv_at hl 0 rfl) ?_
    refine lv_isub hx hb dX3_leadOnFrom_33 ?_
    refine lv_iload_n hx hb dX3_leadOnFrom_34 rfl (lv_at hl 1 rfl) ?_
    refine g_calli w (g_runS (As := [.int (sX3_letterAt Z k0 i0)]) (rest := [.int ((sX3_depthAt Z k0 i0) - (sX3_takenBy Z (sX3_letterAt Z k0 i0) (sX3_secondAt Z k0 i0)))]) S hE w hl (hX3_putBy l D ar κ G x Z sz (sX3_letterAt Z k0 i0) hk ) (k_RX3_62 S.2.2.2.2 ⟨Nat.le_of_ble_eq_true rfl, Nat.le_of_ble_eq_true rfl⟩) rfl rfl (Nat.le_of_ble_eq_true rfl) dX3_leadOnFrom_35 ⟨Nat.le_of_ble_eq_true rfl, Nat.le_of_ble_eq_true rfl⟩) (fun r u H locs hp hnz w => ?_)
    obtain ⟨rfl, rfl⟩ := hp
    dsimp only at w
    refine lv_iadd hx hb dX3_leadOnFrom_38 ?_
    refine lv_istore (lv' := [(4, .int (((sX3_depthAt Z k0 i0) - (sX3_takenBy Z (sX3_letterAt Z k0 i0) (sX3_secondAt Z k0 i0))) + (sX3_putBy Z (sX3_letterAt Z k0 i0)))), (3, .int (sX3_takenBy Z (sX3_letterAt Z k0 i0) (sX3_secondAt Z k0 i0))), (2, .int (sX3_letterAt Z k0 i0)), (0, .ref (x.f (.ro k0))), (1, .int i0)]) hx hb dX3_leadOnFrom_39 hl (by decide) rfl (fun ls hl => ?_)
    refine lv_iload_n hx hb dX3_leadOnFrom_41 rfl (lv_at hl 2 rfl) ?_
    by_cases c_42_0 : sX3_letterAt Z k0 i0 = 106
    · refine lv_lookup (off := 36) (tgt := 78) hx hb dX3_leadOnFrom_42 (by decide) (by have h9 := c_42_0; (rw [h9]; decide)) (by decide) ?_
      refine lv_aload_n hx hb dX3_leadOnFrom_78 rfl (lv_at hl 3 rfl) ?_
      refine lv_aload_n hx hb dX3_leadOnFrom_79 rfl (lv_at hl 3 rfl) ?_
      refine lv_iload_n hx hb dX3_leadOnFrom_80 rfl (lv_at hl 4 rfl) ?_
      refine g_calli w (g_runV (As := [.int i0]) (rest := [.ref (x.f (.ro k0))]) S hE w hl (hX3_firstAt l D ar κ G x Z sz k0 i0 hk hv_k0) (k_RX3_66 S.2.2.2.2 ⟨Nat.le_of_ble_eq_true rfl, Nat.le_of_ble_eq_true rfl⟩) (ov_r (t := .ro k0) (hk.e_ro hv_k0)) rfl rfl rfl rfl (Nat.le_of_ble_eq_true rfl) dX3_leadOnFrom_81 ⟨Nat.le_of_ble_eq_true rfl, Nat.le_of_ble_eq_true rfl⟩) (fun r u H locs hp hnz w => ?_)
      obtain ⟨rfl, rfl⟩ := hp
      dsimp only at w
      refine lv_iload hx hb dX3_leadOnFrom_84 (lv_at hl 0 rfl) ?_
      refine g_calli w (g_runV (As := [.int (sX3_firstAt Z k0 i0), .int (((sX3_depthAt Z k0 i0) - (sX3_takenBy Z (sX3_letterAt Z k0 i0) (sX3_secondAt Z k0 i0))) + (sX3_putBy Z (sX3_letterAt Z k0 i0)))]) (rest := []) S hE w hl (hX3_comeTo l D ar κ G x Z sz k0 (sX3_firstAt Z k0 i0) (((sX3_depthAt Z k0 i0) - (sX3_takenBy Z (sX3_letterAt Z k0 i0) (sX3_secondAt Z k0 i0))) + (sX3_putBy Z (sX3_letterAt Z k0 i0))) hk hv_k0) (k_RX3_45 S.2.2.2.2 ⟨Nat.le_of_ble_eq_true rfl, Nat.le_of_ble_eq_true rfl⟩) (ov_r (t := .ro k0) (hk.e_ro hv_k0)) rfl rfl rfl rfl (Nat.le_of_ble_eq_true rfl) dX3_leadOnFrom_86 ⟨Nat.le_of_ble_eq_true rfl, Nat.le_of_ble_eq_true rfl⟩) (fun r1 u H locs hp hnz w => ?_)
      obtain ⟨T2, e3, hu9, hk4, sq5⟩ := hp
      subst hu9
      dsimp only at w
      have vk6 : k0 < T2.nr := SZ.ro sq5 hv_k0
      exact g_zretN (v := vp_nar .boolean r1) hx hb hr hlk w (Nat.le_of_ble_eq_true rfl) (Nat.le_of_ble_eq_true rfl) dX3_leadOnFrom_89 rfl ⟨_, ((sX3_leadOnFrom_u Z k0 i0).trans ((if_pos c_22).trans ((if_pos c_42_0).trans (pc_e e3)))), rfl, hk4, (SZ.t sq5 ⟨rfl, rfl, rfl, rfl⟩)⟩
    by_cases c_42_1 : sX3_letterAt Z k0 i0 = 114
    · refine lv_lookup (off := 34) (tgt := 76) hx hb dX3_leadOnFrom_42 (by decide) (by have h9 := c_42_1; (rw [h9]; decide)) (by decide) ?_
      refine lv_iconst (v := 1) hx hb dX3_leadOnFrom_76 (by decide) ?_
      exact g_zret hx hb hr hlk w (Nat.le_of_ble_eq_true rfl) (Nat.le_of_ble_eq_true rfl) dX3_leadOnFrom_77 rfl ⟨_, ((sX3_leadOnFrom_u Z k0 i0).trans ((if_pos c_22).trans ((if_neg c_42_0).trans (if_pos c_42_1)))), rfl, hk, ⟨rfl, rfl, rfl, rfl⟩⟩
    by_cases c_42_2 : sX3_letterAt Z k0 i0 = 121
    · refine lv_lookup (off := 48) (tgt := 90) hx hb dX3_leadOnFrom_42 (by decide) (by have h9 := c_42_2; (rw [h9]; decide)) (by decide) ?_
      refine lv_aload_n hx hb dX3_leadOnFrom_90 rfl (lv_at hl 3 rfl) ?_
      refine lv_aload_n hx hb dX3_leadOnFrom_91 rfl (lv_at hl 3 rfl) ?_
      refine lv_iload_n hx hb dX3_leadOnFrom_92 rfl (lv_at hl 4 rfl) ?_
      refine g_calli w (g_runV (As := [.int i0]) (rest := [.ref (x.f (.ro k0))]) S hE w hl (hX3_firstAt l D ar κ G x Z sz k0 i0 hk hv_k0) (k_RX3_66 S.2.2.2.2 ⟨Nat.le_of_ble_eq_true rfl, Nat.le_of_ble_eq_true rfl⟩) (ov_r (t := .ro k0) (hk.e_ro hv_k0)) rfl rfl rfl rfl (Nat.le_of_ble_eq_true rfl) dX3_leadOnFrom_93 ⟨Nat.le_of_ble_eq_true rfl, Nat.le_of_ble_eq_true rfl⟩) (fun r u H locs hp hnz w => ?_)
      obtain ⟨rfl, rfl⟩ := hp
      dsimp only at w
      refine lv_iload hx hb dX3_leadOnFrom_96 (lv_at hl 0 rfl) ?_
      refine g_calli w (g_runV (As := [.int (sX3_firstAt Z k0 i0), .int (((sX3_depthAt Z k0 i0) - (sX3_takenBy Z (sX3_letterAt Z k0 i0) (sX3_secondAt Z k0 i0))) + (sX3_putBy Z (sX3_letterAt Z k0 i0)))]) (rest := []) S hE w hl (hX3_comeTo l D ar κ G x Z sz k0 (sX3_firstAt Z k0 i0) (((sX3_depthAt Z k0 i0) - (sX3_takenBy Z (sX3_letterAt Z k0 i0) (sX3_secondAt Z k0 i0))) + (sX3_putBy Z (sX3_letterAt Z k0 i0))) hk hv_k0) (k_RX3_45 S.2.2.2.2 ⟨Nat.le_of_ble_eq_true rfl, Nat.le_of_ble_eq_true rfl⟩) (ov_r (t := .ro k0) (hk.e_ro hv_k0)) rfl rfl rfl rfl (Nat.le_of_ble_eq_true rfl) dX3_leadOnFrom_98 ⟨Nat.le_of_ble_eq_true rfl, Nat.le_of_ble_eq_true rfl⟩) (fun r7 u H locs hp hnz w => ?_)
      obtain ⟨T8, e9, hu9, hk10, sq11⟩ := hp
      subst hu9
      dsimp only at w
      have vk12 : k0 < T8.nr := SZ.ro sq11 hv_k0
      refine lv_if_eq (tgt := 120) hx hb dX3_leadOnFrom_101 (by decide) (fun c_101 => ?_) (fun c_101 => ?_)
      · refine lv_iconst (v := 0) hx hb dX3_leadOnFrom_120 (by decide) ?_
        exact g_zret hx hb hr hlk w (Nat.le_of_ble_eq_true rfl) (Nat.le_of_ble_eq_true rfl) dX3_leadOnFrom_121 rfl ⟨_, ((sX3_leadOnFrom_u Z k0 i0).trans ((if_pos c_22).trans ((if_neg c_42_0).trans ((if_neg c_42_1).trans ((if_pos c_42_2).trans ((pc_e e9).trans (if_pos c_101))))))), rfl, hk10, (SZ.t sq11 ⟨rfl, rfl, rfl, rfl⟩)⟩
      · refine lv_aload_n hx hb dX3_leadOnFrom_104 rfl (lv_at hl 3 rfl) ?_
        refine lv_iload_n hx hb dX3_leadOnFrom_105 rfl (lv_at hl 4 rfl) ?_
        refine lv_iconst (v := 1) hx hb dX3_leadOnFrom_106 (by decide) ?_
        refine lv_iadd hx hb dX3_leadOnFrom_107 ?_
        refine lv_iload hx hb dX3_leadOnFrom_108 (lv_at hl 0 rfl) ?_
        refine g_calli w (g_runV (As := [.int (i0 + 1), .int (((sX3_depthAt Z k0 i0) - (sX3_takenBy Z (sX3_letterAt Z k0 i0) (sX3_secondAt Z k0 i0))) + (sX3_putBy Z (sX3_letterAt Z k0 i0)))]) (rest := []) S hE w hl (hX3_comeTo l D ar κ G x T8 sz k0 (i0 + 1) (((sX3_depthAt Z k0 i0) - (sX3_takenBy Z (sX3_letterAt Z k0 i0) (sX3_secondAt Z k0 i0))) + (sX3_putBy Z (sX3_letterAt Z k0 i0))) hk10 vk12) (k_RX3_45 S.2.2.2.2 ⟨Nat.le_of_ble_eq_true rfl, Nat.le_of_ble_eq_true rfl⟩) (ov_r (t := .ro k0) (hk10.e_ro vk12)) rfl rfl rfl rfl (Nat.le_of_ble_eq_true rfl) dX3_leadOnFrom_110 ⟨Nat.le_of_ble_eq_true rfl, Nat.le_of_ble_eq_true rfl⟩) (fun r13 u H locs hp hnz w => ?_)
        obtain ⟨T14, e15, hu9, hk16, sq17⟩ := hp
        subst hu9
        dsimp only at w
        have vk18 : k0 < T14.nr := SZ.ro sq17 vk12
        refine lv_if_eq (tgt := 120) hx hb dX3_leadOnFrom_113 (by decide) (fun c_113 => ?_) (fun c_113 => ?_)
        · refine lv_iconst (v := 0) hx hb dX3_leadOnFrom_120 (by decide) ?_
          exact g_zret hx hb hr hlk w (Nat.le_of_ble_eq_true rfl) (Nat.le_of_ble_eq_true rfl) dX3_leadOnFrom_121 rfl ⟨_, ((sX3_leadOnFrom_u Z k0 i0).trans ((if_pos c_22).trans ((if_neg c_42_0).trans ((if_neg c_42_1).trans ((if_pos c_42_2).trans ((pc_e e9).trans ((if_neg c_101).trans ((pc_e e15).trans (if_pos c_113))))))))), rfl, hk16, (SZ.t sq17 (SZ.t sq11 ⟨rfl, rfl, rfl, rfl⟩))⟩
        · refine lv_iconst (v := 1) hx hb dX3_leadOnFrom_116 (by decide) ?_
          refine lv_goto (tgt := 121) hx hb dX3_leadOnFrom_117 (by decide) ?_
          exact g_zret hx hb hr hlk w (Nat.le_of_ble_eq_true rfl) (Nat.le_of_ble_eq_true rfl) dX3_leadOnFrom_121 rfl ⟨_, ((sX3_leadOnFrom_u Z k0 i0).trans ((if_pos c_22).trans ((if_neg c_42_0).trans ((if_neg c_42_1).trans ((if_pos c_42_2).trans ((pc_e e9).trans ((if_neg c_101).trans ((pc_e e15).trans (if_neg c_113))))))))), rfl, hk16, (SZ.t sq17 (SZ.t sq11 ⟨rfl, rfl, rfl, rfl⟩))⟩
    refine lv_lookup (off := 80) (tgt := 122) hx hb dX3_leadOnFrom_42 (by decide) (sw_def (ks := [106, 114, 121]) ⟨c_42_0, c_42_1, c_42_2, trivial⟩ (by decide +kernel)) (by decide) ?_
    refine lv_aload_n hx hb dX3_leadOnFrom_122 rfl (lv_at hl 3 rfl) ?_
    refine lv_iload_n hx hb dX3_leadOnFrom_123 rfl (lv_at hl 4 rfl) ?_
    refine lv_iconst (v := 1) hx hb dX3_leadOnFrom_124 (by decide) ?_
    refine lv_iadd hx hb dX3_leadOnFrom_125 ?_
    refine lv_iload hx hb dX3_leadOnFrom_126 (lv_at hl 0 rfl) ?_
    refine g_calli w (g_runV (As := [.int (i0 + 1), .int (((sX3_depthAt Z k0 i0) - (sX3_takenBy Z (sX3_letterAt Z k0 i0) (sX3_secondAt Z k0 i0))) + (sX3_putBy Z (sX3_letterAt Z k0 i0)))]) (rest := []) S hE w hl (hX3_comeTo l D ar κ G x Z sz k0 (i0 + 1) (((sX3_depthAt Z k0 i0) - (sX3_takenBy Z (sX3_letterAt Z k0 i0) (sX3_secondAt Z k0 i0))) + (sX3_putBy Z (sX3_letterAt Z k0 i0))) hk hv_k0) (k_RX3_45 S.2.2.2.2 ⟨Nat.le_of_ble_eq_true rfl, Nat.le_of_ble_eq_true rfl⟩) (ov_r (t := .ro k0) (hk.e_ro hv_k0)) rfl rfl rfl rfl (Nat.le_of_ble_eq_true rfl) dX3_leadOnFrom_128 ⟨Nat.le_of_ble_eq_true rfl, Nat.le_of_ble_eq_true rfl⟩) (fun r19 u H locs hp hnz w => ?_)
    obtain ⟨T20, e21, hu9, hk22, sq23⟩ := hp
    subst hu9
    dsimp only at w
    have vk24 : k0 < T20.nr := SZ.ro sq23 hv_k0
    exact g_zretN (v := vp_nar .boolean r19) hx hb hr hlk w (Nat.le_of_ble_eq_true rfl) (Nat.le_of_ble_eq_true rfl) dX3_leadOnFrom_131 rfl ⟨_, ((sX3_leadOnFrom_u Z k0 i0).trans ((if_pos c_22).trans ((if_neg c_42_0).trans ((if_neg c_42_1).trans ((if_neg c_42_2).trans (pc_e e21)))))), rfl, hk22, (SZ.t sq23 ⟨rfl, rfl, rfl, rfl⟩)⟩
  · refine lv_iconst (v := 0) hx hb dX3_leadOnFrom_25 (by decide) ?_
    exact g_zret hx hb hr hlk w (Nat.le_of_ble_eq_true rfl) (Nat.le_of_ble_eq_true rfl) dX3_leadOnFrom_26 rfl ⟨_, ((sX3_leadOnFrom_u Z k0 i0).trans (if_neg c_22)), rfl, hk, ⟨rfl, rfl, rfl, rfl⟩⟩
set_option maxHeartbeats 4000000 in
set_option maxRecDepth 100000 in
theorem c_X6_init (l : Launch) (D : va_G) (ar : Nat → ClassId) (κ : Nat → Nat) (G : gW) (sz : Nat) (o : Nat) (i1 : Int32) (i2 : Int32) (i3 : Int32) (i4 : Int32) (r : Nat) (ho : G o = some (.inr (12, [.int 0, .int 0, .int 0, .int 0, .null, .int 0, .int 0]))) : Met l yX6_init (lwC yX6_init cX6_init 6 none) (rD 2 0 0) (g_Pc D vwCl (gT ar) (EX1 κ) G sz [.ref o, .int i1, .int i2, .int i3, .int i4, .ref r]) (g_Qv D vwCl (g_A G sz) (fun u => u = ((g_up G o (.inr (12, [.int i1, .int i2, .int i3, .int i4, .ref r, .int 0, .int 0]))), sz))) 0 0 (g_A G sz) := by
  refine g_ofW (by decide +kernel) (Nat.le_of_ble_eq_true rfl) ?_
  intro p e s m below meth c ls S hr hlk hin hE w hl
  have hx := S.1
  have hb := S.2.1
  have hl : lv_has ls 6 [(0, .ref o), (1, .int i1), (2, .int i2), (3, .int i3), (4, .int i4), (5, .ref r)] := hl
  have lt_ho : o < sz := g_ltn w ho
  refine lv_aload_n hx hb dX6_init_0 rfl (lv_at hl 0 rfl) ?_
  refine W.objInit hx hb S.2.2.2.1 (S.2.2.2.2 _ m_6_211) (S.2.2.2.2 _ m_1_46) (S.2.2.2.2 _ m_obj) rfl (by rw [S.2.2.1]; exact hl.1) rfl dX6_init_1 (Nat.le_of_ble_eq_true rfl) (Nat.le_of_ble_eq_true rfl) ?_
  refine W.eq (g2 := F0 m 4 ls []) rfl ?_
  refine lv_aload_n hx hb dX6_init_4 rfl (lv_at hl 0 rfl) ?_
  refine lv_iconst (v := 0) hx hb dX6_init_5 (by decide) ?_
  refine pf_RX6_9_12 (fs1 := [.int 0, .int 0, .int 0, .int 0, .null, .int 0, .int 0]) S hE w ho rfl rfl (Nat.le_of_ble_eq_true rfl) rfl dX6_init_6 (fun H locs w => ?_)
  refine lv_aload_n hx hb dX6_init_9 rfl (lv_at hl 0 rfl) ?_
  refine lv_iconst (v := 0) hx hb dX6_init_10 (by decide) ?_
  refine pf_RX6_15_12 (fs1 := [.int 0, .int 0, .int 0, .int 0, .null, .int 0, .int 0]) S hE w g_up_s rfl rfl (Nat.le_of_ble_eq_true rfl) rfl dX6_init_11 (fun H locs w => ?_)
  have w := g_eqw w g_over
  refine lv_aload_n hx hb dX6_init_14 rfl (lv_at hl 0 rfl) ?_
  refine lv_iload_n hx hb dX6_init_15 rfl (lv_at hl 1 rfl) ?_
  refine pf_RX6_19_12 (fs1 := [.int i1, .int 0, .int 0, .int 0, .null, .int 0, .int 0]) S hE hin w g_up_s rfl rfl (Nat.le_of_ble_eq_true rfl) rfl dX6_init_16 (fun H locs w => ?_)
  have w := g_eqw w g_over
  refine lv_aload_n hx hb dX6_init_19 rfl (lv_at hl 0 rfl) ?_
  refine lv_iload_n hx hb dX6_init_20 rfl (lv_at hl 2 rfl) ?_
  refine pf_RX6_22_12 (fs1 := [.int i1, .int i2, .int 0, .int 0, .null, .int 0, .int 0]) S hE hin w g_up_s rfl rfl (Nat.le_of_ble_eq_true rfl) rfl dX6_init_21 (fun H locs w => ?_)
  have w := g_eqw w g_over
  refine lv_aload_n hx hb dX6_init_24 rfl (lv_at hl 0 rfl) ?_
  refine lv_iload_n hx hb dX6_init_25 rfl (lv_at hl 3 rfl) ?_
  refine pf_RX6_25_12 (fs1 := [.int i1, .int i2, .int i3, .int 0, .null, .int 0, .int 0]) S hE hin w g_up_s rfl rfl (Nat.le_of_ble_eq_true rfl) rfl dX6_init_26 (fun H locs w => ?_)
  have w := g_eqw w g_over
  refine lv_aload_n hx hb dX6_init_29 rfl (lv_at hl 0 rfl) ?_
  refine lv_iload hx hb dX6_init_30 (lv_at hl 4 rfl) ?_
  refine pf_RX6_28_12 (fs1 := [.int i1, .int i2, .int i3, .int i4, .null, .int 0, .int 0]) S hE hin w g_up_s rfl rfl (Nat.le_of_ble_eq_true rfl) rfl dX6_init_32 (fun H locs w => ?_)
  have w := g_eqw w g_over
  refine lv_aload_n hx hb dX6_init_35 rfl (lv_at hl 0 rfl) ?_
  refine lv_aload hx hb dX6_init_36 (lv_at hl 5 rfl) ?_
  refine pf_RX6_31_12 (fs1 := [.int i1, .int i2, .int i3, .int i4, .ref r, .int 0, .int 0]) S hE hin w g_up_s rfl rfl (Nat.le_of_ble_eq_true rfl) rfl dX6_init_38 (fun H locs w => ?_)
  have w := g_eqw w g_over
  exact g_vret hx hb hr hlk w (Nat.le_of_ble_eq_true rfl) (Nat.le_of_ble_eq_true rfl) dX6_init_41 rfl
def sX6_isNamingWhatIsThere (Z : Ho) (ec0 : Int32) (es0 : Int32) (en0 : Int32) (et0 : Int32) (eq0 : Nat) (i0 : Int32) : Int32 := if sX3_letterAt Z eq0 i0 = 70 ∨ sX3_letterAt Z eq0 i0 = 102 then (vp_nar .boolean (isB (sX3_firstAt Z eq0 i0) (aA Z.fc 0 ec0))) else (if sX3_letterAt Z eq0 i0 = 71 ∨ sX3_letterAt Z eq0 i0 = 103 then (vp_nar .boolean (isB (sX3_firstAt Z eq0 i0) 8)) else (if sX3_letterAt Z eq0 i0 = 77 ∨ sX3_letterAt Z eq0 i0 = 109 then (if isB (sX3_firstAt Z eq0 i0) 16 = 0 then (0) else (if isB (sX3_secondAt Z eq0 i0) 3 = 0 then (0) else (1))) else (if sX3_letterAt Z eq0 i0 = 84 ∨ sX3_letterAt Z eq0 i0 = 116 then (vp_nar .boolean (isB (sX3_firstAt Z eq0 i0) et0)) else (if sX3_letterAt Z eq0 i0 = 97 then (vp_nar .boolean (isB (sX3_firstAt Z eq0 i0) en0)) else (if sX3_letterAt Z eq0 i0 = 99 then (if isB (sX3_firstAt Z eq0 i0) Z.cn = 0 then (0) else (if isPl (sX3_firstAt Z eq0 i0) = 0 then (1) else (0))) else (1))))))
theorem sX6_isNamingWhatIsThere_u (Z : Ho) (ec0 : Int32) (es0 : Int32) (en0 : Int32) (et0 : Int32) (eq0 : Nat) (i0 : Int32) : sX6_isNamingWhatIsThere Z ec0 es0 en0 et0 eq0 i0 = if sX3_letterAt Z eq0 i0 = 70 ∨ sX3_letterAt Z eq0 i0 = 102 then (vp_nar .boolean (isB (sX3_firstAt Z eq0 i0) (aA Z.fc 0 ec0))) else (if sX3_letterAt Z eq0 i0 = 71 ∨ sX3_letterAt Z eq0 i0 = 103 then (vp_nar .boolean (isB (sX3_firstAt Z eq0 i0) 8)) else (if sX3_letterAt Z eq0 i0 = 77 ∨ sX3_letterAt Z eq0 i0 = 109 then (if isB (sX3_firstAt Z eq0 i0) 16 = 0 then (0) else (if isB (sX3_secondAt Z eq0 i0) 3 = 0 then (0) else (1))) else (if sX3_letterAt Z eq0 i0 = 84 ∨ sX3_letterAt Z eq0 i0 = 116 then (vp_nar .boolean (isB (sX3_firstAt Z eq0 i0) et0)) else (if sX3_letterAt Z eq0 i0 = 97 then (vp_nar .boolean (isB (sX3_firstAt Z eq0 i0) en0)) else (if sX3_letterAt Z eq0 i0 = 99 then (if isB (sX3_firstAt Z eq0 i0) Z.cn = 0 then (0) else (if isPl (sX3_firstAt Z eq0 i0) = 0 then (1) else (0))) else (1)))))) := rfl
set_option maxHeartbeats 4000000 in
set_option maxRecDepth 100000 in
theorem hX6_isNamingWhatIsThere (l : Launch) (D : va_G) (ar : Nat → ClassId) (κ : Nat → Nat) (G : gW) (x : Xo) (Z : Ho) (sz : Nat) (ea0 : Nat) (ec0 : Int32) (es0 : Int32) (en0 : Int32) (et0 : Int32) (eq0 : Nat) (i0 : Int32) (hk : OK x Z) (hb_ea : x.b ea0 = none) (hg_ea : G ea0 = some (.inr (12, [.int ec0, .int es0, .int en0, .int et0, .ref (x.f (.ro eq0)), .int 0, .int 0]))) (hv_eq0 : eq0 < Z.nr) : Met l yX6_isNamingWhatIsThere (lwC yX6_isNamingWhatIsThere cX6_isNamingWhatIsThere 4 (some .boolean)) (rD 4 0 0) (g_Pc D vwCl (gT ar) (EX1 κ) (ov κ ar x Z G) sz [.ref ea0, .int i0, .ref (x.f .cl)]) (g_Qi D vwCl (g_A (ov κ ar x Z G) sz) (fun r u => r = sX6_isNamingWhatIsThere Z ec0 es0 en0 et0 eq0 i0 ∧ u = (ov κ ar x Z G, sz))) 0 0 (g_A (ov κ ar x Z G) sz) := by
  refine g_ofW (by decide +kernel) (Nat.le_of_ble_eq_true rfl) ?_
  intro p e s m below meth c ls S hr hlk hin hE w hl
  have hx := S.1
  have hb := S.2.1
  have hl : lv_has ls 4 [(0, .ref ea0), (1, .int i0), (2, .ref (x.f .cl))] := hl
  refine lv_aload_n hx hb dX6_isNamingWhatIsThere_0 rfl (lv_at hl 0 rfl) ?_
  refine gf_RX6_31_12 (v := .ref (x.f (.ro eq0))) S hE w (ov_o hb_ea hg_ea) rfl dX6_isNamingWhatIsThere_1 ?_
  refine lv_iload_n hx hb dX6_isNamingWhatIsThere_4 rfl (lv_at hl 1 rfl) ?_
  refine g_calli w (g_runV (As := [.int i0]) (rest := []) S hE w hl (hX3_firstAt l D ar κ G x Z sz eq0 i0 hk hv_eq0) (k_RX6_56 S.2.2.2.2 ⟨Nat.le_of_ble_eq_true rfl, Nat.le_of_ble_eq_true rfl⟩) (ov_r (t := .ro eq0) (hk.e_ro hv_eq0)) rfl rfl rfl rfl (Nat.le_of_ble_eq_true rfl) dX6_isNamingWhatIsThere_5 ⟨Nat.le_of_ble_eq_true rfl, Nat.le_of_ble_eq_true rfl⟩) (fun r u H locs hp hnz w => ?_)
  obtain ⟨rfl, rfl⟩ := hp
  dsimp only at w
  refine lv_istore_n (lv' := [(3, .int (sX3_firstAt Z eq0 i0)), (0, .ref ea0), (1, .int i0), (2, .ref (x.f .cl))]) hx hb dX6_isNamingWhatIsThere_8 rfl hl (by decide) rfl (fun ls hl => ?_)
  refine lv_aload_n hx hb dX6_isNamingWhatIsThere_9 rfl (lv_at hl 1 rfl) ?_
  refine gf_RX6_31_12 (v := .ref (x.f (.ro eq0))) S hE w (ov_o hb_ea hg_ea) rfl dX6_isNamingWhatIsThere_10 ?_
  refine lv_iload_n hx hb dX6_isNamingWhatIsThere_13 rfl (lv_at hl 2 rfl) ?_
  refine g_calli w (g_runV (As := [.int i0]) (rest := []) S hE w hl (hX3_letterAt l D ar κ G x Z sz eq0 i0 hk hv_eq0) (k_RX6_59 S.2.2.2.2 ⟨Nat.le_of_ble_eq_true rfl, Nat.le_of_ble_eq_true rfl⟩) (ov_r (t := .ro eq0) (hk.e_ro hv_eq0)) rfl rfl rfl rfl (Nat.le_of_ble_eq_true rfl) dX6_isNamingWhatIsThere_14 ⟨Nat.le_of_ble_eq_true rfl, Nat.le_of_ble_eq_true rfl⟩) (fun r u H locs hp hnz w => ?_)
  obtain ⟨rfl, rfl⟩ := hp
  dsimp only at w
  by_cases c_17_0 : sX3_letterAt Z eq0 i0 = 70 ∨ sX3_letterAt Z eq0 i0 = 102
  · refine lv_lookup (off := 109) (tgt := 126) hx hb dX6_isNamingWhatIsThere_17 (by decide) (by rcases c_17_0 with h9 | h9 <;> (rw [h9]; decide)) (by decide) ?_
    refine lv_iload_n hx hb dX6_isNamingWhatIsThere_126 rfl (lv_at hl 0 rfl) ?_
    refine lv_aload_n hx hb dX6_isNamingWhatIsThere_127 rfl (lv_at hl 3 rfl) ?_
    refine lv_aload_n hx hb dX6_isNamingWhatIsThere_128 rfl (lv_at hl 1 rfl) ?_
    refine gf_RX6_19_12 (v := .int ec0) S hE w (ov_o hb_ea hg_ea) rfl dX6_isNamingWhatIsThere_129 ?_
    refine g_calli w (g_runV (As := [.int ec0]) (rest := [.int (sX3_firstAt Z eq0 i0)]) S hE w hl (c_X0_fieldsOf l D ar κ (ov κ ar x Z G) sz (x.f .cl) ec0 (x.f .ab) (x.f .fc) Z.cn Z.fc (ov_r (t := .cl) (hk.e (.cl) rfl)) (ov_r (t := .fc) (hk.e (.fc) rfl))) (k_RX6_67 S.2.2.2.2 ⟨Nat.le_of_ble_eq_true rfl, Nat.le_of_ble_eq_true rfl⟩) (ov_r (t := .cl) (hk.e (.cl) rfl)) rfl rfl rfl rfl (Nat.le_of_ble_eq_true rfl) dX6_isNamingWhatIsThere_132 ⟨Nat.le_of_ble_eq_true rfl, Nat.le_of_ble_eq_true rfl⟩) (fun r u H locs hp hnz w => ?_)
    obtain ⟨rfl, rfl⟩ := hp
    dsimp only at w
    refine g_calli w (g_runSN (As := [.int (sX3_firstAt Z eq0 i0), .int (aA Z.fc 0 ec0)]) (rest := []) S hE w hl (c_X8_isBelow l D ar κ (ov κ ar x Z G) sz (sX3_firstAt Z eq0 i0) (aA Z.fc 0 ec0)) (k_RX6_63 S.2.2.2.2 (hE.2.1.1 _ (ckN_1 _ (List.mem_of_getElem? (i := 37) rfl))) ⟨Nat.le_of_ble_eq_true rfl, Nat.le_of_ble_eq_true rfl⟩) rfl rfl (Nat.le_of_ble_eq_true rfl) dX6_isNamingWhatIsThere_135 ⟨Nat.le_of_ble_eq_true rfl, Nat.le_of_ble_eq_true rfl⟩) (fun r u H locs hp hnz w => ?_)
    obtain ⟨rfl, rfl⟩ := hp
    dsimp only at w
    exact g_zretN (v := vp_nar .boolean (isB (sX3_firstAt Z eq0 i0) (aA Z.fc 0 ec0))) hx hb hr hlk w (Nat.le_of_ble_eq_true rfl) (Nat.le_of_ble_eq_true rfl) dX6_isNamingWhatIsThere_138 rfl ⟨(((sX6_isNamingWhatIsThere_u Z ec0 es0 en0 et0 eq0 i0).trans (if_pos c_17_0))).symm, rfl⟩
  by_cases c_17_1 : sX3_letterAt Z eq0 i0 = 71 ∨ sX3_letterAt Z eq0 i0 = 103
  · refine lv_lookup (off := 122) (tgt := 139) hx hb dX6_isNamingWhatIsThere_17 (by decide) (by rcases c_17_1 with h9 | h9 <;> (rw [h9]; decide)) (by decide) ?_
    refine lv_iload_n hx hb dX6_isNamingWhatIsThere_139 rfl (lv_at hl 0 rfl) ?_
    refine lv_bipush (v := 8) hx hb dX6_isNamingWhatIsThere_140 (by decide) ?_
    refine g_calli w (g_runSN (As := [.int (sX3_firstAt Z eq0 i0), .int 8]) (rest := []) S hE w hl (c_X8_isBelow l D ar κ (ov κ ar x Z G) sz (sX3_firstAt Z eq0 i0) 8) (k_RX6_63 S.2.2.2.2 (hE.2.1.1 _ (ckN_1 _ (List.mem_of_getElem? (i := 37) rfl))) ⟨Nat.le_of_ble_eq_true rfl, Nat.le_of_ble_eq_true rfl⟩) rfl rfl (Nat.le_of_ble_eq_true rfl) dX6_isNamingWhatIsThere_142 ⟨Nat.le_of_ble_eq_true rfl, Nat.le_of_ble_eq_true rfl⟩) (fun r u H locs hp hnz w => ?_)
    obtain ⟨rfl, rfl⟩ := hp
    dsimp only at w
    exact g_zretN (v := vp_nar .boolean (isB (sX3_firstAt Z eq0 i0) 8)) hx hb hr hlk w (Nat.le_of_ble_eq_true rfl) (Nat.le_of_ble_eq_true rfl) dX6_isNamingWhatIsThere_145 rfl ⟨(((sX6_isNamingWhatIsThere_u Z ec0 es0 en0 et0 eq0 i0).trans ((if_neg c_17_0).trans (if_pos c_17_1)))).symm, rfl⟩
  by_cases c_17_2 : sX3_letterAt Z eq0 i0 = 77 ∨ sX3_letterAt Z eq0 i0 = 109
  · refine lv_lookup (off := 150) (tgt := 167) hx hb dX6_isNamingWhatIsThere_17 (by decide) (by rcases c_17_2 with h9 | h9 <;> (rw [h9]; decide)) (by decide) ?_
    refine lv_iload_n hx hb dX6_isNamingWhatIsThere_167 rfl (lv_at hl 0 rfl) ?_
    refine lv_bipush (v := 16) hx hb dX6_isNamingWhatIsThere_168 (by decide) ?_
    refine g_calli w (g_runSN (As := [.int (sX3_firstAt Z eq0 i0), .int 16]) (rest := []) S hE w hl (c_X8_isBelow l D ar κ (ov κ ar x Z G) sz (sX3_firstAt Z eq0 i0) 16) (k_RX6_63 S.2.2.2.2 (hE.2.1.1 _ (ckN_1 _ (List.mem_of_getElem? (i := 37) rfl))) ⟨Nat.le_of_ble_eq_true rfl, Nat.le_of_ble_eq_true rfl⟩) rfl rfl (Nat.le_of_ble_eq_true rfl) dX6_isNamingWhatIsThere_170 ⟨Nat.le_of_ble_eq_true rfl, Nat.le_of_ble_eq_true rfl⟩) (fun r u H locs hp hnz w => ?_)
    obtain ⟨rfl, rfl⟩ := hp
    dsimp only at w
    refine lv_if_eq (tgt := 195) hx hb dX6_isNamingWhatIsThere_173 (by decide) (fun c_173 => ?_) (fun c_173 => ?_)
    · refine lv_iconst (v := 0) hx hb dX6_isNamingWhatIsThere_195 (by decide) ?_
      exact g_zret hx hb hr hlk w (Nat.le_of_ble_eq_true rfl) (Nat.le_of_ble_eq_true rfl) dX6_isNamingWhatIsThere_196 rfl ⟨(((sX6_isNamingWhatIsThere_u Z ec0 es0 en0 et0 eq0 i0).trans ((if_neg c_17_0).trans ((if_neg c_17_1).trans ((if_pos c_17_2).trans (if_pos c_173)))))).symm, rfl⟩
    · refine lv_aload_n hx hb dX6_isNamingWhatIsThere_176 rfl (lv_at hl 1 rfl) ?_
      refine gf_RX6_31_12 (v := .ref (x.f (.ro eq0))) S hE w (ov_o hb_ea hg_ea) rfl dX6_isNamingWhatIsThere_177 ?_
      refine lv_iload_n hx hb dX6_isNamingWhatIsThere_180 rfl (lv_at hl 2 rfl) ?_
      refine g_calli w (g_runV (As := [.int i0]) (rest := []) S hE w hl (hX3_secondAt l D ar κ G x Z sz eq0 i0 hk hv_eq0) (k_RX6_78 S.2.2.2.2 ⟨Nat.le_of_ble_eq_true rfl, Nat.le_of_ble_eq_true rfl⟩) (ov_r (t := .ro eq0) (hk.e_ro hv_eq0)) rfl rfl rfl rfl (Nat.le_of_ble_eq_true rfl) dX6_isNamingWhatIsThere_181 ⟨Nat.le_of_ble_eq_true rfl, Nat.le_of_ble_eq_true rfl⟩) (fun r u H locs hp hnz w => ?_)
      obtain ⟨rfl, rfl⟩ := hp
      dsimp only at w
      refine lv_iconst (v := 3) hx hb dX6_isNamingWhatIsThere_184 (by decide) ?_
      refine g_calli w (g_runSN (As := [.int (sX3_secondAt Z eq0 i0), .int 3]) (rest := []) S hE w hl (c_X8_isBelow l D ar κ (ov κ ar x Z G) sz (sX3_secondAt Z eq0 i0) 3) (k_RX6_63 S.2.2.2.2 (hE.2.1.1 _ (ckN_1 _ (List.mem_of_getElem? (i := 37) rfl))) ⟨Nat.le_of_ble_eq_true rfl, Nat.le_of_ble_eq_true rfl⟩) rfl rfl (Nat.le_of_ble_eq_true rfl) dX6_isNamingWhatIsThere_185 ⟨Nat.le_of_ble_eq_true rfl, Nat.le_of_ble_eq_true rfl⟩) (fun r u H locs hp hnz w => ?_)
      obtain ⟨rfl, rfl⟩ := hp
      dsimp only at w
      refine lv_if_eq (tgt := 195) hx hb dX6_isNamingWhatIsThere_188 (by decide) (fun c_188 => ?_) (fun c_188 => ?_)
      · refine lv_iconst (v := 0) hx hb dX6_isNamingWhatIsThere_195 (by decide) ?_
        exact g_zret hx hb hr hlk w (Nat.le_of_ble_eq_true rfl) (Nat.le_of_ble_eq_true rfl) dX6_isNamingWhatIsThere_196 rfl ⟨(((sX6_isNamingWhatIsThere_u Z ec0 es0 en0 et0 eq0 i0).trans ((if_neg c_17_0).trans ((if_neg c_17_1).trans ((if_pos c_17_2).trans ((if_neg c_173).trans (if_pos c_188))))))).symm, rfl⟩
      · refine lv_iconst (v := 1) hx hb dX6_isNamingWhatIsThere_191 (by decide) ?_
        refine lv_goto (tgt := 196) hx hb dX6_isNamingWhatIsThere_192 (by decide) ?_
        exact g_zret hx hb hr hlk w (Nat.le_of_ble_eq_true rfl) (Nat.le_of_ble_eq_true rfl) dX6_isNamingWhatIsThere_196 rfl ⟨(((sX6_isNamingWhatIsThere_u Z ec0 es0 en0 et0 eq0 i0).trans ((if_neg c_17_0).trans ((if_neg c_17_1).trans ((if_pos c_17_2).trans ((if_neg c_173).trans (if_neg c_188))))))).symm, rfl⟩
  by_cases c_17_3 : sX3_letterAt Z eq0 i0 = 84 ∨ sX3_letterAt Z eq0 i0 = 116
  · refine lv_lookup (off := 100) (tgt := 117) hx hb dX6_isNamingWhatIsThere_17 (by decide) (by rcases c_17_3 with h9 | h9 <;> (rw [h9]; decide)) (by decide) ?_
    refine lv_iload_n hx hb dX6_isNamingWhatIsThere_117 rfl (lv_at hl 0 rfl) ?_
    refine lv_aload_n hx hb dX6_isNamingWhatIsThere_118 rfl (lv_at hl 1 rfl) ?_
    refine gf_RX6_28_12 (v := .int et0) S hE w (ov_o hb_ea hg_ea) rfl dX6_isNamingWhatIsThere_119 ?_
    refine g_calli w (g_runSN (As := [.int (sX3_firstAt Z eq0 i0), .int et0]) (rest := []) S hE w hl (c_X8_isBelow l D ar κ (ov κ ar x Z G) sz (sX3_firstAt Z eq0 i0) et0) (k_RX6_63 S.2.2.2.2 (hE.2.1.1 _ (ckN_1 _ (List.mem_of_getElem? (i := 37) rfl))) ⟨Nat.le_of_ble_eq_true rfl, Nat.le_of_ble_eq_true rfl⟩) rfl rfl (Nat.le_of_ble_eq_true rfl) dX6_isNamingWhatIsThere_122 ⟨Nat.le_of_ble_eq_true rfl, Nat.le_of_ble_eq_true rfl⟩) (fun r u H locs hp hnz w => ?_)
    obtain ⟨rfl, rfl⟩ := hp
    dsimp only at w
    exact g_zretN (v := vp_nar .boolean (isB (sX3_firstAt Z eq0 i0) et0)) hx hb hr hlk w (Nat.le_of_ble_eq_true rfl) (Nat.le_of_ble_eq_true rfl) dX6_isNamingWhatIsThere_125 rfl ⟨(((sX6_isNamingWhatIsThere_u Z ec0 es0 en0 et0 eq0 i0).trans ((if_neg c_17_0).trans ((if_neg c_17_1).trans ((if_neg c_17_2).trans (if_pos c_17_3)))))).symm, rfl⟩
  by_cases c_17_4 : sX3_letterAt Z eq0 i0 = 97
  · refine lv_lookup (off := 91) (tgt := 108) hx hb dX6_isNamingWhatIsThere_17 (by decide) (by have h9 := c_17_4; (rw [h9]; decide)) (by decide) ?_
    refine lv_iload_n hx hb dX6_isNamingWhatIsThere_108 rfl (lv_at hl 0 rfl) ?_
    refine lv_aload_n hx hb dX6_isNamingWhatIsThere_109 rfl (lv_at hl 1 rfl) ?_
    refine gf_RX6_25_12 (v := .int en0) S hE w (ov_o hb_ea hg_ea) rfl dX6_isNamingWhatIsThere_110 ?_
    refine g_calli w (g_runSN (As := [.int (sX3_firstAt Z eq0 i0), .int en0]) (rest := []) S hE w hl (c_X8_isBelow l D ar κ (ov κ ar x Z G) sz (sX3_firstAt Z eq0 i0) en0) (k_RX6_63 S.2.2.2.2 (hE.2.1.1 _ (ckN_1 _ (List.mem_of_getElem? (i := 37) rfl))) ⟨Nat.le_of_ble_eq_true rfl, Nat.le_of_ble_eq_true rfl⟩) rfl rfl (Nat.le_of_ble_eq_true rfl) dX6_isNamingWhatIsThere_113 ⟨Nat.le_of_ble_eq_true rfl, Nat.le_of_ble_eq_true rfl⟩) (fun r u H locs hp hnz w => ?_)
    obtain ⟨rfl, rfl⟩ := hp
    dsimp only at w
    exact g_zretN (v := vp_nar .boolean (isB (sX3_firstAt Z eq0 i0) en0)) hx hb hr hlk w (Nat.le_of_ble_eq_true rfl) (Nat.le_of_ble_eq_true rfl) dX6_isNamingWhatIsThere_116 rfl ⟨(((sX6_isNamingWhatIsThere_u Z ec0 es0 en0 et0 eq0 i0).trans ((if_neg c_17_0).trans ((if_neg c_17_1).trans ((if_neg c_17_2).trans ((if_neg c_17_3).trans (if_pos c_17_4))))))).symm, rfl⟩
  by_cases c_17_5 : sX3_letterAt Z eq0 i0 = 99
  · refine lv_lookup (off := 129) (tgt := 146) hx hb dX6_isNamingWhatIsThere_17 (by decide) (by have h9 := c_17_5; (rw [h9]; decide)) (by decide) ?_
    refine lv_aload_n hx hb dX6_isNamingWhatIsThere_146 rfl (lv_at hl 3 rfl) ?_
    refine lv_iload_n hx hb dX6_isNamingWhatIsThere_147 rfl (lv_at hl 0 rfl) ?_
    refine g_calli w (g_runV (As := [.int (sX3_firstAt Z eq0 i0)]) (rest := []) S hE w hl (c_X0_has l D ar κ (ov κ ar x Z G) sz (x.f .cl) (sX3_firstAt Z eq0 i0) (x.f .ab) (x.f .fc) Z.cn (ov_r (t := .cl) (hk.e (.cl) rfl))) (k_RX6_72 S.2.2.2.2 ⟨Nat.le_of_ble_eq_true rfl, Nat.le_of_ble_eq_true rfl⟩) (ov_r (t := .cl) (hk.e (.cl) rfl)) rfl rfl rfl rfl (Nat.le_of_ble_eq_true rfl) dX6_isNamingWhatIsThere_148 ⟨Nat.le_of_ble_eq_true rfl, Nat.le_of_ble_eq_true rfl⟩) (fun r u H locs hp hnz w => ?_)
    obtain ⟨rfl, rfl⟩ := hp
    dsimp only at w
    refine lv_if_eq (tgt := 165) hx hb dX6_isNamingWhatIsThere_151 (by decide) (fun c_151 => ?_) (fun c_151 => ?_)
    · refine lv_iconst (v := 0) hx hb dX6_isNamingWhatIsThere_165 (by decide) ?_
      exact g_zret hx hb hr hlk w (Nat.le_of_ble_eq_true rfl) (Nat.le_of_ble_eq_true rfl) dX6_isNamingWhatIsThere_166 rfl ⟨(((sX6_isNamingWhatIsThere_u Z ec0 es0 en0 et0 eq0 i0).trans ((if_neg c_17_0).trans ((if_neg c_17_1).trans ((if_neg c_17_2).trans ((if_neg c_17_3).trans ((if_neg c_17_4).trans ((if_pos c_17_5).trans (if_pos c_151))))))))).symm, rfl⟩
    · refine lv_iload_n hx hb dX6_isNamingWhatIsThere_154 rfl (lv_at hl 0 rfl) ?_
      refine g_calli w (g_runSN (As := [.int (sX3_firstAt Z eq0 i0)]) (rest := []) S hE w hl (c_X8_isOfPlainValues l D ar κ (ov κ ar x Z G) sz (sX3_firstAt Z eq0 i0)) (k_RX6_75 S.2.2.2.2 (hE.2.1.1 _ (ckN_1 _ (List.mem_of_getElem? (i := 38) rfl))) ⟨Nat.le_of_ble_eq_true rfl, Nat.le_of_ble_eq_true rfl⟩) rfl rfl (Nat.le_of_ble_eq_true rfl) dX6_isNamingWhatIsThere_155 ⟨Nat.le_of_ble_eq_true rfl, Nat.le_of_ble_eq_true rfl⟩) (fun r u H locs hp hnz w => ?_)
      obtain ⟨rfl, rfl⟩ := hp
      dsimp only at w
      refine lv_if_ne (tgt := 165) hx hb dX6_isNamingWhatIsThere_158 (by decide) (fun c_158 => ?_) (fun c_158 => ?_)
      · refine lv_iconst (v := 0) hx hb dX6_isNamingWhatIsThere_165 (by decide) ?_
        exact g_zret hx hb hr hlk w (Nat.le_of_ble_eq_true rfl) (Nat.le_of_ble_eq_true rfl) dX6_isNamingWhatIsThere_166 rfl ⟨(((sX6_isNamingWhatIsThere_u Z ec0 es0 en0 et0 eq0 i0).trans ((if_neg c_17_0).trans ((if_neg c_17_1).trans ((if_neg c_17_2).trans ((if_neg c_17_3).trans ((if_neg c_17_4).trans ((if_pos c_17_5).trans ((if_neg c_151).trans (if_neg c_158)))))))))).symm, rfl⟩
      · refine lv_iconst (v := 1) hx hb dX6_isNamingWhatIsThere_161 (by decide) ?_
        refine lv_goto (tgt := 166) hx hb dX6_isNamingWhatIsThere_162 (by decide) ?_
        exact g_zret hx hb hr hlk w (Nat.le_of_ble_eq_true rfl) (Nat.le_of_ble_eq_true rfl) dX6_isNamingWhatIsThere_166 rfl ⟨(((sX6_isNamingWhatIsThere_u Z ec0 es0 en0 et0 eq0 i0).trans ((if_neg c_17_0).trans ((if_neg c_17_1).trans ((if_neg c_17_2).trans ((if_neg c_17_3).trans ((if_neg c_17_4).trans ((if_pos c_17_5).trans ((if_neg c_151).trans (if_pos c_158)))))))))).symm, rfl⟩
  refine lv_lookup (off := 180) (tgt := 197) hx hb dX6_isNamingWhatIsThere_17 (by decide) (sw_def (ks := [70, 71, 77, 84, 97, 99, 102, 103, 109, 116]) ⟨(fun h9 => c_17_0 (Or.inl h9)), (fun h9 => c_17_1 (Or.inl h9)), (fun h9 => c_17_2 (Or.inl h9)), (fun h9 => c_17_3 (Or.inl h9)), c_17_4, c_17_5, (fun h9 => c_17_0 (Or.inr (h9))), (fun h9 => c_17_1 (Or.inr (h9))), (fun h9 => c_17_2 (Or.inr (h9))), (fun h9 => c_17_3 (Or.inr (h9))), trivial⟩ (by decide +kernel)) (by decide) ?_
  refine lv_iconst (v := 1) hx hb dX6_isNamingWhatIsThere_197 (by decide) ?_
  exact g_zret hx hb hr hlk w (Nat.le_of_ble_eq_true rfl) (Nat.le_of_ble_eq_true rfl) dX6_isNamingWhatIsThere_198 rfl ⟨(((sX6_isNamingWhatIsThere_u Z ec0 es0 en0 et0 eq0 i0).trans ((if_neg c_17_0).trans ((if_neg c_17_1).trans ((if_neg c_17_2).trans ((if_neg c_17_3).trans ((if_neg c_17_4).trans (if_neg c_17_5)))))))).symm, rfl⟩
def LX6_isWellTold_14 (ec0 : Int32) (es0 : Int32) (en0 : Int32) (et0 : Int32) (eq0 : Nat) : Nat → Int32 → Ho → Int32 × Ho
  | 0, _, S8 => (0, S8)
  | nx7 + 1, x7, S8 => if 24 ≤ x7 then ((1, S8)) else (if (S8.ro eq0).k ≤ x7 then ((1, S8)) else (if sX6_isNamingWhatIsThere S8 ec0 es0 en0 et0 eq0 (sX3_comeToAt S8 eq0 x7) = 0 then ((0, S8)) else (pc (sX3_leadOnFrom S8 eq0 (sX3_comeToAt S8 eq0 x7)) (fun r14 T15 => if r14 = 0 then ((0, T15)) else (LX6_isWellTold_14 ec0 es0 en0 et0 eq0 nx7 (x7 + 1) T15)))))
theorem LX6_isWellTold_14_u (ec0 : Int32) (es0 : Int32) (en0 : Int32) (et0 : Int32) (eq0 : Nat) (nx7 : Nat) (x7 : Int32) (S8 : Ho) : LX6_isWellTold_14 ec0 es0 en0 et0 eq0 (nx7 + 1) x7 S8 = if 24 ≤ x7 then ((1, S8)) else (if (S8.ro eq0).k ≤ x7 then ((1, S8)) else (if sX6_isNamingWhatIsThere S8 ec0 es0 en0 et0 eq0 (sX3_comeToAt S8 eq0 x7) = 0 then ((0, S8)) else (pc (sX3_leadOnFrom S8 eq0 (sX3_comeToAt S8 eq0 x7)) (fun r14 T15 => if r14 = 0 then ((0, T15)) else (LX6_isWellTold_14 ec0 es0 en0 et0 eq0 nx7 (x7 + 1) T15))))) := rfl
def sX6_isWellTold (Z : Ho) (ec0 : Int32) (es0 : Int32) (en0 : Int32) (et0 : Int32) (eq0 : Nat) : Int32 × Ho := pc (sX3_comeToFirst Z eq0) (fun r1 T2 => if r1 = 0 then ((0, T2)) else (LX6_isWellTold_14 ec0 es0 en0 et0 eq0 25 0 T2))
theorem sX6_isWellTold_u (Z : Ho) (ec0 : Int32) (es0 : Int32) (en0 : Int32) (et0 : Int32) (eq0 : Nat) : sX6_isWellTold Z ec0 es0 en0 et0 eq0 = pc (sX3_comeToFirst Z eq0) (fun r1 T2 => if r1 = 0 then ((0, T2)) else (LX6_isWellTold_14 ec0 es0 en0 et0 eq0 25 0 T2)) := rfl
set_option maxHeartbeats 4000000 in
set_option maxRecDepth 100000 in
theorem hX6_isWellTold (l : Launch) (D : va_G) (ar : Nat → ClassId) (κ : Nat → Nat) (G : gW) (x : Xo) (Z : Ho) (sz : Nat) (ea0 : Nat) (ec0 : Int32) (es0 : Int32) (en0 : Int32) (et0 : Int32) (eq0 : Nat) (hk : OK x Z) (hb_ea : x.b ea0 = none) (hg_ea : G ea0 = some (.inr (12, [.int ec0, .int es0, .int en0, .int et0, .ref (x.f (.ro eq0)), .int 0, .int 0]))) (hv_eq0 : eq0 < Z.nr) : Met l yX6_isWellTold (lwC yX6_isWellTold cX6_isWellTold 4 (some .boolean)) (rD 6 0 0) (g_Pc D vwCl (gT ar) (EX1 κ) (ov κ ar x Z G) sz [.ref ea0, .ref (x.f .cl)]) (g_Qi D vwCl (g_A (ov κ ar x Z G) sz) (fun r u => ∃ T9 : Ho, sX6_isWellTold Z ec0 es0 en0 et0 eq0 = (r, T9) ∧ u = (ov κ ar x T9 G, sz) ∧ OK x T9 ∧ SZ T9 Z)) 0 0 (g_A (ov κ ar x Z G) sz) := by
  refine g_ofW (by decide +kernel) (Nat.le_of_ble_eq_true rfl) ?_
  intro p e s m below meth c ls S hr hlk hin hE w hl
  have hx := S.1
  have hb := S.2.1
  have hl : lv_has ls 4 [(0, .ref ea0), (1, .ref (x.f .cl))] := hl
  refine lv_aload_n hx hb dX6_isWellTold_0 rfl (lv_at hl 0 rfl) ?_
  refine gf_RX6_31_12 (v := .ref (x.f (.ro eq0))) S hE w (ov_o hb_ea hg_ea) rfl dX6_isWellTold_1 ?_
  refine g_calli w (g_runV (As := []) (rest := []) S hE w hl (hX3_comeToFirst l D ar κ G x Z sz eq0 hk hv_eq0) (k_RX6_35 S.2.2.2.2 ⟨Nat.le_of_ble_eq_true rfl, Nat.le_of_ble_eq_true rfl⟩) (ov_r (t := .ro eq0) (hk.e_ro hv_eq0)) rfl rfl rfl rfl (Nat.le_of_ble_eq_true rfl) dX6_isWellTold_4 ⟨Nat.le_of_ble_eq_true rfl, Nat.le_of_ble_eq_true rfl⟩) (fun r1 u H locs hp hnz w => ?_)
  obtain ⟨T2, e3, hu9, hk4, sq5⟩ := hp
  subst hu9
  dsimp only at w
  have vk6 : eq0 < T2.nr := SZ.ro sq5 hv_eq0
  refine lv_if_ne (tgt := 12) hx hb dX6_isWellTold_7 (by decide) (fun c_7 => ?_) (fun c_7 => ?_)
  · refine lv_iconst (v := 0) hx hb dX6_isWellTold_12 (by decide) ?_
    refine lv_istore_n (lv' := [(2, .int 0), (0, .ref ea0), (1, .ref (x.f .cl))]) hx hb dX6_isWellTold_13 rfl hl (by decide) rfl (fun ls hl => ?_)
    have key13 : ∀ (nx7 ix7 : Nat), ix7 ≤ 24 → 24 + 1 ≤ ix7 + nx7 → ∀ (x7 : Int32), x7 = nI ix7 → ∀ (S8 : Ho), OK x S8 → SZ S8 Z → sX6_isWellTold Z ec0 es0 en0 et0 eq0 = LX6_isWellTold_14 ec0 es0 en0 et0 eq0 nx7 x7 S8 → ∀ (H : Heap) (locs : List Loc) (ls : Array Slot), g_S D vwCl (g_A (ov κ ar x Z G) sz) s.heap (ov κ ar x S8 G) H locs sz → lv_has ls 4 [(2, .int x7), (0, .ref ea0), (1, .ref (x.f .cl))] → W p l e (rD 6 0 0) s m ([.ref ea0, .ref (x.f .cl)] : List Value).toArray below meth c H locs 0 0 (MQ below (g_Qi D vwCl (g_A (ov κ ar x Z G) sz) (fun r u => ∃ T9 : Ho, sX6_isWellTold Z ec0 es0 en0 et0 eq0 = (r, T9) ∧ u = (ov κ ar x T9 G, sz) ∧ OK x T9 ∧ SZ T9 Z)) ([.ref ea0, .ref (x.f .cl)] : List Value).toArray s 0 0 (g_A (ov κ ar x Z G) sz)) (F0 m 14 ls []) := by
      intro nx7
      induction nx7 with
      | zero => intro ix7 hix7 hi2; exact absurd hi2 (by omega)
      | succ nx7 ihx7 =>
        intro ix7 hix7 hi2 x7 exx7 S8 hk9 sq10 hsp12 H locs ls w hl
        refine lv_iload_n hx hb dX6_isWellTold_14 rfl (lv_at hl 0 rfl) ?_
        refine lv_bipush (v := 24) hx hb dX6_isWellTold_15 (by decide) ?_
        refine lv_icmp_ge (tgt := 68) hx hb dX6_isWellTold_17 (by decide) (fun c_17 => ?_) (fun c_17 => ?_)
        · refine lv_iconst (v := 1) hx hb dX6_isWellTold_68 (by decide) ?_
          exact g_zret hx hb hr hlk w (Nat.le_of_ble_eq_true rfl) (Nat.le_of_ble_eq_true rfl) dX6_isWellTold_69 rfl ⟨_, ((hsp12).trans ((LX6_isWellTold_14_u ec0 es0 en0 et0 eq0 nx7 x7 S8).trans (if_pos c_17))), rfl, hk9, sq10⟩
        · refine lv_iload_n hx hb dX6_isWellTold_20 rfl (lv_at hl 0 rfl) ?_
          refine lv_aload_n hx hb dX6_isWellTold_21 rfl (lv_at hl 1 rfl) ?_
          refine gf_RX6_31_12 (v := .ref (x.f (.ro eq0))) S hE w (ov_o hb_ea hg_ea) rfl dX6_isWellTold_22 ?_
          refine gf_RX6_41_9 (v := .int ((S8.ro eq0).k)) S hE w (ov_r (t := .ro eq0) (hk9.e_ro (SZ.ro sq10 hv_eq0))) rfl dX6_isWellTold_25 ?_
          refine lv_icmp_ge (tgt := 68) hx hb dX6_isWellTold_28 (by decide) (fun c_28 => ?_) (fun c_28 => ?_)
          · refine lv_iconst (v := 1) hx hb dX6_isWellTold_68 (by decide) ?_
            exact g_zret hx hb hr hlk w (Nat.le_of_ble_eq_true rfl) (Nat.le_of_ble_eq_true rfl) dX6_isWellTold_69 rfl ⟨_, ((hsp12).trans ((LX6_isWellTold_14_u ec0 es0 en0 et0 eq0 nx7 x7 S8).trans ((if_neg c_17).trans (if_pos c_28)))), rfl, hk9, sq10⟩
          · refine lv_aload_n hx hb dX6_isWellTold_31 rfl (lv_at hl 1 rfl) ?_
            refine gf_RX6_31_12 (v := .ref (x.f (.ro eq0))) S hE w (ov_o hb_ea hg_ea) rfl dX6_isWellTold_32 ?_
            refine lv_iload_n hx hb dX6_isWellTold_35 rfl (lv_at hl 0 rfl) ?_
            refine g_calli w (g_runV (As := [.int x7]) (rest := []) S hE w hl (hX3_comeToAt l D ar κ G x S8 sz eq0 x7 hk9 (SZ.ro sq10 hv_eq0)) (k_RX6_44 S.2.2.2.2 ⟨Nat.le_of_ble_eq_true rfl, Nat.le_of_ble_eq_true rfl⟩) (ov_r (t := .ro eq0) (hk9.e_ro (SZ.ro sq10 hv_eq0))) rfl rfl rfl rfl (Nat.le_of_ble_eq_true rfl) dX6_isWellTold_36 ⟨Nat.le_of_ble_eq_true rfl, Nat.le_of_ble_eq_true rfl⟩) (fun r u H locs hp hnz w => ?_)
            obtain ⟨rfl, rfl⟩ := hp
            dsimp only at w
            refine lv_istore_n (lv' := [(3, .int (sX3_comeToAt S8 eq0 x7)), (2, .int x7), (0, .ref ea0), (1, .ref (x.f .cl))]) hx hb dX6_isWellTold_39 rfl hl (by decide) rfl (fun ls hl => ?_)
            refine lv_aload_n hx hb dX6_isWellTold_40 rfl (lv_at hl 2 rfl) ?_
            refine lv_iload_n hx hb dX6_isWellTold_41 rfl (lv_at hl 0 rfl) ?_
            refine lv_aload_n hx hb dX6_isWellTold_42 rfl (lv_at hl 3 rfl) ?_
            refine g_calli w (g_runV (As := [.int (sX3_comeToAt S8 eq0 x7), .ref (x.f .cl)]) (rest := []) S hE w hl (hX6_isNamingWhatIsThere l D ar κ G x S8 sz ea0 ec0 es0 en0 et0 eq0 (sX3_comeToAt S8 eq0 x7) hk9 hb_ea hg_ea (SZ.ro sq10 hv_eq0)) (k_RX6_48 S.2.2.2.2 ⟨Nat.le_of_ble_eq_true rfl, Nat.le_of_ble_eq_true rfl⟩) (ov_o hb_ea hg_ea) rfl rfl rfl rfl (Nat.le_of_ble_eq_true rfl) dX6_isWellTold_43 ⟨Nat.le_of_ble_eq_true rfl, Nat.le_of_ble_eq_true rfl⟩) (fun r u H locs hp hnz w => ?_)
            obtain ⟨rfl, rfl⟩ := hp
            dsimp only at w
            refine lv_if_eq (tgt := 60) hx hb dX6_isWellTold_46 (by decide) (fun c_46 => ?_) (fun c_46 => ?_)
            · refine lv_iconst (v := 0) hx hb dX6_isWellTold_60 (by decide) ?_
              exact g_zret hx hb hr hlk w (Nat.le_of_ble_eq_true rfl) (Nat.le_of_ble_eq_true rfl) dX6_isWellTold_61 rfl ⟨_, ((hsp12).trans ((LX6_isWellTold_14_u ec0 es0 en0 et0 eq0 nx7 x7 S8).trans ((if_neg c_17).trans ((if_neg c_28).trans (if_pos c_46))))), rfl, hk9, sq10⟩
            · refine lv_aload_n hx hb dX6_isWellTold_49 rfl (lv_at hl 2 rfl) ?_
              refine gf_RX6_31_12 (v := .ref (x.f (.ro eq0))) S hE w (ov_o hb_ea hg_ea) rfl dX6_isWellTold_50 ?_
              refine lv_iload_n hx hb dX6_isWellTold_53 rfl (lv_at hl 0 rfl) ?_
              refine g_calli w (g_runV (As := [.int (sX3_comeToAt S8 eq0 x7)]) (rest := []) S hE w hl (hX3_leadOnFrom l D ar κ G x S8 sz eq0 (sX3_comeToAt S8 eq0 x7) hk9 (SZ.ro sq10 hv_eq0)) (k_RX6_52 S.2.2.2.2 ⟨Nat.le_of_ble_eq_true rfl, Nat.le_of_ble_eq_true rfl⟩) (ov_r (t := .ro eq0) (hk9.e_ro (SZ.ro sq10 hv_eq0))) rfl rfl rfl rfl (Nat.le_of_ble_eq_true rfl) dX6_isWellTold_54 ⟨Nat.le_of_ble_eq_true rfl, Nat.le_of_ble_eq_true rfl⟩) (fun r14 u H locs hp hnz w => ?_)
              obtain ⟨T15, e16, hu9, hk17, sq18⟩ := hp
              subst hu9
              dsimp only at w
              have vk19 : eq0 < T15.nr := SZ.ro sq18 (SZ.ro sq10 hv_eq0)
              refine lv_if_ne (tgt := 62) hx hb dX6_isWellTold_57 (by decide) (fun c_57 => ?_) (fun c_57 => ?_)
              · refine lv_iinc (v := x7 + 1) (lv' := [(2, .int (x7 + 1)), (3, .int (sX3_comeToAt S8 eq0 x7)), (0, .ref ea0), (1, .ref (x.f .cl))]) hx hb dX6_isWellTold_62 hl (k := 1) rfl rfl (by decide) rfl (fun ls hl => ?_)
                refine lv_goto (tgt := 14) hx hb dX6_isWellTold_65 (by decide) ?_
                exact ihx7 (ix7 + 1) (lp_up (n := 24) rfl exx7 hix7 (by decide) (by decide) (by decide) c_17) (by omega) (x7 + 1) (by rw [exx7]; exact nI_1 ix7) T15 hk17 (SZ.t sq18 sq10) ((hsp12).trans ((LX6_isWellTold_14_u ec0 es0 en0 et0 eq0 nx7 x7 S8).trans ((if_neg c_17).trans ((if_neg c_28).trans ((if_neg c_46).trans ((pc_e e16).trans (if_neg c_57))))))) H _ ls w (lv_sub hl [0, 2, 3] rfl)
              · refine lv_iconst (v := 0) hx hb dX6_isWellTold_60 (by decide) ?_
                exact g_zret hx hb hr hlk w (Nat.le_of_ble_eq_true rfl) (Nat.le_of_ble_eq_true rfl) dX6_isWellTold_61 rfl ⟨_, ((hsp12).trans ((LX6_isWellTold_14_u ec0 es0 en0 et0 eq0 nx7 x7 S8).trans ((if_neg c_17).trans ((if_neg c_28).trans ((if_neg c_46).trans ((pc_e e16).trans (if_pos c_57))))))), rfl, hk17, (SZ.t sq18 sq10)⟩
    exact key13 25 0 (Nat.zero_le _) (by decide) 0 rfl T2 hk4 (SZ.t sq5 ⟨rfl, rfl, rfl, rfl⟩) ((sX6_isWellTold_u Z ec0 es0 en0 et0 eq0).trans ((pc_e e3).trans (if_neg c_7))) _ _ _ w (lv_sub hl [0, 1, 2] rfl)
  · refine lv_iconst (v := 0) hx hb dX6_isWellTold_10 (by decide) ?_
    exact g_zret hx hb hr hlk w (Nat.le_of_ble_eq_true rfl) (Nat.le_of_ble_eq_true rfl) dX6_isWellTold_11 rfl ⟨_, ((sX6_isWellTold_u Z ec0 es0 en0 et0 eq0).trans ((pc_e e3).trans (if_pos c_7))), rfl, hk4, (SZ.t sq5 ⟨rfl, rfl, rfl, rfl⟩)⟩
def sX8_methodAt (Z : Ho) (i0 : Int32) (j0 : Int32) : Option (Nat) := if isB i0 12 = 0 then (none) else (if isB j0 16 = 0 then (none) else (Z.me (Int32.toNatClampNeg ((i0 * 16) + j0))))
theorem sX8_methodAt_u (Z : Ho) (i0 : Int32) (j0 : Int32) : sX8_methodAt Z i0 j0 = if isB i0 12 = 0 then (none) else (if isB j0 16 = 0 then (none) else (Z.me (Int32.toNatClampNeg ((i0 * 16) + j0)))) := rfl
set_option maxHeartbeats 4000000 in
set_option maxRecDepth 100000 in
theorem hX8_methodAt (l : Launch) (D : va_G) (ar : Nat → ClassId) (κ : Nat → Nat) (G : gW) (x : Xo) (Z : Ho) (sz : Nat) (i0 : Int32) (j0 : Int32) (hk : OK x Z) : Met l yX8_methodAt (lwC yX8_methodAt cX8_methodAt 3 (some (.object "Sendhouse$Told"))) (rD 3 0 0) (g_Pc D vwCl (gT ar) (EX1 κ) (ov κ ar x Z G) sz [.ref (x.f .ho), .int i0, .int j0]) (g_Qq D vwCl (g_A (ov κ ar x Z G) sz) (fun r u => r = Option.map (fun k9 => x.f (.to k9)) (sX8_methodAt Z i0 j0) ∧ u = (ov κ ar x Z G, sz))) 0 0 (g_A (ov κ ar x Z G) sz) := by
  refine g_ofW (by decide +kernel) (Nat.le_of_ble_eq_true rfl) ?_
  intro p e s m below meth c ls S hr hlk hin hE w hl
  have hx := S.1
  have hb := S.2.1
  have hl : lv_has ls 3 [(0, .ref (x.f .ho)), (1, .int i0), (2, .int j0)] := hl
  refine lv_iload_n hx hb dX8_methodAt_0 rfl (lv_at hl 1 rfl) ?_
  refine lv_bipush (v := 12) hx hb dX8_methodAt_1 (by decide) ?_
  refine g_calli w (g_runS (As := [.int i0, .int 12]) (rest := []) S hE w hl (c_X8_isBelow l D ar κ (ov κ ar x Z G) sz i0 12) (k_RX8_97 S.2.2.2.2 ⟨Nat.le_of_ble_eq_true rfl, Nat.le_of_ble_eq_true rfl⟩) rfl rfl (Nat.le_of_ble_eq_true rfl) dX8_methodAt_3 ⟨Nat.le_of_ble_eq_true rfl, Nat.le_of_ble_eq_true rfl⟩) (fun r u H locs hp hnz w => ?_)
  obtain ⟨rfl, rfl⟩ := hp
  dsimp only at w
  refine lv_if_eq (tgt := 18) hx hb dX8_methodAt_6 (by decide) (fun c_6 => ?_) (fun c_6 => ?_)
  · refine lv_null hx hb dX8_methodAt_18 ?_
    exact g_qret (r := none) hx hb hr (Or.inl ⟨_, rfl⟩) hlk w (Nat.le_of_ble_eq_true rfl) (Nat.le_of_ble_eq_true rfl) dX8_methodAt_19 ⟨congrArg (Option.map (fun k9 => x.f (.to k9))) ((((sX8_methodAt_u Z i0 j0).trans (if_pos c_6))).symm), rfl⟩
  · refine lv_iload_n hx hb dX8_methodAt_9 rfl (lv_at hl 2 rfl) ?_
    refine lv_bipush (v := 16) hx hb dX8_methodAt_10 (by decide) ?_
    refine g_calli w (g_runS (As := [.int j0, .int 16]) (rest := []) S hE w hl (c_X8_isBelow l D ar κ (ov κ ar x Z G) sz j0 16) (k_RX8_97 S.2.2.2.2 ⟨Nat.le_of_ble_eq_true rfl, Nat.le_of_ble_eq_true rfl⟩) rfl rfl (Nat.le_of_ble_eq_true rfl) dX8_methodAt_12 ⟨Nat.le_of_ble_eq_true rfl, Nat.le_of_ble_eq_true rfl⟩) (fun r u H locs hp hnz w => ?_)
    obtain ⟨rfl, rfl⟩ := hp
    dsimp only at w
    refine lv_if_ne (tgt := 20) hx hb dX8_methodAt_15 (by decide) (fun c_15 => ?_) (fun c_15 => ?_)
    · refine lv_aload_n hx hb dX8_methodAt_20 rfl (lv_at hl 0 rfl) ?_
      refine gf_RX8_18_14 (v := .ref (x.f .me)) S hE w (ov_r (t := .ho) (hk.e (.ho) rfl)) rfl dX8_methodAt_21 ?_
      refine lv_iload_n hx hb dX8_methodAt_24 rfl (lv_at hl 1 rfl) ?_
      refine lv_bipush (v := 16) hx hb dX8_methodAt_25 (by decide) ?_
      refine lv_imul hx hb dX8_methodAt_27 ?_
      refine lv_iload_n hx hb dX8_methodAt_28 rfl (lv_at hl 2 rfl) ?_
      refine lv_iadd hx hb dX8_methodAt_29 ?_
      refine va_aldq hx hb hE.1 (g_1 w.1 (ov_r (t := .me) (hk.e (.me) rfl))) 0 7 rfl rfl (in_me c_6 c_15) dX8_methodAt_30 ?_
      show W p l e _ s m _ below meth c _ _ _ _ _ (F0 m 31 ls [va_rf ((Z.me (Int32.toNatClampNeg ((i0 * 16) + j0))).map (fun k9 => x.f (.to k9)))])
      exact g_qret (r := Option.map (fun k9 => x.f (.to k9)) (Z.me (Int32.toNatClampNeg ((i0 * 16) + j0)))) hx hb hr (Or.inl ⟨_, rfl⟩) hlk w (Nat.le_of_ble_eq_true rfl) (Nat.le_of_ble_eq_true rfl) dX8_methodAt_31 ⟨congrArg (Option.map (fun k9 => x.f (.to k9))) ((((sX8_methodAt_u Z i0 j0).trans ((if_neg c_6).trans (if_neg c_15)))).symm), rfl⟩
    · refine lv_null hx hb dX8_methodAt_18 ?_
      exact g_qret (r := none) hx hb hr (Or.inl ⟨_, rfl⟩) hlk w (Nat.le_of_ble_eq_true rfl) (Nat.le_of_ble_eq_true rfl) dX8_methodAt_19 ⟨congrArg (Option.map (fun k9 => x.f (.to k9))) ((((sX8_methodAt_u Z i0 j0).trans ((if_neg c_6).trans (if_pos c_15)))).symm), rfl⟩
theorem v_methodAt {x : Xo} {Z : Ho} {i j : Int32} {k : Nat} (hk : OK x Z) (h : sX8_methodAt Z i j = some k) : k < Z.nt := by
  unfold sX8_methodAt at h
  split at h
  · cases h
  · split at h
    · cases h
    · exact hk.m h
def LX8_lookUp_5 (j0 : Int32) : Nat → Int32 → Int32 → Ho → Option (Nat)
  | 0, _, _, Z => none
  | nx1 + 1, x1, atx1, Z => if 12 ≤ x1 then (none) else (if atx1 = (-1) then (none) else (oc (sX8_methodAt Z atx1 j0) (LX8_lookUp_5 j0 nx1 (x1 + 1) (aA Z.ab (-1) atx1) Z) (fun k5 => some k5)))
theorem LX8_lookUp_5_u (j0 : Int32) (nx1 : Nat) (x1 : Int32) (atx1 : Int32) (Z : Ho) : LX8_lookUp_5 j0 (nx1 + 1) x1 atx1 Z = if 12 ≤ x1 then (none) else (if atx1 = (-1) then (none) else (oc (sX8_methodAt Z atx1 j0) (LX8_lookUp_5 j0 nx1 (x1 + 1) (aA Z.ab (-1) atx1) Z) (fun k5 => some k5))) := rfl
def sX8_lookUp (Z : Ho) (i0 : Int32) (j0 : Int32) : Option (Nat) := LX8_lookUp_5 j0 13 0 i0 Z
theorem sX8_lookUp_u (Z : Ho) (i0 : Int32) (j0 : Int32) : sX8_lookUp Z i0 j0 = LX8_lookUp_5 j0 13 0 i0 Z := rfl
set_option maxHeartbeats 4000000 in
set_option maxRecDepth 100000 in
theorem hX8_lookUp (l : Launch) (D : va_G) (ar : Nat → ClassId) (κ : Nat → Nat) (G : gW) (x : Xo) (Z : Ho) (sz : Nat) (i0 : Int32) (j0 : Int32) (hk : OK x Z) : Met l yX8_lookUp (lwC yX8_lookUp cX8_lookUp 6 (some (.object "Sendhouse$Told"))) (rD 5 0 0) (g_Pc D vwCl (gT ar) (EX1 κ) (ov κ ar x Z G) sz [.ref (x.f .ho), .int i0, .int j0]) (g_Qq D vwCl (g_A (ov κ ar x Z G) sz) (fun r u => r = Option.map (fun k9 => x.f (.to k9)) (sX8_lookUp Z i0 j0) ∧ u = (ov κ ar x Z G, sz))) 0 0 (g_A (ov κ ar x Z G) sz) := by
  refine g_ofW (by decide +kernel) (Nat.le_of_ble_eq_true rfl) ?_
  intro p e s m below meth c ls S hr hlk hin hE w hl
  have hx := S.1
  have hb := S.2.1
  have hl : lv_has ls 6 [(0, .ref (x.f .ho)), (1, .int i0), (2, .int j0)] := hl
  refine lv_iload_n hx hb dX8_lookUp_0 rfl (lv_at hl 1 rfl) ?_
  refine lv_istore_n (lv' := [(3, .int i0), (0, .ref (x.f .ho)), (1, .int i0), (2, .int j0)]) hx hb dX8_lookUp_1 rfl hl (by decide) rfl (fun ls hl => ?_)
  refine lv_iconst (v := 0) hx hb dX8_lookUp_2 (by decide) ?_
  refine lv_istore (lv' := [(4, .int 0), (3, .int i0), (0, .ref (x.f .ho)), (1, .int i0), (2, .int j0)]) hx hb dX8_lookUp_3 hl (by decide) rfl (fun ls hl => ?_)
  have key4 : ∀ (nx1 ix1 : Nat), ix1 ≤ 12 → 12 + 1 ≤ ix1 + nx1 → ∀ (x1 : Int32), x1 = nI ix1 → ∀ (atx1 : Int32), sX8_lookUp Z i0 j0 = LX8_lookUp_5 j0 nx1 x1 atx1 Z → ∀ (H : Heap) (locs : List Loc) (ls : Array Slot), g_S D vwCl (g_A (ov κ ar x Z G) sz) s.heap (ov κ ar x Z G) H locs sz → lv_has ls 6 [(4, .int x1), (3, .int atx1), (0, .ref (x.f .ho)), (1, .int i0), (2, .int j0)] → W p l e (rD 5 0 0) s m ([.ref (x.f .ho), .int i0, .int j0] : List Value).toArray below meth c H locs 0 0 (MQ below (g_Qq D vwCl (g_A (ov κ ar x Z G) sz) (fun r u => r = Option.map (fun k9 => x.f (.to k9)) (sX8_lookUp Z i0 j0) ∧ u = (ov κ ar x Z G, sz))) ([.ref (x.f .ho), .int i0, .int j0] : List Value).toArray s 0 0 (g_A (ov κ ar x Z G) sz)) (F0 m 5 ls []) := by
    intro nx1
    induction nx1 with
    | zero => intro ix1 hix1 hi2; exact absurd hi2 (by omega)
    | succ nx1 ihx1 =>
      intro ix1 hix1 hi2 x1 exx1 atx1 hsp3 H locs ls w hl
      refine lv_iload hx hb dX8_lookUp_5 (lv_at hl 0 rfl) ?_
      refine lv_bipush (v := 12) hx hb dX8_lookUp_7 (by decide) ?_
      refine lv_icmp_ge (tgt := 48) hx hb dX8_lookUp_9 (by decide) (fun c_9 => ?_) (fun c_9 => ?_)
      · refine lv_null hx hb dX8_lookUp_48 ?_
        exact g_qret (r := none) hx hb hr (Or.inl ⟨_, rfl⟩) hlk w (Nat.le_of_ble_eq_true rfl) (Nat.le_of_ble_eq_true rfl) dX8_lookUp_49 ⟨congrArg (Option.map (fun k9 => x.f (.to k9))) ((((hsp3).trans ((LX8_lookUp_5_u j0 nx1 x1 atx1 Z).trans (if_pos c_9)))).symm), rfl⟩
      · refine lv_iload_n hx hb dX8_lookUp_12 rfl (lv_at hl 1 rfl) ?_
        refine lv_iconst (v := (-1)) hx hb dX8_lookUp_13 (by decide) ?_
        refine lv_icmp_eq (tgt := 48) hx hb dX8_lookUp_14 (by decide) (fun c_14 => ?_) (fun c_14 => ?_)
        · refine lv_null hx hb dX8_lookUp_48 ?_
          exact g_qret (r := none) hx hb hr (Or.inl ⟨_, rfl⟩) hlk w (Nat.le_of_ble_eq_true rfl) (Nat.le_of_ble_eq_true rfl) dX8_lookUp_49 ⟨congrArg (Option.map (fun k9 => x.f (.to k9))) ((((hsp3).trans ((LX8_lookUp_5_u j0 nx1 x1 atx1 Z).trans ((if_neg c_9).trans (if_pos c_14))))).symm), rfl⟩
        · refine lv_aload_n hx hb dX8_lookUp_17 rfl (lv_at hl 2 rfl) ?_
          refine lv_iload_n hx hb dX8_lookUp_18 rfl (lv_at hl 1 rfl) ?_
          refine lv_iload_n hx hb dX8_lookUp_19 rfl (lv_at hl 4 rfl) ?_
          refine g_callq w (g_runV (As := [.int atx1, .int j0]) (rest := []) S hE w hl (hX8_methodAt l D ar κ G x Z sz atx1 j0 hk ) (k_RX8_179 S.2.2.2.2 ⟨Nat.le_of_ble_eq_true rfl, Nat.le_of_ble_eq_true rfl⟩) (ov_r (t := .ho) (hk.e (.ho) rfl)) rfl rfl rfl rfl (Nat.le_of_ble_eq_true rfl) dX8_lookUp_20 ⟨Nat.le_of_ble_eq_true rfl, Nat.le_of_ble_eq_true rfl⟩) (fun r u H locs hp hnz w => ?_)
          obtain ⟨rfl, rfl⟩ := hp
          dsimp only at w
          refine lv_astoreQ (lv' := [(5, va_rf ((sX8_methodAt Z atx1 j0).map (fun k9 => x.f (.to k9)))), (4, .int x1), (3, .int atx1), (0, .ref (x.f .ho)), (1, .int i0), (2, .int j0)]) hx hb dX8_lookUp_23 hl (by decide) rfl (fun ls hl => ?_)
          refine lv_aloadQ hx hb dX8_lookUp_25 (lv_at hl 0 rfl) ?_
          rcases he6 : sX8_methodAt Z atx1 j0 with _ | k5
          · have hl : lv_has ls 6 [(5, .null), (4, .int x1), (3, .int atx1), (0, .ref (x.f .ho)), (1, .int i0), (2, .int j0)] := by rw [he6] at hl; exact hl
            show W p l e _ s m _ below meth c _ _ _ _ _ (F0 m 27 ls [.null])
            refine lv_ifnullN (tgt := 33) hx hb dX8_lookUp_27 (by decide) ?_
            refine lv_aload_n hx hb dX8_lookUp_33 rfl (lv_at hl 3 rfl) ?_
            refine gf_RX8_10_14 (v := .ref (x.f .cl)) S hE w (ov_r (t := .ho) (hk.e (.ho) rfl)) rfl dX8_lookUp_34 ?_
            refine lv_iload_n hx hb dX8_lookUp_37 rfl (lv_at hl 2 rfl) ?_
            refine g_calli w (g_runV (As := [.int atx1]) (rest := []) S hE w hl (c_X0_aboveOf l D ar κ (ov κ ar x Z G) sz (x.f .cl) atx1 (x.f .ab) (x.f .fc) Z.cn Z.ab (ov_r (t := .cl) (hk.e (.cl) rfl)) (ov_r (t := .ab) (hk.e (.ab) rfl))) (k_RX8_184 S.2.2.2.2 ⟨Nat.le_of_ble_eq_true rfl, Nat.le_of_ble_eq_true rfl⟩) (ov_r (t := .cl) (hk.e (.cl) rfl)) rfl rfl rfl rfl (Nat.le_of_ble_eq_true rfl) dX8_lookUp_38 ⟨Nat.le_of_ble_eq_true rfl, Nat.le_of_ble_eq_true rfl⟩) (fun r u H locs hp hnz w => ?_)
            obtain ⟨rfl, rfl⟩ := hp
            dsimp only at w
            refine lv_istore_n (lv' := [(3, .int (aA Z.ab (-1) atx1)), (5, .null), (4, .int x1), (0, .ref (x.f .ho)), (1, .int i0), (2, .int j0)]) hx hb dX8_lookUp_41 rfl hl (by decide) rfl (fun ls hl => ?_)
            refine lv_iinc (v := x1 + 1) (lv' := [(4, .int (x1 + 1)), (3, .int (aA Z.ab (-1) atx1)), (5, .null), (0, .ref (x.f .ho)), (1, .int i0), (2, .int j0)]) hx hb dX8_lookUp_42 hl (k := 2) rfl rfl (by decide) rfl (fun ls hl => ?_)
            refine lv_goto (tgt := 5) hx hb dX8_lookUp_45 (by decide) ?_
            exact ihx1 (ix1 + 1) (lp_up (n := 12) rfl exx1 hix1 (by decide) (by decide) (by decide) c_9) (by omega) (x1 + 1) (by rw [exx1]; exact nI_1 ix1) (aA Z.ab (-1) atx1) ((hsp3).trans ((LX8_lookUp_5_u j0 nx1 x1 atx1 Z).trans ((if_neg c_9).trans ((if_neg c_14).trans (oc_n he6))))) H _ ls w (lv_sub hl [0, 1, 3, 4, 5] rfl)
          · have hl : lv_has ls 6 [(5, .ref (x.f (.to k5))), (4, .int x1), (3, .int atx1), (0, .ref (x.f .ho)), (1, .int i0), (2, .int j0)] := by rw [he6] at hl; exact hl
            show W p l e _ s m _ below meth c _ _ _ _ _ (F0 m 27 ls [.ref (x.f (.to k5))])
            refine lv_ifnull hx hb dX8_lookUp_27 ?_
            refine lv_aload hx hb dX8_lookUp_30 (lv_at hl 0 rfl) ?_
            exact g_qret (r := (some (x.f (.to k5)))) hx hb hr (Or.inl ⟨_, rfl⟩) hlk w (Nat.le_of_ble_eq_true rfl) (Nat.le_of_ble_eq_true rfl) dX8_lookUp_32 ⟨congrArg (Option.map (fun k9 => x.f (.to k9))) ((((hsp3).trans ((LX8_lookUp_5_u j0 nx1 x1 atx1 Z).trans ((if_neg c_9).trans ((if_neg c_14).trans (oc_s he6)))))).symm), rfl⟩
  exact key4 13 0 (Nat.zero_le _) (by decide) 0 rfl i0 (sX8_lookUp_u Z i0 j0) _ _ _ w (lv_sub hl [0, 1, 2, 3, 4] rfl)
theorem v_lookUp {x : Xo} {Z : Ho} {i j : Int32} {k : Nat} (hk : OK x Z) (h : sX8_lookUp Z i j = some k) : k < Z.nt := by
  have key : ∀ (n : Nat) (x1 a1 : Int32), LX8_lookUp_5 j n x1 a1 Z = some k → k < Z.nt := by
    intro n
    induction n with
    | zero => intro x1 a1 h; cases h
    | succ n ih =>
      intro x1 a1 h
      rw [LX8_lookUp_5_u] at h
      split at h
      · cases h
      split at h
      · cases h
      cases hm : sX8_methodAt Z a1 j with
      | none => rw [oc_n hm] at h; exact ih _ _ h
      | some k2 => rw [oc_s hm] at h; cases h; exact v_methodAt hk hm
  exact key _ _ _ h
def sX8_placeNone (Z : Ho) (i0 : Int32) (j0 : Int32) : Ho := if isB i0 12 = 0 then (Z) else (if isB j0 16 = 0 then (Z) else ((Z.sme (updN Z.me (Int32.toNatClampNeg ((i0 * 16) + j0)) none))))
theorem sX8_placeNone_u (Z : Ho) (i0 : Int32) (j0 : Int32) : sX8_placeNone Z i0 j0 = if isB i0 12 = 0 then (Z) else (if isB j0 16 = 0 then (Z) else ((Z.sme (updN Z.me (Int32.toNatClampNeg ((i0 * 16) + j0)) none)))) := rfl
set_option maxHeartbeats 4000000 in
set_option maxRecDepth 100000 in
theorem hX8_placeNone (l : Launch) (D : va_G) (ar : Nat → ClassId) (κ : Nat → Nat) (G : gW) (x : Xo) (Z : Ho) (sz : Nat) (i0 : Int32) (j0 : Int32) (hk : OK x Z) : Met l yX8_placeMethod (lwC yX8_placeMethod cX8_placeMethod 4 none) (rD 3 0 0) (g_Pc D vwCl (gT ar) (EX1 κ) (ov κ ar x Z G) sz [.ref (x.f .ho), .int i0, .int j0, .null]) (g_Qv D vwCl (g_A (ov κ ar x Z G) sz) (fun u => ∃ T9 : Ho, sX8_placeNone Z i0 j0 = T9 ∧ u = (ov κ ar x T9 G, sz) ∧ OK x T9 ∧ SZ T9 Z)) 0 0 (g_A (ov κ ar x Z G) sz) := by
  refine g_ofW (by decide +kernel) (Nat.le_of_ble_eq_true rfl) ?_
  intro p e s m below meth c ls S hr hlk hin hE w hl
  have hx := S.1
  have hb := S.2.1
  have hl : lv_has ls 4 [(0, .ref (x.f .ho)), (1, .int i0), (2, .int j0), (3, .null)] := hl
  refine lv_iload_n hx hb dX8_placeMethod_0 rfl (lv_at hl 1 rfl) ?_
  refine lv_bipush (v := 12) hx hb dX8_placeMethod_1 (by decide) ?_
  refine g_calli w (g_runS (As := [.int i0, .int 12]) (rest := []) S hE w hl (c_X8_isBelow l D ar κ (ov κ ar x Z G) sz i0 12) (k_RX8_97 S.2.2.2.2 ⟨Nat.le_of_ble_eq_true rfl, Nat.le_of_ble_eq_true rfl⟩) rfl rfl (Nat.le_of_ble_eq_true rfl) dX8_placeMethod_3 ⟨Nat.le_of_ble_eq_true rfl, Nat.le_of_ble_eq_true rfl⟩) (fun r u H locs hp hnz w => ?_)
  obtain ⟨rfl, rfl⟩ := hp
  dsimp only at w
  refine lv_if_eq (tgt := 30) hx hb dX8_placeMethod_6 (by decide) (fun c_6 => ?_) (fun c_6 => ?_)
  · exact g_vret hx hb hr hlk w (Nat.le_of_ble_eq_true rfl) (Nat.le_of_ble_eq_true rfl) dX8_placeMethod_30 ⟨_, ((sX8_placeNone_u Z i0 j0).trans (if_pos c_6)), rfl, hk, ⟨rfl, rfl, rfl, rfl⟩⟩
  · refine lv_iload_n hx hb dX8_placeMethod_9 rfl (lv_at hl 2 rfl) ?_
    refine lv_bipush (v := 16) hx hb dX8_placeMethod_10 (by decide) ?_
    refine g_calli w (g_runS (As := [.int j0, .int 16]) (rest := []) S hE w hl (c_X8_isBelow l D ar κ (ov κ ar x Z G) sz j0 16) (k_RX8_97 S.2.2.2.2 ⟨Nat.le_of_ble_eq_true rfl, Nat.le_of_ble_eq_true rfl⟩) rfl rfl (Nat.le_of_ble_eq_true rfl) dX8_placeMethod_12 ⟨Nat.le_of_ble_eq_true rfl, Nat.le_of_ble_eq_true rfl⟩) (fun r u H locs hp hnz w => ?_)
    obtain ⟨rfl, rfl⟩ := hp
    dsimp only at w
    refine lv_if_eq (tgt := 30) hx hb dX8_placeMethod_15 (by decide) (fun c_15 => ?_) (fun c_15 => ?_)
    · exact g_vret hx hb hr hlk w (Nat.le_of_ble_eq_true rfl) (Nat.le_of_ble_eq_true rfl) dX8_placeMethod_30 ⟨_, ((sX8_placeNone_u Z i0 j0).trans ((if_neg c_6).trans (if_pos c_15))), rfl, hk, ⟨rfl, rfl, rfl, rfl⟩⟩
    · refine lv_aload_n hx hb dX8_placeMethod_18 rfl (lv_at hl 0 rfl) ?_
      refine gf_RX8_18_14 (v := .ref (x.f .me)) S hE w (ov_r (t := .ho) (hk.e (.ho) rfl)) rfl dX8_placeMethod_19 ?_
      refine lv_iload_n hx hb dX8_placeMethod_22 rfl (lv_at hl 1 rfl) ?_
      refine lv_bipush (v := 16) hx hb dX8_placeMethod_23 (by decide) ?_
      refine lv_imul hx hb dX8_placeMethod_25 ?_
      refine lv_iload_n hx hb dX8_placeMethod_26 rfl (lv_at hl 2 rfl) ?_
      refine lv_iadd hx hb dX8_placeMethod_27 ?_
      refine lv_aload_nN hx hb dX8_placeMethod_28 rfl (lv_at hl 3 rfl) ?_
      refine g_astqN hx hb hE.1 w 7 (ov_r (t := .me) (hk.e (.me) rfl)) rfl (in_me c_6 c_15) dX8_placeMethod_29 (fun H locs w => ?_)
      have w := g_eqw w (congrArg (fun Z9 => g_up (ov κ ar x Z G) (x.f .me) (.inl (ar 7, 192, .inr (.inr (.inr (.inr Z9)))))) (up_map (g := Z.me) (F := (fun k9 => x.f (.to k9))) (i := (Int32.toNatClampNeg ((i0 * 16) + j0))) (e := none)))
      have w : g_S D vwCl (g_A (ov κ ar x Z G) sz) s.heap (ov κ ar x (Z.sme (updN Z.me (Int32.toNatClampNeg ((i0 * 16) + j0)) none)) G) H _ sz := g_eqw w (ov_wme (S := Z) (T := (Z.sme (updN Z.me (Int32.toNatClampNeg ((i0 * 16) + j0)) none))) hk.v (hk.e .me rfl) rfl Ho_ab_sme Ho_fc_sme Ho_cn_sme Ho_nt_sme Ho_nr_sme Ho_ty_sme Ho_to_sme Ho_ro_sme Ho_gl_sme Ho_al_sme Ho_re_sme Ho_th_sme Ho_tc_sme Ho_rc_sme Ho_mk_sme Ho_fr_sme Ho_fn_sme Ho_st_sme Ho_rs_sme Ho_an_sme Ho_sp_sme Ho_np_sme Ho_pg_sme Ho_wc_sme Ho_ws_sme Ho_wp_sme)
      exact g_vret hx hb hr hlk w (Nat.le_of_ble_eq_true rfl) (Nat.le_of_ble_eq_true rfl) dX8_placeMethod_30 ⟨_, ((sX8_placeNone_u Z i0 j0).trans ((if_neg c_6).trans (if_neg c_15))), rfl, (OK.meS (S := Z) (i := (Int32.toNatClampNeg ((i0 * 16) + j0))) (e := none) hk (fun k9 q9 => by cases q9)), ⟨rfl, rfl, rfl, rfl⟩⟩
def sX8_placeMethod (Z : Ho) (i0 : Int32) (j0 : Int32) (k0 : Nat) : Ho := if isB i0 12 = 0 then (Z) else (if isB j0 16 = 0 then (Z) else ((Z.sme (updN Z.me (Int32.toNatClampNeg ((i0 * 16) + j0)) (some k0)))))
theorem sX8_placeMethod_u (Z : Ho) (i0 : Int32) (j0 : Int32) (k0 : Nat) : sX8_placeMethod Z i0 j0 k0 = if isB i0 12 = 0 then (Z) else (if isB j0 16 = 0 then (Z) else ((Z.sme (updN Z.me (Int32.toNatClampNeg ((i0 * 16) + j0)) (some k0))))) := rfl
set_option maxHeartbeats 4000000 in
set_option maxRecDepth 100000 in
theorem hX8_placeMethod (l : Launch) (D : va_G) (ar : Nat → ClassId) (κ : Nat → Nat) (G : gW) (x : Xo) (Z : Ho) (sz : Nat) (i0 : Int32) (j0 : Int32) (k0 : Nat) (hk : OK x Z) (hv_k0 : k0 < Z.nt) : Met l yX8_placeMethod (lwC yX8_placeMethod cX8_placeMethod 4 none) (rD 3 0 0) (g_Pc D vwCl (gT ar) (EX1 κ) (ov κ ar x Z G) sz [.ref (x.f .ho), .int i0, .int j0, .ref (x.f (.to k0))]) (g_Qv D vwCl (g_A (ov κ ar x Z G) sz) (fun u => ∃ T9 : Ho, sX8_placeMethod Z i0 j0 k0 = T9 ∧ u = (ov κ ar x T9 G, sz) ∧ OK x T9 ∧ SZ T9 Z)) 0 0 (g_A (ov κ ar x Z G) sz) := by
  refine g_ofW (by decide +kernel) (Nat.le_of_ble_eq_true rfl) ?_
  intro p e s m below meth c ls S hr hlk hin hE w hl
  have hx := S.1
  have hb := S.2.1
  have hl : lv_has ls 4 [(0, .ref (x.f .ho)), (1, .int i0), (2, .int j0), (3, .ref (x.f (.to k0)))] := hl
  refine lv_iload_n hx hb dX8_placeMethod_0 rfl (lv_at hl 1 rfl) ?_
  refine lv_bipush (v := 12) hx hb dX8_placeMethod_1 (by decide) ?_
  refine g_calli w (g_runS (As := [.int i0, .int 12]) (rest := []) S hE w hl (c_X8_isBelow l D ar κ (ov κ ar x Z G) sz i0 12) (k_RX8_97 S.2.2.2.2 ⟨Nat.le_of_ble_eq_true rfl, Nat.le_of_ble_eq_true rfl⟩) rfl rfl (Nat.le_of_ble_eq_true rfl) dX8_placeMethod_3 ⟨Nat.le_of_ble_eq_true rfl, Nat.le_of_ble_eq_true rfl⟩) (fun r u H locs hp hnz w => ?_)
  obtain ⟨rfl, rfl⟩ := hp
  dsimp only at w
  refine lv_if_eq (tgt := 30) hx hb dX8_placeMethod_6 (by decide) (fun c_6 => ?_) (fun c_6 => ?_)
  · exact g_vret hx hb hr hlk w (Nat.le_of_ble_eq_true rfl) (Nat.le_of_ble_eq_true rfl) dX8_placeMethod_30 ⟨_, ((sX8_placeMethod_u Z i0 j0 k0).trans (if_pos c_6)), rfl, hk, ⟨rfl, rfl, rfl, rfl⟩⟩
  · refine lv_iload_n hx hb dX8_placeMethod_9 rfl (lv_at hl 2 rfl) ?_
    refine lv_bipush (v := 16) hx hb dX8_placeMethod_10 (by decide) ?_
    refine g_calli w (g_runS (As := [.int j0, .int 16]) (rest := []) S hE w hl (c_X8_isBelow l D ar κ (ov κ ar x Z G) sz j0 16) (k_RX8_97 S.2.2.2.2 ⟨Nat.le_of_ble_eq_true rfl, Nat.le_of_ble_eq_true rfl⟩) rfl rfl (Nat.le_of_ble_eq_true rfl) dX8_placeMethod_12 ⟨Nat.le_of_ble_eq_true rfl, Nat.le_of_ble_eq_true rfl⟩) (fun r u H locs hp hnz w => ?_)
    obtain ⟨rfl, rfl⟩ := hp
    dsimp only at w
    refine lv_if_eq (tgt := 30) hx hb dX8_placeMethod_15 (by decide) (fun c_15 => ?_) (fun c_15 => ?_)
    · exact g_vret hx hb hr hlk w (Nat.le_of_ble_eq_true rfl) (Nat.le_of_ble_eq_true rfl) dX8_placeMethod_30 ⟨_, ((sX8_placeMethod_u Z i0 j0 k0).trans ((if_neg c_6).trans (if_pos c_15))), rfl, hk, ⟨rfl, rfl, rfl, rfl⟩⟩
    · refine lv_aload_n hx hb dX8_placeMethod_18 rfl (lv_at hl 0 rfl) ?_
      refine gf_RX8_18_14 (v := .ref (x.f .me)) S hE w (ov_r (t := .ho) (hk.e (.ho) rfl)) rfl dX8_placeMethod_19 ?_
      refine lv_iload_n hx hb dX8_placeMethod_22 rfl (lv_at hl 1 rfl) ?_
      refine lv_bipush (v := 16) hx hb dX8_placeMethod_23 (by decide) ?_
      refine lv_imul hx hb dX8_placeMethod_25 ?_
      refine lv_iload_n hx hb dX8_placeMethod_26 rfl (lv_at hl 2 rfl) ?_
      refine lv_iadd hx hb dX8_placeMethod_27 ?_
      refine lv_aload_n hx hb dX8_placeMethod_28 rfl (lv_at hl 3 rfl) ?_
      refine g_astq (r := (RX6, TX6, 7)) hx hb hE.1 w 7 12 (ov_r (t := .me) (hk.e (.me) rfl)) rfl (ov_r (t := .to k0) (hk.e_to hv_k0)) rfl (in_me c_6 c_15) dX8_placeMethod_29 (fun H locs w => ?_)
      have w := g_eqw w (congrArg (fun Z9 => g_up (ov κ ar x Z G) (x.f .me) (.inl (ar 7, 192, .inr (.inr (.inr (.inr Z9)))))) (up_map (g := Z.me) (F := (fun k9 => x.f (.to k9))) (i := (Int32.toNatClampNeg ((i0 * 16) + j0))) (e := (some k0))))
      have w : g_S D vwCl (g_A (ov κ ar x Z G) sz) s.heap (ov κ ar x (Z.sme (updN Z.me (Int32.toNatClampNeg ((i0 * 16) + j0)) (some k0))) G) H _ sz := g_eqw w (ov_wme (S := Z) (T := (Z.sme (updN Z.me (Int32.toNatClampNeg ((i0 * 16) + j0)) (some k0)))) hk.v (hk.e .me rfl) rfl Ho_ab_sme Ho_fc_sme Ho_cn_sme Ho_nt_sme Ho_nr_sme Ho_ty_sme Ho_to_sme Ho_ro_sme Ho_gl_sme Ho_al_sme Ho_re_sme Ho_th_sme Ho_tc_sme Ho_rc_sme Ho_mk_sme Ho_fr_sme Ho_fn_sme Ho_st_sme Ho_rs_sme Ho_an_sme Ho_sp_sme Ho_np_sme Ho_pg_sme Ho_wc_sme Ho_ws_sme Ho_wp_sme)
      exact g_vret hx hb hr hlk w (Nat.le_of_ble_eq_true rfl) (Nat.le_of_ble_eq_true rfl) dX8_placeMethod_30 ⟨_, ((sX8_placeMethod_u Z i0 j0 k0).trans ((if_neg c_6).trans (if_neg c_15))), rfl, (OK.meS (S := Z) (i := (Int32.toNatClampNeg ((i0 * 16) + j0))) (e := (some k0)) hk (fun k9 q9 => by cases q9; exact hv_k0)), ⟨rfl, rfl, rfl, rfl⟩⟩
def sX8_frameAt (Z : Ho) (i0 : Int32) : Option (Fin 12) := if isB i0 12 = 0 then (none) else (fF (Int32.toNatClampNeg i0))
theorem sX8_frameAt_u (Z : Ho) (i0 : Int32) : sX8_frameAt Z i0 = if isB i0 12 = 0 then (none) else (fF (Int32.toNatClampNeg i0)) := rfl
set_option maxHeartbeats 4000000 in
set_option maxRecDepth 100000 in
theorem hX8_frameAt (l : Launch) (D : va_G) (ar : Nat → ClassId) (κ : Nat → Nat) (G : gW) (x : Xo) (Z : Ho) (sz : Nat) (i0 : Int32) (hk : OK x Z) : Met l yX8_frameAt (lwC yX8_frameAt cX8_frameAt 2 (some (.object "Sendhouse$Frame"))) (rD 3 0 0) (g_Pc D vwCl (gT ar) (EX1 κ) (ov κ ar x Z G) sz [.ref (x.f .ho), .int i0]) (g_Qq D vwCl (g_A (ov κ ar x Z G) sz) (fun r u => r = Option.map (fun k9 => x.f (.fr k9)) (sX8_frameAt Z i0) ∧ u = (ov κ ar x Z G, sz))) 0 0 (g_A (ov κ ar x Z G) sz) := by
  refine g_ofW (by decide +kernel) (Nat.le_of_ble_eq_true rfl) ?_
  intro p e s m below meth c ls S hr hlk hin hE w hl
  have hx := S.1
  have hb := S.2.1
  have hl : lv_has ls 2 [(0, .ref (x.f .ho)), (1, .int i0)] := hl
  refine lv_iload_n hx hb dX8_frameAt_0 rfl (lv_at hl 1 rfl) ?_
  refine lv_aload_n hx hb dX8_frameAt_1 rfl (lv_at hl 0 rfl) ?_
  refine gf_RX8_46_14 (v := .ref (x.f .fs)) S hE w (ov_r (t := .ho) (hk.e (.ho) rfl)) rfl dX8_frameAt_2 ?_
  refine va_alen (v := 12) hx hb hE.1 (g_1 w.1 (ov_r (t := .fs) (hk.e (.fs) rfl))) 0 5 rfl rfl rfl dX8_frameAt_5 ?_
  refine g_calli w (g_runS (As := [.int i0, .int 12]) (rest := []) S hE w hl (c_X8_isBelow l D ar κ (ov κ ar x Z G) sz i0 12) (k_RX8_97 S.2.2.2.2 ⟨Nat.le_of_ble_eq_true rfl, Nat.le_of_ble_eq_true rfl⟩) rfl rfl (Nat.le_of_ble_eq_true rfl) dX8_frameAt_6 ⟨Nat.le_of_ble_eq_true rfl, Nat.le_of_ble_eq_true rfl⟩) (fun r u H locs hp hnz w => ?_)
  obtain ⟨rfl, rfl⟩ := hp
  dsimp only at w
  refine lv_if_eq (tgt := 21) hx hb dX8_frameAt_9 (by decide) (fun c_9 => ?_) (fun c_9 => ?_)
  · refine lv_null hx hb dX8_frameAt_21 ?_
    exact g_qret (r := none) hx hb hr (Or.inl ⟨_, rfl⟩) hlk w (Nat.le_of_ble_eq_true rfl) (Nat.le_of_ble_eq_true rfl) dX8_frameAt_22 ⟨congrArg (Option.map (fun k9 => x.f (.fr k9))) ((((sX8_frameAt_u Z i0).trans (if_pos c_9))).symm), rfl⟩
  · refine lv_aload_n hx hb dX8_frameAt_12 rfl (lv_at hl 0 rfl) ?_
    refine gf_RX8_46_14 (v := .ref (x.f .fs)) S hE w (ov_r (t := .ho) (hk.e (.ho) rfl)) rfl dX8_frameAt_13 ?_
    refine lv_iload_n hx hb dX8_frameAt_16 rfl (lv_at hl 1 rfl) ?_
    refine va_aldq hx hb hE.1 (g_1 w.1 (ov_r (t := .fs) (hk.e (.fs) rfl))) 0 5 rfl rfl (vinB (n := 12) rfl (by decide) c_9) dX8_frameAt_17 ?_
    show W p l e _ s m _ below meth c _ _ _ _ _ (F0 m 18 ls [va_rf ((fF (Int32.toNatClampNeg i0)).map (fun k9 => x.f (.fr k9)))])
    refine lv_goto (tgt := 22) hx hb dX8_frameAt_18 (by decide) ?_
    exact g_qret (r := Option.map (fun k9 => x.f (.fr k9)) (fF (Int32.toNatClampNeg i0))) hx hb hr (Or.inl ⟨_, rfl⟩) hlk w (Nat.le_of_ble_eq_true rfl) (Nat.le_of_ble_eq_true rfl) dX8_frameAt_22 ⟨congrArg (Option.map (fun k9 => x.f (.fr k9))) ((((sX8_frameAt_u Z i0).trans (if_neg c_9))).symm), rfl⟩
def sX8_fault (Z : Ho) (c0 : Int32) : Ho := ((Z.sst 120).srs c0)
theorem sX8_fault_u (Z : Ho) (c0 : Int32) : sX8_fault Z c0 = ((Z.sst 120).srs c0) := rfl
set_option maxHeartbeats 4000000 in
set_option maxRecDepth 100000 in
theorem hX8_fault (l : Launch) (D : va_G) (ar : Nat → ClassId) (κ : Nat → Nat) (G : gW) (x : Xo) (Z : Ho) (sz : Nat) (c0 : Int32) (hk : OK x Z) (hv_c0 : narrow .char (.int c0) = .int c0) (hf_c0 : fits .char (.int c0) = true) : Met l yX8_fault (lwC yX8_fault cX8_fault 2 none) (rD 2 0 0) (g_Pc D vwCl (gT ar) (EX1 κ) (ov κ ar x Z G) sz [.ref (x.f .ho), .int c0]) (g_Qv D vwCl (g_A (ov κ ar x Z G) sz) (fun u => ∃ T9 : Ho, sX8_fault Z c0 = T9 ∧ u = (ov κ ar x T9 G, sz) ∧ OK x T9 ∧ SZ T9 Z)) 0 0 (g_A (ov κ ar x Z G) sz) := by
  refine g_ofW (by decide +kernel) (Nat.le_of_ble_eq_true rfl) ?_
  intro p e s m below meth c ls S hr hlk hin hE w hl
  have hx := S.1
  have hb := S.2.1
  have hl : lv_has ls 2 [(0, .ref (x.f .ho)), (1, .int c0)] := hl
  refine lv_aload_n hx hb dX8_fault_0 rfl (lv_at hl 0 rfl) ?_
  refine lv_bipush (v := 120) hx hb dX8_fault_1 (by decide) ?_
  refine pf_RX8_53_14 (fs1 := [.ref (x.f .cl), .ref (x.f .me), .ref (x.f (.ro Z.ty)), .int x.ht, .ref (x.f .gl), .ref (x.f .ts), .ref (x.f .fs), .int Z.fn, .int 120, .int Z.rs, .long Z.an, .int Z.sp, .ref (x.f .wr)]) S hE w (ov_r (t := .ho) (hk.e (.ho) rfl)) rfl rfl (Nat.le_of_ble_eq_true rfl) rfl dX8_fault_3 (fun H locs w => ?_)
  have w : g_S D vwCl (g_A (ov κ ar x Z G) sz) s.heap (ov κ ar x (Z.sst 120) G) H _ sz := g_eqw w (ov_who (S := Z) (T := (Z.sst 120)) hk.v (hk.e (.ho) rfl) rfl Ho_ab_sst Ho_fc_sst Ho_cn_sst Ho_me_sst Ho_nt_sst Ho_nr_sst Ho_to_sst Ho_ro_sst Ho_gl_sst Ho_al_sst Ho_re_sst Ho_th_sst Ho_tc_sst Ho_rc_sst Ho_mk_sst Ho_fr_sst Ho_np_sst Ho_pg_sst Ho_wc_sst Ho_ws_sst Ho_wp_sst)
  refine lv_aload_n hx hb dX8_fault_6 rfl (lv_at hl 0 rfl) ?_
  refine lv_iload_n hx hb dX8_fault_7 rfl (lv_at hl 1 rfl) ?_
  refine pf_RX8_57_14 (fs1 := [.ref (x.f .cl), .ref (x.f .me), .ref (x.f (.ro Z.ty)), .int x.ht, .ref (x.f .gl), .ref (x.f .ts), .ref (x.f .fs), .int Z.fn, .int 120, .int c0, .long Z.an, .int Z.sp, .ref (x.f .wr)]) S hE w (ov_r (t := .ho) (hk.e (.ho) rfl)) hv_c0 hf_c0 (Nat.le_of_ble_eq_true rfl) rfl dX8_fault_8 (fun H locs w => ?_)
  have w : g_S D vwCl (g_A (ov κ ar x Z G) sz) s.heap (ov κ ar x ((Z.sst 120).srs c0) G) H _ sz := g_eqw w (ov_who (S := (Z.sst 120)) (T := ((Z.sst 120).srs c0)) hk.v (hk.e (.ho) rfl) rfl ((Ho_ab_srs.trans Ho_ab_sst).trans Ho_ab_sst.symm) ((Ho_fc_srs.trans Ho_fc_sst).trans Ho_fc_sst.symm) ((Ho_cn_srs.trans Ho_cn_sst).trans Ho_cn_sst.symm) ((Ho_me_srs.trans Ho_me_sst).trans Ho_me_sst.symm) ((Ho_nt_srs.trans Ho_nt_sst).trans Ho_nt_sst.symm) ((Ho_nr_srs.trans Ho_nr_sst).trans Ho_nr_sst.symm) ((Ho_to_srs.trans Ho_to_sst).trans Ho_to_sst.symm) ((Ho_ro_srs.trans Ho_ro_sst).trans Ho_ro_sst.symm) ((Ho_gl_srs.trans Ho_gl_sst).trans Ho_gl_sst.symm) ((Ho_al_srs.trans Ho_al_sst).trans Ho_al_sst.symm) ((Ho_re_srs.trans Ho_re_sst).trans Ho_re_sst.symm) ((Ho_th_srs.trans Ho_th_sst).trans Ho_th_sst.symm) ((Ho_tc_srs.trans Ho_tc_sst).trans Ho_tc_sst.symm) ((Ho_rc_srs.trans Ho_rc_sst).trans Ho_rc_sst.symm) ((Ho_mk_srs.trans Ho_mk_sst).trans Ho_mk_sst.symm) ((Ho_fr_srs.trans Ho_fr_sst).trans Ho_fr_sst.symm) ((Ho_np_srs.trans Ho_np_sst).trans Ho_np_sst.symm) ((Ho_pg_srs.trans Ho_pg_sst).trans Ho_pg_sst.symm) ((Ho_wc_srs.trans Ho_wc_sst).trans Ho_wc_sst.symm) ((Ho_ws_srs.trans Ho_ws_sst).trans Ho_ws_sst.symm) ((Ho_wp_srs.trans Ho_wp_sst).trans Ho_wp_sst.symm))
  exact g_vret hx hb hr hlk w (Nat.le_of_ble_eq_true rfl) (Nat.le_of_ble_eq_true rfl) dX8_fault_11 ⟨_, (sX8_fault_u Z c0), rfl, (hk.plain (T := ((Z.sst 120).srs c0)) rfl rfl rfl rfl rfl rfl rfl), ⟨rfl, rfl, rfl, rfl⟩⟩
