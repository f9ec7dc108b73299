theorem dX13_init_0 : decode cX13_init 0 = .ok (.aload_n 0, 1) := by decide +kernel
theorem dX13_init_1 : decode cX13_init 1 = .ok (.invokespecial 3, 3) := by decide +kernel
theorem dX13_init_4 : decode cX13_init 4 = .ok (.aload_n 0, 1) := by decide +kernel
theorem dX13_init_5 : decode cX13_init 5 = .ok (.bipush 8, 2) := by decide +kernel
theorem dX13_init_7 : decode cX13_init 7 = .ok (.anewarray 9, 3) := by decide +kernel
theorem dX13_init_10 : decode cX13_init 10 = .ok (.putfield 11, 3) := by decide +kernel
theorem dX13_init_13 : decode cX13_init 13 = .ok (.aload_n 0, 1) := by decide +kernel
theorem dX13_init_14 : decode cX13_init 14 = .ok (.iload_n 1, 1) := by decide +kernel
theorem dX13_init_15 : decode cX13_init 15 = .ok (.putfield 17, 3) := by decide +kernel
theorem dX13_init_18 : decode cX13_init 18 = .ok (.aload_n 0, 1) := by decide +kernel
theorem dX13_init_19 : decode cX13_init 19 = .ok (.iload_n 2, 1) := by decide +kernel
theorem dX13_init_20 : decode cX13_init 20 = .ok (.putfield 21, 3) := by decide +kernel
theorem dX13_init_23 : decode cX13_init 23 = .ok (.iconst 0, 1) := by decide +kernel
theorem dX13_init_24 : decode cX13_init 24 = .ok (.istore 4, 2) := by decide +kernel
theorem dX13_init_26 : decode cX13_init 26 = .ok (.iload 4, 2) := by decide +kernel
theorem dX13_init_28 : decode cX13_init 28 = .ok (.bipush 8, 2) := by decide +kernel
theorem dX13_init_30 : decode cX13_init 30 = .ok (.if_icmp .ge 17, 3) := by decide +kernel
theorem dX13_init_33 : decode cX13_init 33 = .ok (.aload_n 0, 1) := by decide +kernel
theorem dX13_init_34 : decode cX13_init 34 = .ok (.getfield 11, 3) := by decide +kernel
theorem dX13_init_37 : decode cX13_init 37 = .ok (.iload 4, 2) := by decide +kernel
theorem dX13_init_39 : decode cX13_init 39 = .ok (.aload_n 3, 1) := by decide +kernel
theorem dX13_init_40 : decode cX13_init 40 = .ok (.aastore, 1) := by decide +kernel
theorem dX13_init_41 : decode cX13_init 41 = .ok (.iinc 4 1, 3) := by decide +kernel
theorem dX13_init_44 : decode cX13_init 44 = .ok (.goto (-18), 3) := by decide +kernel
theorem dX13_init_47 : decode cX13_init 47 = .ok (.return_, 1) := by decide +kernel
theorem dX15_makes_0 : decode cX15_makes 0 = .ok (.aload_n 0, 1) := by decide +kernel
theorem dX15_makes_1 : decode cX15_makes 1 = .ok (.getfield 28, 3) := by decide +kernel
theorem dX15_makes_4 : decode cX15_makes 4 = .ok (.new 213, 3) := by decide +kernel
theorem dX15_makes_7 : decode cX15_makes 7 = .ok (.dup, 1) := by decide +kernel
theorem dX15_makes_8 : decode cX15_makes 8 = .ok (.aload_n 0, 1) := by decide +kernel
theorem dX15_makes_9 : decode cX15_makes 9 = .ok (.getfield 215, 3) := by decide +kernel
theorem dX15_makes_12 : decode cX15_makes 12 = .ok (.iload_n 1, 1) := by decide +kernel
theorem dX15_makes_13 : decode cX15_makes 13 = .ok (.aload_n 0, 1) := by decide +kernel
theorem dX15_makes_14 : decode cX15_makes 14 = .ok (.getfield 12, 3) := by decide +kernel
theorem dX15_makes_17 : decode cX15_makes 17 = .ok (.invokespecial 218, 3) := by decide +kernel
theorem dX15_makes_20 : decode cX15_makes 20 = .ok (.invokevirtual 50, 3) := by decide +kernel
theorem dX15_makes_23 : decode cX15_makes 23 = .ok (.pop, 1) := by decide +kernel
theorem dX15_makes_24 : decode cX15_makes 24 = .ok (.aload_n 0, 1) := by decide +kernel
theorem dX15_makes_25 : decode cX15_makes 25 = .ok (.dup, 1) := by decide +kernel
theorem dX15_makes_26 : decode cX15_makes 26 = .ok (.getfield 215, 3) := by decide +kernel
theorem dX15_makes_29 : decode cX15_makes 29 = .ok (.iconst 1, 1) := by decide +kernel
theorem dX15_makes_30 : decode cX15_makes 30 = .ok (.iadd, 1) := by decide +kernel
theorem dX15_makes_31 : decode cX15_makes 31 = .ok (.putfield 215, 3) := by decide +kernel
theorem dX15_makes_34 : decode cX15_makes 34 = .ok (.new 7, 3) := by decide +kernel
theorem dX15_makes_37 : decode cX15_makes 37 = .ok (.dup, 1) := by decide +kernel
theorem dX15_makes_38 : decode cX15_makes 38 = .ok (.bipush 111, 2) := by decide +kernel
theorem dX15_makes_40 : decode cX15_makes 40 = .ok (.aload_n 0, 1) := by decide +kernel
theorem dX15_makes_41 : decode cX15_makes 41 = .ok (.getfield 215, 3) := by decide +kernel
theorem dX15_makes_44 : decode cX15_makes 44 = .ok (.iconst 1, 1) := by decide +kernel
theorem dX15_makes_45 : decode cX15_makes 45 = .ok (.isub, 1) := by decide +kernel
theorem dX15_makes_46 : decode cX15_makes 46 = .ok (.invokespecial 9, 3) := by decide +kernel
theorem dX15_makes_49 : decode cX15_makes 49 = .ok (.areturn, 1) := by decide +kernel
theorem dX15_make_0 : decode cX15_make 0 = .ok (.aload_n 0, 1) := by decide +kernel
theorem dX15_make_1 : decode cX15_make 1 = .ok (.iload_n 1, 1) := by decide +kernel
theorem dX15_make_2 : decode cX15_make 2 = .ok (.invokestatic 207, 3) := by decide +kernel
theorem dX15_make_5 : decode cX15_make 5 = .ok (.ifCond .eq 11, 3) := by decide +kernel
theorem dX15_make_8 : decode cX15_make 8 = .ok (.aload_n 0, 1) := by decide +kernel
theorem dX15_make_9 : decode cX15_make 9 = .ok (.iload_n 2, 1) := by decide +kernel
theorem dX15_make_10 : decode cX15_make 10 = .ok (.invokevirtual 66, 3) := by decide +kernel
theorem dX15_make_13 : decode cX15_make 13 = .ok (.ifCond .ne 7, 3) := by decide +kernel
theorem dX15_make_16 : decode cX15_make 16 = .ok (.iconst 1, 1) := by decide +kernel
theorem dX15_make_17 : decode cX15_make 17 = .ok (.goto 34, 3) := by decide +kernel
theorem dX15_make_20 : decode cX15_make 20 = .ok (.iload_n 2, 1) := by decide +kernel
theorem dX15_make_21 : decode cX15_make 21 = .ok (.iconst 1, 1) := by decide +kernel
theorem dX15_make_22 : decode cX15_make 22 = .ok (.if_icmp .eq 8, 3) := by decide +kernel
theorem dX15_make_25 : decode cX15_make 25 = .ok (.iload_n 2, 1) := by decide +kernel
theorem dX15_make_26 : decode cX15_make 26 = .ok (.iconst 2, 1) := by decide +kernel
theorem dX15_make_27 : decode cX15_make 27 = .ok (.if_icmp .ne 7, 3) := by decide +kernel
theorem dX15_make_30 : decode cX15_make 30 = .ok (.iconst 2, 1) := by decide +kernel
theorem dX15_make_31 : decode cX15_make 31 = .ok (.goto 20, 3) := by decide +kernel
theorem dX15_make_34 : decode cX15_make 34 = .ok (.aload_n 0, 1) := by decide +kernel
theorem dX15_make_35 : decode cX15_make 35 = .ok (.getfield 28, 3) := by decide +kernel
theorem dX15_make_38 : decode cX15_make 38 = .ok (.invokevirtual 58, 3) := by decide +kernel
theorem dX15_make_41 : decode cX15_make 41 = .ok (.bipush 60, 2) := by decide +kernel
theorem dX15_make_43 : decode cX15_make 43 = .ok (.if_icmp .ne 7, 3) := by decide +kernel
theorem dX15_make_46 : decode cX15_make 46 = .ok (.iconst 3, 1) := by decide +kernel
theorem dX15_make_47 : decode cX15_make 47 = .ok (.goto 4, 3) := by decide +kernel
theorem dX15_make_50 : decode cX15_make 50 = .ok (.iconst 0, 1) := by decide +kernel
theorem dX15_make_51 : decode cX15_make 51 = .ok (.invokevirtual 77, 3) := by decide +kernel
theorem dX15_make_54 : decode cX15_make 54 = .ok (.ifCond .eq 5, 3) := by decide +kernel
theorem dX15_make_57 : decode cX15_make 57 = .ok (.iconst 0, 1) := by decide +kernel
theorem dX15_make_58 : decode cX15_make 58 = .ok (.ireturn, 1) := by decide +kernel
theorem dX15_make_59 : decode cX15_make 59 = .ok (.aload_n 0, 1) := by decide +kernel
theorem dX15_make_60 : decode cX15_make 60 = .ok (.getfield 37, 3) := by decide +kernel
theorem dX15_make_63 : decode cX15_make 63 = .ok (.iload_n 1, 1) := by decide +kernel
theorem dX15_make_64 : decode cX15_make 64 = .ok (.aload_n 0, 1) := by decide +kernel
theorem dX15_make_65 : decode cX15_make 65 = .ok (.iload_n 2, 1) := by decide +kernel
theorem dX15_make_66 : decode cX15_make 66 = .ok (.invokevirtual 221, 3) := by decide +kernel
theorem dX15_make_69 : decode cX15_make 69 = .ok (.aastore, 1) := by decide +kernel
theorem dX15_make_70 : decode cX15_make 70 = .ok (.aload_n 0, 1) := by decide +kernel
theorem dX15_make_71 : decode cX15_make 71 = .ok (.getfield 37, 3) := by decide +kernel
theorem dX15_make_74 : decode cX15_make 74 = .ok (.iload_n 1, 1) := by decide +kernel
theorem dX15_make_75 : decode cX15_make 75 = .ok (.aaload, 1) := by decide +kernel
theorem dX15_make_76 : decode cX15_make 76 = .ok (.getfield 225, 3) := by decide +kernel
theorem dX15_make_79 : decode cX15_make 79 = .ok (.ireturn, 1) := by decide +kernel
theorem dX11_init_0 : decode cX11_init 0 = .ok (.aload_n 0, 1) := by decide +kernel
theorem dX11_init_1 : decode cX11_init 1 = .ok (.invokespecial 3, 3) := by decide +kernel
theorem dX11_init_4 : decode cX11_init 4 = .ok (.aload_n 0, 1) := by decide +kernel
theorem dX11_init_5 : decode cX11_init 5 = .ok (.new 9, 3) := by decide +kernel
theorem dX11_init_8 : decode cX11_init 8 = .ok (.dup, 1) := by decide +kernel
theorem dX11_init_9 : decode cX11_init 9 = .ok (.invokespecial 11, 3) := by decide +kernel
theorem dX11_init_12 : decode cX11_init 12 = .ok (.putfield 12, 3) := by decide +kernel
theorem dX11_init_15 : decode cX11_init 15 = .ok (.aload_n 0, 1) := by decide +kernel
theorem dX11_init_16 : decode cX11_init 16 = .ok (.bipush 24, 2) := by decide +kernel
theorem dX11_init_18 : decode cX11_init 18 = .ok (.newarray .int, 2) := by decide +kernel
theorem dX11_init_20 : decode cX11_init 20 = .ok (.putfield 18, 3) := by decide +kernel
theorem dX11_init_23 : decode cX11_init 23 = .ok (.aload_n 0, 1) := by decide +kernel
theorem dX11_init_24 : decode cX11_init 24 = .ok (.iload_n 1, 1) := by decide +kernel
theorem dX11_init_25 : decode cX11_init 25 = .ok (.putfield 22, 3) := by decide +kernel
theorem dX11_init_28 : decode cX11_init 28 = .ok (.aload_n 0, 1) := by decide +kernel
theorem dX11_init_29 : decode cX11_init 29 = .ok (.iload_n 2, 1) := by decide +kernel
theorem dX11_init_30 : decode cX11_init 30 = .ok (.putfield 26, 3) := by decide +kernel
theorem dX11_init_33 : decode cX11_init 33 = .ok (.aload_n 0, 1) := by decide +kernel
theorem dX11_init_34 : decode cX11_init 34 = .ok (.iload_n 3, 1) := by decide +kernel
theorem dX11_init_35 : decode cX11_init 35 = .ok (.putfield 29, 3) := by decide +kernel
theorem dX11_init_38 : decode cX11_init 38 = .ok (.aload_n 0, 1) := by decide +kernel
theorem dX11_init_39 : decode cX11_init 39 = .ok (.iload 4, 2) := by decide +kernel
theorem dX11_init_41 : decode cX11_init 41 = .ok (.putfield 32, 3) := by decide +kernel
theorem dX11_init_44 : decode cX11_init 44 = .ok (.return_, 1) := by decide +kernel
theorem dX15_method_0 : decode cX15_method 0 = .ok (.aload_n 0, 1) := by decide +kernel
theorem dX15_method_1 : decode cX15_method 1 = .ok (.aload_n 0, 1) := by decide +kernel
theorem dX15_method_2 : decode cX15_method 2 = .ok (.iload_n 1, 1) := by decide +kernel
theorem dX15_method_3 : decode cX15_method 3 = .ok (.iload_n 2, 1) := by decide +kernel
theorem dX15_method_4 : decode cX15_method 4 = .ok (.invokevirtual 144, 3) := by decide +kernel
theorem dX15_method_7 : decode cX15_method 7 = .ok (.ifCond .ne 7, 3) := by decide +kernel
theorem dX15_method_10 : decode cX15_method 10 = .ok (.iconst 1, 1) := by decide +kernel
theorem dX15_method_11 : decode cX15_method 11 = .ok (.goto 27, 3) := by decide +kernel
theorem dX15_method_14 : decode cX15_method 14 = .ok (.iload_n 3, 1) := by decide +kernel
theorem dX15_method_15 : decode cX15_method 15 = .ok (.iconst 0, 1) := by decide +kernel
theorem dX15_method_16 : decode cX15_method 16 = .ok (.iconst 2, 1) := by decide +kernel
theorem dX15_method_17 : decode cX15_method 17 = .ok (.invokestatic 62, 3) := by decide +kernel
theorem dX15_method_20 : decode cX15_method 20 = .ok (.ifCond .eq 13, 3) := by decide +kernel
theorem dX15_method_23 : decode cX15_method 23 = .ok (.iload 4, 2) := by decide +kernel
theorem dX15_method_25 : decode cX15_method 25 = .ok (.iconst 0, 1) := by decide +kernel
theorem dX15_method_26 : decode cX15_method 26 = .ok (.iconst 4, 1) := by decide +kernel
theorem dX15_method_27 : decode cX15_method 27 = .ok (.invokestatic 62, 3) := by decide +kernel
theorem dX15_method_30 : decode cX15_method 30 = .ok (.ifCond .ne 7, 3) := by decide +kernel
theorem dX15_method_33 : decode cX15_method 33 = .ok (.iconst 2, 1) := by decide +kernel
theorem dX15_method_34 : decode cX15_method 34 = .ok (.goto 4, 3) := by decide +kernel
theorem dX15_method_37 : decode cX15_method 37 = .ok (.iconst 0, 1) := by decide +kernel
theorem dX15_method_38 : decode cX15_method 38 = .ok (.invokevirtual 77, 3) := by decide +kernel
theorem dX15_method_41 : decode cX15_method 41 = .ok (.ifCond .eq 5, 3) := by decide +kernel
theorem dX15_method_44 : decode cX15_method 44 = .ok (.iconst 0, 1) := by decide +kernel
theorem dX15_method_45 : decode cX15_method 45 = .ok (.ireturn, 1) := by decide +kernel
theorem dX15_method_46 : decode cX15_method 46 = .ok (.new 112, 3) := by decide +kernel
theorem dX15_method_49 : decode cX15_method 49 = .ok (.dup, 1) := by decide +kernel
theorem dX15_method_50 : decode cX15_method 50 = .ok (.iload_n 1, 1) := by decide +kernel
theorem dX15_method_51 : decode cX15_method 51 = .ok (.iload_n 2, 1) := by decide +kernel
theorem dX15_method_52 : decode cX15_method 52 = .ok (.iload_n 3, 1) := by decide +kernel
theorem dX15_method_53 : decode cX15_method 53 = .ok (.iload 4, 2) := by decide +kernel
theorem dX15_method_55 : decode cX15_method 55 = .ok (.invokespecial 148, 3) := by decide +kernel
theorem dX15_method_58 : decode cX15_method 58 = .ok (.astore 5, 2) := by decide +kernel
theorem dX15_method_60 : decode cX15_method 60 = .ok (.aload 5, 2) := by decide +kernel
theorem dX15_method_62 : decode cX15_method 62 = .ok (.getfield 122, 3) := by decide +kernel
theorem dX15_method_65 : decode cX15_method 65 = .ok (.aload_n 0, 1) := by decide +kernel
theorem dX15_method_66 : decode cX15_method 66 = .ok (.getfield 25, 3) := by decide +kernel
theorem dX15_method_69 : decode cX15_method 69 = .ok (.invokevirtual 151, 3) := by decide +kernel
theorem dX15_method_72 : decode cX15_method 72 = .ok (.pop, 1) := by decide +kernel
theorem dX15_method_73 : decode cX15_method 73 = .ok (.aload_n 0, 1) := by decide +kernel
theorem dX15_method_74 : decode cX15_method 74 = .ok (.aload_n 0, 1) := by decide +kernel
theorem dX15_method_75 : decode cX15_method 75 = .ok (.getfield 25, 3) := by decide +kernel
theorem dX15_method_78 : decode cX15_method 78 = .ok (.invokevirtual 155, 3) := by decide +kernel
theorem dX15_method_81 : decode cX15_method 81 = .ok (.ifCond .ne 12, 3) := by decide +kernel
theorem dX15_method_84 : decode cX15_method 84 = .ok (.aload_n 0, 1) := by decide +kernel
theorem dX15_method_85 : decode cX15_method 85 = .ok (.aload 5, 2) := by decide +kernel
theorem dX15_method_87 : decode cX15_method 87 = .ok (.invokevirtual 159, 3) := by decide +kernel
theorem dX15_method_90 : decode cX15_method 90 = .ok (.ifCond .ne 7, 3) := by decide +kernel
theorem dX15_method_93 : decode cX15_method 93 = .ok (.iconst 3, 1) := by decide +kernel
theorem dX15_method_94 : decode cX15_method 94 = .ok (.goto 4, 3) := by decide +kernel
theorem dX15_method_97 : decode cX15_method 97 = .ok (.iconst 0, 1) := by decide +kernel
theorem dX15_method_98 : decode cX15_method 98 = .ok (.invokevirtual 77, 3) := by decide +kernel
theorem dX15_method_101 : decode cX15_method 101 = .ok (.ifCond .eq 5, 3) := by decide +kernel
theorem dX15_method_104 : decode cX15_method 104 = .ok (.iconst 0, 1) := by decide +kernel
theorem dX15_method_105 : decode cX15_method 105 = .ok (.ireturn, 1) := by decide +kernel
theorem dX15_method_106 : decode cX15_method 106 = .ok (.aload_n 0, 1) := by decide +kernel
theorem dX15_method_107 : decode cX15_method 107 = .ok (.getfield 25, 3) := by decide +kernel
theorem dX15_method_110 : decode cX15_method 110 = .ok (.invokevirtual 93, 3) := by decide +kernel
theorem dX15_method_113 : decode cX15_method 113 = .ok (.aload_n 0, 1) := by decide +kernel
theorem dX15_method_114 : decode cX15_method 114 = .ok (.getfield 21, 3) := by decide +kernel
theorem dX15_method_117 : decode cX15_method 117 = .ok (.iload_n 1, 1) := by decide +kernel
theorem dX15_method_118 : decode cX15_method 118 = .ok (.invokevirtual 70, 3) := by decide +kernel
theorem dX15_method_121 : decode cX15_method 121 = .ok (.checkcast 45, 3) := by decide +kernel
theorem dX15_method_124 : decode cX15_method 124 = .ok (.getfield 163, 3) := by decide +kernel
theorem dX15_method_127 : decode cX15_method 127 = .ok (.iload_n 2, 1) := by decide +kernel
theorem dX15_method_128 : decode cX15_method 128 = .ok (.aload 5, 2) := by decide +kernel
theorem dX15_method_130 : decode cX15_method 130 = .ok (.aastore, 1) := by decide +kernel
theorem dX15_method_131 : decode cX15_method 131 = .ok (.aload 5, 2) := by decide +kernel
theorem dX15_method_133 : decode cX15_method 133 = .ok (.getfield 122, 3) := by decide +kernel
theorem dX15_method_136 : decode cX15_method 136 = .ok (.invokevirtual 58, 3) := by decide +kernel
theorem dX15_method_139 : decode cX15_method 139 = .ok (.ireturn, 1) := by decide +kernel
theorem dX15_compiled_0 : decode cX15_compiled 0 = .ok (.iconst 0, 1) := by decide +kernel
theorem dX15_compiled_1 : decode cX15_compiled 1 = .ok (.istore_n 2, 1) := by decide +kernel
theorem dX15_compiled_2 : decode cX15_compiled 2 = .ok (.aload_n 0, 1) := by decide +kernel
theorem dX15_compiled_3 : decode cX15_compiled 3 = .ok (.getfield 21, 3) := by decide +kernel
theorem dX15_compiled_6 : decode cX15_compiled 6 = .ok (.invokevirtual 183, 3) := by decide +kernel
theorem dX15_compiled_9 : decode cX15_compiled 9 = .ok (.astore_n 3, 1) := by decide +kernel
theorem dX15_compiled_10 : decode cX15_compiled 10 = .ok (.aload_n 3, 1) := by decide +kernel
theorem dX15_compiled_11 : decode cX15_compiled 11 = .ok (.invokeinterface 187 1, 5) := by decide +kernel
theorem dX15_compiled_16 : decode cX15_compiled 16 = .ok (.ifCond .eq 77, 3) := by decide +kernel
theorem dX15_compiled_19 : decode cX15_compiled 19 = .ok (.aload_n 3, 1) := by decide +kernel
theorem dX15_compiled_20 : decode cX15_compiled 20 = .ok (.invokeinterface 192 1, 5) := by decide +kernel
theorem dX15_compiled_25 : decode cX15_compiled 25 = .ok (.checkcast 45, 3) := by decide +kernel
theorem dX15_compiled_28 : decode cX15_compiled 28 = .ok (.astore 4, 2) := by decide +kernel
theorem dX15_compiled_30 : decode cX15_compiled 30 = .ok (.aload 4, 2) := by decide +kernel
theorem dX15_compiled_32 : decode cX15_compiled 32 = .ok (.getfield 163, 3) := by decide +kernel
theorem dX15_compiled_35 : decode cX15_compiled 35 = .ok (.astore 5, 2) := by decide +kernel
theorem dX15_compiled_37 : decode cX15_compiled 37 = .ok (.aload 5, 2) := by decide +kernel
theorem dX15_compiled_39 : decode cX15_compiled 39 = .ok (.arraylength, 1) := by decide +kernel
theorem dX15_compiled_40 : decode cX15_compiled 40 = .ok (.istore 6, 2) := by decide +kernel
theorem dX15_compiled_42 : decode cX15_compiled 42 = .ok (.iconst 0, 1) := by decide +kernel
theorem dX15_compiled_43 : decode cX15_compiled 43 = .ok (.istore 7, 2) := by decide +kernel
theorem dX15_compiled_45 : decode cX15_compiled 45 = .ok (.iload 7, 2) := by decide +kernel
theorem dX15_compiled_47 : decode cX15_compiled 47 = .ok (.iload 6, 2) := by decide +kernel
theorem dX15_compiled_49 : decode cX15_compiled 49 = .ok (.if_icmp .ge 41, 3) := by decide +kernel
theorem dX15_compiled_52 : decode cX15_compiled 52 = .ok (.aload 5, 2) := by decide +kernel
theorem dX15_compiled_54 : decode cX15_compiled 54 = .ok (.iload 7, 2) := by decide +kernel
theorem dX15_compiled_56 : decode cX15_compiled 56 = .ok (.aaload, 1) := by decide +kernel
theorem dX15_compiled_57 : decode cX15_compiled 57 = .ok (.astore 8, 2) := by decide +kernel
theorem dX15_compiled_59 : decode cX15_compiled 59 = .ok (.iload_n 2, 1) := by decide +kernel
theorem dX15_compiled_60 : decode cX15_compiled 60 = .ok (.aload 8, 2) := by decide +kernel
theorem dX15_compiled_62 : decode cX15_compiled 62 = .ok (.ifnull 19, 3) := by decide +kernel
theorem dX15_compiled_65 : decode cX15_compiled 65 = .ok (.iload_n 1, 1) := by decide +kernel
theorem dX15_compiled_66 : decode cX15_compiled 66 = .ok (.ifCond .ne 11, 3) := by decide +kernel
theorem dX15_compiled_69 : decode cX15_compiled 69 = .ok (.aload 8, 2) := by decide +kernel
theorem dX15_compiled_71 : decode cX15_compiled 71 = .ok (.getfield 196, 3) := by decide +kernel
theorem dX15_compiled_74 : decode cX15_compiled 74 = .ok (.ifCond .eq 7, 3) := by decide +kernel
theorem dX15_compiled_77 : decode cX15_compiled 77 = .ok (.iconst 1, 1) := by decide +kernel
theorem dX15_compiled_78 : decode cX15_compiled 78 = .ok (.goto 4, 3) := by decide +kernel
theorem dX15_compiled_81 : decode cX15_compiled 81 = .ok (.iconst 0, 1) := by decide +kernel
theorem dX15_compiled_82 : decode cX15_compiled 82 = .ok (.iadd, 1) := by decide +kernel
theorem dX15_compiled_83 : decode cX15_compiled 83 = .ok (.istore_n 2, 1) := by decide +kernel
theorem dX15_compiled_84 : decode cX15_compiled 84 = .ok (.iinc 7 1, 3) := by decide +kernel
theorem dX15_compiled_87 : decode cX15_compiled 87 = .ok (.goto (-42), 3) := by decide +kernel
theorem dX15_compiled_90 : decode cX15_compiled 90 = .ok (.goto (-80), 3) := by decide +kernel
theorem dX15_compiled_93 : decode cX15_compiled 93 = .ok (.iload_n 2, 1) := by decide +kernel
theorem dX15_compiled_94 : decode cX15_compiled 94 = .ok (.ireturn, 1) := by decide +kernel
theorem dX15_compiledShare_0 : decode cX15_compiledShare 0 = .ok (.aload_n 0, 1) := by decide +kernel
theorem dX15_compiledShare_1 : decode cX15_compiledShare 1 = .ok (.aload_n 0, 1) := by decide +kernel
theorem dX15_compiledShare_2 : decode cX15_compiledShare 2 = .ok (.iconst 1, 1) := by decide +kernel
theorem dX15_compiledShare_3 : decode cX15_compiledShare 3 = .ok (.invokevirtual 200, 3) := by decide +kernel
theorem dX15_compiledShare_6 : decode cX15_compiledShare 6 = .ok (.ifCond .ne 7, 3) := by decide +kernel
theorem dX15_compiledShare_9 : decode cX15_compiledShare 9 = .ok (.iconst 1, 1) := by decide +kernel
theorem dX15_compiledShare_10 : decode cX15_compiledShare 10 = .ok (.goto 4, 3) := by decide +kernel
theorem dX15_compiledShare_13 : decode cX15_compiledShare 13 = .ok (.iconst 0, 1) := by decide +kernel
theorem dX15_compiledShare_14 : decode cX15_compiledShare 14 = .ok (.invokevirtual 77, 3) := by decide +kernel
theorem dX15_compiledShare_17 : decode cX15_compiledShare 17 = .ok (.ifCond .eq 7, 3) := by decide +kernel
theorem dX15_compiledShare_20 : decode cX15_compiledShare 20 = .ok (.fconst 0, 1) := by decide +kernel
theorem dX15_compiledShare_21 : decode cX15_compiledShare 21 = .ok (.goto 16, 3) := by decide +kernel
theorem dX15_compiledShare_24 : decode cX15_compiledShare 24 = .ok (.aload_n 0, 1) := by decide +kernel
theorem dX15_compiledShare_25 : decode cX15_compiledShare 25 = .ok (.iconst 0, 1) := by decide +kernel
theorem dX15_compiledShare_26 : decode cX15_compiledShare 26 = .ok (.invokevirtual 200, 3) := by decide +kernel
theorem dX15_compiledShare_29 : decode cX15_compiledShare 29 = .ok (.i2f, 1) := by decide +kernel
theorem dX15_compiledShare_30 : decode cX15_compiledShare 30 = .ok (.aload_n 0, 1) := by decide +kernel
theorem dX15_compiledShare_31 : decode cX15_compiledShare 31 = .ok (.iconst 1, 1) := by decide +kernel
theorem dX15_compiledShare_32 : decode cX15_compiledShare 32 = .ok (.invokevirtual 200, 3) := by decide +kernel
theorem dX15_compiledShare_35 : decode cX15_compiledShare 35 = .ok (.i2f, 1) := by decide +kernel
theorem dX15_compiledShare_36 : decode cX15_compiledShare 36 = .ok (.fdiv, 1) := by decide +kernel
theorem dX15_compiledShare_37 : decode cX15_compiledShare 37 = .ok (.freturn, 1) := by decide +kernel
theorem dX15_meanCalls_0 : decode cX15_meanCalls 0 = .ok (.aload_n 0, 1) := by decide +kernel
theorem dX15_meanCalls_1 : decode cX15_meanCalls 1 = .ok (.aload_n 0, 1) := by decide +kernel
theorem dX15_meanCalls_2 : decode cX15_meanCalls 2 = .ok (.iconst 1, 1) := by decide +kernel
theorem dX15_meanCalls_3 : decode cX15_meanCalls 3 = .ok (.invokevirtual 200, 3) := by decide +kernel
theorem dX15_meanCalls_6 : decode cX15_meanCalls 6 = .ok (.ifCond .ne 7, 3) := by decide +kernel
theorem dX15_meanCalls_9 : decode cX15_meanCalls 9 = .ok (.iconst 1, 1) := by decide +kernel
theorem dX15_meanCalls_10 : decode cX15_meanCalls 10 = .ok (.goto 4, 3) := by decide +kernel
theorem dX15_meanCalls_13 : decode cX15_meanCalls 13 = .ok (.iconst 0, 1) := by decide +kernel
theorem dX15_meanCalls_14 : decode cX15_meanCalls 14 = .ok (.invokevirtual 77, 3) := by decide +kernel
theorem dX15_meanCalls_17 : decode cX15_meanCalls 17 = .ok (.ifCond .eq 5, 3) := by decide +kernel
theorem dX15_meanCalls_20 : decode cX15_meanCalls 20 = .ok (.dconst 0, 1) := by decide +kernel
theorem dX15_meanCalls_21 : decode cX15_meanCalls 21 = .ok (.dreturn, 1) := by decide +kernel
theorem dX15_meanCalls_22 : decode cX15_meanCalls 22 = .ok (.iconst 0, 1) := by decide +kernel
theorem dX15_meanCalls_23 : decode cX15_meanCalls 23 = .ok (.istore_n 1, 1) := by decide +kernel
theorem dX15_meanCalls_24 : decode cX15_meanCalls 24 = .ok (.aload_n 0, 1) := by decide +kernel
theorem dX15_meanCalls_25 : decode cX15_meanCalls 25 = .ok (.getfield 21, 3) := by decide +kernel
theorem dX15_meanCalls_28 : decode cX15_meanCalls 28 = .ok (.invokevirtual 183, 3) := by decide +kernel
theorem dX15_meanCalls_31 : decode cX15_meanCalls 31 = .ok (.astore_n 2, 1) := by decide +kernel
theorem dX15_meanCalls_32 : decode cX15_meanCalls 32 = .ok (.aload_n 2, 1) := by decide +kernel
theorem dX15_meanCalls_33 : decode cX15_meanCalls 33 = .ok (.invokeinterface 187 1, 5) := by decide +kernel
theorem dX15_meanCalls_38 : decode cX15_meanCalls 38 = .ok (.ifCond .eq 67, 3) := by decide +kernel
theorem dX15_meanCalls_41 : decode cX15_meanCalls 41 = .ok (.aload_n 2, 1) := by decide +kernel
theorem dX15_meanCalls_42 : decode cX15_meanCalls 42 = .ok (.invokeinterface 192 1, 5) := by decide +kernel
theorem dX15_meanCalls_47 : decode cX15_meanCalls 47 = .ok (.checkcast 45, 3) := by decide +kernel
theorem dX15_meanCalls_50 : decode cX15_meanCalls 50 = .ok (.astore_n 3, 1) := by decide +kernel
theorem dX15_meanCalls_51 : decode cX15_meanCalls 51 = .ok (.aload_n 3, 1) := by decide +kernel
theorem dX15_meanCalls_52 : decode cX15_meanCalls 52 = .ok (.getfield 163, 3) := by decide +kernel
theorem dX15_meanCalls_55 : decode cX15_meanCalls 55 = .ok (.astore 4, 2) := by decide +kernel
theorem dX15_meanCalls_57 : decode cX15_meanCalls 57 = .ok (.aload 4, 2) := by decide +kernel
theorem dX15_meanCalls_59 : decode cX15_meanCalls 59 = .ok (.arraylength, 1) := by decide +kernel
theorem dX15_meanCalls_60 : decode cX15_meanCalls 60 = .ok (.istore 5, 2) := by decide +kernel
theorem dX15_meanCalls_62 : decode cX15_meanCalls 62 = .ok (.iconst 0, 1) := by decide +kernel
theorem dX15_meanCalls_63 : decode cX15_meanCalls 63 = .ok (.istore 6, 2) := by decide +kernel
theorem dX15_meanCalls_65 : decode cX15_meanCalls 65 = .ok (.iload 6, 2) := by decide +kernel
theorem dX15_meanCalls_67 : decode cX15_meanCalls 67 = .ok (.iload 5, 2) := by decide +kernel
theorem dX15_meanCalls_69 : decode cX15_meanCalls 69 = .ok (.if_icmp .ge 33, 3) := by decide +kernel
theorem dX15_meanCalls_72 : decode cX15_meanCalls 72 = .ok (.aload 4, 2) := by decide +kernel
theorem dX15_meanCalls_74 : decode cX15_meanCalls 74 = .ok (.iload 6, 2) := by decide +kernel
theorem dX15_meanCalls_76 : decode cX15_meanCalls 76 = .ok (.aaload, 1) := by decide +kernel
theorem dX15_meanCalls_77 : decode cX15_meanCalls 77 = .ok (.astore 7, 2) := by decide +kernel
theorem dX15_meanCalls_79 : decode cX15_meanCalls 79 = .ok (.iload_n 1, 1) := by decide +kernel
theorem dX15_meanCalls_80 : decode cX15_meanCalls 80 = .ok (.aload 7, 2) := by decide +kernel
theorem dX15_meanCalls_82 : decode cX15_meanCalls 82 = .ok (.ifnonnull 7, 3) := by decide +kernel
theorem dX15_meanCalls_85 : decode cX15_meanCalls 85 = .ok (.iconst 0, 1) := by decide +kernel
theorem dX15_meanCalls_86 : decode cX15_meanCalls 86 = .ok (.goto 8, 3) := by decide +kernel
theorem dX15_meanCalls_89 : decode cX15_meanCalls 89 = .ok (.aload 7, 2) := by decide +kernel
theorem dX15_meanCalls_91 : decode cX15_meanCalls 91 = .ok (.getfield 174, 3) := by decide +kernel
theorem dX15_meanCalls_94 : decode cX15_meanCalls 94 = .ok (.iadd, 1) := by decide +kernel
theorem dX15_meanCalls_95 : decode cX15_meanCalls 95 = .ok (.istore_n 1, 1) := by decide +kernel
theorem dX15_meanCalls_96 : decode cX15_meanCalls 96 = .ok (.iinc 6 1, 3) := by decide +kernel
theorem dX15_meanCalls_99 : decode cX15_meanCalls 99 = .ok (.goto (-34), 3) := by decide +kernel
theorem dX15_meanCalls_102 : decode cX15_meanCalls 102 = .ok (.goto (-70), 3) := by decide +kernel
theorem dX15_meanCalls_105 : decode cX15_meanCalls 105 = .ok (.iload_n 1, 1) := by decide +kernel
theorem dX15_meanCalls_106 : decode cX15_meanCalls 106 = .ok (.i2d, 1) := by decide +kernel
theorem dX15_meanCalls_107 : decode cX15_meanCalls 107 = .ok (.aload_n 0, 1) := by decide +kernel
theorem dX15_meanCalls_108 : decode cX15_meanCalls 108 = .ok (.iconst 1, 1) := by decide +kernel
theorem dX15_meanCalls_109 : decode cX15_meanCalls 109 = .ok (.invokevirtual 200, 3) := by decide +kernel
theorem dX15_meanCalls_112 : decode cX15_meanCalls 112 = .ok (.i2d, 1) := by decide +kernel
theorem dX15_meanCalls_113 : decode cX15_meanCalls 113 = .ok (.ddiv, 1) := by decide +kernel
theorem dX15_meanCalls_114 : decode cX15_meanCalls 114 = .ok (.dreturn, 1) := by decide +kernel
theorem dX15_summed_0 : decode cX15_summed 0 = .ok (.ldc2_w 356, 3) := by decide +kernel
theorem dX15_summed_3 : decode cX15_summed 3 = .ok (.ldc2_w 356, 3) := by decide +kernel
theorem dX15_summed_6 : decode cX15_summed 6 = .ok (.lload_n 0, 1) := by decide +kernel
theorem dX15_summed_7 : decode cX15_summed 7 = .ok (.lmul, 1) := by decide +kernel
theorem dX15_summed_8 : decode cX15_summed 8 = .ok (.aload_n 2, 1) := by decide +kernel
theorem dX15_summed_9 : decode cX15_summed 9 = .ok (.getfield 228, 3) := by decide +kernel
theorem dX15_summed_12 : decode cX15_summed 12 = .ok (.i2l, 1) := by decide +kernel
theorem dX15_summed_13 : decode cX15_summed 13 = .ok (.ladd, 1) := by decide +kernel
theorem dX15_summed_14 : decode cX15_summed 14 = .ok (.lmul, 1) := by decide +kernel
theorem dX15_summed_15 : decode cX15_summed 15 = .ok (.aload_n 2, 1) := by decide +kernel
theorem dX15_summed_16 : decode cX15_summed 16 = .ok (.getfield 225, 3) := by decide +kernel
theorem dX15_summed_19 : decode cX15_summed 19 = .ok (.i2l, 1) := by decide +kernel
theorem dX15_summed_20 : decode cX15_summed 20 = .ok (.ladd, 1) := by decide +kernel
theorem dX15_summed_21 : decode cX15_summed 21 = .ok (.lreturn, 1) := by decide +kernel
theorem dX15_checksum_0 : decode cX15_checksum 0 = .ok (.aload_n 0, 1) := by decide +kernel
theorem dX15_checksum_1 : decode cX15_checksum 1 = .ok (.iconst 0, 1) := by decide +kernel
theorem dX15_checksum_2 : decode cX15_checksum 2 = .ok (.putfield 54, 3) := by decide +kernel
theorem dX15_checksum_5 : decode cX15_checksum 5 = .ok (.ldc2_w 358, 3) := by decide +kernel
theorem dX15_checksum_8 : decode cX15_checksum 8 = .ok (.aload_n 0, 1) := by decide +kernel
theorem dX15_checksum_9 : decode cX15_checksum 9 = .ok (.getfield 336, 3) := by decide +kernel
theorem dX15_checksum_12 : decode cX15_checksum 12 = .ok (.i2l, 1) := by decide +kernel
theorem dX15_checksum_13 : decode cX15_checksum 13 = .ok (.ladd, 1) := by decide +kernel
theorem dX15_checksum_14 : decode cX15_checksum 14 = .ok (.lstore_n 1, 1) := by decide +kernel
theorem dX15_checksum_15 : decode cX15_checksum 15 = .ok (.aload_n 0, 1) := by decide +kernel
theorem dX15_checksum_16 : decode cX15_checksum 16 = .ok (.getfield 37, 3) := by decide +kernel
theorem dX15_checksum_19 : decode cX15_checksum 19 = .ok (.astore_n 3, 1) := by decide +kernel
theorem dX15_checksum_20 : decode cX15_checksum 20 = .ok (.aload_n 3, 1) := by decide +kernel
theorem dX15_checksum_21 : decode cX15_checksum 21 = .ok (.arraylength, 1) := by decide +kernel
theorem dX15_checksum_22 : decode cX15_checksum 22 = .ok (.istore 4, 2) := by decide +kernel
theorem dX15_checksum_24 : decode cX15_checksum 24 = .ok (.iconst 0, 1) := by decide +kernel
theorem dX15_checksum_25 : decode cX15_checksum 25 = .ok (.istore 5, 2) := by decide +kernel
theorem dX15_checksum_27 : decode cX15_checksum 27 = .ok (.iload 5, 2) := by decide +kernel
theorem dX15_checksum_29 : decode cX15_checksum 29 = .ok (.iload 4, 2) := by decide +kernel
theorem dX15_checksum_31 : decode cX15_checksum 31 = .ok (.if_icmp .ge 22, 3) := by decide +kernel
theorem dX15_checksum_34 : decode cX15_checksum 34 = .ok (.aload_n 3, 1) := by decide +kernel
theorem dX15_checksum_35 : decode cX15_checksum 35 = .ok (.iload 5, 2) := by decide +kernel
theorem dX15_checksum_37 : decode cX15_checksum 37 = .ok (.aaload, 1) := by decide +kernel
theorem dX15_checksum_38 : decode cX15_checksum 38 = .ok (.astore 6, 2) := by decide +kernel
theorem dX15_checksum_40 : decode cX15_checksum 40 = .ok (.lload_n 1, 1) := by decide +kernel
theorem dX15_checksum_41 : decode cX15_checksum 41 = .ok (.aload 6, 2) := by decide +kernel
theorem dX15_checksum_43 : decode cX15_checksum 43 = .ok (.invokestatic 360, 3) := by decide +kernel
theorem dX15_checksum_46 : decode cX15_checksum 46 = .ok (.lstore_n 1, 1) := by decide +kernel
theorem dX15_checksum_47 : decode cX15_checksum 47 = .ok (.iinc 5 1, 3) := by decide +kernel
theorem dX15_checksum_50 : decode cX15_checksum 50 = .ok (.goto (-23), 3) := by decide +kernel
theorem dX15_checksum_53 : decode cX15_checksum 53 = .ok (.aload_n 0, 1) := by decide +kernel
theorem dX15_checksum_54 : decode cX15_checksum 54 = .ok (.getfield 28, 3) := by decide +kernel
theorem dX15_checksum_57 : decode cX15_checksum 57 = .ok (.invokevirtual 183, 3) := by decide +kernel
theorem dX15_checksum_60 : decode cX15_checksum 60 = .ok (.astore_n 3, 1) := by decide +kernel
theorem dX15_checksum_61 : decode cX15_checksum 61 = .ok (.aload_n 3, 1) := by decide +kernel
theorem dX15_checksum_62 : decode cX15_checksum 62 = .ok (.invokeinterface 187 1, 5) := by decide +kernel
theorem dX15_checksum_67 : decode cX15_checksum 67 = .ok (.ifCond .eq 86, 3) := by decide +kernel
theorem dX15_checksum_70 : decode cX15_checksum 70 = .ok (.aload_n 3, 1) := by decide +kernel
theorem dX15_checksum_71 : decode cX15_checksum 71 = .ok (.invokeinterface 192 1, 5) := by decide +kernel
theorem dX15_checksum_76 : decode cX15_checksum 76 = .ok (.checkcast 213, 3) := by decide +kernel
theorem dX15_checksum_79 : decode cX15_checksum 79 = .ok (.astore 4, 2) := by decide +kernel
theorem dX15_checksum_81 : decode cX15_checksum 81 = .ok (.ldc2_w 356, 3) := by decide +kernel
theorem dX15_checksum_84 : decode cX15_checksum 84 = .ok (.ldc2_w 356, 3) := by decide +kernel
theorem dX15_checksum_87 : decode cX15_checksum 87 = .ok (.lload_n 1, 1) := by decide +kernel
theorem dX15_checksum_88 : decode cX15_checksum 88 = .ok (.lmul, 1) := by decide +kernel
theorem dX15_checksum_89 : decode cX15_checksum 89 = .ok (.aload 4, 2) := by decide +kernel
theorem dX15_checksum_91 : decode cX15_checksum 91 = .ok (.getfield 231, 3) := by decide +kernel
theorem dX15_checksum_94 : decode cX15_checksum 94 = .ok (.i2l, 1) := by decide +kernel
theorem dX15_checksum_95 : decode cX15_checksum 95 = .ok (.ladd, 1) := by decide +kernel
theorem dX15_checksum_96 : decode cX15_checksum 96 = .ok (.lmul, 1) := by decide +kernel
theorem dX15_checksum_97 : decode cX15_checksum 97 = .ok (.aload 4, 2) := by decide +kernel
theorem dX15_checksum_99 : decode cX15_checksum 99 = .ok (.getfield 236, 3) := by decide +kernel
theorem dX15_checksum_102 : decode cX15_checksum 102 = .ok (.i2l, 1) := by decide +kernel
theorem dX15_checksum_103 : decode cX15_checksum 103 = .ok (.ladd, 1) := by decide +kernel
theorem dX15_checksum_104 : decode cX15_checksum 104 = .ok (.lstore_n 1, 1) := by decide +kernel
theorem dX15_checksum_105 : decode cX15_checksum 105 = .ok (.iconst 0, 1) := by decide +kernel
theorem dX15_checksum_106 : decode cX15_checksum 106 = .ok (.istore 5, 2) := by decide +kernel
theorem dX15_checksum_108 : decode cX15_checksum 108 = .ok (.iload 5, 2) := by decide +kernel
theorem dX15_checksum_110 : decode cX15_checksum 110 = .ok (.aload_n 0, 1) := by decide +kernel
theorem dX15_checksum_111 : decode cX15_checksum 111 = .ok (.getfield 21, 3) := by decide +kernel
theorem dX15_checksum_114 : decode cX15_checksum 114 = .ok (.aload 4, 2) := by decide +kernel
theorem dX15_checksum_116 : decode cX15_checksum 116 = .ok (.getfield 236, 3) := by decide +kernel
theorem dX15_checksum_119 : decode cX15_checksum 119 = .ok (.invokevirtual 70, 3) := by decide +kernel
theorem dX15_checksum_122 : decode cX15_checksum 122 = .ok (.checkcast 45, 3) := by decide +kernel
theorem dX15_checksum_125 : decode cX15_checksum 125 = .ok (.getfield 74, 3) := by decide +kernel
theorem dX15_checksum_128 : decode cX15_checksum 128 = .ok (.if_icmp .ge 22, 3) := by decide +kernel
theorem dX15_checksum_131 : decode cX15_checksum 131 = .ok (.lload_n 1, 1) := by decide +kernel
theorem dX15_checksum_132 : decode cX15_checksum 132 = .ok (.aload 4, 2) := by decide +kernel
theorem dX15_checksum_134 : decode cX15_checksum 134 = .ok (.getfield 240, 3) := by decide +kernel
theorem dX15_checksum_137 : decode cX15_checksum 137 = .ok (.iload 5, 2) := by decide +kernel
theorem dX15_checksum_139 : decode cX15_checksum 139 = .ok (.aaload, 1) := by decide +kernel
theorem dX15_checksum_140 : decode cX15_checksum 140 = .ok (.invokestatic 360, 3) := by decide +kernel
theorem dX15_checksum_143 : decode cX15_checksum 143 = .ok (.lstore_n 1, 1) := by decide +kernel
theorem dX15_checksum_144 : decode cX15_checksum 144 = .ok (.iinc 5 1, 3) := by decide +kernel
theorem dX15_checksum_147 : decode cX15_checksum 147 = .ok (.goto (-39), 3) := by decide +kernel
theorem dX15_checksum_150 : decode cX15_checksum 150 = .ok (.goto (-89), 3) := by decide +kernel
theorem dX15_checksum_153 : decode cX15_checksum 153 = .ok (.ldc2_w 356, 3) := by decide +kernel
theorem dX15_checksum_156 : decode cX15_checksum 156 = .ok (.lload_n 1, 1) := by decide +kernel
theorem dX15_checksum_157 : decode cX15_checksum 157 = .ok (.lmul, 1) := by decide +kernel
theorem dX15_checksum_158 : decode cX15_checksum 158 = .ok (.aload_n 0, 1) := by decide +kernel
theorem dX15_checksum_159 : decode cX15_checksum 159 = .ok (.getfield 41, 3) := by decide +kernel
theorem dX15_checksum_162 : decode cX15_checksum 162 = .ok (.i2l, 1) := by decide +kernel
theorem dX15_checksum_163 : decode cX15_checksum 163 = .ok (.ladd, 1) := by decide +kernel
theorem dX15_checksum_164 : decode cX15_checksum 164 = .ok (.lstore_n 1, 1) := by decide +kernel
theorem dX15_checksum_165 : decode cX15_checksum 165 = .ok (.aload_n 0, 1) := by decide +kernel
theorem dX15_checksum_166 : decode cX15_checksum 166 = .ok (.getfield 31, 3) := by decide +kernel
theorem dX15_checksum_169 : decode cX15_checksum 169 = .ok (.invokevirtual 183, 3) := by decide +kernel
theorem dX15_checksum_172 : decode cX15_checksum 172 = .ok (.astore_n 3, 1) := by decide +kernel
theorem dX15_checksum_173 : decode cX15_checksum 173 = .ok (.aload_n 3, 1) := by decide +kernel
theorem dX15_checksum_174 : decode cX15_checksum 174 = .ok (.invokeinterface 187 1, 5) := by decide +kernel
theorem dX15_checksum_179 : decode cX15_checksum 179 = .ok (.ifCond .eq 192, 3) := by decide +kernel
theorem dX15_checksum_182 : decode cX15_checksum 182 = .ok (.aload_n 3, 1) := by decide +kernel
theorem dX15_checksum_183 : decode cX15_checksum 183 = .ok (.invokeinterface 192 1, 5) := by decide +kernel
theorem dX15_checksum_188 : decode cX15_checksum 188 = .ok (.checkcast 252, 3) := by decide +kernel
theorem dX15_checksum_191 : decode cX15_checksum 191 = .ok (.astore 4, 2) := by decide +kernel
theorem dX15_checksum_193 : decode cX15_checksum 193 = .ok (.ldc2_w 356, 3) := by decide +kernel
theorem dX15_checksum_196 : decode cX15_checksum 196 = .ok (.ldc2_w 356, 3) := by decide +kernel
theorem dX15_checksum_199 : decode cX15_checksum 199 = .ok (.ldc2_w 356, 3) := by decide +kernel
theorem dX15_checksum_202 : decode cX15_checksum 202 = .ok (.lload_n 1, 1) := by decide +kernel
theorem dX15_checksum_203 : decode cX15_checksum 203 = .ok (.lmul, 1) := by decide +kernel
theorem dX15_checksum_204 : decode cX15_checksum 204 = .ok (.aload 4, 2) := by decide +kernel
theorem dX15_checksum_206 : decode cX15_checksum 206 = .ok (.getfield 294, 3) := by decide +kernel
theorem dX15_checksum_209 : decode cX15_checksum 209 = .ok (.getfield 119, 3) := by decide +kernel
theorem dX15_checksum_212 : decode cX15_checksum 212 = .ok (.i2l, 1) := by decide +kernel
theorem dX15_checksum_213 : decode cX15_checksum 213 = .ok (.ladd, 1) := by decide +kernel
theorem dX15_checksum_214 : decode cX15_checksum 214 = .ok (.lmul, 1) := by decide +kernel
theorem dX15_checksum_215 : decode cX15_checksum 215 = .ok (.aload 4, 2) := by decide +kernel
theorem dX15_checksum_217 : decode cX15_checksum 217 = .ok (.getfield 294, 3) := by decide +kernel
theorem dX15_checksum_220 : decode cX15_checksum 220 = .ok (.getfield 344, 3) := by decide +kernel
theorem dX15_checksum_223 : decode cX15_checksum 223 = .ok (.i2l, 1) := by decide +kernel
theorem dX15_checksum_224 : decode cX15_checksum 224 = .ok (.ladd, 1) := by decide +kernel
theorem dX15_checksum_225 : decode cX15_checksum 225 = .ok (.lmul, 1) := by decide +kernel
theorem dX15_checksum_226 : decode cX15_checksum 226 = .ok (.aload 4, 2) := by decide +kernel
theorem dX15_checksum_228 : decode cX15_checksum 228 = .ok (.getfield 291, 3) := by decide +kernel
theorem dX15_checksum_231 : decode cX15_checksum 231 = .ok (.i2l, 1) := by decide +kernel
theorem dX15_checksum_232 : decode cX15_checksum 232 = .ok (.ladd, 1) := by decide +kernel
theorem dX15_checksum_233 : decode cX15_checksum 233 = .ok (.aload 4, 2) := by decide +kernel
theorem dX15_checksum_235 : decode cX15_checksum 235 = .ok (.getfield 254, 3) := by decide +kernel
theorem dX15_checksum_238 : decode cX15_checksum 238 = .ok (.invokestatic 360, 3) := by decide +kernel
theorem dX15_checksum_241 : decode cX15_checksum 241 = .ok (.lstore_n 1, 1) := by decide +kernel
theorem dX15_checksum_242 : decode cX15_checksum 242 = .ok (.aload 4, 2) := by decide +kernel
theorem dX15_checksum_244 : decode cX15_checksum 244 = .ok (.getfield 257, 3) := by decide +kernel
theorem dX15_checksum_247 : decode cX15_checksum 247 = .ok (.astore 5, 2) := by decide +kernel
theorem dX15_checksum_249 : decode cX15_checksum 249 = .ok (.aload 5, 2) := by decide +kernel
theorem dX15_checksum_251 : decode cX15_checksum 251 = .ok (.arraylength, 1) := by decide +kernel
theorem dX15_checksum_252 : decode cX15_checksum 252 = .ok (.istore 6, 2) := by decide +kernel
theorem dX15_checksum_254 : decode cX15_checksum 254 = .ok (.iconst 0, 1) := by decide +kernel
theorem dX15_checksum_255 : decode cX15_checksum 255 = .ok (.istore 7, 2) := by decide +kernel
theorem dX15_checksum_257 : decode cX15_checksum 257 = .ok (.iload 7, 2) := by decide +kernel
theorem dX15_checksum_259 : decode cX15_checksum 259 = .ok (.iload 6, 2) := by decide +kernel
theorem dX15_checksum_261 : decode cX15_checksum 261 = .ok (.if_icmp .ge 23, 3) := by decide +kernel
theorem dX15_checksum_264 : decode cX15_checksum 264 = .ok (.aload 5, 2) := by decide +kernel
theorem dX15_checksum_266 : decode cX15_checksum 266 = .ok (.iload 7, 2) := by decide +kernel
theorem dX15_checksum_268 : decode cX15_checksum 268 = .ok (.aaload, 1) := by decide +kernel
theorem dX15_checksum_269 : decode cX15_checksum 269 = .ok (.astore 8, 2) := by decide +kernel
theorem dX15_checksum_271 : decode cX15_checksum 271 = .ok (.lload_n 1, 1) := by decide +kernel
theorem dX15_checksum_272 : decode cX15_checksum 272 = .ok (.aload 8, 2) := by decide +kernel
theorem dX15_checksum_274 : decode cX15_checksum 274 = .ok (.invokestatic 360, 3) := by decide +kernel
theorem dX15_checksum_277 : decode cX15_checksum 277 = .ok (.lstore_n 1, 1) := by decide +kernel
theorem dX15_checksum_278 : decode cX15_checksum 278 = .ok (.iinc 7 1, 3) := by decide +kernel
theorem dX15_checksum_281 : decode cX15_checksum 281 = .ok (.goto (-24), 3) := by decide +kernel
theorem dX15_checksum_284 : decode cX15_checksum 284 = .ok (.aload 4, 2) := by decide +kernel
theorem dX15_checksum_286 : decode cX15_checksum 286 = .ok (.getfield 259, 3) := by decide +kernel
theorem dX15_checksum_289 : decode cX15_checksum 289 = .ok (.astore 5, 2) := by decide +kernel
theorem dX15_checksum_291 : decode cX15_checksum 291 = .ok (.aload 5, 2) := by decide +kernel
theorem dX15_checksum_293 : decode cX15_checksum 293 = .ok (.arraylength, 1) := by decide +kernel
theorem dX15_checksum_294 : decode cX15_checksum 294 = .ok (.istore 6, 2) := by decide +kernel
theorem dX15_checksum_296 : decode cX15_checksum 296 = .ok (.iconst 0, 1) := by decide +kernel
theorem dX15_checksum_297 : decode cX15_checksum 297 = .ok (.istore 7, 2) := by decide +kernel
theorem dX15_checksum_299 : decode cX15_checksum 299 = .ok (.iload 7, 2) := by decide +kernel
theorem dX15_checksum_301 : decode cX15_checksum 301 = .ok (.iload 6, 2) := by decide +kernel
theorem dX15_checksum_303 : decode cX15_checksum 303 = .ok (.if_icmp .ge 23, 3) := by decide +kernel
theorem dX15_checksum_306 : decode cX15_checksum 306 = .ok (.aload 5, 2) := by decide +kernel
theorem dX15_checksum_308 : decode cX15_checksum 308 = .ok (.iload 7, 2) := by decide +kernel
theorem dX15_checksum_310 : decode cX15_checksum 310 = .ok (.aaload, 1) := by decide +kernel
theorem dX15_checksum_311 : decode cX15_checksum 311 = .ok (.astore 8, 2) := by decide +kernel
theorem dX15_checksum_313 : decode cX15_checksum 313 = .ok (.lload_n 1, 1) := by decide +kernel
theorem dX15_checksum_314 : decode cX15_checksum 314 = .ok (.aload 8, 2) := by decide +kernel
theorem dX15_checksum_316 : decode cX15_checksum 316 = .ok (.invokestatic 360, 3) := by decide +kernel
theorem dX15_checksum_319 : decode cX15_checksum 319 = .ok (.lstore_n 1, 1) := by decide +kernel
theorem dX15_checksum_320 : decode cX15_checksum 320 = .ok (.iinc 7 1, 3) := by decide +kernel
theorem dX15_checksum_323 : decode cX15_checksum 323 = .ok (.goto (-24), 3) := by decide +kernel
theorem dX15_checksum_326 : decode cX15_checksum 326 = .ok (.aload 4, 2) := by decide +kernel
theorem dX15_checksum_328 : decode cX15_checksum 328 = .ok (.getfield 261, 3) := by decide +kernel
theorem dX15_checksum_331 : decode cX15_checksum 331 = .ok (.invokevirtual 183, 3) := by decide +kernel
theorem dX15_checksum_334 : decode cX15_checksum 334 = .ok (.astore 5, 2) := by decide +kernel
theorem dX15_checksum_336 : decode cX15_checksum 336 = .ok (.aload 5, 2) := by decide +kernel
theorem dX15_checksum_338 : decode cX15_checksum 338 = .ok (.invokeinterface 187 1, 5) := by decide +kernel
theorem dX15_checksum_343 : decode cX15_checksum 343 = .ok (.ifCond .eq 25, 3) := by decide +kernel
theorem dX15_checksum_346 : decode cX15_checksum 346 = .ok (.aload 5, 2) := by decide +kernel
theorem dX15_checksum_348 : decode cX15_checksum 348 = .ok (.invokeinterface 192 1, 5) := by decide +kernel
theorem dX15_checksum_353 : decode cX15_checksum 353 = .ok (.checkcast 7, 3) := by decide +kernel
theorem dX15_checksum_356 : decode cX15_checksum 356 = .ok (.astore 6, 2) := by decide +kernel
theorem dX15_checksum_358 : decode cX15_checksum 358 = .ok (.lload_n 1, 1) := by decide +kernel
theorem dX15_checksum_359 : decode cX15_checksum 359 = .ok (.aload 6, 2) := by decide +kernel
theorem dX15_checksum_361 : decode cX15_checksum 361 = .ok (.invokestatic 360, 3) := by decide +kernel
theorem dX15_checksum_364 : decode cX15_checksum 364 = .ok (.lstore_n 1, 1) := by decide +kernel
theorem dX15_checksum_365 : decode cX15_checksum 365 = .ok (.goto (-29), 3) := by decide +kernel
theorem dX15_checksum_368 : decode cX15_checksum 368 = .ok (.goto (-195), 3) := by decide +kernel
theorem dX15_checksum_371 : decode cX15_checksum 371 = .ok (.aload_n 0, 1) := by decide +kernel
theorem dX15_checksum_372 : decode cX15_checksum 372 = .ok (.getfield 34, 3) := by decide +kernel
theorem dX15_checksum_375 : decode cX15_checksum 375 = .ok (.invokevirtual 183, 3) := by decide +kernel
theorem dX15_checksum_378 : decode cX15_checksum 378 = .ok (.astore_n 3, 1) := by decide +kernel
theorem dX15_checksum_379 : decode cX15_checksum 379 = .ok (.aload_n 3, 1) := by decide +kernel
theorem dX15_checksum_380 : decode cX15_checksum 380 = .ok (.invokeinterface 187 1, 5) := by decide +kernel
theorem dX15_checksum_385 : decode cX15_checksum 385 = .ok (.ifCond .eq 24, 3) := by decide +kernel
theorem dX15_checksum_388 : decode cX15_checksum 388 = .ok (.aload_n 3, 1) := by decide +kernel
theorem dX15_checksum_389 : decode cX15_checksum 389 = .ok (.invokeinterface 192 1, 5) := by decide +kernel
theorem dX15_checksum_394 : decode cX15_checksum 394 = .ok (.checkcast 7, 3) := by decide +kernel
theorem dX15_checksum_397 : decode cX15_checksum 397 = .ok (.astore 4, 2) := by decide +kernel
theorem dX15_checksum_399 : decode cX15_checksum 399 = .ok (.lload_n 1, 1) := by decide +kernel
theorem dX15_checksum_400 : decode cX15_checksum 400 = .ok (.aload 4, 2) := by decide +kernel
theorem dX15_checksum_402 : decode cX15_checksum 402 = .ok (.invokestatic 360, 3) := by decide +kernel
theorem dX15_checksum_405 : decode cX15_checksum 405 = .ok (.lstore_n 1, 1) := by decide +kernel
theorem dX15_checksum_406 : decode cX15_checksum 406 = .ok (.goto (-27), 3) := by decide +kernel
theorem dX15_checksum_409 : decode cX15_checksum 409 = .ok (.lload_n 1, 1) := by decide +kernel
theorem dX15_checksum_410 : decode cX15_checksum 410 = .ok (.lreturn, 1) := by decide +kernel
theorem dX15_isSound_0 : decode cX15_isSound 0 = .ok (.aload_n 0, 1) := by decide +kernel
theorem dX15_isSound_1 : decode cX15_isSound 1 = .ok (.iconst 0, 1) := by decide +kernel
theorem dX15_isSound_2 : decode cX15_isSound 2 = .ok (.putfield 54, 3) := by decide +kernel
theorem dX15_isSound_5 : decode cX15_isSound 5 = .ok (.aload_n 0, 1) := by decide +kernel
theorem dX15_isSound_6 : decode cX15_isSound 6 = .ok (.getfield 28, 3) := by decide +kernel
theorem dX15_isSound_9 : decode cX15_isSound 9 = .ok (.invokevirtual 58, 3) := by decide +kernel
theorem dX15_isSound_12 : decode cX15_isSound 12 = .ok (.bipush 60, 2) := by decide +kernel
theorem dX15_isSound_14 : decode cX15_isSound 14 = .ok (.if_icmp .gt 30, 3) := by decide +kernel
theorem dX15_isSound_17 : decode cX15_isSound 17 = .ok (.aload_n 0, 1) := by decide +kernel
theorem dX15_isSound_18 : decode cX15_isSound 18 = .ok (.getfield 31, 3) := by decide +kernel
theorem dX15_isSound_21 : decode cX15_isSound 21 = .ok (.invokevirtual 58, 3) := by decide +kernel
theorem dX15_isSound_24 : decode cX15_isSound 24 = .ok (.bipush 12, 2) := by decide +kernel
theorem dX15_isSound_26 : decode cX15_isSound 26 = .ok (.if_icmp .gt 18, 3) := by decide +kernel
theorem dX15_isSound_29 : decode cX15_isSound 29 = .ok (.aload_n 0, 1) := by decide +kernel
theorem dX15_isSound_30 : decode cX15_isSound 30 = .ok (.aload_n 0, 1) := by decide +kernel
theorem dX15_isSound_31 : decode cX15_isSound 31 = .ok (.getfield 249, 3) := by decide +kernel
theorem dX15_isSound_34 : decode cX15_isSound 34 = .ok (.invokevirtual 364, 3) := by decide +kernel
theorem dX15_isSound_37 : decode cX15_isSound 37 = .ok (.ifCond .eq 7, 3) := by decide +kernel
theorem dX15_isSound_40 : decode cX15_isSound 40 = .ok (.iconst 1, 1) := by decide +kernel
theorem dX15_isSound_41 : decode cX15_isSound 41 = .ok (.goto 4, 3) := by decide +kernel
theorem dX15_isSound_44 : decode cX15_isSound 44 = .ok (.iconst 0, 1) := by decide +kernel
theorem dX15_isSound_45 : decode cX15_isSound 45 = .ok (.istore_n 1, 1) := by decide +kernel
theorem dX15_isSound_46 : decode cX15_isSound 46 = .ok (.aload_n 0, 1) := by decide +kernel
theorem dX15_isSound_47 : decode cX15_isSound 47 = .ok (.getfield 37, 3) := by decide +kernel
theorem dX15_isSound_50 : decode cX15_isSound 50 = .ok (.astore_n 2, 1) := by decide +kernel
theorem dX15_isSound_51 : decode cX15_isSound 51 = .ok (.aload_n 2, 1) := by decide +kernel
theorem dX15_isSound_52 : decode cX15_isSound 52 = .ok (.arraylength, 1) := by decide +kernel
theorem dX15_isSound_53 : decode cX15_isSound 53 = .ok (.istore_n 3, 1) := by decide +kernel
theorem dX15_isSound_54 : decode cX15_isSound 54 = .ok (.iconst 0, 1) := by decide +kernel
theorem dX15_isSound_55 : decode cX15_isSound 55 = .ok (.istore 4, 2) := by decide +kernel
theorem dX15_isSound_57 : decode cX15_isSound 57 = .ok (.iload 4, 2) := by decide +kernel
theorem dX15_isSound_59 : decode cX15_isSound 59 = .ok (.iload_n 3, 1) := by decide +kernel
theorem dX15_isSound_60 : decode cX15_isSound 60 = .ok (.if_icmp .ge 24, 3) := by decide +kernel
theorem dX15_isSound_63 : decode cX15_isSound 63 = .ok (.aload_n 2, 1) := by decide +kernel
theorem dX15_isSound_64 : decode cX15_isSound 64 = .ok (.iload 4, 2) := by decide +kernel
theorem dX15_isSound_66 : decode cX15_isSound 66 = .ok (.aaload, 1) := by decide +kernel
theorem dX15_isSound_67 : decode cX15_isSound 67 = .ok (.astore 5, 2) := by decide +kernel
theorem dX15_isSound_69 : decode cX15_isSound 69 = .ok (.iload_n 1, 1) := by decide +kernel
theorem dX15_isSound_70 : decode cX15_isSound 70 = .ok (.aload_n 0, 1) := by decide +kernel
theorem dX15_isSound_71 : decode cX15_isSound 71 = .ok (.aload 5, 2) := by decide +kernel
theorem dX15_isSound_73 : decode cX15_isSound 73 = .ok (.invokevirtual 364, 3) := by decide +kernel
theorem dX15_isSound_76 : decode cX15_isSound 76 = .ok (.iand, 1) := by decide +kernel
theorem dX15_isSound_77 : decode cX15_isSound 77 = .ok (.istore_n 1, 1) := by decide +kernel
theorem dX15_isSound_78 : decode cX15_isSound 78 = .ok (.iinc 4 1, 3) := by decide +kernel
theorem dX15_isSound_81 : decode cX15_isSound 81 = .ok (.goto (-24), 3) := by decide +kernel
theorem dX15_isSound_84 : decode cX15_isSound 84 = .ok (.aload_n 0, 1) := by decide +kernel
theorem dX15_isSound_85 : decode cX15_isSound 85 = .ok (.getfield 28, 3) := by decide +kernel
theorem dX15_isSound_88 : decode cX15_isSound 88 = .ok (.invokevirtual 183, 3) := by decide +kernel
theorem dX15_isSound_91 : decode cX15_isSound 91 = .ok (.astore_n 2, 1) := by decide +kernel
theorem dX15_isSound_92 : decode cX15_isSound 92 = .ok (.aload_n 2, 1) := by decide +kernel
theorem dX15_isSound_93 : decode cX15_isSound 93 = .ok (.invokeinterface 187 1, 5) := by decide +kernel
theorem dX15_isSound_98 : decode cX15_isSound 98 = .ok (.ifCond .eq 59, 3) := by decide +kernel
theorem dX15_isSound_101 : decode cX15_isSound 101 = .ok (.aload_n 2, 1) := by decide +kernel
theorem dX15_isSound_102 : decode cX15_isSound 102 = .ok (.invokeinterface 192 1, 5) := by decide +kernel
theorem dX15_isSound_107 : decode cX15_isSound 107 = .ok (.checkcast 213, 3) := by decide +kernel
theorem dX15_isSound_110 : decode cX15_isSound 110 = .ok (.astore_n 3, 1) := by decide +kernel
theorem dX15_isSound_111 : decode cX15_isSound 111 = .ok (.aload_n 3, 1) := by decide +kernel
theorem dX15_isSound_112 : decode cX15_isSound 112 = .ok (.getfield 240, 3) := by decide +kernel
theorem dX15_isSound_115 : decode cX15_isSound 115 = .ok (.astore 4, 2) := by decide +kernel
theorem dX15_isSound_117 : decode cX15_isSound 117 = .ok (.aload 4, 2) := by decide +kernel
theorem dX15_isSound_119 : decode cX15_isSound 119 = .ok (.arraylength, 1) := by decide +kernel
theorem dX15_isSound_120 : decode cX15_isSound 120 = .ok (.istore 5, 2) := by decide +kernel
theorem dX15_isSound_122 : decode cX15_isSound 122 = .ok (.iconst 0, 1) := by decide +kernel
theorem dX15_isSound_123 : decode cX15_isSound 123 = .ok (.istore 6, 2) := by decide +kernel
theorem dX15_isSound_125 : decode cX15_isSound 125 = .ok (.iload 6, 2) := by decide +kernel
theorem dX15_isSound_127 : decode cX15_isSound 127 = .ok (.iload 5, 2) := by decide +kernel
theorem dX15_isSound_129 : decode cX15_isSound 129 = .ok (.if_icmp .ge 25, 3) := by decide +kernel
theorem dX15_isSound_132 : decode cX15_isSound 132 = .ok (.aload 4, 2) := by decide +kernel
theorem dX15_isSound_134 : decode cX15_isSound 134 = .ok (.iload 6, 2) := by decide +kernel
theorem dX15_isSound_136 : decode cX15_isSound 136 = .ok (.aaload, 1) := by decide +kernel
theorem dX15_isSound_137 : decode cX15_isSound 137 = .ok (.astore 7, 2) := by decide +kernel
theorem dX15_isSound_139 : decode cX15_isSound 139 = .ok (.iload_n 1, 1) := by decide +kernel
theorem dX15_isSound_140 : decode cX15_isSound 140 = .ok (.aload_n 0, 1) := by decide +kernel
theorem dX15_isSound_141 : decode cX15_isSound 141 = .ok (.aload 7, 2) := by decide +kernel
theorem dX15_isSound_143 : decode cX15_isSound 143 = .ok (.invokevirtual 364, 3) := by decide +kernel
theorem dX15_isSound_146 : decode cX15_isSound 146 = .ok (.iand, 1) := by decide +kernel
theorem dX15_isSound_147 : decode cX15_isSound 147 = .ok (.istore_n 1, 1) := by decide +kernel
theorem dX15_isSound_148 : decode cX15_isSound 148 = .ok (.iinc 6 1, 3) := by decide +kernel
theorem dX15_isSound_151 : decode cX15_isSound 151 = .ok (.goto (-26), 3) := by decide +kernel
theorem dX15_isSound_154 : decode cX15_isSound 154 = .ok (.goto (-62), 3) := by decide +kernel
theorem dX15_isSound_157 : decode cX15_isSound 157 = .ok (.aload_n 0, 1) := by decide +kernel
theorem dX15_isSound_158 : decode cX15_isSound 158 = .ok (.getfield 31, 3) := by decide +kernel
theorem dX15_isSound_161 : decode cX15_isSound 161 = .ok (.invokevirtual 183, 3) := by decide +kernel
theorem dX15_isSound_164 : decode cX15_isSound 164 = .ok (.astore_n 2, 1) := by decide +kernel
theorem dX15_isSound_165 : decode cX15_isSound 165 = .ok (.aload_n 2, 1) := by decide +kernel
theorem dX15_isSound_166 : decode cX15_isSound 166 = .ok (.invokeinterface 187 1, 5) := by decide +kernel
theorem dX15_isSound_171 : decode cX15_isSound 171 = .ok (.ifCond .eq 156, 3) := by decide +kernel
theorem dX15_isSound_174 : decode cX15_isSound 174 = .ok (.aload_n 2, 1) := by decide +kernel
theorem dX15_isSound_175 : decode cX15_isSound 175 = .ok (.invokeinterface 192 1, 5) := by decide +kernel
theorem dX15_isSound_180 : decode cX15_isSound 180 = .ok (.checkcast 252, 3) := by decide +kernel
theorem dX15_isSound_183 : decode cX15_isSound 183 = .ok (.astore_n 3, 1) := by decide +kernel
theorem dX15_isSound_184 : decode cX15_isSound 184 = .ok (.iload_n 1, 1) := by decide +kernel
theorem dX15_isSound_185 : decode cX15_isSound 185 = .ok (.aload_n 0, 1) := by decide +kernel
theorem dX15_isSound_186 : decode cX15_isSound 186 = .ok (.aload_n 3, 1) := by decide +kernel
theorem dX15_isSound_187 : decode cX15_isSound 187 = .ok (.getfield 254, 3) := by decide +kernel
theorem dX15_isSound_190 : decode cX15_isSound 190 = .ok (.invokevirtual 364, 3) := by decide +kernel
theorem dX15_isSound_193 : decode cX15_isSound 193 = .ok (.iand, 1) := by decide +kernel
theorem dX15_isSound_194 : decode cX15_isSound 194 = .ok (.istore_n 1, 1) := by decide +kernel
theorem dX15_isSound_195 : decode cX15_isSound 195 = .ok (.aload_n 3, 1) := by decide +kernel
theorem dX15_isSound_196 : decode cX15_isSound 196 = .ok (.getfield 257, 3) := by decide +kernel
theorem dX15_isSound_199 : decode cX15_isSound 199 = .ok (.astore 4, 2) := by decide +kernel
theorem dX15_isSound_201 : decode cX15_isSound 201 = .ok (.aload 4, 2) := by decide +kernel
theorem dX15_isSound_203 : decode cX15_isSound 203 = .ok (.arraylength, 1) := by decide +kernel
theorem dX15_isSound_204 : decode cX15_isSound 204 = .ok (.istore 5, 2) := by decide +kernel
theorem dX15_isSound_206 : decode cX15_isSound 206 = .ok (.iconst 0, 1) := by decide +kernel
theorem dX15_isSound_207 : decode cX15_isSound 207 = .ok (.istore 6, 2) := by decide +kernel
theorem dX15_isSound_209 : decode cX15_isSound 209 = .ok (.iload 6, 2) := by decide +kernel
theorem dX15_isSound_211 : decode cX15_isSound 211 = .ok (.iload 5, 2) := by decide +kernel
theorem dX15_isSound_213 : decode cX15_isSound 213 = .ok (.if_icmp .ge 25, 3) := by decide +kernel
theorem dX15_isSound_216 : decode cX15_isSound 216 = .ok (.aload 4, 2) := by decide +kernel
theorem dX15_isSound_218 : decode cX15_isSound 218 = .ok (.iload 6, 2) := by decide +kernel
theorem dX15_isSound_220 : decode cX15_isSound 220 = .ok (.aaload, 1) := by decide +kernel
theorem dX15_isSound_221 : decode cX15_isSound 221 = .ok (.astore 7, 2) := by decide +kernel
theorem dX15_isSound_223 : decode cX15_isSound 223 = .ok (.iload_n 1, 1) := by decide +kernel
theorem dX15_isSound_224 : decode cX15_isSound 224 = .ok (.aload_n 0, 1) := by decide +kernel
theorem dX15_isSound_225 : decode cX15_isSound 225 = .ok (.aload 7, 2) := by decide +kernel
theorem dX15_isSound_227 : decode cX15_isSound 227 = .ok (.invokevirtual 364, 3) := by decide +kernel
theorem dX15_isSound_230 : decode cX15_isSound 230 = .ok (.iand, 1) := by decide +kernel
theorem dX15_isSound_231 : decode cX15_isSound 231 = .ok (.istore_n 1, 1) := by decide +kernel
theorem dX15_isSound_232 : decode cX15_isSound 232 = .ok (.iinc 6 1, 3) := by decide +kernel
theorem dX15_isSound_235 : decode cX15_isSound 235 = .ok (.goto (-26), 3) := by decide +kernel
theorem dX15_isSound_238 : decode cX15_isSound 238 = .ok (.aload_n 3, 1) := by decide +kernel
theorem dX15_isSound_239 : decode cX15_isSound 239 = .ok (.getfield 259, 3) := by decide +kernel
theorem dX15_isSound_242 : decode cX15_isSound 242 = .ok (.astore 4, 2) := by decide +kernel
theorem dX15_isSound_244 : decode cX15_isSound 244 = .ok (.aload 4, 2) := by decide +kernel
theorem dX15_isSound_246 : decode cX15_isSound 246 = .ok (.arraylength, 1) := by decide +kernel
theorem dX15_isSound_247 : decode cX15_isSound 247 = .ok (.istore 5, 2) := by decide +kernel
theorem dX15_isSound_249 : decode cX15_isSound 249 = .ok (.iconst 0, 1) := by decide +kernel
theorem dX15_isSound_250 : decode cX15_isSound 250 = .ok (.istore 6, 2) := by decide +kernel
theorem dX15_isSound_252 : decode cX15_isSound 252 = .ok (.iload 6, 2) := by decide +kernel
theorem dX15_isSound_254 : decode cX15_isSound 254 = .ok (.iload 5, 2) := by decide +kernel
theorem dX15_isSound_256 : decode cX15_isSound 256 = .ok (.if_icmp .ge 25, 3) := by decide +kernel
theorem dX15_isSound_259 : decode cX15_isSound 259 = .ok (.aload 4, 2) := by decide +kernel
theorem dX15_isSound_261 : decode cX15_isSound 261 = .ok (.iload 6, 2) := by decide +kernel
theorem dX15_isSound_263 : decode cX15_isSound 263 = .ok (.aaload, 1) := by decide +kernel
theorem dX15_isSound_264 : decode cX15_isSound 264 = .ok (.astore 7, 2) := by decide +kernel
theorem dX15_isSound_266 : decode cX15_isSound 266 = .ok (.iload_n 1, 1) := by decide +kernel
theorem dX15_isSound_267 : decode cX15_isSound 267 = .ok (.aload_n 0, 1) := by decide +kernel
theorem dX15_isSound_268 : decode cX15_isSound 268 = .ok (.aload 7, 2) := by decide +kernel
theorem dX15_isSound_270 : decode cX15_isSound 270 = .ok (.invokevirtual 364, 3) := by decide +kernel
theorem dX15_isSound_273 : decode cX15_isSound 273 = .ok (.iand, 1) := by decide +kernel
theorem dX15_isSound_274 : decode cX15_isSound 274 = .ok (.istore_n 1, 1) := by decide +kernel
theorem dX15_isSound_275 : decode cX15_isSound 275 = .ok (.iinc 6 1, 3) := by decide +kernel
theorem dX15_isSound_278 : decode cX15_isSound 278 = .ok (.goto (-26), 3) := by decide +kernel
theorem dX15_isSound_281 : decode cX15_isSound 281 = .ok (.aload_n 3, 1) := by decide +kernel
theorem dX15_isSound_282 : decode cX15_isSound 282 = .ok (.getfield 261, 3) := by decide +kernel
theorem dX15_isSound_285 : decode cX15_isSound 285 = .ok (.invokevirtual 183, 3) := by decide +kernel
theorem dX15_isSound_288 : decode cX15_isSound 288 = .ok (.astore 4, 2) := by decide +kernel
theorem dX15_isSound_290 : decode cX15_isSound 290 = .ok (.aload 4, 2) := by decide +kernel
theorem dX15_isSound_292 : decode cX15_isSound 292 = .ok (.invokeinterface 187 1, 5) := by decide +kernel
theorem dX15_isSound_297 : decode cX15_isSound 297 = .ok (.ifCond .eq 27, 3) := by decide +kernel
theorem dX15_isSound_300 : decode cX15_isSound 300 = .ok (.aload 4, 2) := by decide +kernel
theorem dX15_isSound_302 : decode cX15_isSound 302 = .ok (.invokeinterface 192 1, 5) := by decide +kernel
theorem dX15_isSound_307 : decode cX15_isSound 307 = .ok (.checkcast 7, 3) := by decide +kernel
theorem dX15_isSound_310 : decode cX15_isSound 310 = .ok (.astore 5, 2) := by decide +kernel
theorem dX15_isSound_312 : decode cX15_isSound 312 = .ok (.iload_n 1, 1) := by decide +kernel
theorem dX15_isSound_313 : decode cX15_isSound 313 = .ok (.aload_n 0, 1) := by decide +kernel
theorem dX15_isSound_314 : decode cX15_isSound 314 = .ok (.aload 5, 2) := by decide +kernel
theorem dX15_isSound_316 : decode cX15_isSound 316 = .ok (.invokevirtual 364, 3) := by decide +kernel
theorem dX15_isSound_319 : decode cX15_isSound 319 = .ok (.iand, 1) := by decide +kernel
theorem dX15_isSound_320 : decode cX15_isSound 320 = .ok (.istore_n 1, 1) := by decide +kernel
theorem dX15_isSound_321 : decode cX15_isSound 321 = .ok (.goto (-31), 3) := by decide +kernel
theorem dX15_isSound_324 : decode cX15_isSound 324 = .ok (.goto (-159), 3) := by decide +kernel
theorem dX15_isSound_327 : decode cX15_isSound 327 = .ok (.iload_n 1, 1) := by decide +kernel
theorem dX15_isSound_328 : decode cX15_isSound 328 = .ok (.ifCond .eq 48, 3) := by decide +kernel
theorem dX15_isSound_331 : decode cX15_isSound 331 = .ok (.aload_n 0, 1) := by decide +kernel
theorem dX15_isSound_332 : decode cX15_isSound 332 = .ok (.getfield 31, 3) := by decide +kernel
theorem dX15_isSound_335 : decode cX15_isSound 335 = .ok (.invokevirtual 155, 3) := by decide +kernel
theorem dX15_isSound_338 : decode cX15_isSound 338 = .ok (.ifCond .ne 34, 3) := by decide +kernel
theorem dX15_isSound_341 : decode cX15_isSound 341 = .ok (.aload_n 0, 1) := by decide +kernel
theorem dX15_isSound_342 : decode cX15_isSound 342 = .ok (.invokevirtual 277, 3) := by decide +kernel
theorem dX15_isSound_345 : decode cX15_isSound 345 = .ok (.getfield 261, 3) := by decide +kernel
theorem dX15_isSound_348 : decode cX15_isSound 348 = .ok (.invokevirtual 58, 3) := by decide +kernel
theorem dX15_isSound_351 : decode cX15_isSound 351 = .ok (.aload_n 0, 1) := by decide +kernel
theorem dX15_isSound_352 : decode cX15_isSound 352 = .ok (.invokevirtual 277, 3) := by decide +kernel
theorem dX15_isSound_355 : decode cX15_isSound 355 = .ok (.getfield 294, 3) := by decide +kernel
theorem dX15_isSound_358 : decode cX15_isSound 358 = .ok (.getfield 125, 3) := by decide +kernel
theorem dX15_isSound_361 : decode cX15_isSound 361 = .ok (.aload_n 0, 1) := by decide +kernel
theorem dX15_isSound_362 : decode cX15_isSound 362 = .ok (.invokevirtual 277, 3) := by decide +kernel
theorem dX15_isSound_365 : decode cX15_isSound 365 = .ok (.getfield 291, 3) := by decide +kernel
theorem dX15_isSound_368 : decode cX15_isSound 368 = .ok (.iaload, 1) := by decide +kernel
theorem dX15_isSound_369 : decode cX15_isSound 369 = .ok (.if_icmp .ne 7, 3) := by decide +kernel
theorem dX15_isSound_372 : decode cX15_isSound 372 = .ok (.iconst 1, 1) := by decide +kernel
theorem dX15_isSound_373 : decode cX15_isSound 373 = .ok (.goto 4, 3) := by decide +kernel
theorem dX15_isSound_376 : decode cX15_isSound 376 = .ok (.iconst 0, 1) := by decide +kernel
theorem dX15_isSound_377 : decode cX15_isSound 377 = .ok (.ireturn, 1) := by decide +kernel
section SITES
variable {p : Program} {l : Launch} {e : Env} {R : Room} {s : State} {m : MethodId} {args : Array Value} {below : List Frame} {meth : Method} {c : Code} {H : Heap} {locs : List Loc} {cells slots : Nat} {Q : State → Prop}
variable {pc : Nat} {ls : Array Slot} {rest : List Value} {D : va_G} {ar : Nat → ClassId} {κ : Nat → Nat} {A : Nat → Prop} {a : Nat} {H0 : Heap} {G : gW} {nz nL : Nat} {cc : ByteArray}
theorem m_8_65 : (Cond.methodLink RX13 3 objectInit) ∈ lwA := lwA_mk (ck_8 _ (List.mem_of_getElem? (i := 65) rfl)) rfl
theorem m_8_66 : (Cond.classLink RX13 9 "SendhouseModel$Value") ∈ lwA := lwA_mk (ck_8 _ (List.mem_of_getElem? (i := 66) rfl)) rfl
theorem inA_RX13 : ∀ w ∈ u_ws RX13 TX13 4, w ∈ lwA := gA_r _ [1823, 1825, 1827, 1829] (by decide +kernel) (by decide +kernel)
theorem m_8_71 : (Cond.fieldLink RX13 11 "SendhouseModel$Thing" "fields" "[LSendhouseModel$Value;") ∈ lwA := lwA_mk (ck_8 _ (List.mem_of_getElem? (i := 71) rfl)) rfl
theorem pf_RX13_11_17 {A9 : Nat → Prop} {H9 : Heap} {fs : List Value} {v : Value} (S : CallFix p m c cc nL s args lwA RX13) (hE : g_E D vwCl (gT ar) (EX1 κ) A9 s H9) (hin : meth.name = "<init>") (w : g_S D vwCl A H0 G H locs nz) (ha : G a = some (.inr (17, fs))) (hn : narrow (.array (.object "SendhouseModel$Value")) v = v) (hfit : fits (.array (.object "SendhouseModel$Value")) v = true) (hl : 2 < fs.length) {fs1 : List Value} (hfs : fs.set 2 v = fs1) (hdg : decode cc pc = .ok (.putfield 11, 3)) (kk : ∀ (H1 : Heap) (locs1 : List Loc), g_S D vwCl A H0 (g_up G a (.inr (17, fs1))) H1 locs1 nz → W p l e R s m args below meth c H1 locs1 cells slots Q (F0 m (pc + 3) ls rest)) : W p l e R s m args below meth c H locs cells slots Q (F0 m pc ls (v :: .ref a :: rest)) :=
  g_putF (ci := 17) (ty := (.array (.object "SendhouseModel$Value"))) (C := RX13) (T := TX13) (N := 4) S.1 S.2.1 S.2.2.2.2 inA_RX13 tyX13 tyX13_ok nmX13 S.2.2.2.1 hE.1 w ha rfl 2 (by decide) (S.2.2.2.2 _ m_8_71) (fun _ h => h) rfl hin rfl (by decide +kernel) hn hfit hl hdg (fun H1 l1 w1 => kk H1 l1 (by rw [← hfs]; exact w1))
theorem m_8_67 : (Cond.fieldLink RX13 17 "SendhouseModel$Thing" "number" "I") ∈ lwA := lwA_mk (ck_8 _ (List.mem_of_getElem? (i := 67) rfl)) rfl
theorem pf_RX13_17_17 {A9 : Nat → Prop} {H9 : Heap} {fs : List Value} {v : Value} (S : CallFix p m c cc nL s args lwA RX13) (hE : g_E D vwCl (gT ar) (EX1 κ) A9 s H9) (hin : meth.name = "<init>") (w : g_S D vwCl A H0 G H locs nz) (ha : G a = some (.inr (17, fs))) (hn : narrow .int v = v) (hfit : fits .int v = true) (hl : 0 < fs.length) {fs1 : List Value} (hfs : fs.set 0 v = fs1) (hdg : decode cc pc = .ok (.putfield 17, 3)) (kk : ∀ (H1 : Heap) (locs1 : List Loc), g_S D vwCl A H0 (g_up G a (.inr (17, fs1))) H1 locs1 nz → W p l e R s m args below meth c H1 locs1 cells slots Q (F0 m (pc + 3) ls rest)) : W p l e R s m args below meth c H locs cells slots Q (F0 m pc ls (v :: .ref a :: rest)) :=
  g_putF (ci := 17) (ty := .int) (C := RX13) (T := TX13) (N := 4) S.1 S.2.1 S.2.2.2.2 inA_RX13 tyX13 tyX13_ok nmX13 S.2.2.2.1 hE.1 w ha rfl 0 (by decide) (S.2.2.2.2 _ m_8_67) (fun _ h => h) rfl hin rfl (by decide +kernel) hn hfit hl hdg (fun H1 l1 w1 => kk H1 l1 (by rw [← hfs]; exact w1))
theorem m_8_69 : (Cond.fieldLink RX13 21 "SendhouseModel$Thing" "cls" "I") ∈ lwA := lwA_mk (ck_8 _ (List.mem_of_getElem? (i := 69) rfl)) rfl
theorem pf_RX13_21_17 {A9 : Nat → Prop} {H9 : Heap} {fs : List Value} {v : Value} (S : CallFix p m c cc nL s args lwA RX13) (hE : g_E D vwCl (gT ar) (EX1 κ) A9 s H9) (hin : meth.name = "<init>") (w : g_S D vwCl A H0 G H locs nz) (ha : G a = some (.inr (17, fs))) (hn : narrow .int v = v) (hfit : fits .int v = true) (hl : 1 < fs.length) {fs1 : List Value} (hfs : fs.set 1 v = fs1) (hdg : decode cc pc = .ok (.putfield 21, 3)) (kk : ∀ (H1 : Heap) (locs1 : List Loc), g_S D vwCl A H0 (g_up G a (.inr (17, fs1))) H1 locs1 nz → W p l e R s m args below meth c H1 locs1 cells slots Q (F0 m (pc + 3) ls rest)) : W p l e R s m args below meth c H locs cells slots Q (F0 m pc ls (v :: .ref a :: rest)) :=
  g_putF (ci := 17) (ty := .int) (C := RX13) (T := TX13) (N := 4) S.1 S.2.1 S.2.2.2.2 inA_RX13 tyX13 tyX13_ok nmX13 S.2.2.2.1 hE.1 w ha rfl 1 (by decide) (S.2.2.2.2 _ m_8_69) (fun _ h => h) rfl hin rfl (by decide +kernel) hn hfit hl hdg (fun H1 l1 w1 => kk H1 l1 (by rw [← hfs]; exact w1))
theorem gf_RX13_11_17 {A9 : Nat → Prop} {H9 : Heap} {fs : List Value} {v : Value} (S : CallFix p m c cc nL s args lwA RX13) (hE : g_E D vwCl (gT ar) (EX1 κ) A9 s H9) (w : g_S D vwCl A H0 G H locs nz) (ha : G a = some (.inr (17, fs))) (hv : fs[2]? = some v) (hdg : decode cc pc = .ok (.getfield 11, 3)) (kk : W p l e R s m args below meth c H locs cells slots Q (F0 m (pc + 3) ls (v :: rest))) : W p l e R s m args below meth c H locs cells slots Q (F0 m pc ls (.ref a :: rest)) :=
  va_get (ci := 17) (C := RX13) (T := TX13) (N := 4) S.1 S.2.1 S.2.2.2.2 inA_RX13 S.2.2.2.1 hE.1 (g_1 w.1 ha) 0 rfl rfl 2 (by decide) (S.2.2.2.2 _ m_8_71) (fun _ h => h) hv hdg kk
theorem m_8_60 : (Cond.classLink RX15 213 RX13) ∈ lwA := lwA_mk (ck_8 _ (List.mem_of_getElem? (i := 60) rfl)) rfl
theorem m_8_61 : (Cond.instantiable RX13 4) ∈ lwA := lwA_mk (ck_8 _ (List.mem_of_getElem? (i := 61) rfl)) rfl
theorem m_1_37 : (Cond.initialized RX13) ∈ lwA := lwA_mk (ck_1 _ (List.mem_of_getElem? (i := 37) rfl)) rfl
theorem nw_RX15_213 {A9 : Nat → Prop} {H9 : Heap} (S : CallFix p m c cc nL s args lwA RX15) (hE : g_E D vwCl (gT ar) (EX1 κ) A9 s H9) (w : g_S D vwCl A H0 G H locs nz) (hcells : cells + 1 ≤ R.cells) (hslots : slots + 4 ≤ R.slots) (hdg : decode cc pc = .ok (.new 213, 3)) (kk : ∀ (H1 : Heap), g_S D vwCl A H0 (g_up G nz (.inr (17, [.int 0, .int 0, .null, .int 0]))) H1 locs (nz + 1) → W p l e R s m args below meth c H1 locs (cells + 1) (slots + 4) Q (F0 m (pc + 3) ls (.ref nz :: rest))) : W p l e R s m args below meth c H locs cells slots Q (F0 m pc ls rest) :=
  g_new (ci := 17) (fs := [.int 0, .int 0, .null, .int 0]) (C := RX13) (T := TX13) (N := 4) S.1 S.2.1 S.2.2.2.2 inA_RX13 tyX13 tyX13_ok S.2.2.2.1 (S.2.2.2.2 _ m_8_60) (S.2.2.2.2 _ m_8_61) (S.2.2.2.2 _ m_1_37) hE.1 w rfl (fun j hj => by rcases (show j = 0 ∨ j = 1 ∨ j = 2 ∨ j = 3 by omega) with rfl | rfl | rfl | rfl <;> rfl) hcells hslots hdg kk
theorem m_6_154 : (Cond.fieldLink RX15 215 "SendhouseModel" "made" "I") ∈ lwA := lwA_mk (ck_6 _ (List.mem_of_getElem? (i := 154) rfl)) rfl
theorem gf_RX15_215_19 {A9 : Nat → Prop} {H9 : Heap} {fs : List Value} {v : Value} (S : CallFix p m c cc nL s args lwA RX15) (hE : g_E D vwCl (gT ar) (EX1 κ) A9 s H9) (w : g_S D vwCl A H0 G H locs nz) (ha : G a = some (.inr (19, fs))) (hv : fs[9]? = some v) (hdg : decode cc pc = .ok (.getfield 215, 3)) (kk : W p l e R s m args below meth c H locs cells slots Q (F0 m (pc + 3) ls (v :: rest))) : W p l e R s m args below meth c H locs cells slots Q (F0 m pc ls (.ref a :: rest)) :=
  va_get (ci := 19) (C := RX15) (T := TX15) (N := 14) S.1 S.2.1 S.2.2.2.2 inA_RX15 S.2.2.2.1 hE.1 (g_1 w.1 ha) 0 rfl rfl 9 (by decide) (S.2.2.2.2 _ m_6_154) (fun _ h => h) hv hdg kk
theorem m_8_64 : (Cond.code yX13_init cX13_init 5 none) ∈ lwA := lwA_mk (ck_8 _ (List.mem_of_getElem? (i := 64) rfl)) rfl
theorem m_8_62 : (Cond.methodLink RX15 218 yX13_init) ∈ lwA := lwA_mk (ck_8 _ (List.mem_of_getElem? (i := 62) rfl)) rfl
theorem m_8_63 : (Cond.instanceMethod yX13_init) ∈ lwA := lwA_mk (ck_8 _ (List.mem_of_getElem? (i := 63) rfl)) rfl
theorem k_RX15_218 {args : Array Value} {s : State} {R rm : Room} (hts : ∀ w ∈ lwA, w.before args s = true) (hR : rm.frames + 1 ≤ R.frames ∧ 8 + (5 + 11) + rm.locals ≤ R.locals) : CallB R s args RX15 218 yX13_init cX13_init 5 none (lwC yX13_init cX13_init 5 none) rm rm.cells rm.slots 3 ∧ yX13_init.name = "<init>" ∧ (Cond.instanceMethod yX13_init).before args s = true := cwI 3 hts (gd m_8_64) rfl rfl rfl (hts _ m_1_37) (hts _ m_8_62) (hts _ m_8_63) rfl (by decide +kernel) hR
theorem pf_RX15_215_19 {A9 : Nat → Prop} {H9 : Heap} {fs : List Value} {v : Value} (S : CallFix p m c cc nL s args lwA RX15) (hE : g_E D vwCl (gT ar) (EX1 κ) A9 s H9) (w : g_S D vwCl A H0 G H locs nz) (ha : G a = some (.inr (19, fs))) (hn : narrow .int v = v) (hfit : fits .int v = true) (hl : 9 < fs.length) {fs1 : List Value} (hfs : fs.set 9 v = fs1) (hdg : decode cc pc = .ok (.putfield 215, 3)) (kk : ∀ (H1 : Heap) (locs1 : List Loc), g_S D vwCl A H0 (g_up G a (.inr (19, fs1))) H1 locs1 nz → W p l e R s m args below meth c H1 locs1 cells slots Q (F0 m (pc + 3) ls rest)) : W p l e R s m args below meth c H locs cells slots Q (F0 m pc ls (v :: .ref a :: rest)) :=
  g_put (ci := 19) (ty := .int) (C := RX15) (T := TX15) (N := 14) S.1 S.2.1 S.2.2.2.2 inA_RX15 tyX15 tyX15_ok nmX15 S.2.2.2.1 hE.1 w ha rfl 9 (by decide) (S.2.2.2.2 _ m_6_154) (fun _ h => h) rfl (by decide +kernel) hn hfit hl hdg (fun H1 l1 w1 => kk H1 l1 (by rw [← hfs]; exact w1))
theorem m_8_59 : (Cond.code yX15_makes cX15_makes 2 (some (.object "SendhouseModel$Value"))) ∈ lwA := lwA_mk (ck_8 _ (List.mem_of_getElem? (i := 59) rfl)) rfl
theorem m_8_56 : (Cond.methodLink RX15 221 yX15_makes) ∈ lwA := lwA_mk (ck_8 _ (List.mem_of_getElem? (i := 56) rfl)) rfl
theorem m_8_58 : (Cond.instanceMethod yX15_makes) ∈ lwA := lwA_mk (ck_8 _ (List.mem_of_getElem? (i := 58) rfl)) rfl
theorem ms_50 : (Cond.selects RX15 yX15_makes yX15_makes) ∈ lwA := lwA_mk (List.mem_append_left _ (List.mem_of_getElem? (i := 50) rfl)) rfl
theorem k_RX15_221 {args : Array Value} {s : State} {R rm : Room} (hts : ∀ w ∈ lwA, w.before args s = true) (hR : rm.frames + 1 ≤ R.frames ∧ 8 + (2 + 11) + rm.locals ≤ R.locals) : CallW R s args RX15 RX15 221 yX15_makes cX15_makes 2 (some (.object "SendhouseModel$Value")) (lwC yX15_makes cX15_makes 2 (some (.object "SendhouseModel$Value"))) rm rm.cells rm.slots 1 := cwV 1 hts (gdV m_8_56 m_8_58 ms_50 m_1_12 m_8_59) rfl rfl rfl (by decide +kernel) hR
theorem m_7_104 : (Cond.methodLink RX11 3 objectInit) ∈ lwA := lwA_mk (ck_7 _ (List.mem_of_getElem? (i := 104) rfl)) rfl
theorem m_7_105 : (Cond.classLink RX11 9 RJx4a65c) ∈ lwA := lwA_mk (ck_7 _ (List.mem_of_getElem? (i := 105) rfl)) rfl
theorem nw_RX11_9 {A9 : Nat → Prop} {H9 : Heap} (S : CallFix p m c cc nL s args lwA RX11) (hE : g_E D vwCl (gT ar) (EX1 κ) A9 s H9) (w : g_S D vwCl A H0 G H locs nz) (hcells : cells + 1 ≤ R.cells) (hslots : slots + 3 ≤ R.slots) (hdg : decode cc pc = .ok (.new 9, 3)) (kk : ∀ (H1 : Heap), g_S D vwCl A H0 (g_up G nz (.inr (3, [.int 0, .null, .int 0]))) H1 locs (nz + 1) → W p l e R s m args below meth c H1 locs (cells + 1) (slots + 3) Q (F0 m (pc + 3) ls (.ref nz :: rest))) : W p l e R s m args below meth c H locs cells slots Q (F0 m pc ls rest) :=
  g_new (ci := 3) (fs := [.int 0, .null, .int 0]) (C := RJx4a65c) (T := TJx4a65c) (N := 3) S.1 S.2.1 S.2.2.2.2 inA_RJx4a65c tyJx4a65c tyJx4a65c_ok S.2.2.2.1 (S.2.2.2.2 _ m_7_105) (S.2.2.2.2 _ m_1_166) (S.2.2.2.2 _ m_1_9) hE.1 w rfl (fun j hj => by rcases (show j = 0 ∨ j = 1 ∨ j = 2 by omega) with rfl | rfl | rfl <;> rfl) hcells hslots hdg kk
theorem m_7_106 : (Cond.methodLink RX11 11 yJx4a65c_init_da8c8) ∈ lwA := lwA_mk (ck_7 _ (List.mem_of_getElem? (i := 106) rfl)) rfl
theorem k_RX11_11 {args : Array Value} {s : State} {R rm : Room} (hts : ∀ w ∈ lwA, w.before args s = true) (hR : rm.frames + 1 ≤ R.frames ∧ 8 + (1 + 11) + rm.locals ≤ R.locals) : CallB R s args RX11 11 yJx4a65c_init_da8c8 cJx4a65c_init_da8c8 1 none (lwC yJx4a65c_init_da8c8 cJx4a65c_init_da8c8 1 none) rm rm.cells rm.slots 0 ∧ yJx4a65c_init_da8c8.name = "<init>" ∧ (Cond.instanceMethod yJx4a65c_init_da8c8).before args s = true := cwI 0 hts (gd m_1_169) rfl rfl rfl (hts _ m_1_9) (hts _ m_7_106) (hts _ m_1_168) rfl (by decide +kernel) hR
theorem inA_RX11 : ∀ w ∈ u_ws RX11 TX11 8, w ∈ lwA := gA_r _ [1632, 1634, 1636, 1638, 1640, 1642, 1644, 1646] (by decide +kernel) (by decide +kernel)
theorem m_7_116 : (Cond.fieldLink RX11 12 "SendhouseModel$Method" "rows" "Ljava/util/ArrayList;") ∈ lwA := lwA_mk (ck_7 _ (List.mem_of_getElem? (i := 116) rfl)) rfl
theorem pf_RX11_12_15 {A9 : Nat → Prop} {H9 : Heap} {fs : List Value} {v : Value} (S : CallFix p m c cc nL s args lwA RX11) (hE : g_E D vwCl (gT ar) (EX1 κ) A9 s H9) (hin : meth.name = "<init>") (w : g_S D vwCl A H0 G H locs nz) (ha : G a = some (.inr (15, fs))) (hn : narrow (.object "java/util/ArrayList") v = v) (hfit : fits (.object "java/util/ArrayList") v = true) (hl : 4 < fs.length) {fs1 : List Value} (hfs : fs.set 4 v = fs1) (hdg : decode cc pc = .ok (.putfield 12, 3)) (kk : ∀ (H1 : Heap) (locs1 : List Loc), g_S D vwCl A H0 (g_up G a (.inr (15, fs1))) H1 locs1 nz → W p l e R s m args below meth c H1 locs1 cells slots Q (F0 m (pc + 3) ls rest)) : W p l e R s m args below meth c H locs cells slots Q (F0 m pc ls (v :: .ref a :: rest)) :=
  g_putF (ci := 15) (ty := (.object "java/util/ArrayList")) (C := RX11) (T := TX11) (N := 8) S.1 S.2.1 S.2.2.2.2 inA_RX11 tyX11 tyX11_ok nmX11 S.2.2.2.1 hE.1 w ha rfl 4 (by decide) (S.2.2.2.2 _ m_7_116) (fun _ h => h) rfl hin rfl (by decide +kernel) hn hfit hl hdg (fun H1 l1 w1 => kk H1 l1 (by rw [← hfs]; exact w1))
theorem m_7_119 : (Cond.fieldLink RX11 18 "SendhouseModel$Method" "heights" "[I") ∈ lwA := lwA_mk (ck_7 _ (List.mem_of_getElem? (i := 119) rfl)) rfl
theorem pf_RX11_18_15 {A9 : Nat → Prop} {H9 : Heap} {fs : List Value} {v : Value} (S : CallFix p m c cc nL s args lwA RX11) (hE : g_E D vwCl (gT ar) (EX1 κ) A9 s H9) (hin : meth.name = "<init>") (w : g_S D vwCl A H0 G H locs nz) (ha : G a = some (.inr (15, fs))) (hn : narrow (.array .int) v = v) (hfit : fits (.array .int) v = true) (hl : 5 < fs.length) {fs1 : List Value} (hfs : fs.set 5 v = fs1) (hdg : decode cc pc = .ok (.putfield 18, 3)) (kk : ∀ (H1 : Heap) (locs1 : List Loc), g_S D vwCl A H0 (g_up G a (.inr (15, fs1))) H1 locs1 nz → W p l e R s m args below meth c H1 locs1 cells slots Q (F0 m (pc + 3) ls rest)) : W p l e R s m args below meth c H locs cells slots Q (F0 m pc ls (v :: .ref a :: rest)) :=
  g_putF (ci := 15) (ty := (.array .int)) (C := RX11) (T := TX11) (N := 8) S.1 S.2.1 S.2.2.2.2 inA_RX11 tyX11 tyX11_ok nmX11 S.2.2.2.1 hE.1 w ha rfl 5 (by decide) (S.2.2.2.2 _ m_7_119) (fun _ h => h) rfl hin rfl (by decide +kernel) hn hfit hl hdg (fun H1 l1 w1 => kk H1 l1 (by rw [← hfs]; exact w1))
theorem m_7_107 : (Cond.fieldLink RX11 22 "SendhouseModel$Method" "cls" "I") ∈ lwA := lwA_mk (ck_7 _ (List.mem_of_getElem? (i := 107) rfl)) rfl
theorem pf_RX11_22_15 {A9 : Nat → Prop} {H9 : Heap} {fs : List Value} {v : Value} (S : CallFix p m c cc nL s args lwA RX11) (hE : g_E D vwCl (gT ar) (EX1 κ) A9 s H9) (hin : meth.name = "<init>") (w : g_S D vwCl A H0 G H locs nz) (ha : G a = some (.inr (15, fs))) (hn : narrow .int v = v) (hfit : fits .int v = true) (hl : 0 < fs.length) {fs1 : List Value} (hfs : fs.set 0 v = fs1) (hdg : decode cc pc = .ok (.putfield 22, 3)) (kk : ∀ (H1 : Heap) (locs1 : List Loc), g_S D vwCl A H0 (g_up G a (.inr (15, fs1))) H1 locs1 nz → W p l e R s m args below meth c H1 locs1 cells slots Q (F0 m (pc + 3) ls rest)) : W p l e R s m args below meth c H locs cells slots Q (F0 m pc ls (v :: .ref a :: rest)) :=
  g_putF (ci := 15) (ty := .int) (C := RX11) (T := TX11) (N := 8) S.1 S.2.1 S.2.2.2.2 inA_RX11 tyX11 tyX11_ok nmX11 S.2.2.2.1 hE.1 w ha rfl 0 (by decide) (S.2.2.2.2 _ m_7_107) (fun _ h => h) rfl hin rfl (by decide +kernel) hn hfit hl hdg (fun H1 l1 w1 => kk H1 l1 (by rw [← hfs]; exact w1))
theorem m_7_109 : (Cond.fieldLink RX11 26 "SendhouseModel$Method" "selector" "I") ∈ lwA := lwA_mk (ck_7 _ (List.mem_of_getElem? (i := 109) rfl)) rfl
theorem pf_RX11_26_15 {A9 : Nat → Prop} {H9 : Heap} {fs : List Value} {v : Value} (S : CallFix p m c cc nL s args lwA RX11) (hE : g_E D vwCl (gT ar) (EX1 κ) A9 s H9) (hin : meth.name = "<init>") (w : g_S D vwCl A H0 G H locs nz) (ha : G a = some (.inr (15, fs))) (hn : narrow .int v = v) (hfit : fits .int v = true) (hl : 1 < fs.length) {fs1 : List Value} (hfs : fs.set 1 v = fs1) (hdg : decode cc pc = .ok (.putfield 26, 3)) (kk : ∀ (H1 : Heap) (locs1 : List Loc), g_S D vwCl A H0 (g_up G a (.inr (15, fs1))) H1 locs1 nz → W p l e R s m args below meth c H1 locs1 cells slots Q (F0 m (pc + 3) ls rest)) : W p l e R s m args below meth c H locs cells slots Q (F0 m pc ls (v :: .ref a :: rest)) :=
  g_putF (ci := 15) (ty := .int) (C := RX11) (T := TX11) (N := 8) S.1 S.2.1 S.2.2.2.2 inA_RX11 tyX11 tyX11_ok nmX11 S.2.2.2.1 hE.1 w ha rfl 1 (by decide) (S.2.2.2.2 _ m_7_109) (fun _ h => h) rfl hin rfl (by decide +kernel) hn hfit hl hdg (fun H1 l1 w1 => kk H1 l1 (by rw [← hfs]; exact w1))
theorem m_7_111 : (Cond.fieldLink RX11 29 "SendhouseModel$Method" "arguments" "I") ∈ lwA := lwA_mk (ck_7 _ (List.mem_of_getElem? (i := 111) rfl)) rfl
theorem pf_RX11_29_15 {A9 : Nat → Prop} {H9 : Heap} {fs : List Value} {v : Value} (S : CallFix p m c cc nL s args lwA RX11) (hE : g_E D vwCl (gT ar) (EX1 κ) A9 s H9) (hin : meth.name = "<init>") (w : g_S D vwCl A H0 G H locs nz) (ha : G a = some (.inr (15, fs))) (hn : narrow .int v = v) (hfit : fits .int v = true) (hl : 2 < fs.length) {fs1 : List Value} (hfs : fs.set 2 v = fs1) (hdg : decode cc pc = .ok (.putfield 29, 3)) (kk : ∀ (H1 : Heap) (locs1 : List Loc), g_S D vwCl A H0 (g_up G a (.inr (15, fs1))) H1 locs1 nz → W p l e R s m args below meth c H1 locs1 cells slots Q (F0 m (pc + 3) ls rest)) : W p l e R s m args below meth c H locs cells slots Q (F0 m pc ls (v :: .ref a :: rest)) :=
  g_putF (ci := 15) (ty := .int) (C := RX11) (T := TX11) (N := 8) S.1 S.2.1 S.2.2.2.2 inA_RX11 tyX11 tyX11_ok nmX11 S.2.2.2.1 hE.1 w ha rfl 2 (by decide) (S.2.2.2.2 _ m_7_111) (fun _ h => h) rfl hin rfl (by decide +kernel) hn hfit hl hdg (fun H1 l1 w1 => kk H1 l1 (by rw [← hfs]; exact w1))
theorem m_7_114 : (Cond.fieldLink RX11 32 "SendhouseModel$Method" "temporaries" "I") ∈ lwA := lwA_mk (ck_7 _ (List.mem_of_getElem? (i := 114) rfl)) rfl
theorem pf_RX11_32_15 {A9 : Nat → Prop} {H9 : Heap} {fs : List Value} {v : Value} (S : CallFix p m c cc nL s args lwA RX11) (hE : g_E D vwCl (gT ar) (EX1 κ) A9 s H9) (hin : meth.name = "<init>") (w : g_S D vwCl A H0 G H locs nz) (ha : G a = some (.inr (15, fs))) (hn : narrow .int v = v) (hfit : fits .int v = true) (hl : 3 < fs.length) {fs1 : List Value} (hfs : fs.set 3 v = fs1) (hdg : decode cc pc = .ok (.putfield 32, 3)) (kk : ∀ (H1 : Heap) (locs1 : List Loc), g_S D vwCl A H0 (g_up G a (.inr (15, fs1))) H1 locs1 nz → W p l e R s m args below meth c H1 locs1 cells slots Q (F0 m (pc + 3) ls rest)) : W p l e R s m args below meth c H locs cells slots Q (F0 m pc ls (v :: .ref a :: rest)) :=
  g_putF (ci := 15) (ty := .int) (C := RX11) (T := TX11) (N := 8) S.1 S.2.1 S.2.2.2.2 inA_RX11 tyX11 tyX11_ok nmX11 S.2.2.2.1 hE.1 w ha rfl 3 (by decide) (S.2.2.2.2 _ m_7_114) (fun _ h => h) rfl hin rfl (by decide +kernel) hn hfit hl hdg (fun H1 l1 w1 => kk H1 l1 (by rw [← hfs]; exact w1))
theorem m_7_99 : (Cond.classLink RX15 112 RX11) ∈ lwA := lwA_mk (ck_7 _ (List.mem_of_getElem? (i := 99) rfl)) rfl
theorem m_7_100 : (Cond.instantiable RX11 8) ∈ lwA := lwA_mk (ck_7 _ (List.mem_of_getElem? (i := 100) rfl)) rfl
theorem m_1_34 : (Cond.initialized RX11) ∈ lwA := lwA_mk (ck_1 _ (List.mem_of_getElem? (i := 34) rfl)) rfl
theorem nw_RX15_112 {A9 : Nat → Prop} {H9 : Heap} (S : CallFix p m c cc nL s args lwA RX15) (hE : g_E D vwCl (gT ar) (EX1 κ) A9 s H9) (w : g_S D vwCl A H0 G H locs nz) (hcells : cells + 1 ≤ R.cells) (hslots : slots + 8 ≤ R.slots) (hdg : decode cc pc = .ok (.new 112, 3)) (kk : ∀ (H1 : Heap), g_S D vwCl A H0 (g_up G nz (.inr (15, [.int 0, .int 0, .int 0, .int 0, .null, .null, .int 0, .int 0]))) H1 locs (nz + 1) → W p l e R s m args below meth c H1 locs (cells + 1) (slots + 8) Q (F0 m (pc + 3) ls (.ref nz :: rest))) : W p l e R s m args below meth c H locs cells slots Q (F0 m pc ls rest) :=
  g_new (ci := 15) (fs := [.int 0, .int 0, .int 0, .int 0, .null, .null, .int 0, .int 0]) (C := RX11) (T := TX11) (N := 8) S.1 S.2.1 S.2.2.2.2 inA_RX11 tyX11 tyX11_ok S.2.2.2.1 (S.2.2.2.2 _ m_7_99) (S.2.2.2.2 _ m_7_100) (S.2.2.2.2 _ m_1_34) hE.1 w rfl (fun j hj => by rcases (show j = 0 ∨ j = 1 ∨ j = 2 ∨ j = 3 ∨ j = 4 ∨ j = 5 ∨ j = 6 ∨ j = 7 by omega) with rfl | rfl | rfl | rfl | rfl | rfl | rfl | rfl <;> rfl) hcells hslots hdg kk
theorem m_7_103 : (Cond.code yX11_init cX11_init 5 none) ∈ lwA := lwA_mk (ck_7 _ (List.mem_of_getElem? (i := 103) rfl)) rfl
theorem m_7_101 : (Cond.methodLink RX15 148 yX11_init) ∈ lwA := lwA_mk (ck_7 _ (List.mem_of_getElem? (i := 101) rfl)) rfl
theorem m_7_102 : (Cond.instanceMethod yX11_init) ∈ lwA := lwA_mk (ck_7 _ (List.mem_of_getElem? (i := 102) rfl)) rfl
theorem k_RX15_148 {args : Array Value} {s : State} {R rm : Room} (hts : ∀ w ∈ lwA, w.before args s = true) (hR : rm.frames + 1 ≤ R.frames ∧ 8 + (5 + 11) + rm.locals ≤ R.locals) : CallB R s args RX15 148 yX11_init cX11_init 5 none (lwC yX11_init cX11_init 5 none) rm rm.cells rm.slots 4 ∧ yX11_init.name = "<init>" ∧ (Cond.instanceMethod yX11_init).before args s = true := cwI 4 hts (gd m_7_103) rfl rfl rfl (hts _ m_1_34) (hts _ m_7_101) (hts _ m_7_102) rfl (by decide +kernel) hR
theorem gf_RX15_122_15 {A9 : Nat → Prop} {H9 : Heap} {fs : List Value} {v : Value} (S : CallFix p m c cc nL s args lwA RX15) (hE : g_E D vwCl (gT ar) (EX1 κ) A9 s H9) (w : g_S D vwCl A H0 G H locs nz) (ha : G a = some (.inr (15, fs))) (hv : fs[4]? = some v) (hdg : decode cc pc = .ok (.getfield 122, 3)) (kk : W p l e R s m args below meth c H locs cells slots Q (F0 m (pc + 3) ls (v :: rest))) : W p l e R s m args below meth c H locs cells slots Q (F0 m pc ls (.ref a :: rest)) :=
  va_getN (ci := 15) (C := RX11) (T := TX11) (N := 8) S.1 S.2.1 S.2.2.2.2 inA_RX11 S.2.2.2.1 hE.1 (g_1 w.1 ha) 0 rfl rfl 4 (by decide) (va_Nw.use rfl (hE.2.1.1 _ (ckN_2 _ (List.mem_of_getElem? (i := 9) rfl)))) (fun _ h => h) hv hdg kk
theorem m_8_13 : (Cond.code yJx35411_next_0502b cJx35411_next_0502b 3 (some (.object "java/lang/Object"))) ∈ lwA := lwA_mk (ck_8 _ (List.mem_of_getElem? (i := 13) rfl)) rfl
theorem m_8_6 : (Cond.methodLink RX15 192 ⟨"java/util/Iterator", "next", "()Ljava/lang/Object;"⟩) ∈ lwA := lwA_mk (ck_8 _ (List.mem_of_getElem? (i := 6) rfl)) rfl
theorem m_8_11 : (Cond.instanceMethod yJx35411_next_0502b) ∈ lwA := lwA_mk (ck_8 _ (List.mem_of_getElem? (i := 11) rfl)) rfl
theorem m_8_9 : (Cond.selects RJx35411 ⟨"java/util/Iterator", "next", "()Ljava/lang/Object;"⟩ yJx35411_next_0502b) ∈ lwA := lwA_mk (ck_8 _ (List.mem_of_getElem? (i := 9) rfl)) rfl
theorem kF_RX15_192_2 {args : Array Value} {s : State} {R rm : Room} (hts : ∀ w ∈ lwA, w.before args s = true) (hF : va_Fw RJx35411 ⟨"java/util/Iterator", "next", "()Ljava/lang/Object;"⟩ yJx35411_next_0502b s) (hR : rm.frames + 1 ≤ R.frames ∧ 8 + (3 + 11) + rm.locals ≤ R.locals) : va_CI R s args RX15 RJx35411 192 ⟨"java/util/Iterator", "next", "()Ljava/lang/Object;"⟩ yJx35411_next_0502b cJx35411_next_0502b 3 (some (.object "java/lang/Object")) (lwC yJx35411_next_0502b cJx35411_next_0502b 3 (some (.object "java/lang/Object"))) rm rm.cells rm.slots 0 := va_cwF 0 hts (gdF m_8_6 m_8_9 m_8_11 m_1_36 m_8_13) rfl rfl rfl hF (by decide +kernel) hR
theorem m_7_211 : (Cond.code yX15_compiled cX15_compiled 9 (some .int)) ∈ lwA := lwA_mk (ck_7 _ (List.mem_of_getElem? (i := 211) rfl)) rfl
theorem m_7_208 : (Cond.methodLink RX15 200 yX15_compiled) ∈ lwA := lwA_mk (ck_7 _ (List.mem_of_getElem? (i := 208) rfl)) rfl
theorem m_7_210 : (Cond.instanceMethod yX15_compiled) ∈ lwA := lwA_mk (ck_7 _ (List.mem_of_getElem? (i := 210) rfl)) rfl
theorem ms_48 : (Cond.selects RX15 yX15_compiled yX15_compiled) ∈ lwA := lwA_mk (List.mem_append_left _ (List.mem_of_getElem? (i := 48) rfl)) rfl
theorem k_RX15_200 {args : Array Value} {s : State} {R rm : Room} (hts : ∀ w ∈ lwA, w.before args s = true) (hR : rm.frames + 1 ≤ R.frames ∧ 8 + (9 + 11) + rm.locals ≤ R.locals) : CallW R s args RX15 RX15 200 yX15_compiled cX15_compiled 9 (some .int) (lwC yX15_compiled cX15_compiled 9 (some .int)) rm rm.cells rm.slots 1 := cwV 1 hts (gdV m_7_208 m_7_210 ms_48 m_1_12 m_7_211) rfl rfl rfl (by decide +kernel) hR
theorem m_9_82 : (Cond.constantLong RX15 356 (31)) ∈ lwA := lwA_mk (ck_9 _ (List.mem_of_getElem? (i := 82) rfl)) rfl
theorem m_9_78 : (Cond.constantLong RX15 358 (217)) ∈ lwA := lwA_mk (ck_9 _ (List.mem_of_getElem? (i := 78) rfl)) rfl
theorem m_9_81 : (Cond.code yX15_summed cX15_summed 3 (some .long)) ∈ lwA := lwA_mk (ck_9 _ (List.mem_of_getElem? (i := 81) rfl)) rfl
theorem m_9_79 : (Cond.methodLink RX15 360 yX15_summed) ∈ lwA := lwA_mk (ck_9 _ (List.mem_of_getElem? (i := 79) rfl)) rfl
theorem m_9_80 : (Cond.static yX15_summed) ∈ lwA := lwA_mk (ck_9 _ (List.mem_of_getElem? (i := 80) rfl)) rfl
theorem k_RX15_360 {args : Array Value} {s : State} {R rm : Room} (hts : ∀ w ∈ lwA, w.before args s = true) (hR : rm.frames + 1 ≤ R.frames ∧ 8 + (3 + 11) + rm.locals ≤ R.locals) : CallB R s args RX15 360 yX15_summed cX15_summed 3 (some .long) (lwC yX15_summed cX15_summed 3 (some .long)) rm rm.cells rm.slots 2 ∧ (Cond.static yX15_summed).before args s = true := cwS 2 hts (gdS m_9_79 m_9_80 m_1_12 m_9_81) rfl rfl rfl (by decide +kernel) hR
theorem m_9_90 : (Cond.code yX15_isThere cX15_isThere 2 (some .boolean)) ∈ lwA := lwA_mk (ck_9 _ (List.mem_of_getElem? (i := 90) rfl)) rfl
theorem m_9_87 : (Cond.methodLink RX15 364 yX15_isThere) ∈ lwA := lwA_mk (ck_9 _ (List.mem_of_getElem? (i := 87) rfl)) rfl
theorem m_9_89 : (Cond.instanceMethod yX15_isThere) ∈ lwA := lwA_mk (ck_9 _ (List.mem_of_getElem? (i := 89) rfl)) rfl
theorem ms_68 : (Cond.selects RX15 yX15_isThere yX15_isThere) ∈ lwA := lwA_mk (List.mem_append_left _ (List.mem_of_getElem? (i := 68) rfl)) rfl
theorem k_RX15_364 {args : Array Value} {s : State} {R rm : Room} (hts : ∀ w ∈ lwA, w.before args s = true) (hR : rm.frames + 1 ≤ R.frames ∧ 8 + (2 + 11) + rm.locals ≤ R.locals) : CallW R s args RX15 RX15 364 yX15_isThere cX15_isThere 2 (some .boolean) (lwC yX15_isThere cX15_isThere 2 (some .boolean)) rm rm.cells rm.slots 1 := cwV 1 hts (gdV m_9_87 m_9_89 ms_68 m_1_12 m_9_90) rfl rfl rfl (by decide +kernel) hR
end SITES
set_option maxHeartbeats 4000000 in
set_option maxRecDepth 100000 in
theorem c_X13_init (l : Launch) (D : va_G) (ar : Nat → ClassId) (κ : Nat → Nat) (G : gW) (sz : Nat) (o : Nat) (n : Int32) (cl : Int32) (v : Nat) (k0 : Int32) (n0 : Int32) (ho : G o = some (.inr (17, [.int 0, .int 0, .null, .int 0]))) (hv : G v = some (.inr (18, [.int k0, .int n0]))) : Met l yX13_init (lwC yX13_init cX13_init 5 none) (rD 2 1 8) (g_Pc D vwCl (gT ar) (EX1 κ) G sz [.ref o, .int n, .int cl, .ref v]) (g_Qv D vwCl (g_A G sz) (fun u => u = ((g_up (g_up G sz (.inl (ar 10, 8, .inr (.inr (.inr (.inr (va_up (va_up (va_up (va_up (va_up (va_up (va_up (va_up (fun _ => none) (Int32.toNatClampNeg 0) (some v)) (Int32.toNatClampNeg 1) (some v)) (Int32.toNatClampNeg 2) (some v)) (Int32.toNatClampNeg 3) (some v)) (Int32.toNatClampNeg 4) (some v)) (Int32.toNatClampNeg 5) (some v)) (Int32.toNatClampNeg 6) (some v)) (Int32.toNatClampNeg 7) (some v)))))))) o (.inr (17, [.int n, .int cl, .ref sz, .int 0]))), sz + 1))) 1 8 (g_A G sz) := by
  refine g_ofW (by decide +kernel) (Nat.le_of_ble_eq_true rfl) ?_
  intro p e s m below meth c ls S hr hlk hin hE w hl
  have hx := S.1
  have hb := S.2.1
  have hl : lv_has ls 5 [(0, .ref o), (1, .int n), (2, .int cl), (3, .ref v)] := hl
  have lt_ho : o < sz := g_ltn w ho
  have lt_hv : v < sz := g_ltn w hv
  refine lv_aload_n hx hb dX13_init_0 rfl (lv_at hl 0 rfl) ?_
  refine W.objInit hx hb S.2.2.2.1 (S.2.2.2.2 _ m_8_65) (S.2.2.2.2 _ m_1_47) (S.2.2.2.2 _ m_obj) rfl (by rw [S.2.2.1]; exact hl.1) rfl dX13_init_1 (Nat.le_of_ble_eq_true rfl) (Nat.le_of_ble_eq_true rfl) ?_
  refine W.eq (g2 := F0 m 4 ls []) rfl ?_
  refine lv_aload_n hx hb dX13_init_4 rfl (lv_at hl 0 rfl) ?_
  refine lv_bipush (v := 8) hx hb dX13_init_5 (by decide) ?_
  refine g_newq (N' := 8) hx hb S.2.2.2.1 (S.2.2.2.2 _ m_8_66) (va_AO.use (C := "SendhouseModel$Value") (hE.2.1.1 _ (ckN_1 _ (List.mem_of_getElem? (i := 35) rfl)))) hE.1 w 10 rfl (by decide) rfl (Nat.le_of_ble_eq_true rfl) (Nat.le_of_ble_eq_true rfl) (Nat.le_of_ble_eq_true rfl) dX13_init_7 (fun H w => ?_)
  refine pf_RX13_11_17 (fs1 := [.int 0, .int 0, .ref sz, .int 0]) S hE hin w (g_up_o (by omega) ho) rfl rfl (Nat.le_of_ble_eq_true rfl) rfl dX13_init_10 (fun H locs w => ?_)
  refine lv_aload_n hx hb dX13_init_13 rfl (lv_at hl 0 rfl) ?_
  refine lv_iload_n hx hb dX13_init_14 rfl (lv_at hl 1 rfl) ?_
  refine pf_RX13_17_17 (fs1 := [.int n, .int 0, .ref sz, .int 0]) S hE hin w g_up_s rfl rfl (Nat.le_of_ble_eq_true rfl) rfl dX13_init_15 (fun H locs w => ?_)
  have w := g_eqw w g_over
  refine lv_aload_n hx hb dX13_init_18 rfl (lv_at hl 0 rfl) ?_
  refine lv_iload_n hx hb dX13_init_19 rfl (lv_at hl 2 rfl) ?_
  refine pf_RX13_21_17 (fs1 := [.int n, .int cl, .ref sz, .int 0]) S hE hin w g_up_s rfl rfl (Nat.le_of_ble_eq_true rfl) rfl dX13_init_20 (fun H locs w => ?_)
  have w := g_eqw w g_over
  refine lv_iconst (v := 0) hx hb dX13_init_23 (by decide) ?_
  refine lv_istore (lv' := [(4, .int 0), (0, .ref o), (1, .int n), (2, .int cl), (3, .ref v)]) hx hb dX13_init_24 hl (by decide) rfl (fun ls hl => ?_)
  refine lv_iload hx hb dX13_init_26 (lv_at hl 0 rfl) ?_
  refine lv_bipush (v := 8) hx hb dX13_init_28 (by decide) ?_
  refine lv_icmp_ge (tgt := 47) hx hb dX13_init_30 (by decide) (fun c => absurd c (by decide)) (fun _ => ?_)
  refine lv_aload_n hx hb dX13_init_33 rfl (lv_at hl 1 rfl) ?_
  refine gf_RX13_11_17 S hE w g_up_s rfl dX13_init_34 ?_
  refine lv_iload hx hb dX13_init_37 (lv_at hl 0 rfl) ?_
  refine lv_aload_n hx hb dX13_init_39 rfl (lv_at hl 4 rfl) ?_
  refine g_astq (r := (RX14, TX14, 2)) hx hb hE.1 w 10 18 (g_up_o (by omega) g_up_s) rfl (g_up_o (g_nx hv ho (by simp)) (g_up_o (by omega) hv)) rfl (vp_in_nI (n := 0) (by decide) (by decide)) dX13_init_40 (fun H locs w => ?_)
  have w := g_eqw w (g_inn g_over (by omega))
  refine lv_iinc (v := 1) (lv' := [(4, .int 1), (0, .ref o), (1, .int n), (2, .int cl), (3, .ref v)]) hx hb dX13_init_41 hl (k := 0) rfl (by decide) (by decide) rfl (fun ls hl => ?_)
  refine lv_goto (tgt := 26) hx hb dX13_init_44 (by decide) ?_
  refine lv_iload hx hb dX13_init_26 (lv_at hl 0 rfl) ?_
  refine lv_bipush (v := 8) hx hb dX13_init_28 (by decide) ?_
  refine lv_icmp_ge (tgt := 47) hx hb dX13_init_30 (by decide) (fun c => absurd c (by decide)) (fun _ => ?_)
  refine lv_aload_n hx hb dX13_init_33 rfl (lv_at hl 1 rfl) ?_
  refine gf_RX13_11_17 S hE w g_up_s rfl dX13_init_34 ?_
  refine lv_iload hx hb dX13_init_37 (lv_at hl 0 rfl) ?_
  refine lv_aload_n hx hb dX13_init_39 rfl (lv_at hl 4 rfl) ?_
  refine g_astq (r := (RX14, TX14, 2)) hx hb hE.1 w 10 18 (g_up_o (by omega) g_up_s) rfl (g_up_o (g_nx hv ho (by simp)) (g_up_o (by omega) hv)) rfl (vp_in_nI (n := 1) (by decide) (by decide)) dX13_init_40 (fun H locs w => ?_)
  have w := g_eqw w (g_inn g_over (by omega))
  refine lv_iinc (v := 2) (lv' := [(4, .int 2), (0, .ref o), (1, .int n), (2, .int cl), (3, .ref v)]) hx hb dX13_init_41 hl (k := 0) rfl (by decide) (by decide) rfl (fun ls hl => ?_)
  refine lv_goto (tgt := 26) hx hb dX13_init_44 (by decide) ?_
  refine lv_iload hx hb dX13_init_26 (lv_at hl 0 rfl) ?_
  refine lv_bipush (v := 8) hx hb dX13_init_28 (by decide) ?_
  refine lv_icmp_ge (tgt := 47) hx hb dX13_init_30 (by decide) (fun c => absurd c (by decide)) (fun _ => ?_)
  refine lv_aload_n hx hb dX13_init_33 rfl (lv_at hl 1 rfl) ?_
  refine gf_RX13_11_17 S hE w g_up_s rfl dX13_init_34 ?_
  refine lv_iload hx hb dX13_init_37 (lv_at hl 0 rfl) ?_
  refine lv_aload_n hx hb dX13_init_39 rfl (lv_at hl 4 rfl) ?_
  refine g_astq (r := (RX14, TX14, 2)) hx hb hE.1 w 10 18 (g_up_o (by omega) g_up_s) rfl (g_up_o (g_nx hv ho (by simp)) (g_up_o (by omega) hv)) rfl (vp_in_nI (n := 2) (by decide) (by decide)) dX13_init_40 (fun H locs w => ?_)
  have w := g_eqw w (g_inn g_over (by omega))
  refine lv_iinc (v := 3) (lv' := [(4, .int 3), (0, .ref o), (1, .int n), (2, .int cl), (3, .ref v)]) hx hb dX13_init_41 hl (k := 0) rfl (by decide) (by decide) rfl (fun ls hl => ?_)
  refine lv_goto (tgt := 26) hx hb dX13_init_44 (by decide) ?_
  refine lv_iload hx hb dX13_init_26 (lv_at hl 0 rfl) ?_
  refine lv_bipush (v := 8) hx hb dX13_init_28 (by decide) ?_
  refine lv_icmp_ge (tgt := 47) hx hb dX13_init_30 (by decide) (fun c => absurd c (by decide)) (fun _ => ?_)
  refine lv_aload_n hx hb dX13_init_33 rfl (lv_at hl 1 rfl) ?_
  refine gf_RX13_11_17 S hE w g_up_s rfl dX13_init_34 ?_
  refine lv_iload hx hb dX13_init_37 (lv_at hl 0 rfl) ?_
  refine lv_aload_n hx hb dX13_init_39 rfl (lv_at hl 4 rfl) ?_
  refine g_astq (r := (RX14, TX14, 2)) hx hb hE.1 w 10 18 (g_up_o (by omega) g_up_s) rfl (g_up_o (g_nx hv ho (by simp)) (g_up_o (by omega) hv)) rfl (vp_in_nI (n := 3) (by decide) (by decide)) dX13_init_40 (fun H locs w => ?_)
  have w := g_eqw w (g_inn g_over (by omega))
  refine lv_iinc (v := 4) (lv' := [(4, .int 4), (0, .ref o), (1, .int n), (2, .int cl), (3, .ref v)]) hx hb dX13_init_41 hl (k := 0) rfl (by decide) (by decide) rfl (fun ls hl => ?_)
  refine lv_goto (tgt := 26) hx hb dX13_init_44 (by decide) ?_
  refine lv_iload hx hb dX13_init_26 (lv_at hl 0 rfl) ?_
  refine lv_bipush (v := 8) hx hb dX13_init_28 (by decide) ?_
  refine lv_icmp_ge (tgt := 47) hx hb dX13_init_30 (by decide) (fun c => absurd c (by decide)) (fun _ => ?_)
  refine lv_aload_n hx hb dX13_init_33 rfl (lv_at hl 1 rfl) ?_
  refine gf_RX13_11_17 S hE w g_up_s rfl dX13_init_34 ?_
  refine lv_iload hx hb dX13_init_37 (lv_at hl 0 rfl) ?_
  refine lv_aload_n hx hb dX13_init_39 rfl (lv_at hl 4 rfl) ?_
  refine g_astq (r := (RX14, TX14, 2)) hx hb hE.1 w 10 18 (g_up_o (by omega) g_up_s) rfl (g_up_o (g_nx hv ho (by simp)) (g_up_o (by omega) hv)) rfl (vp_in_nI (n := 4) (by decide) (by decide)) dX13_init_40 (fun H locs w => ?_)
  have w := g_eqw w (g_inn g_over (by omega))
  refine lv_iinc (v := 5) (lv' := [(4, .int 5), (0, .ref o), (1, .int n), (2, .int cl), (3, .ref v)]) hx hb dX13_init_41 hl (k := 0) rfl (by decide) (by decide) rfl (fun ls hl => ?_)
  refine lv_goto (tgt := 26) hx hb dX13_init_44 (by decide) ?_
  refine lv_iload hx hb dX13_init_26 (lv_at hl 0 rfl) ?_
  refine lv_bipush (v := 8) hx hb dX13_init_28 (by decide) ?_
  refine lv_icmp_ge (tgt := 47) hx hb dX13_init_30 (by decide) (fun c => absurd c (by decide)) (fun _ => ?_)
  refine lv_aload_n hx hb dX13_init_33 rfl (lv_at hl 1 rfl) ?_
  refine gf_RX13_11_17 S hE w g_up_s rfl dX13_init_34 ?_
  refine lv_iload hx hb dX13_init_37 (lv_at hl 0 rfl) ?_
  refine lv_aload_n hx hb dX13_init_39 rfl (lv_at hl 4 rfl) ?_
  refine g_astq (r := (RX14, TX14, 2)) hx hb hE.1 w 10 18 (g_up_o (by omega) g_up_s) rfl (g_up_o (g_nx hv ho (by simp)) (g_up_o (by omega) hv)) rfl (vp_in_nI (n := 5) (by decide) (by decide)) dX13_init_40 (fun H locs w => ?_)
  have w := g_eqw w (g_inn g_over (by omega))
  refine lv_iinc (v := 6) (lv' := [(4, .int 6), (0, .ref o), (1, .int n), (2, .int cl), (3, .ref v)]) hx hb dX13_init_41 hl (k := 0) rfl (by decide) (by decide) rfl (fun ls hl => ?_)
  refine lv_goto (tgt := 26) hx hb dX13_init_44 (by decide) ?_
  refine lv_iload hx hb dX13_init_26 (lv_at hl 0 rfl) ?_
  refine lv_bipush (v := 8) hx hb dX13_init_28 (by decide) ?_
  refine lv_icmp_ge (tgt := 47) hx hb dX13_init_30 (by decide) (fun c => absurd c (by decide)) (fun _ => ?_)
  refine lv_aload_n hx hb dX13_init_33 rfl (lv_at hl 1 rfl) ?_
  refine gf_RX13_11_17 S hE w g_up_s rfl dX13_init_34 ?_
  refine lv_iload hx hb dX13_init_37 (lv_at hl 0 rfl) ?_
  refine lv_aload_n hx hb dX13_init_39 rfl (lv_at hl 4 rfl) ?_
  refine g_astq (r := (RX14, TX14, 2)) hx hb hE.1 w 10 18 (g_up_o (by omega) g_up_s) rfl (g_up_o (g_nx hv ho (by simp)) (g_up_o (by omega) hv)) rfl (vp_in_nI (n := 6) (by decide) (by decide)) dX13_init_40 (fun H locs w => ?_)
  have w := g_eqw w (g_inn g_over (by omega))
  refine lv_iinc (v := 7) (lv' := [(4, .int 7), (0, .ref o), (1, .int n), (2, .int cl), (3, .ref v)]) hx hb dX13_init_41 hl (k := 0) rfl (by decide) (by decide) rfl (fun ls hl => ?_)
  refine lv_goto (tgt := 26) hx hb dX13_init_44 (by decide) ?_
  refine lv_iload hx hb dX13_init_26 (lv_at hl 0 rfl) ?_
  refine lv_bipush (v := 8) hx hb dX13_init_28 (by decide) ?_
  refine lv_icmp_ge (tgt := 47) hx hb dX13_init_30 (by decide) (fun c => absurd c (by decide)) (fun _ => ?_)
  refine lv_aload_n hx hb dX13_init_33 rfl (lv_at hl 1 rfl) ?_
  refine gf_RX13_11_17 S hE w g_up_s rfl dX13_init_34 ?_
  refine lv_iload hx hb dX13_init_37 (lv_at hl 0 rfl) ?_
  refine lv_aload_n hx hb dX13_init_39 rfl (lv_at hl 4 rfl) ?_
  refine g_astq (r := (RX14, TX14, 2)) hx hb hE.1 w 10 18 (g_up_o (by omega) g_up_s) rfl (g_up_o (g_nx hv ho (by simp)) (g_up_o (by omega) hv)) rfl (vp_in_nI (n := 7) (by decide) (by decide)) dX13_init_40 (fun H locs w => ?_)
  have w := g_eqw w (g_inn g_over (by omega))
  refine lv_iinc (v := 8) (lv' := [(4, .int 8), (0, .ref o), (1, .int n), (2, .int cl), (3, .ref v)]) hx hb dX13_init_41 hl (k := 0) rfl (by decide) (by decide) rfl (fun ls hl => ?_)
  refine lv_goto (tgt := 26) hx hb dX13_init_44 (by decide) ?_
  refine lv_iload hx hb dX13_init_26 (lv_at hl 0 rfl) ?_
  refine lv_bipush (v := 8) hx hb dX13_init_28 (by decide) ?_
  refine lv_icmp_ge (tgt := 47) hx hb dX13_init_30 (by decide) (fun _ => ?_) (fun c => absurd (by decide) c)
  exact g_vret hx hb hr hlk w (Nat.le_of_ble_eq_true rfl) (Nat.le_of_ble_eq_true rfl) dX13_init_47 rfl
set_option maxHeartbeats 4000000 in
set_option maxRecDepth 100000 in
theorem c_makes (l : Launch) (D : va_G) (ar : Nat → ClassId) (κ : Nat → Nat) (G : gW) (sz : Nat) (y : Nat) (cl : Int32) (g1 : Option Nat) (g2 : Option Nat) (g4 : Option Nat) (g5 : Option Nat) (g6 : Option Nat) (g7 : Int32) (g8 : Int32) (g10 : Int32) (g11 : Int32) (g12 : Int32) (g13 : Option Nat) (nv : Nat) (th : Nat) (k0 : Int32) (n0 : Int32) (hy : G y = some (.inr (19, [.ref nv, va_rf g1, va_rf g2, .ref th, va_rf g4, va_rf g5, va_rf g6, .int g7, .int g8, .int 0, .int g10, .int g11, .int g12, va_rf g13]))) (hth : G th = some (.inr (3, [.int 0, .ref (κ 0), .int 0]))) (hv : G nv = some (.inr (18, [.int k0, .int n0]))) : Met l yX15_makes (lwC yX15_makes cX15_makes 2 (some (.object "SendhouseModel$Value"))) (rD 6 4 24) (g_Pc D vwCl (gT ar) (EX1 κ) G sz [.ref y, .int cl]) (g_Qq D vwCl (g_A G sz) (fun r u => r = some (sz + 3) ∧ u = ((g_up (g_up (g_up (g_up (g_up (g_up G sz (.inr (17, [.int 0, .int cl, .ref (sz + 1), .int 0]))) (sz + 1) (.inl (ar 10, 8, .inr (.inr (.inr (.inr (va_up (va_up (va_up (va_up (va_up (va_up (va_up (va_up (fun _ => none) (Int32.toNatClampNeg 0) (some nv)) (Int32.toNatClampNeg 1) (some nv)) (Int32.toNatClampNeg 2) (some nv)) (Int32.toNatClampNeg 3) (some nv)) (Int32.toNatClampNeg 4) (some nv)) (Int32.toNatClampNeg 5) (some nv)) (Int32.toNatClampNeg 6) (some nv)) (Int32.toNatClampNeg 7) (some nv)))))))) th (.inr (3, [.int 1, .ref (sz + 2), .int 1]))) (sz + 2) (.inl (ar 11, 10, .inr (.inr (.inr (.inr (va_up (fun _ => none) (Int32.toNatClampNeg 0) (some sz)))))))) y (.inr (19, [.ref nv, va_rf g1, va_rf g2, .ref th, va_rf g4, va_rf g5, va_rf g6, .int g7, .int g8, .int 1, .int g10, .int g11, .int g12, va_rf g13]))) (sz + 3) (.inr (18, [.int 111, .int 0]))), sz + 4))) 4 24 (g_A G sz) := by
  refine g_ofW (by decide +kernel) (Nat.le_of_ble_eq_true rfl) ?_
  intro p e s m below meth c ls S hr hlk hin hE w hl
  have hx := S.1
  have hb := S.2.1
  have hl : lv_has ls 2 [(0, .ref y), (1, .int cl)] := hl
  have lt_hy : y < sz := g_ltn w hy
  have lt_hth : th < sz := g_ltn w hth
  have lt_hv : nv < sz := g_ltn w hv
  refine lv_aload_n hx hb dX15_makes_0 rfl (lv_at hl 0 rfl) ?_
  refine gf_RX15_28_19 S hE w hy rfl dX15_makes_1 ?_
  refine nw_RX15_213 S hE w (Nat.le_of_ble_eq_true rfl) (Nat.le_of_ble_eq_true rfl) dX15_makes_4 (fun H w => ?_)
  refine lv_dup hx hb dX15_makes_7 rfl ?_
  refine lv_aload_n hx hb dX15_makes_8 rfl (lv_at hl 0 rfl) ?_
  refine gf_RX15_215_19 S hE w (g_up_o (by omega) hy) rfl dX15_makes_9 ?_
  refine lv_iload_n hx hb dX15_makes_12 rfl (lv_at hl 1 rfl) ?_
  refine lv_aload_n hx hb dX15_makes_13 rfl (lv_at hl 0 rfl) ?_
  refine gf_RX15_12_19 S hE w (g_up_o (by omega) hy) rfl dX15_makes_14 ?_
  refine g_callv w (g_runI (As := [.int 0, .int cl, .ref nv]) (rest := [.ref sz, .ref th]) S hE w hl (c_X13_init l D ar κ (g_up G sz (.inr (17, [.int 0, .int 0, .null, .int 0]))) (sz + 1) sz 0 cl nv k0 n0 g_up_s (g_up_o (by omega) hv)) (k_RX15_218 S.2.2.2.2 ⟨Nat.le_of_ble_eq_true rfl, Nat.le_of_ble_eq_true rfl⟩) rfl rfl (Nat.le_of_ble_eq_true rfl) dX15_makes_17 ⟨Nat.le_of_ble_eq_true rfl, Nat.le_of_ble_eq_true rfl⟩) (fun u H locs hp hnz w => ?_)
  obtain rfl := hp
  dsimp only at w
  have w := g_eqw w (g_inn g_over (by omega))
  refine g_calli w (g_runV (As := [.ref sz]) (rest := []) S hE w hl (c_add1A_17 l D ar κ (g_up (g_up G sz (.inr (17, [.int 0, .int cl, .ref (sz + 1), .int 0]))) (sz + 1) (.inl (ar 10, 8, .inr (.inr (.inr (.inr (va_up (va_up (va_up (va_up (va_up (va_up (va_up (va_up (fun _ => none) (Int32.toNatClampNeg 0) (some nv)) (Int32.toNatClampNeg 1) (some nv)) (Int32.toNatClampNeg 2) (some nv)) (Int32.toNatClampNeg 3) (some nv)) (Int32.toNatClampNeg 4) (some nv)) (Int32.toNatClampNeg 5) (some nv)) (Int32.toNatClampNeg 6) (some nv)) (Int32.toNatClampNeg 7) (some nv)))))))) (sz + 2) th sz 0 0 cl (some (sz + 1)) 0 (g_up_o (by omega) (g_up_o (by omega) hth)) (g_up_o (by omega) g_up_s)) (k_RX15_50 S.2.2.2.2 ⟨Nat.le_of_ble_eq_true rfl, Nat.le_of_ble_eq_true rfl⟩) (g_up_o (by omega) (g_up_o (by omega) hth)) rfl rfl rfl rfl (Nat.le_of_ble_eq_true rfl) dX15_makes_20 ⟨Nat.le_of_ble_eq_true rfl, Nat.le_of_ble_eq_true rfl⟩) (fun r u H locs hp hnz w => ?_)
  obtain ⟨rfl, rfl⟩ := hp
  dsimp only at w
  rw [show ((0 + 1) : Int32) = 1 from by decide +kernel] at w
  refine lv_pop hx hb dX15_makes_23 rfl ?_
  refine lv_aload_n hx hb dX15_makes_24 rfl (lv_at hl 0 rfl) ?_
  refine lv_dup hx hb dX15_makes_25 rfl ?_
  refine gf_RX15_215_19 S hE w (g_up_o (by omega) (g_up_o (g_nx hy hth (by simp)) (g_up_o (by omega) (g_up_o (by omega) hy)))) rfl dX15_makes_26 ?_
  refine lv_iconst (v := 1) hx hb dX15_makes_29 (by decide) ?_
  refine lv_iadd hx hb dX15_makes_30 ?_
  rw [show (0 + 1 : Int32) = 1 by decide +kernel]
  refine pf_RX15_215_19 (fs1 := [.ref nv, va_rf g1, va_rf g2, .ref th, va_rf g4, va_rf g5, va_rf g6, .int g7, .int g8, .int 1, .int g10, .int g11, .int g12, va_rf g13]) S hE w (g_up_o (by omega) (g_up_o (g_nx hy hth (by simp)) (g_up_o (by omega) (g_up_o (by omega) hy)))) rfl rfl (Nat.le_of_ble_eq_true rfl) rfl dX15_makes_31 (fun H locs w => ?_)
  refine nw_RX15_7 S hE w (Nat.le_of_ble_eq_true rfl) (Nat.le_of_ble_eq_true rfl) dX15_makes_34 (fun H w => ?_)
  refine lv_dup hx hb dX15_makes_37 rfl ?_
  refine lv_bipush (v := 111) hx hb dX15_makes_38 (by decide) ?_
  refine lv_aload_n hx hb dX15_makes_40 rfl (lv_at hl 0 rfl) ?_
  refine gf_RX15_215_19 S hE w (g_up_o (by omega) g_up_s) rfl dX15_makes_41 ?_
  refine lv_iconst (v := 1) hx hb dX15_makes_44 (by decide) ?_
  refine lv_isub hx hb dX15_makes_45 ?_
  rw [show (1 - 1 : Int32) = 0 by decide +kernel]
  refine g_callv w (g_runI (As := [.int 111, .int 0]) (rest := [.ref (sz + 3)]) S hE w hl (c_X14_init l D ar κ (g_up (g_up (g_up (g_up (g_up (g_up G sz (.inr (17, [.int 0, .int cl, .ref (sz + 1), .int 0]))) (sz + 1) (.inl (ar 10, 8, .inr (.inr (.inr (.inr (va_up (va_up (va_up (va_up (va_up (va_up (va_up (va_up (fun _ => none) (Int32.toNatClampNeg 0) (some nv)) (Int32.toNatClampNeg 1) (some nv)) (Int32.toNatClampNeg 2) (some nv)) (Int32.toNatClampNeg 3) (some nv)) (Int32.toNatClampNeg 4) (some nv)) (Int32.toNatClampNeg 5) (some nv)) (Int32.toNatClampNeg 6) (some nv)) (Int32.toNatClampNeg 7) (some nv)))))))) th (.inr (3, [.int 1, .ref (sz + 2), .int 1]))) (sz + 2) (.inl (ar 11, 10, .inr (.inr (.inr (.inr (va_up (fun _ => none) (Int32.toNatClampNeg 0) (some sz)))))))) y (.inr (19, [.ref nv, va_rf g1, va_rf g2, .ref th, va_rf g4, va_rf g5, va_rf g6, .int g7, .int g8, .int 1, .int g10, .int g11, .int g12, va_rf g13]))) (sz + 3) (.inr (18, [.int 0, .int 0]))) (sz + 4) (sz + 3) 111 0 g_up_s (by decide +kernel)) (k_RX15_9 S.2.2.2.2 ⟨Nat.le_of_ble_eq_true rfl, Nat.le_of_ble_eq_true rfl⟩) rfl rfl (Nat.le_of_ble_eq_true rfl) dX15_makes_46 ⟨Nat.le_of_ble_eq_true rfl, Nat.le_of_ble_eq_true rfl⟩) (fun u H locs hp hnz w => ?_)
  obtain rfl := hp
  dsimp only at w
  have w := g_eqw w g_over
  exact g_qret (r := (some (sz + 3))) hx hb hr (Or.inl ⟨_, rfl⟩) hlk w (Nat.le_of_ble_eq_true rfl) (Nat.le_of_ble_eq_true rfl) dX15_makes_49 ⟨rfl, rfl⟩
set_option maxHeartbeats 4000000 in
set_option maxRecDepth 100000 in
theorem m_make (l : Launch) (D : va_G) (ar : Nat → ClassId) (κ : Nat → Nat) (G : gW) (sz : Nat) (y : Nat) (g : Int32) (cl : Int32) (q : Nat) (t : Int32) (hM : FM ar κ G y q t) : Met l yX15_make (lwC yX15_make cX15_make 3 (some .int)) (rD 7 4 24) (g_Pc D vwCl (gT ar) (EX1 κ) G sz [.ref y, .int g, .int cl]) (g_Qi D vwCl (g_A G sz) (fun r u => ((K_make g cl : Int32) = 0 → r = 0) ∧ TH y (K_make g cl) u)) 4 24 (g_A G sz) := by
  refine g_ofW (by decide +kernel) (Nat.le_of_ble_eq_true rfl) ?_
  intro p e s m below meth c ls S hr hlk hin hE w hl
  have hx := S.1
  have hb := S.2.1
  have hl : lv_has ls 3 [(0, .ref y), (1, .int g), (2, .int cl)] := hl
  obtain ⟨hyq, m0, m1, m2, m3, m4, m5, m6, m7, m8, m9, m10, m11, m12, m13, m14⟩ := id hM
  have lt13 : q + 13 < sz := g_ltn w m14
  by_cases c0 : isB cl 3 = 0
  · refine lv_aload_n hx hb dX15_make_0 rfl (lv_at hl 0 rfl) ?_
    refine lv_iload_n hx hb dX15_make_1 rfl (lv_at hl 1 rfl) ?_
    refine g_calli w (g_runS (As := [.int g]) (rest := [.ref y]) S hE w hl (c_isGlobal l D ar κ G sz g) (k_RX15_207 S.2.2.2.2 ⟨Nat.le_of_ble_eq_true rfl, Nat.le_of_ble_eq_true rfl⟩) rfl rfl (Nat.le_of_ble_eq_true rfl) dX15_make_2 ⟨Nat.le_of_ble_eq_true rfl, Nat.le_of_ble_eq_true rfl⟩) (fun r u H locs hp hnz w => ?_)
    obtain ⟨rfl, rfl⟩ := hp
    dsimp only at w
    refine lv_if_eq (tgt := 16) hx hb dX15_make_5 (by decide) (fun c_5 => ?_) (fun c_5 => ?_)
    · refine lv_iconst (v := 1) hx hb dX15_make_16 (by decide) ?_
      refine lv_goto (tgt := 51) hx hb dX15_make_17 (by decide) ?_
      refine g_calli w (g_runV (As := [.int 1]) (rest := []) S hE w hl (c_isWrong l D ar κ G sz y 1 (some q) (some (q + 1)) (some (q + 2)) (some (q + 3)) (some (q + 4)) (some (q + 5)) (some (q + 6)) t 0 0 0 45 0 none m0) (k_RX15_77 S.2.2.2.2 ⟨Nat.le_of_ble_eq_true rfl, Nat.le_of_ble_eq_true rfl⟩) m0 rfl rfl rfl rfl (Nat.le_of_ble_eq_true rfl) dX15_make_51 ⟨Nat.le_of_ble_eq_true rfl, Nat.le_of_ble_eq_true rfl⟩) (fun r u H locs hp hnz w => ?_)
      obtain ⟨rfl, rfl⟩ := hp
      rw [show (if (1 : Int32) = 0 then (0 : Int32) else 1) = 1 from by decide]
      dsimp only at w
      refine lv_if_eq (tgt := 59) hx hb dX15_make_54 (by decide) (fun c => absurd c (by decide)) (fun _ => ?_)
      refine lv_iconst (v := 0) hx hb dX15_make_57 (by decide) ?_
      exact g_iret hx hb hr hlk w (Nat.le_of_ble_eq_true rfl) (Nat.le_of_ble_eq_true rfl) dX15_make_58 ⟨(nz_first (T := 1) (by simp [K_make, isB03, isB13, isB23, isPl0, isPl1, isPl2, c0, c_5]) (by decide)), TH_mk (T := 1) g_up_s rfl (by simp [K_make, isB03, isB13, isB23, isPl0, isPl1, isPl2, c0, c_5])⟩
    · refine lv_aload_n hx hb dX15_make_8 rfl (lv_at hl 0 rfl) ?_
      refine lv_iload_n hx hb dX15_make_9 rfl (lv_at hl 2 rfl) ?_
      refine g_calli w (g_runV (As := [.int cl]) (rest := [.ref y]) S hE w hl (c_isClass l D ar κ G sz y cl (some q) (q + 1) (some (q + 2)) (some (q + 3)) (some (q + 4)) (some (q + 5)) (some (q + 6)) t 0 0 0 45 0 none 3 (some (q + 9)) 3 m0 m2) (k_RX15_66 S.2.2.2.2 ⟨Nat.le_of_ble_eq_true rfl, Nat.le_of_ble_eq_true rfl⟩) m0 rfl rfl rfl rfl (Nat.le_of_ble_eq_true rfl) dX15_make_10 ⟨Nat.le_of_ble_eq_true rfl, Nat.le_of_ble_eq_true rfl⟩) (fun r u H locs hp hnz w => ?_)
      obtain ⟨rfl, rfl⟩ := hp
      rw [show (isW cl 0 (3 - 1)) = isB cl 3 from isW_B rfl (by decide) (by decide)]
      dsimp only at w
      refine lv_if_ne (tgt := 20) hx hb dX15_make_13 (by decide) (fun c_13 => absurd c0 c_13) (fun _ => ?_)
      refine lv_iconst (v := 1) hx hb dX15_make_16 (by decide) ?_
      refine lv_goto (tgt := 51) hx hb dX15_make_17 (by decide) ?_
      refine g_calli w (g_runV (As := [.int 1]) (rest := []) S hE w hl (c_isWrong l D ar κ G sz y 1 (some q) (some (q + 1)) (some (q + 2)) (some (q + 3)) (some (q + 4)) (some (q + 5)) (some (q + 6)) t 0 0 0 45 0 none m0) (k_RX15_77 S.2.2.2.2 ⟨Nat.le_of_ble_eq_true rfl, Nat.le_of_ble_eq_true rfl⟩) m0 rfl rfl rfl rfl (Nat.le_of_ble_eq_true rfl) dX15_make_51 ⟨Nat.le_of_ble_eq_true rfl, Nat.le_of_ble_eq_true rfl⟩) (fun r u H locs hp hnz w => ?_)
      obtain ⟨rfl, rfl⟩ := hp
      rw [show (if (1 : Int32) = 0 then (0 : Int32) else 1) = 1 from by decide]
      dsimp only at w
      refine lv_if_eq (tgt := 59) hx hb dX15_make_54 (by decide) (fun c => absurd c (by decide)) (fun _ => ?_)
      refine lv_iconst (v := 0) hx hb dX15_make_57 (by decide) ?_
      exact g_iret hx hb hr hlk w (Nat.le_of_ble_eq_true rfl) (Nat.le_of_ble_eq_true rfl) dX15_make_58 ⟨(nz_first (T := 1) (by simp [K_make, isB03, isB13, isB23, isPl0, isPl1, isPl2, c0, c_5]) (by decide)), TH_mk (T := 1) g_up_s rfl (by simp [K_make, isB03, isB13, isB23, isPl0, isPl1, isPl2, c0, c_5])⟩
  rcases isB3 c0 with rfl | rfl | rfl
  · refine lv_aload_n hx hb dX15_make_0 rfl (lv_at hl 0 rfl) ?_
    refine lv_iload_n hx hb dX15_make_1 rfl (lv_at hl 1 rfl) ?_
    refine g_calli w (g_runS (As := [.int g]) (rest := [.ref y]) S hE w hl (c_isGlobal l D ar κ G sz g) (k_RX15_207 S.2.2.2.2 ⟨Nat.le_of_ble_eq_true rfl, Nat.le_of_ble_eq_true rfl⟩) rfl rfl (Nat.le_of_ble_eq_true rfl) dX15_make_2 ⟨Nat.le_of_ble_eq_true rfl, Nat.le_of_ble_eq_true rfl⟩) (fun r u H locs hp hnz w => ?_)
    obtain ⟨rfl, rfl⟩ := hp
    dsimp only at w
    refine lv_if_eq (tgt := 16) hx hb dX15_make_5 (by decide) (fun c_5 => ?_) (fun c_5 => ?_)
    · refine lv_iconst (v := 1) hx hb dX15_make_16 (by decide) ?_
      refine lv_goto (tgt := 51) hx hb dX15_make_17 (by decide) ?_
      refine g_calli w (g_runV (As := [.int 1]) (rest := []) S hE w hl (c_isWrong l D ar κ G sz y 1 (some q) (some (q + 1)) (some (q + 2)) (some (q + 3)) (some (q + 4)) (some (q + 5)) (some (q + 6)) t 0 0 0 45 0 none m0) (k_RX15_77 S.2.2.2.2 ⟨Nat.le_of_ble_eq_true rfl, Nat.le_of_ble_eq_true rfl⟩) m0 rfl rfl rfl rfl (Nat.le_of_ble_eq_true rfl) dX15_make_51 ⟨Nat.le_of_ble_eq_true rfl, Nat.le_of_ble_eq_true rfl⟩) (fun r u H locs hp hnz w => ?_)
      obtain ⟨rfl, rfl⟩ := hp
      rw [show (if (1 : Int32) = 0 then (0 : Int32) else 1) = 1 from by decide]
      dsimp only at w
      refine lv_if_eq (tgt := 59) hx hb dX15_make_54 (by decide) (fun c => absurd c (by decide)) (fun _ => ?_)
      refine lv_iconst (v := 0) hx hb dX15_make_57 (by decide) ?_
      exact g_iret hx hb hr hlk w (Nat.le_of_ble_eq_true rfl) (Nat.le_of_ble_eq_true rfl) dX15_make_58 ⟨(nz_first (T := 1) (by simp [K_make, isB03, isB13, isB23, isPl0, isPl1, isPl2, c_5]) (by decide)), TH_mk (T := 1) g_up_s rfl (by simp [K_make, isB03, isB13, isB23, isPl0, isPl1, isPl2, c_5])⟩
    · refine lv_aload_n hx hb dX15_make_8 rfl (lv_at hl 0 rfl) ?_
      refine lv_iload_n hx hb dX15_make_9 rfl (lv_at hl 2 rfl) ?_
      refine g_calli w (g_runV (As := [.int 0]) (rest := [.ref y]) S hE w hl (c_isClass l D ar κ G sz y 0 (some q) (q + 1) (some (q + 2)) (some (q + 3)) (some (q + 4)) (some (q + 5)) (some (q + 6)) t 0 0 0 45 0 none 3 (some (q + 9)) 3 m0 m2) (k_RX15_66 S.2.2.2.2 ⟨Nat.le_of_ble_eq_true rfl, Nat.le_of_ble_eq_true rfl⟩) m0 rfl rfl rfl rfl (Nat.le_of_ble_eq_true rfl) dX15_make_10 ⟨Nat.le_of_ble_eq_true rfl, Nat.le_of_ble_eq_true rfl⟩) (fun r u H locs hp hnz w => ?_)
      obtain ⟨rfl, rfl⟩ := hp
      rw [show (isW 0 0 (3 - 1)) = 1 from by decide]
      dsimp only at w
      refine lv_if_ne (tgt := 20) hx hb dX15_make_13 (by decide) (fun _ => ?_) (fun c => absurd c (by decide))
      refine lv_iload_n hx hb dX15_make_20 rfl (lv_at hl 2 rfl) ?_
      refine lv_iconst (v := 1) hx hb dX15_make_21 (by decide) ?_
      refine lv_icmp_eq (tgt := 30) hx hb dX15_make_22 (by decide) (fun c => absurd c (by decide)) (fun _ => ?_)
      refine lv_iload_n hx hb dX15_make_25 rfl (lv_at hl 2 rfl) ?_
      refine lv_iconst (v := 2) hx hb dX15_make_26 (by decide) ?_
      refine lv_icmp_ne (tgt := 34) hx hb dX15_make_27 (by decide) (fun _ => ?_) (fun c => absurd c (by decide))
      refine lv_aload_n hx hb dX15_make_34 rfl (lv_at hl 0 rfl) ?_
      refine gf_RX15_28_19 S hE w m0 rfl dX15_make_35 ?_
      refine g_calli w (g_runV (As := []) (rest := [.ref y]) S hE w hl (c_size l D ar κ G sz (q + 3) 0 (some (κ 0)) 0 m4) (k_RX15_58 S.2.2.2.2 ⟨Nat.le_of_ble_eq_true rfl, Nat.le_of_ble_eq_true rfl⟩) m4 rfl rfl rfl rfl (Nat.le_of_ble_eq_true rfl) dX15_make_38 ⟨Nat.le_of_ble_eq_true rfl, Nat.le_of_ble_eq_true rfl⟩) (fun r u H locs hp hnz w => ?_)
      obtain ⟨rfl, rfl⟩ := hp
      dsimp only at w
      refine lv_bipush (v := 60) hx hb dX15_make_41 (by decide) ?_
      refine lv_icmp_ne (tgt := 50) hx hb dX15_make_43 (by decide) (fun _ => ?_) (fun c => absurd c (by decide))
      refine lv_iconst (v := 0) hx hb dX15_make_50 (by decide) ?_
      refine g_calli w (g_runV (As := [.int 0]) (rest := []) S hE w hl (c_isWrong l D ar κ G sz y 0 (some q) (some (q + 1)) (some (q + 2)) (some (q + 3)) (some (q + 4)) (some (q + 5)) (some (q + 6)) t 0 0 0 45 0 none m0) (k_RX15_77 S.2.2.2.2 ⟨Nat.le_of_ble_eq_true rfl, Nat.le_of_ble_eq_true rfl⟩) m0 rfl rfl rfl rfl (Nat.le_of_ble_eq_true rfl) dX15_make_51 ⟨Nat.le_of_ble_eq_true rfl, Nat.le_of_ble_eq_true rfl⟩) (fun r u H locs hp hnz w => ?_)
      obtain ⟨rfl, rfl⟩ := hp
      rw [show (if (0 : Int32) = 0 then (0 : Int32) else 1) = 0 from by decide]
      dsimp only at w
      refine lv_if_eq (tgt := 59) hx hb dX15_make_54 (by decide) (fun _ => ?_) (fun c => absurd (by decide) c)
      refine lv_aload_n hx hb dX15_make_59 rfl (lv_at hl 0 rfl) ?_
      refine gf_RX15_37_19 S hE w g_up_s rfl dX15_make_60 ?_
      refine lv_iload_n hx hb dX15_make_63 rfl (lv_at hl 1 rfl) ?_
      refine lv_aload_n hx hb dX15_make_64 rfl (lv_at hl 0 rfl) ?_
      refine lv_iload_n hx hb dX15_make_65 rfl (lv_at hl 2 rfl) ?_
      refine g_callq w (g_runV (As := [.int 0]) (rest := [.int g, .ref (q + 6)]) S hE w hl (c_makes l D ar κ (g_up G y (.inr (19, [.ref q, .ref (q + 1), .ref (q + 2), .ref (q + 3), .ref (q + 4), .ref (q + 5), .ref (q + 6), .int 0, .int 0, .int 0, .int 0, .int 45, .int 0, .null]))) sz y 0 (some (q + 1)) (some (q + 2)) (some (q + 4)) (some (q + 5)) (some (q + 6)) 0 0 0 45 0 none q (q + 3) 117 0 g_up_s (g_up_o (g_nx m4 m0 (by simp)) m4) (g_up_o (g_nx m1 m0 (by simp)) m1)) (k_RX15_221 S.2.2.2.2 ⟨Nat.le_of_ble_eq_true rfl, Nat.le_of_ble_eq_true rfl⟩) g_up_s rfl rfl rfl rfl (Nat.le_of_ble_eq_true rfl) dX15_make_66 ⟨Nat.le_of_ble_eq_true rfl, Nat.le_of_ble_eq_true rfl⟩) (fun r u H locs hp hnz w => ?_)
      obtain ⟨rfl, rfl⟩ := hp
      dsimp only at w
      have w := g_eqw w (g_cng (g_inn (g_inn (g_inn (g_inn g_over (by omega)) (by omega)) (g_nx m0 m4 (by simp))) (by omega)))
      refine g_astq (r := (RX14, TX14, 2)) hx hb hE.1 w 10 18 (g_up_o (by omega) (g_up_o (by omega) (g_up_o (g_nx m7 m4 (by simp)) (g_up_o (by omega) (g_up_o (by omega) (g_up_o (g_nx m7 m0 (by simp)) m7)))))) rfl g_up_s rfl (vinB (n := 8) rfl (by decide) c_5) dX15_make_69 (fun H locs w => ?_)
      refine lv_aload_n hx hb dX15_make_70 rfl (lv_at hl 0 rfl) ?_
      refine gf_RX15_37_19 S hE w (g_up_o (g_nx m0 m7 (by simp)) (g_up_o (by omega) (g_up_o (by omega) (g_up_o (g_nx m0 m4 (by simp)) (g_up_o (by omega) (g_up_o (by omega) g_up_s)))))) rfl dX15_make_71 ?_
      refine lv_iload_n hx hb dX15_make_74 rfl (lv_at hl 1 rfl) ?_
      refine va_aldq hx hb hE.1 (g_1 w.1 g_up_s) 0 10 rfl rfl (vinB (n := 8) rfl (by decide) c_5) dX15_make_75 ?_
      rw [show (va_up (va_up (va_up (va_up (va_up (va_up (va_up (va_up (va_up (fun _ => none) (Int32.toNatClampNeg 0) (some q)) (Int32.toNatClampNeg 1) (some q)) (Int32.toNatClampNeg 2) (some q)) (Int32.toNatClampNeg 3) (some q)) (Int32.toNatClampNeg 4) (some q)) (Int32.toNatClampNeg 5) (some q)) (Int32.toNatClampNeg 6) (some q)) (Int32.toNatClampNeg 7) (some q)) (Int32.toNatClampNeg g) (some (sz + 3))) (Int32.toNatClampNeg g) = some (sz + 3) from if_pos rfl]
      show W p l e _ s m _ below meth c _ _ _ _ _ (F0 m _ ls (.ref (sz + 3) :: _))
      refine gf_RX15_225_18 S hE w (g_up_o (by omega) g_up_s) rfl dX15_make_76 ?_
      exact g_iret hx hb hr hlk w (Nat.le_of_ble_eq_true rfl) (Nat.le_of_ble_eq_true rfl) dX15_make_79 ⟨(fun _ => rfl), TH_mk (T := 0) (g_up_o (by omega) (g_up_o (by omega) (g_up_o (by omega) (g_up_o (by omega) (g_up_o (by omega) (g_up_o (by omega) g_up_s)))))) rfl (by simp [K_make, isB03, isB13, isB23, isPl0, isPl1, isPl2, c_5])⟩
  · refine lv_aload_n hx hb dX15_make_0 rfl (lv_at hl 0 rfl) ?_
    refine lv_iload_n hx hb dX15_make_1 rfl (lv_at hl 1 rfl) ?_
    refine g_calli w (g_runS (As := [.int g]) (rest := [.ref y]) S hE w hl (c_isGlobal l D ar κ G sz g) (k_RX15_207 S.2.2.2.2 ⟨Nat.le_of_ble_eq_true rfl, Nat.le_of_ble_eq_true rfl⟩) rfl rfl (Nat.le_of_ble_eq_true rfl) dX15_make_2 ⟨Nat.le_of_ble_eq_true rfl, Nat.le_of_ble_eq_true rfl⟩) (fun r u H locs hp hnz w => ?_)
    obtain ⟨rfl, rfl⟩ := hp
    dsimp only at w
    refine lv_if_eq (tgt := 16) hx hb dX15_make_5 (by decide) (fun c_5 => ?_) (fun c_5 => ?_)
    · refine lv_iconst (v := 1) hx hb dX15_make_16 (by decide) ?_
      refine lv_goto (tgt := 51) hx hb dX15_make_17 (by decide) ?_
      refine g_calli w (g_runV (As := [.int 1]) (rest := []) S hE w hl (c_isWrong l D ar κ G sz y 1 (some q) (some (q + 1)) (some (q + 2)) (some (q + 3)) (some (q + 4)) (some (q + 5)) (some (q + 6)) t 0 0 0 45 0 none m0) (k_RX15_77 S.2.2.2.2 ⟨Nat.le_of_ble_eq_true rfl, Nat.le_of_ble_eq_true rfl⟩) m0 rfl rfl rfl rfl (Nat.le_of_ble_eq_true rfl) dX15_make_51 ⟨Nat.le_of_ble_eq_true rfl, Nat.le_of_ble_eq_true rfl⟩) (fun r u H locs hp hnz w => ?_)
      obtain ⟨rfl, rfl⟩ := hp
      rw [show (if (1 : Int32) = 0 then (0 : Int32) else 1) = 1 from by decide]
      dsimp only at w
      refine lv_if_eq (tgt := 59) hx hb dX15_make_54 (by decide) (fun c => absurd c (by decide)) (fun _ => ?_)
      refine lv_iconst (v := 0) hx hb dX15_make_57 (by decide) ?_
      exact g_iret hx hb hr hlk w (Nat.le_of_ble_eq_true rfl) (Nat.le_of_ble_eq_true rfl) dX15_make_58 ⟨(nz_first (T := 1) (by simp [K_make, isB03, isB13, isB23, isPl0, isPl1, isPl2, c_5]) (by decide)), TH_mk (T := 1) g_up_s rfl (by simp [K_make, isB03, isB13, isB23, isPl0, isPl1, isPl2, c_5])⟩
    · refine lv_aload_n hx hb dX15_make_8 rfl (lv_at hl 0 rfl) ?_
      refine lv_iload_n hx hb dX15_make_9 rfl (lv_at hl 2 rfl) ?_
      refine g_calli w (g_runV (As := [.int 1]) (rest := [.ref y]) S hE w hl (c_isClass l D ar κ G sz y 1 (some q) (q + 1) (some (q + 2)) (some (q + 3)) (some (q + 4)) (some (q + 5)) (some (q + 6)) t 0 0 0 45 0 none 3 (some (q + 9)) 3 m0 m2) (k_RX15_66 S.2.2.2.2 ⟨Nat.le_of_ble_eq_true rfl, Nat.le_of_ble_eq_true rfl⟩) m0 rfl rfl rfl rfl (Nat.le_of_ble_eq_true rfl) dX15_make_10 ⟨Nat.le_of_ble_eq_true rfl, Nat.le_of_ble_eq_true rfl⟩) (fun r u H locs hp hnz w => ?_)
      obtain ⟨rfl, rfl⟩ := hp
      rw [show (isW 1 0 (3 - 1)) = 1 from by decide]
      dsimp only at w
      refine lv_if_ne (tgt := 20) hx hb dX15_make_13 (by decide) (fun _ => ?_) (fun c => absurd c (by decide))
      refine lv_iload_n hx hb dX15_make_20 rfl (lv_at hl 2 rfl) ?_
      refine lv_iconst (v := 1) hx hb dX15_make_21 (by decide) ?_
      refine lv_icmp_eq (tgt := 30) hx hb dX15_make_22 (by decide) (fun _ => ?_) (fun c => absurd (by decide) c)
      refine lv_iconst (v := 2) hx hb dX15_make_30 (by decide) ?_
      refine lv_goto (tgt := 51) hx hb dX15_make_31 (by decide) ?_
      refine g_calli w (g_runV (As := [.int 2]) (rest := []) S hE w hl (c_isWrong l D ar κ G sz y 2 (some q) (some (q + 1)) (some (q + 2)) (some (q + 3)) (some (q + 4)) (some (q + 5)) (some (q + 6)) t 0 0 0 45 0 none m0) (k_RX15_77 S.2.2.2.2 ⟨Nat.le_of_ble_eq_true rfl, Nat.le_of_ble_eq_true rfl⟩) m0 rfl rfl rfl rfl (Nat.le_of_ble_eq_true rfl) dX15_make_51 ⟨Nat.le_of_ble_eq_true rfl, Nat.le_of_ble_eq_true rfl⟩) (fun r u H locs hp hnz w => ?_)
      obtain ⟨rfl, rfl⟩ := hp
      rw [show (if (2 : Int32) = 0 then (0 : Int32) else 1) = 1 from by decide]
      dsimp only at w
      refine lv_if_eq (tgt := 59) hx hb dX15_make_54 (by decide) (fun c => absurd c (by decide)) (fun _ => ?_)
      refine lv_iconst (v := 0) hx hb dX15_make_57 (by decide) ?_
      exact g_iret hx hb hr hlk w (Nat.le_of_ble_eq_true rfl) (Nat.le_of_ble_eq_true rfl) dX15_make_58 ⟨(nz_first (T := 2) (by simp [K_make, isB03, isB13, isB23, isPl0, isPl1, isPl2, c_5]) (by decide)), TH_mk (T := 2) g_up_s rfl (by simp [K_make, isB03, isB13, isB23, isPl0, isPl1, isPl2, c_5])⟩
  · refine lv_aload_n hx hb dX15_make_0 rfl (lv_at hl 0 rfl) ?_
    refine lv_iload_n hx hb dX15_make_1 rfl (lv_at hl 1 rfl) ?_
    refine g_calli w (g_runS (As := [.int g]) (rest := [.ref y]) S hE w hl (c_isGlobal l D ar κ G sz g) (k_RX15_207 S.2.2.2.2 ⟨Nat.le_of_ble_eq_true rfl, Nat.le_of_ble_eq_true rfl⟩) rfl rfl (Nat.le_of_ble_eq_true rfl) dX15_make_2 ⟨Nat.le_of_ble_eq_true rfl, Nat.le_of_ble_eq_true rfl⟩) (fun r u H locs hp hnz w => ?_)
    obtain ⟨rfl, rfl⟩ := hp
    dsimp only at w
    refine lv_if_eq (tgt := 16) hx hb dX15_make_5 (by decide) (fun c_5 => ?_) (fun c_5 => ?_)
    · refine lv_iconst (v := 1) hx hb dX15_make_16 (by decide) ?_
      refine lv_goto (tgt := 51) hx hb dX15_make_17 (by decide) ?_
      refine g_calli w (g_runV (As := [.int 1]) (rest := []) S hE w hl (c_isWrong l D ar κ G sz y 1 (some q) (some (q + 1)) (some (q + 2)) (some (q + 3)) (some (q + 4)) (some (q + 5)) (some (q + 6)) t 0 0 0 45 0 none m0) (k_RX15_77 S.2.2.2.2 ⟨Nat.le_of_ble_eq_true rfl, Nat.le_of_ble_eq_true rfl⟩) m0 rfl rfl rfl rfl (Nat.le_of_ble_eq_true rfl) dX15_make_51 ⟨Nat.le_of_ble_eq_true rfl, Nat.le_of_ble_eq_true rfl⟩) (fun r u H locs hp hnz w => ?_)
      obtain ⟨rfl, rfl⟩ := hp
      rw [show (if (1 : Int32) = 0 then (0 : Int32) else 1) = 1 from by decide]
      dsimp only at w
      refine lv_if_eq (tgt := 59) hx hb dX15_make_54 (by decide) (fun c => absurd c (by decide)) (fun _ => ?_)
      refine lv_iconst (v := 0) hx hb dX15_make_57 (by decide) ?_
      exact g_iret hx hb hr hlk w (Nat.le_of_ble_eq_true rfl) (Nat.le_of_ble_eq_true rfl) dX15_make_58 ⟨(nz_first (T := 1) (by simp [K_make, isB03, isB13, isB23, isPl0, isPl1, isPl2, c_5]) (by decide)), TH_mk (T := 1) g_up_s rfl (by simp [K_make, isB03, isB13, isB23, isPl0, isPl1, isPl2, c_5])⟩
    · refine lv_aload_n hx hb dX15_make_8 rfl (lv_at hl 0 rfl) ?_
      refine lv_iload_n hx hb dX15_make_9 rfl (lv_at hl 2 rfl) ?_
      refine g_calli w (g_runV (As := [.int 2]) (rest := [.ref y]) S hE w hl (c_isClass l D ar κ G sz y 2 (some q) (q + 1) (some (q + 2)) (some (q + 3)) (some (q + 4)) (some (q + 5)) (some (q + 6)) t 0 0 0 45 0 none 3 (some (q + 9)) 3 m0 m2) (k_RX15_66 S.2.2.2.2 ⟨Nat.le_of_ble_eq_true rfl, Nat.le_of_ble_eq_true rfl⟩) m0 rfl rfl rfl rfl (Nat.le_of_ble_eq_true rfl) dX15_make_10 ⟨Nat.le_of_ble_eq_true rfl, Nat.le_of_ble_eq_true rfl⟩) (fun r u H locs hp hnz w => ?_)
      obtain ⟨rfl, rfl⟩ := hp
      rw [show (isW 2 0 (3 - 1)) = 1 from by decide]
      dsimp only at w
      refine lv_if_ne (tgt := 20) hx hb dX15_make_13 (by decide) (fun _ => ?_) (fun c => absurd c (by decide))
      refine lv_iload_n hx hb dX15_make_20 rfl (lv_at hl 2 rfl) ?_
      refine lv_iconst (v := 1) hx hb dX15_make_21 (by decide) ?_
      refine lv_icmp_eq (tgt := 30) hx hb dX15_make_22 (by decide) (fun c => absurd c (by decide)) (fun _ => ?_)
      refine lv_iload_n hx hb dX15_make_25 rfl (lv_at hl 2 rfl) ?_
      refine lv_iconst (v := 2) hx hb dX15_make_26 (by decide) ?_
      refine lv_icmp_ne (tgt := 34) hx hb dX15_make_27 (by decide) (fun c => absurd (by decide) c) (fun _ => ?_)
      refine lv_iconst (v := 2) hx hb dX15_make_30 (by decide) ?_
      refine lv_goto (tgt := 51) hx hb dX15_make_31 (by decide) ?_
      refine g_calli w (g_runV (As := [.int 2]) (rest := []) S hE w hl (c_isWrong l D ar κ G sz y 2 (some q) (some (q + 1)) (some (q + 2)) (some (q + 3)) (some (q + 4)) (some (q + 5)) (some (q + 6)) t 0 0 0 45 0 none m0) (k_RX15_77 S.2.2.2.2 ⟨Nat.le_of_ble_eq_true rfl, Nat.le_of_ble_eq_true rfl⟩) m0 rfl rfl rfl rfl (Nat.le_of_ble_eq_true rfl) dX15_make_51 ⟨Nat.le_of_ble_eq_true rfl, Nat.le_of_ble_eq_true rfl⟩) (fun r u H locs hp hnz w => ?_)
      obtain ⟨rfl, rfl⟩ := hp
      rw [show (if (2 : Int32) = 0 then (0 : Int32) else 1) = 1 from by decide]
      dsimp only at w
      refine lv_if_eq (tgt := 59) hx hb dX15_make_54 (by decide) (fun c => absurd c (by decide)) (fun _ => ?_)
      refine lv_iconst (v := 0) hx hb dX15_make_57 (by decide) ?_
      exact g_iret hx hb hr hlk w (Nat.le_of_ble_eq_true rfl) (Nat.le_of_ble_eq_true rfl) dX15_make_58 ⟨(nz_first (T := 2) (by simp [K_make, isB03, isB13, isB23, isPl0, isPl1, isPl2, c_5]) (by decide)), TH_mk (T := 2) g_up_s rfl (by simp [K_make, isB03, isB13, isB23, isPl0, isPl1, isPl2, c_5])⟩
set_option maxHeartbeats 4000000 in
set_option maxRecDepth 100000 in
theorem c_X11_init (l : Launch) (D : va_G) (ar : Nat → ClassId) (κ : Nat → Nat) (G : gW) (sz : Nat) (o : Nat) (i1 : Int32) (i2 : Int32) (i3 : Int32) (i4 : Int32) (ho : G o = some (.inr (15, [.int 0, .int 0, .int 0, .int 0, .null, .null, .int 0, .int 0]))) : Met l yX11_init (lwC yX11_init cX11_init 5 none) (rD 5 2 27) (g_Pc D vwCl (gT ar) (EX1 κ) G sz [.ref o, .int i1, .int i2, .int i3, .int i4]) (g_Qv D vwCl (g_A G sz) (fun u => u = ((g_up (g_up (g_up G sz (.inr (3, [.int 0, .ref (κ 0), .int 0]))) o (.inr (15, [.int i1, .int i2, .int i3, .int i4, .ref sz, .ref (sz + 1), .int 0, .int 0]))) (sz + 1) (.inl (ar 0, 24, .inl (fun _ => 0)))), sz + 2))) 2 27 (g_A G sz) := by
  refine g_ofW (by decide +kernel) (Nat.le_of_ble_eq_true rfl) ?_
  intro p e s m below meth c ls S hr hlk hin hE w hl
  have hx := S.1
  have hb := S.2.1
  have hl : lv_has ls 5 [(0, .ref o), (1, .int i1), (2, .int i2), (3, .int i3), (4, .int i4)] := hl
  have lt_ho : o < sz := g_ltn w ho
  refine lv_aload_n hx hb dX11_init_0 rfl (lv_at hl 0 rfl) ?_
  refine W.objInit hx hb S.2.2.2.1 (S.2.2.2.2 _ m_7_104) (S.2.2.2.2 _ m_1_47) (S.2.2.2.2 _ m_obj) rfl (by rw [S.2.2.1]; exact hl.1) rfl dX11_init_1 (Nat.le_of_ble_eq_true rfl) (Nat.le_of_ble_eq_true rfl) ?_
  refine W.eq (g2 := F0 m 4 ls []) rfl ?_
  refine lv_aload_n hx hb dX11_init_4 rfl (lv_at hl 0 rfl) ?_
  refine nw_RX11_9 S hE w (Nat.le_of_ble_eq_true rfl) (Nat.le_of_ble_eq_true rfl) dX11_init_5 (fun H w => ?_)
  refine lv_dup hx hb dX11_init_8 rfl ?_
  refine g_callv w (g_runI (As := []) (rest := [.ref sz, .ref o]) S hE w hl (c_ArrayList_init l D ar κ (g_up G sz (.inr (3, [.int 0, .null, .int 0]))) (sz + 1) sz g_up_s) (k_RX11_11 S.2.2.2.2 ⟨Nat.le_of_ble_eq_true rfl, Nat.le_of_ble_eq_true rfl⟩) rfl rfl (Nat.le_of_ble_eq_true rfl) dX11_init_9 ⟨Nat.le_of_ble_eq_true rfl, Nat.le_of_ble_eq_true rfl⟩) (fun u H locs hp hnz w => ?_)
  obtain rfl := hp
  dsimp only at w
  have w := g_eqw w g_over
  refine pf_RX11_12_15 (fs1 := [.int 0, .int 0, .int 0, .int 0, .ref sz, .null, .int 0, .int 0]) S hE hin w (g_up_o (by omega) ho) rfl rfl (Nat.le_of_ble_eq_true rfl) rfl dX11_init_12 (fun H locs w => ?_)
  refine lv_aload_n hx hb dX11_init_15 rfl (lv_at hl 0 rfl) ?_
  refine lv_bipush (v := 24) hx hb dX11_init_16 (by decide) ?_
  refine g_newa (atype := .int) (a0 := (24, .inl (fun _ => 0))) hx hb (S.2.2.2.2 _ m_1_66) rfl hE.1 w 0 rfl rfl (by decide) rfl (Nat.le_of_ble_eq_true rfl) (Nat.le_of_ble_eq_true rfl) (Nat.le_of_ble_eq_true rfl) dX11_init_18 (fun H w => ?_)
  refine pf_RX11_18_15 (fs1 := [.int 0, .int 0, .int 0, .int 0, .ref sz, .ref (sz + 1), .int 0, .int 0]) S hE hin w (g_up_o (by omega) g_up_s) rfl rfl (Nat.le_of_ble_eq_true rfl) rfl dX11_init_20 (fun H locs w => ?_)
  have w := g_eqw w (g_inn g_over (by omega))
  refine lv_aload_n hx hb dX11_init_23 rfl (lv_at hl 0 rfl) ?_
  refine lv_iload_n hx hb dX11_init_24 rfl (lv_at hl 1 rfl) ?_
  refine pf_RX11_22_15 (fs1 := [.int i1, .int 0, .int 0, .int 0, .ref sz, .ref (sz + 1), .int 0, .int 0]) S hE hin w (g_up_o (by omega) g_up_s) rfl rfl (Nat.le_of_ble_eq_true rfl) rfl dX11_init_25 (fun H locs w => ?_)
  have w := g_eqw w (g_inn g_over (by omega))
  refine lv_aload_n hx hb dX11_init_28 rfl (lv_at hl 0 rfl) ?_
  refine lv_iload_n hx hb dX11_init_29 rfl (lv_at hl 2 rfl) ?_
  refine pf_RX11_26_15 (fs1 := [.int i1, .int i2, .int 0, .int 0, .ref sz, .ref (sz + 1), .int 0, .int 0]) S hE hin w (g_up_o (by omega) g_up_s) rfl rfl (Nat.le_of_ble_eq_true rfl) rfl dX11_init_30 (fun H locs w => ?_)
  have w := g_eqw w (g_inn g_over (by omega))
  refine lv_aload_n hx hb dX11_init_33 rfl (lv_at hl 0 rfl) ?_
  refine lv_iload_n hx hb dX11_init_34 rfl (lv_at hl 3 rfl) ?_
  refine pf_RX11_29_15 (fs1 := [.int i1, .int i2, .int i3, .int 0, .ref sz, .ref (sz + 1), .int 0, .int 0]) S hE hin w (g_up_o (by omega) g_up_s) rfl rfl (Nat.le_of_ble_eq_true rfl) rfl dX11_init_35 (fun H locs w => ?_)
  have w := g_eqw w (g_inn g_over (by omega))
  refine lv_aload_n hx hb dX11_init_38 rfl (lv_at hl 0 rfl) ?_
  refine lv_iload hx hb dX11_init_39 (lv_at hl 4 rfl) ?_
  refine pf_RX11_32_15 (fs1 := [.int i1, .int i2, .int i3, .int i4, .ref sz, .ref (sz + 1), .int 0, .int 0]) S hE hin w (g_up_o (by omega) g_up_s) rfl rfl (Nat.le_of_ble_eq_true rfl) rfl dX11_init_41 (fun H locs w => ?_)
  have w := g_eqw w (g_inn g_over (by omega))
  exact g_vret hx hb hr hlk w (Nat.le_of_ble_eq_true rfl) (Nat.le_of_ble_eq_true rfl) dX11_init_44 rfl
set_option maxHeartbeats 4000000 in
set_option maxRecDepth 100000 in
theorem m_method (l : Launch) (D : va_G) (ar : Nat → ClassId) (κ : Nat → Nat) (G : gW) (sz : Nat) (y : Nat) (cl : Int32) (se : Int32) (a : Int32) (tm : Int32) (q : Nat) (t : Int32) (hM : FM ar κ G y q t) : Met l yX15_method (lwC yX15_method cX15_method 6 (some .int)) (rD 8 4 35) (g_Pc D vwCl (gT ar) (EX1 κ) G sz [.ref y, .int cl, .int se, .int a, .int tm]) (g_Qi D vwCl (g_A G sz) (fun r u => ((K_told cl se a tm : Int32) = 0 → r = 0) ∧ TH y (K_told cl se a tm) u)) 4 35 (g_A G sz) := by
  refine g_ofW (by decide +kernel) (Nat.le_of_ble_eq_true rfl) ?_
  intro p e s m below meth c ls S hr hlk hin hE w hl
  have hx := S.1
  have hb := S.2.1
  have hl : lv_has ls 6 [(0, .ref y), (1, .int cl), (2, .int se), (3, .int a), (4, .int tm)] := hl
  obtain ⟨hyq, m0, m1, m2, m3, m4, m5, m6, m7, m8, m9, m10, m11, m12, m13, m14⟩ := id hM
  have lt13 : q + 13 < sz := g_ltn w m14
  by_cases c0 : isB cl 3 = 0
  · refine lv_aload_n hx hb dX15_method_0 rfl (lv_at hl 0 rfl) ?_
    refine lv_aload_n hx hb dX15_method_1 rfl (lv_at hl 0 rfl) ?_
    refine lv_iload_n hx hb dX15_method_2 rfl (lv_at hl 1 rfl) ?_
    refine lv_iload_n hx hb dX15_method_3 rfl (lv_at hl 2 rfl) ?_
    refine g_calli w (g_runV (As := [.int cl, .int se]) (rest := [.ref y]) S hE w hl (c_isPlaceA l D ar κ G sz y cl se (some q) (q + 1) (some (q + 2)) (some (q + 3)) (some (q + 4)) (some (q + 5)) (some (q + 6)) t 0 0 0 45 0 none 3 (some (q + 9)) m0 m2 c0) (k_RX15_144 S.2.2.2.2 ⟨Nat.le_of_ble_eq_true rfl, Nat.le_of_ble_eq_true rfl⟩) m0 rfl rfl rfl rfl (Nat.le_of_ble_eq_true rfl) dX15_method_4 ⟨Nat.le_of_ble_eq_true rfl, Nat.le_of_ble_eq_true rfl⟩) (fun r u H locs hp hnz w => ?_)
    obtain ⟨rfl, rfl⟩ := hp
    dsimp only at w
    refine lv_if_ne (tgt := 14) hx hb dX15_method_7 (by decide) (fun c => absurd (by decide) c) (fun _ => ?_)
    refine lv_iconst (v := 1) hx hb dX15_method_10 (by decide) ?_
    refine lv_goto (tgt := 38) hx hb dX15_method_11 (by decide) ?_
    refine g_calli w (g_runV (As := [.int 1]) (rest := []) S hE w hl (c_isWrong l D ar κ G sz y 1 (some q) (some (q + 1)) (some (q + 2)) (some (q + 3)) (some (q + 4)) (some (q + 5)) (some (q + 6)) t 0 0 0 45 0 none m0) (k_RX15_77 S.2.2.2.2 ⟨Nat.le_of_ble_eq_true rfl, Nat.le_of_ble_eq_true rfl⟩) m0 rfl rfl rfl rfl (Nat.le_of_ble_eq_true rfl) dX15_method_38 ⟨Nat.le_of_ble_eq_true rfl, Nat.le_of_ble_eq_true rfl⟩) (fun r u H locs hp hnz w => ?_)
    obtain ⟨rfl, rfl⟩ := hp
    rw [show (if (1 : Int32) = 0 then (0 : Int32) else 1) = 1 from by decide]
    dsimp only at w
    refine lv_if_eq (tgt := 46) hx hb dX15_method_41 (by decide) (fun c => absurd c (by decide)) (fun _ => ?_)
    refine lv_iconst (v := 0) hx hb dX15_method_44 (by decide) ?_
    exact g_iret hx hb hr hlk w (Nat.le_of_ble_eq_true rfl) (Nat.le_of_ble_eq_true rfl) dX15_method_45 ⟨(fun h => absurd h K_told_n), TH_mk (T := 1) g_up_s rfl (by simp [K_told, isB03, isB13, isB23, isPl0, isPl1, isPl2, c0])⟩
  rcases isB3 c0 with rfl | rfl | rfl
  · by_cases d0 : isB se 16 = 0
    · refine lv_aload_n hx hb dX15_method_0 rfl (lv_at hl 0 rfl) ?_
      refine lv_aload_n hx hb dX15_method_1 rfl (lv_at hl 0 rfl) ?_
      refine lv_iload_n hx hb dX15_method_2 rfl (lv_at hl 1 rfl) ?_
      refine lv_iload_n hx hb dX15_method_3 rfl (lv_at hl 2 rfl) ?_
      refine g_calli w (g_runV (As := [.int 0, .int se]) (rest := [.ref y]) S hE w hl (c_isPlaceB l D ar κ G sz y 0 se (some q) (q + 1) (some (q + 2)) (some (q + 3)) (some (q + 4)) (some (q + 5)) (some (q + 6)) t 0 0 0 45 0 none 3 (some (q + 9)) m0 m2 (by decide) d0) (k_RX15_144 S.2.2.2.2 ⟨Nat.le_of_ble_eq_true rfl, Nat.le_of_ble_eq_true rfl⟩) m0 rfl rfl rfl rfl (Nat.le_of_ble_eq_true rfl) dX15_method_4 ⟨Nat.le_of_ble_eq_true rfl, Nat.le_of_ble_eq_true rfl⟩) (fun r u H locs hp hnz w => ?_)
      obtain ⟨rfl, rfl⟩ := hp
      dsimp only at w
      refine lv_if_ne (tgt := 14) hx hb dX15_method_7 (by decide) (fun c => absurd (by decide) c) (fun _ => ?_)
      refine lv_iconst (v := 1) hx hb dX15_method_10 (by decide) ?_
      refine lv_goto (tgt := 38) hx hb dX15_method_11 (by decide) ?_
      refine g_calli w (g_runV (As := [.int 1]) (rest := []) S hE w hl (c_isWrong l D ar κ G sz y 1 (some q) (some (q + 1)) (some (q + 2)) (some (q + 3)) (some (q + 4)) (some (q + 5)) (some (q + 6)) t 0 0 0 45 0 none m0) (k_RX15_77 S.2.2.2.2 ⟨Nat.le_of_ble_eq_true rfl, Nat.le_of_ble_eq_true rfl⟩) m0 rfl rfl rfl rfl (Nat.le_of_ble_eq_true rfl) dX15_method_38 ⟨Nat.le_of_ble_eq_true rfl, Nat.le_of_ble_eq_true rfl⟩) (fun r u H locs hp hnz w => ?_)
      obtain ⟨rfl, rfl⟩ := hp
      rw [show (if (1 : Int32) = 0 then (0 : Int32) else 1) = 1 from by decide]
      dsimp only at w
      refine lv_if_eq (tgt := 46) hx hb dX15_method_41 (by decide) (fun c => absurd c (by decide)) (fun _ => ?_)
      refine lv_iconst (v := 0) hx hb dX15_method_44 (by decide) ?_
      exact g_iret hx hb hr hlk w (Nat.le_of_ble_eq_true rfl) (Nat.le_of_ble_eq_true rfl) dX15_method_45 ⟨(fun h => absurd h K_told_n), TH_mk (T := 1) g_up_s rfl (by simp [K_told, isB03, isB13, isB23, isPl0, isPl1, isPl2, d0])⟩
    · refine lv_aload_n hx hb dX15_method_0 rfl (lv_at hl 0 rfl) ?_
      refine lv_aload_n hx hb dX15_method_1 rfl (lv_at hl 0 rfl) ?_
      refine lv_iload_n hx hb dX15_method_2 rfl (lv_at hl 1 rfl) ?_
      refine lv_iload_n hx hb dX15_method_3 rfl (lv_at hl 2 rfl) ?_
      refine g_calli w (g_runV (As := [.int 0, .int se]) (rest := [.ref y]) S hE w hl (c_isPlaceC l D ar κ G sz y 0 se (some q) (q + 1) (some (q + 2)) (some (q + 3)) (some (q + 4)) (some (q + 5)) (some (q + 6)) t 0 0 0 45 0 none 3 (some (q + 9)) m0 m2 (by decide) d0) (k_RX15_144 S.2.2.2.2 ⟨Nat.le_of_ble_eq_true rfl, Nat.le_of_ble_eq_true rfl⟩) m0 rfl rfl rfl rfl (Nat.le_of_ble_eq_true rfl) dX15_method_4 ⟨Nat.le_of_ble_eq_true rfl, Nat.le_of_ble_eq_true rfl⟩) (fun r u H locs hp hnz w => ?_)
      obtain ⟨rfl, rfl⟩ := hp
      dsimp only at w
      refine lv_if_ne (tgt := 14) hx hb dX15_method_7 (by decide) (fun _ => ?_) (fun c => absurd c (by decide))
      refine lv_iload_n hx hb dX15_method_14 rfl (lv_at hl 3 rfl) ?_
      refine lv_iconst (v := 0) hx hb dX15_method_15 (by decide) ?_
      refine lv_iconst (v := 2) hx hb dX15_method_16 (by decide) ?_
      refine g_calli w (g_runS (As := [.int a, .int 0, .int 2]) (rest := [.ref y]) S hE w hl (c_isBetween l D ar κ G sz a 0 2) (k_RX15_62 S.2.2.2.2 ⟨Nat.le_of_ble_eq_true rfl, Nat.le_of_ble_eq_true rfl⟩) rfl rfl (Nat.le_of_ble_eq_true rfl) dX15_method_17 ⟨Nat.le_of_ble_eq_true rfl, Nat.le_of_ble_eq_true rfl⟩) (fun r u H locs hp hnz w => ?_)
      obtain ⟨rfl, rfl⟩ := hp
      rw [show (isW a 0 2) = isB a 3 from isW_B rfl (by decide) (by decide)]
      dsimp only at w
      refine lv_if_eq (tgt := 33) hx hb dX15_method_20 (by decide) (fun c_20 => ?_) (fun c_20 => ?_)
      · refine lv_iconst (v := 2) hx hb dX15_method_33 (by decide) ?_
        refine lv_goto (tgt := 38) hx hb dX15_method_34 (by decide) ?_
        refine g_calli w (g_runV (As := [.int 2]) (rest := []) S hE w hl (c_isWrong l D ar κ G sz y 2 (some q) (some (q + 1)) (some (q + 2)) (some (q + 3)) (some (q + 4)) (some (q + 5)) (some (q + 6)) t 0 0 0 45 0 none m0) (k_RX15_77 S.2.2.2.2 ⟨Nat.le_of_ble_eq_true rfl, Nat.le_of_ble_eq_true rfl⟩) m0 rfl rfl rfl rfl (Nat.le_of_ble_eq_true rfl) dX15_method_38 ⟨Nat.le_of_ble_eq_true rfl, Nat.le_of_ble_eq_true rfl⟩) (fun r u H locs hp hnz w => ?_)
        obtain ⟨rfl, rfl⟩ := hp
        rw [show (if (2 : Int32) = 0 then (0 : Int32) else 1) = 1 from by decide]
        dsimp only at w
        refine lv_if_eq (tgt := 46) hx hb dX15_method_41 (by decide) (fun c => absurd c (by decide)) (fun _ => ?_)
        refine lv_iconst (v := 0) hx hb dX15_method_44 (by decide) ?_
        exact g_iret hx hb hr hlk w (Nat.le_of_ble_eq_true rfl) (Nat.le_of_ble_eq_true rfl) dX15_method_45 ⟨(fun h => absurd h K_told_n), TH_mk (T := 2) g_up_s rfl (by simp [K_told, isB03, isB13, isB23, isPl0, isPl1, isPl2, d0, c_20])⟩
      · refine lv_iload hx hb dX15_method_23 (lv_at hl 4 rfl) ?_
        refine lv_iconst (v := 0) hx hb dX15_method_25 (by decide) ?_
        refine lv_iconst (v := 4) hx hb dX15_method_26 (by decide) ?_
        refine g_calli w (g_runS (As := [.int tm, .int 0, .int 4]) (rest := [.ref y]) S hE w hl (c_isBetween l D ar κ G sz tm 0 4) (k_RX15_62 S.2.2.2.2 ⟨Nat.le_of_ble_eq_true rfl, Nat.le_of_ble_eq_true rfl⟩) rfl rfl (Nat.le_of_ble_eq_true rfl) dX15_method_27 ⟨Nat.le_of_ble_eq_true rfl, Nat.le_of_ble_eq_true rfl⟩) (fun r u H locs hp hnz w => ?_)
        obtain ⟨rfl, rfl⟩ := hp
        rw [show (isW tm 0 4) = isB tm 5 from isW_B rfl (by decide) (by decide)]
        dsimp only at w
        refine lv_if_ne (tgt := 37) hx hb dX15_method_30 (by decide) (fun c_30 => ?_) (fun c_30 => ?_)
        · refine lv_iconst (v := 0) hx hb dX15_method_37 (by decide) ?_
          refine g_calli w (g_runV (As := [.int 0]) (rest := []) S hE w hl (c_isWrong l D ar κ G sz y 0 (some q) (some (q + 1)) (some (q + 2)) (some (q + 3)) (some (q + 4)) (some (q + 5)) (some (q + 6)) t 0 0 0 45 0 none m0) (k_RX15_77 S.2.2.2.2 ⟨Nat.le_of_ble_eq_true rfl, Nat.le_of_ble_eq_true rfl⟩) m0 rfl rfl rfl rfl (Nat.le_of_ble_eq_true rfl) dX15_method_38 ⟨Nat.le_of_ble_eq_true rfl, Nat.le_of_ble_eq_true rfl⟩) (fun r u H locs hp hnz w => ?_)
          obtain ⟨rfl, rfl⟩ := hp
          rw [show (if (0 : Int32) = 0 then (0 : Int32) else 1) = 0 from by decide]
          dsimp only at w
          refine lv_if_eq (tgt := 46) hx hb dX15_method_41 (by decide) (fun _ => ?_) (fun c => absurd (by decide) c)
          refine nw_RX15_112 S hE w (Nat.le_of_ble_eq_true rfl) (Nat.le_of_ble_eq_true rfl) dX15_method_46 (fun H w => ?_)
          refine lv_dup hx hb dX15_method_49 rfl ?_
          refine lv_iload_n hx hb dX15_method_50 rfl (lv_at hl 1 rfl) ?_
          refine lv_iload_n hx hb dX15_method_51 rfl (lv_at hl 2 rfl) ?_
          refine lv_iload_n hx hb dX15_method_52 rfl (lv_at hl 3 rfl) ?_
          refine lv_iload hx hb dX15_method_53 (lv_at hl 4 rfl) ?_
          refine g_callv w (g_runI (As := [.int 0, .int se, .int a, .int tm]) (rest := [.ref sz]) S hE w hl (c_X11_init l D ar κ (g_up (g_up G y (.inr (19, [.ref q, .ref (q + 1), .ref (q + 2), .ref (q + 3), .ref (q + 4), .ref (q + 5), .ref (q + 6), .int 0, .int 0, .int 0, .int 0, .int 45, .int 0, .null]))) sz (.inr (15, [.int 0, .int 0, .int 0, .int 0, .null, .null, .int 0, .int 0]))) (sz + 1) sz 0 se a tm g_up_s) (k_RX15_148 S.2.2.2.2 ⟨Nat.le_of_ble_eq_true rfl, Nat.le_of_ble_eq_true rfl⟩) rfl rfl (Nat.le_of_ble_eq_true rfl) dX15_method_55 ⟨Nat.le_of_ble_eq_true rfl, Nat.le_of_ble_eq_true rfl⟩) (fun u H locs hp hnz w => ?_)
          obtain rfl := hp
          dsimp only at w
          have w := g_eqw w (g_cng (g_inn g_over (by omega)))
          refine lv_astore (lv' := [(5, .ref sz), (0, .ref y), (1, .int 0), (2, .int se), (3, .int a), (4, .int tm)]) hx hb dX15_method_58 hl (by decide) rfl (fun ls hl => ?_)
          refine lv_aload hx hb dX15_method_60 (lv_at hl 0 rfl) ?_
          refine gf_RX15_122_15 S hE w (g_up_o (by omega) (g_up_o (by omega) g_up_s)) rfl dX15_method_62 ?_
          refine lv_aload_n hx hb dX15_method_65 rfl (lv_at hl 1 rfl) ?_
          refine gf_RX15_25_19 S hE w (g_up_o (by omega) (g_up_o (by omega) (g_up_o (by omega) g_up_s))) rfl dX15_method_66 ?_
          refine g_calli w (g_runV (As := [.ref (q + 2)]) (rest := []) S hE w hl (c_addAll0 l D ar κ (g_up (g_up (g_up (g_up G y (.inr (19, [.ref q, .ref (q + 1), .ref (q + 2), .ref (q + 3), .ref (q + 4), .ref (q + 5), .ref (q + 6), .int 0, .int 0, .int 0, .int 0, .int 45, .int 0, .null]))) sz (.inr (15, [.int 0, .int se, .int a, .int tm, .ref (sz + 1), .ref (sz + 2), .int 0, .int 0]))) (sz + 1) (.inr (3, [.int 0, .ref (κ 0), .int 0]))) (sz + 2) (.inl (ar 0, 24, .inl (fun _ => 0)))) (sz + 3) (sz + 1) (q + 2) 0 (some (κ 0)) 0 0 (g_up_o (by omega) g_up_s) (g_up_o (by omega) (g_up_o (by omega) (g_up_o (by omega) (g_up_o (g_nx m3 m0 (by simp)) m3)))) (by omega)) (k_RX15_151 S.2.2.2.2 ⟨Nat.le_of_ble_eq_true rfl, Nat.le_of_ble_eq_true rfl⟩) (g_up_o (by omega) g_up_s) rfl rfl rfl rfl (Nat.le_of_ble_eq_true rfl) dX15_method_69 ⟨Nat.le_of_ble_eq_true rfl, Nat.le_of_ble_eq_true rfl⟩) (fun r u H locs hp hnz w => ?_)
          obtain ⟨rfl, rfl⟩ := hp
          dsimp only at w
          have w := g_eqw w (g_inn (g_inn g_over (by omega)) (by omega))
          rw [show ((0 + 1) : Int32) = 1 from by decide +kernel] at w
          refine lv_pop hx hb dX15_method_72 rfl ?_
          refine lv_aload_n hx hb dX15_method_73 rfl (lv_at hl 1 rfl) ?_
          refine lv_aload_n hx hb dX15_method_74 rfl (lv_at hl 1 rfl) ?_
          refine gf_RX15_25_19 S hE w (g_up_o (by omega) (g_up_o (by omega) (g_up_o (by omega) (g_up_o (by omega) g_up_s)))) rfl dX15_method_75 ?_
          refine g_calli w (g_runV (As := []) (rest := [.ref y]) S hE w hl (c_isEmpty0 l D ar κ (g_up (g_up (g_up (g_up (g_up G y (.inr (19, [.ref q, .ref (q + 1), .ref (q + 2), .ref (q + 3), .ref (q + 4), .ref (q + 5), .ref (q + 6), .int 0, .int 0, .int 0, .int 0, .int 45, .int 0, .null]))) sz (.inr (15, [.int 0, .int se, .int a, .int tm, .ref (sz + 1), .ref (sz + 2), .int 0, .int 0]))) (sz + 1) (.inr (3, [.int 1, .ref (κ 0), .int 0]))) (sz + 2) (.inl (ar 0, 24, .inl (fun _ => 0)))) (sz + 3) (.inl (ar 11, 0, .inr (.inr (.inr (.inr (fun _ => none))))))) (sz + 4) (q + 2) 0 (some (κ 0)) (g_up_o (by omega) (g_up_o (by omega) (g_up_o (by omega) (g_up_o (by omega) (g_up_o (g_nx m3 m0 (by simp)) m3)))))) (k_RX15_155 S.2.2.2.2 ⟨Nat.le_of_ble_eq_true rfl, Nat.le_of_ble_eq_true rfl⟩) (g_up_o (by omega) (g_up_o (by omega) (g_up_o (by omega) (g_up_o (by omega) (g_up_o (g_nx m3 m0 (by simp)) m3))))) rfl rfl rfl rfl (Nat.le_of_ble_eq_true rfl) dX15_method_78 ⟨Nat.le_of_ble_eq_true rfl, Nat.le_of_ble_eq_true rfl⟩) (fun r u H locs hp hnz w => ?_)
          obtain ⟨rfl, rfl⟩ := hp
          dsimp only at w
          refine lv_if_ne (tgt := 93) hx hb dX15_method_81 (by decide) (fun _ => ?_) (fun c => absurd c (by decide))
          refine lv_iconst (v := 3) hx hb dX15_method_93 (by decide) ?_
          refine lv_goto (tgt := 98) hx hb dX15_method_94 (by decide) ?_
          refine g_calli w (g_runV (As := [.int 3]) (rest := []) S hE w hl (c_isWrong l D ar κ (g_up (g_up (g_up (g_up (g_up G y (.inr (19, [.ref q, .ref (q + 1), .ref (q + 2), .ref (q + 3), .ref (q + 4), .ref (q + 5), .ref (q + 6), .int 0, .int 0, .int 0, .int 0, .int 45, .int 0, .null]))) sz (.inr (15, [.int 0, .int se, .int a, .int tm, .ref (sz + 1), .ref (sz + 2), .int 0, .int 0]))) (sz + 1) (.inr (3, [.int 1, .ref (κ 0), .int 0]))) (sz + 2) (.inl (ar 0, 24, .inl (fun _ => 0)))) (sz + 3) (.inl (ar 11, 0, .inr (.inr (.inr (.inr (fun _ => none))))))) (sz + 4) y 3 (some q) (some (q + 1)) (some (q + 2)) (some (q + 3)) (some (q + 4)) (some (q + 5)) (some (q + 6)) 0 0 0 0 45 0 none (g_up_o (by omega) (g_up_o (by omega) (g_up_o (by omega) (g_up_o (by omega) g_up_s))))) (k_RX15_77 S.2.2.2.2 ⟨Nat.le_of_ble_eq_true rfl, Nat.le_of_ble_eq_true rfl⟩) (g_up_o (by omega) (g_up_o (by omega) (g_up_o (by omega) (g_up_o (by omega) g_up_s)))) rfl rfl rfl rfl (Nat.le_of_ble_eq_true rfl) dX15_method_98 ⟨Nat.le_of_ble_eq_true rfl, Nat.le_of_ble_eq_true rfl⟩) (fun r u H locs hp hnz w => ?_)
          obtain ⟨rfl, rfl⟩ := hp
          rw [show (if (3 : Int32) = 0 then (0 : Int32) else 1) = 1 from by decide]
          dsimp only at w
          have w := g_eqw w (g_inn (g_inn (g_inn (g_inn g_over (by omega)) (by omega)) (by omega)) (by omega))
          refine lv_if_eq (tgt := 106) hx hb dX15_method_101 (by decide) (fun c => absurd c (by decide)) (fun _ => ?_)
          refine lv_iconst (v := 0) hx hb dX15_method_104 (by decide) ?_
          exact g_iret hx hb hr hlk w (Nat.le_of_ble_eq_true rfl) (Nat.le_of_ble_eq_true rfl) dX15_method_105 ⟨(fun h => absurd h K_told_n), TH_mk (T := 3) (g_up_o (by omega) (g_up_o (by omega) (g_up_o (by omega) (g_up_o (by omega) g_up_s)))) rfl (by simp [K_told, isB03, isB13, isB23, isPl0, isPl1, isPl2, d0, c_20, c_30])⟩
        · refine lv_iconst (v := 2) hx hb dX15_method_33 (by decide) ?_
          refine lv_goto (tgt := 38) hx hb dX15_method_34 (by decide) ?_
          refine g_calli w (g_runV (As := [.int 2]) (rest := []) S hE w hl (c_isWrong l D ar κ G sz y 2 (some q) (some (q + 1)) (some (q + 2)) (some (q + 3)) (some (q + 4)) (some (q + 5)) (some (q + 6)) t 0 0 0 45 0 none m0) (k_RX15_77 S.2.2.2.2 ⟨Nat.le_of_ble_eq_true rfl, Nat.le_of_ble_eq_true rfl⟩) m0 rfl rfl rfl rfl (Nat.le_of_ble_eq_true rfl) dX15_method_38 ⟨Nat.le_of_ble_eq_true rfl, Nat.le_of_ble_eq_true rfl⟩) (fun r u H locs hp hnz w => ?_)
          obtain ⟨rfl, rfl⟩ := hp
          rw [show (if (2 : Int32) = 0 then (0 : Int32) else 1) = 1 from by decide]
          dsimp only at w
          refine lv_if_eq (tgt := 46) hx hb dX15_method_41 (by decide) (fun c => absurd c (by decide)) (fun _ => ?_)
          refine lv_iconst (v := 0) hx hb dX15_method_44 (by decide) ?_
          exact g_iret hx hb hr hlk w (Nat.le_of_ble_eq_true rfl) (Nat.le_of_ble_eq_true rfl) dX15_method_45 ⟨(fun h => absurd h K_told_n), TH_mk (T := 2) g_up_s rfl (by simp [K_told, isB03, isB13, isB23, isPl0, isPl1, isPl2, d0, c_20, c_30])⟩
  · by_cases d0 : isB se 16 = 0
    · refine lv_aload_n hx hb dX15_method_0 rfl (lv_at hl 0 rfl) ?_
      refine lv_aload_n hx hb dX15_method_1 rfl (lv_at hl 0 rfl) ?_
      refine lv_iload_n hx hb dX15_method_2 rfl (lv_at hl 1 rfl) ?_
      refine lv_iload_n hx hb dX15_method_3 rfl (lv_at hl 2 rfl) ?_
      refine g_calli w (g_runV (As := [.int 1, .int se]) (rest := [.ref y]) S hE w hl (c_isPlaceB l D ar κ G sz y 1 se (some q) (q + 1) (some (q + 2)) (some (q + 3)) (some (q + 4)) (some (q + 5)) (some (q + 6)) t 0 0 0 45 0 none 3 (some (q + 9)) m0 m2 (by decide) d0) (k_RX15_144 S.2.2.2.2 ⟨Nat.le_of_ble_eq_true rfl, Nat.le_of_ble_eq_true rfl⟩) m0 rfl rfl rfl rfl (Nat.le_of_ble_eq_true rfl) dX15_method_4 ⟨Nat.le_of_ble_eq_true rfl, Nat.le_of_ble_eq_true rfl⟩) (fun r u H locs hp hnz w => ?_)
      obtain ⟨rfl, rfl⟩ := hp
      dsimp only at w
      refine lv_if_ne (tgt := 14) hx hb dX15_method_7 (by decide) (fun c => absurd (by decide) c) (fun _ => ?_)
      refine lv_iconst (v := 1) hx hb dX15_method_10 (by decide) ?_
      refine lv_goto (tgt := 38) hx hb dX15_method_11 (by decide) ?_
      refine g_calli w (g_runV (As := [.int 1]) (rest := []) S hE w hl (c_isWrong l D ar κ G sz y 1 (some q) (some (q + 1)) (some (q + 2)) (some (q + 3)) (some (q + 4)) (some (q + 5)) (some (q + 6)) t 0 0 0 45 0 none m0) (k_RX15_77 S.2.2.2.2 ⟨Nat.le_of_ble_eq_true rfl, Nat.le_of_ble_eq_true rfl⟩) m0 rfl rfl rfl rfl (Nat.le_of_ble_eq_true rfl) dX15_method_38 ⟨Nat.le_of_ble_eq_true rfl, Nat.le_of_ble_eq_true rfl⟩) (fun r u H locs hp hnz w => ?_)
      obtain ⟨rfl, rfl⟩ := hp
      rw [show (if (1 : Int32) = 0 then (0 : Int32) else 1) = 1 from by decide]
      dsimp only at w
      refine lv_if_eq (tgt := 46) hx hb dX15_method_41 (by decide) (fun c => absurd c (by decide)) (fun _ => ?_)
      refine lv_iconst (v := 0) hx hb dX15_method_44 (by decide) ?_
      exact g_iret hx hb hr hlk w (Nat.le_of_ble_eq_true rfl) (Nat.le_of_ble_eq_true rfl) dX15_method_45 ⟨(fun h => absurd h K_told_n), TH_mk (T := 1) g_up_s rfl (by simp [K_told, isB03, isB13, isB23, isPl0, isPl1, isPl2, d0])⟩
    · refine lv_aload_n hx hb dX15_method_0 rfl (lv_at hl 0 rfl) ?_
      refine lv_aload_n hx hb dX15_method_1 rfl (lv_at hl 0 rfl) ?_
      refine lv_iload_n hx hb dX15_method_2 rfl (lv_at hl 1 rfl) ?_
      refine lv_iload_n hx hb dX15_method_3 rfl (lv_at hl 2 rfl) ?_
      refine g_calli w (g_runV (As := [.int 1, .int se]) (rest := [.ref y]) S hE w hl (c_isPlaceC l D ar κ G sz y 1 se (some q) (q + 1) (some (q + 2)) (some (q + 3)) (some (q + 4)) (some (q + 5)) (some (q + 6)) t 0 0 0 45 0 none 3 (some (q + 9)) m0 m2 (by decide) d0) (k_RX15_144 S.2.2.2.2 ⟨Nat.le_of_ble_eq_true rfl, Nat.le_of_ble_eq_true rfl⟩) m0 rfl rfl rfl rfl (Nat.le_of_ble_eq_true rfl) dX15_method_4 ⟨Nat.le_of_ble_eq_true rfl, Nat.le_of_ble_eq_true rfl⟩) (fun r u H locs hp hnz w => ?_)
      obtain ⟨rfl, rfl⟩ := hp
      dsimp only at w
      refine lv_if_ne (tgt := 14) hx hb dX15_method_7 (by decide) (fun _ => ?_) (fun c => absurd c (by decide))
      refine lv_iload_n hx hb dX15_method_14 rfl (lv_at hl 3 rfl) ?_
      refine lv_iconst (v := 0) hx hb dX15_method_15 (by decide) ?_
      refine lv_iconst (v := 2) hx hb dX15_method_16 (by decide) ?_
      refine g_calli w (g_runS (As := [.int a, .int 0, .int 2]) (rest := [.ref y]) S hE w hl (c_isBetween l D ar κ G sz a 0 2) (k_RX15_62 S.2.2.2.2 ⟨Nat.le_of_ble_eq_true rfl, Nat.le_of_ble_eq_true rfl⟩) rfl rfl (Nat.le_of_ble_eq_true rfl) dX15_method_17 ⟨Nat.le_of_ble_eq_true rfl, Nat.le_of_ble_eq_true rfl⟩) (fun r u H locs hp hnz w => ?_)
      obtain ⟨rfl, rfl⟩ := hp
      rw [show (isW a 0 2) = isB a 3 from isW_B rfl (by decide) (by decide)]
      dsimp only at w
      refine lv_if_eq (tgt := 33) hx hb dX15_method_20 (by decide) (fun c_20 => ?_) (fun c_20 => ?_)
      · refine lv_iconst (v := 2) hx hb dX15_method_33 (by decide) ?_
        refine lv_goto (tgt := 38) hx hb dX15_method_34 (by decide) ?_
        refine g_calli w (g_runV (As := [.int 2]) (rest := []) S hE w hl (c_isWrong l D ar κ G sz y 2 (some q) (some (q + 1)) (some (q + 2)) (some (q + 3)) (some (q + 4)) (some (q + 5)) (some (q + 6)) t 0 0 0 45 0 none m0) (k_RX15_77 S.2.2.2.2 ⟨Nat.le_of_ble_eq_true rfl, Nat.le_of_ble_eq_true rfl⟩) m0 rfl rfl rfl rfl (Nat.le_of_ble_eq_true rfl) dX15_method_38 ⟨Nat.le_of_ble_eq_true rfl, Nat.le_of_ble_eq_true rfl⟩) (fun r u H locs hp hnz w => ?_)
        obtain ⟨rfl, rfl⟩ := hp
        rw [show (if (2 : Int32) = 0 then (0 : Int32) else 1) = 1 from by decide]
        dsimp only at w
        refine lv_if_eq (tgt := 46) hx hb dX15_method_41 (by decide) (fun c => absurd c (by decide)) (fun _ => ?_)
        refine lv_iconst (v := 0) hx hb dX15_method_44 (by decide) ?_
        exact g_iret hx hb hr hlk w (Nat.le_of_ble_eq_true rfl) (Nat.le_of_ble_eq_true rfl) dX15_method_45 ⟨(fun h => absurd h K_told_n), TH_mk (T := 2) g_up_s rfl (by simp [K_told, isB03, isB13, isB23, isPl0, isPl1, isPl2, d0, c_20])⟩
      · refine lv_iload hx hb dX15_method_23 (lv_at hl 4 rfl) ?_
        refine lv_iconst (v := 0) hx hb dX15_method_25 (by decide) ?_
        refine lv_iconst (v := 4) hx hb dX15_method_26 (by decide) ?_
        refine g_calli w (g_runS (As := [.int tm, .int 0, .int 4]) (rest := [.ref y]) S hE w hl (c_isBetween l D ar κ G sz tm 0 4) (k_RX15_62 S.2.2.2.2 ⟨Nat.le_of_ble_eq_true rfl, Nat.le_of_ble_eq_true rfl⟩) rfl rfl (Nat.le_of_ble_eq_true rfl) dX15_method_27 ⟨Nat.le_of_ble_eq_true rfl, Nat.le_of_ble_eq_true rfl⟩) (fun r u H locs hp hnz w => ?_)
        obtain ⟨rfl, rfl⟩ := hp
        rw [show (isW tm 0 4) = isB tm 5 from isW_B rfl (by decide) (by decide)]
        dsimp only at w
        refine lv_if_ne (tgt := 37) hx hb dX15_method_30 (by decide) (fun c_30 => ?_) (fun c_30 => ?_)
        · refine lv_iconst (v := 0) hx hb dX15_method_37 (by decide) ?_
          refine g_calli w (g_runV (As := [.int 0]) (rest := []) S hE w hl (c_isWrong l D ar κ G sz y 0 (some q) (some (q + 1)) (some (q + 2)) (some (q + 3)) (some (q + 4)) (some (q + 5)) (some (q + 6)) t 0 0 0 45 0 none m0) (k_RX15_77 S.2.2.2.2 ⟨Nat.le_of_ble_eq_true rfl, Nat.le_of_ble_eq_true rfl⟩) m0 rfl rfl rfl rfl (Nat.le_of_ble_eq_true rfl) dX15_method_38 ⟨Nat.le_of_ble_eq_true rfl, Nat.le_of_ble_eq_true rfl⟩) (fun r u H locs hp hnz w => ?_)
          obtain ⟨rfl, rfl⟩ := hp
          rw [show (if (0 : Int32) = 0 then (0 : Int32) else 1) = 0 from by decide]
          dsimp only at w
          refine lv_if_eq (tgt := 46) hx hb dX15_method_41 (by decide) (fun _ => ?_) (fun c => absurd (by decide) c)
          refine nw_RX15_112 S hE w (Nat.le_of_ble_eq_true rfl) (Nat.le_of_ble_eq_true rfl) dX15_method_46 (fun H w => ?_)
          refine lv_dup hx hb dX15_method_49 rfl ?_
          refine lv_iload_n hx hb dX15_method_50 rfl (lv_at hl 1 rfl) ?_
          refine lv_iload_n hx hb dX15_method_51 rfl (lv_at hl 2 rfl) ?_
          refine lv_iload_n hx hb dX15_method_52 rfl (lv_at hl 3 rfl) ?_
          refine lv_iload hx hb dX15_method_53 (lv_at hl 4 rfl) ?_
          refine g_callv w (g_runI (As := [.int 1, .int se, .int a, .int tm]) (rest := [.ref sz]) S hE w hl (c_X11_init l D ar κ (g_up (g_up G y (.inr (19, [.ref q, .ref (q + 1), .ref (q + 2), .ref (q + 3), .ref (q + 4), .ref (q + 5), .ref (q + 6), .int 0, .int 0, .int 0, .int 0, .int 45, .int 0, .null]))) sz (.inr (15, [.int 0, .int 0, .int 0, .int 0, .null, .null, .int 0, .int 0]))) (sz + 1) sz 1 se a tm g_up_s) (k_RX15_148 S.2.2.2.2 ⟨Nat.le_of_ble_eq_true rfl, Nat.le_of_ble_eq_true rfl⟩) rfl rfl (Nat.le_of_ble_eq_true rfl) dX15_method_55 ⟨Nat.le_of_ble_eq_true rfl, Nat.le_of_ble_eq_true rfl⟩) (fun u H locs hp hnz w => ?_)
          obtain rfl := hp
          dsimp only at w
          have w := g_eqw w (g_cng (g_inn g_over (by omega)))
          refine lv_astore (lv' := [(5, .ref sz), (0, .ref y), (1, .int 1), (2, .int se), (3, .int a), (4, .int tm)]) hx hb dX15_method_58 hl (by decide) rfl (fun ls hl => ?_)
          refine lv_aload hx hb dX15_method_60 (lv_at hl 0 rfl) ?_
          refine gf_RX15_122_15 S hE w (g_up_o (by omega) (g_up_o (by omega) g_up_s)) rfl dX15_method_62 ?_
          refine lv_aload_n hx hb dX15_method_65 rfl (lv_at hl 1 rfl) ?_
          refine gf_RX15_25_19 S hE w (g_up_o (by omega) (g_up_o (by omega) (g_up_o (by omega) g_up_s))) rfl dX15_method_66 ?_
          refine g_calli w (g_runV (As := [.ref (q + 2)]) (rest := []) S hE w hl (c_addAll0 l D ar κ (g_up (g_up (g_up (g_up G y (.inr (19, [.ref q, .ref (q + 1), .ref (q + 2), .ref (q + 3), .ref (q + 4), .ref (q + 5), .ref (q + 6), .int 0, .int 0, .int 0, .int 0, .int 45, .int 0, .null]))) sz (.inr (15, [.int 1, .int se, .int a, .int tm, .ref (sz + 1), .ref (sz + 2), .int 0, .int 0]))) (sz + 1) (.inr (3, [.int 0, .ref (κ 0), .int 0]))) (sz + 2) (.inl (ar 0, 24, .inl (fun _ => 0)))) (sz + 3) (sz + 1) (q + 2) 0 (some (κ 0)) 0 0 (g_up_o (by omega) g_up_s) (g_up_o (by omega) (g_up_o (by omega) (g_up_o (by omega) (g_up_o (g_nx m3 m0 (by simp)) m3)))) (by omega)) (k_RX15_151 S.2.2.2.2 ⟨Nat.le_of_ble_eq_true rfl, Nat.le_of_ble_eq_true rfl⟩) (g_up_o (by omega) g_up_s) rfl rfl rfl rfl (Nat.le_of_ble_eq_true rfl) dX15_method_69 ⟨Nat.le_of_ble_eq_true rfl, Nat.le_of_ble_eq_true rfl⟩) (fun r u H locs hp hnz w => ?_)
          obtain ⟨rfl, rfl⟩ := hp
          dsimp only at w
          have w := g_eqw w (g_inn (g_inn g_over (by omega)) (by omega))
          rw [show ((0 + 1) : Int32) = 1 from by decide +kernel] at w
          refine lv_pop hx hb dX15_method_72 rfl ?_
          refine lv_aload_n hx hb dX15_method_73 rfl (lv_at hl 1 rfl) ?_
          refine lv_aload_n hx hb dX15_method_74 rfl (lv_at hl 1 rfl) ?_
          refine gf_RX15_25_19 S hE w (g_up_o (by omega) (g_up_o (by omega) (g_up_o (by omega) (g_up_o (by omega) g_up_s)))) rfl dX15_method_75 ?_
          refine g_calli w (g_runV (As := []) (rest := [.ref y]) S hE w hl (c_isEmpty0 l D ar κ (g_up (g_up (g_up (g_up (g_up G y (.inr (19, [.ref q, .ref (q + 1), .ref (q + 2), .ref (q + 3), .ref (q + 4), .ref (q + 5), .ref (q + 6), .int 0, .int 0, .int 0, .int 0, .int 45, .int 0, .null]))) sz (.inr (15, [.int 1, .int se, .int a, .int tm, .ref (sz + 1), .ref (sz + 2), .int 0, .int 0]))) (sz + 1) (.inr (3, [.int 1, .ref (κ 0), .int 0]))) (sz + 2) (.inl (ar 0, 24, .inl (fun _ => 0)))) (sz + 3) (.inl (ar 11, 0, .inr (.inr (.inr (.inr (fun _ => none))))))) (sz + 4) (q + 2) 0 (some (κ 0)) (g_up_o (by omega) (g_up_o (by omega) (g_up_o (by omega) (g_up_o (by omega) (g_up_o (g_nx m3 m0 (by simp)) m3)))))) (k_RX15_155 S.2.2.2.2 ⟨Nat.le_of_ble_eq_true rfl, Nat.le_of_ble_eq_true rfl⟩) (g_up_o (by omega) (g_up_o (by omega) (g_up_o (by omega) (g_up_o (by omega) (g_up_o (g_nx m3 m0 (by simp)) m3))))) rfl rfl rfl rfl (Nat.le_of_ble_eq_true rfl) dX15_method_78 ⟨Nat.le_of_ble_eq_true rfl, Nat.le_of_ble_eq_true rfl⟩) (fun r u H locs hp hnz w => ?_)
          obtain ⟨rfl, rfl⟩ := hp
          dsimp only at w
          refine lv_if_ne (tgt := 93) hx hb dX15_method_81 (by decide) (fun _ => ?_) (fun c => absurd c (by decide))
          refine lv_iconst (v := 3) hx hb dX15_method_93 (by decide) ?_
          refine lv_goto (tgt := 98) hx hb dX15_method_94 (by decide) ?_
          refine g_calli w (g_runV (As := [.int 3]) (rest := []) S hE w hl (c_isWrong l D ar κ (g_up (g_up (g_up (g_up (g_up G y (.inr (19, [.ref q, .ref (q + 1), .ref (q + 2), .ref (q + 3), .ref (q + 4), .ref (q + 5), .ref (q + 6), .int 0, .int 0, .int 0, .int 0, .int 45, .int 0, .null]))) sz (.inr (15, [.int 1, .int se, .int a, .int tm, .ref (sz + 1), .ref (sz + 2), .int 0, .int 0]))) (sz + 1) (.inr (3, [.int 1, .ref (κ 0), .int 0]))) (sz + 2) (.inl (ar 0, 24, .inl (fun _ => 0)))) (sz + 3) (.inl (ar 11, 0, .inr (.inr (.inr (.inr (fun _ => none))))))) (sz + 4) y 3 (some q) (some (q + 1)) (some (q + 2)) (some (q + 3)) (some (q + 4)) (some (q + 5)) (some (q + 6)) 0 0 0 0 45 0 none (g_up_o (by omega) (g_up_o (by omega) (g_up_o (by omega) (g_up_o (by omega) g_up_s))))) (k_RX15_77 S.2.2.2.2 ⟨Nat.le_of_ble_eq_true rfl, Nat.le_of_ble_eq_true rfl⟩) (g_up_o (by omega) (g_up_o (by omega) (g_up_o (by omega) (g_up_o (by omega) g_up_s)))) rfl rfl rfl rfl (Nat.le_of_ble_eq_true rfl) dX15_method_98 ⟨Nat.le_of_ble_eq_true rfl, Nat.le_of_ble_eq_true rfl⟩) (fun r u H locs hp hnz w => ?_)
          obtain ⟨rfl, rfl⟩ := hp
          rw [show (if (3 : Int32) = 0 then (0 : Int32) else 1) = 1 from by decide]
          dsimp only at w
          have w := g_eqw w (g_inn (g_inn (g_inn (g_inn g_over (by omega)) (by omega)) (by omega)) (by omega))
          refine lv_if_eq (tgt := 106) hx hb dX15_method_101 (by decide) (fun c => absurd c (by decide)) (fun _ => ?_)
          refine lv_iconst (v := 0) hx hb dX15_method_104 (by decide) ?_
          exact g_iret hx hb hr hlk w (Nat.le_of_ble_eq_true rfl) (Nat.le_of_ble_eq_true rfl) dX15_method_105 ⟨(fun h => absurd h K_told_n), TH_mk (T := 3) (g_up_o (by omega) (g_up_o (by omega) (g_up_o (by omega) (g_up_o (by omega) g_up_s)))) rfl (by simp [K_told, isB03, isB13, isB23, isPl0, isPl1, isPl2, d0, c_20, c_30])⟩
        · refine lv_iconst (v := 2) hx hb dX15_method_33 (by decide) ?_
          refine lv_goto (tgt := 38) hx hb dX15_method_34 (by decide) ?_
          refine g_calli w (g_runV (As := [.int 2]) (rest := []) S hE w hl (c_isWrong l D ar κ G sz y 2 (some q) (some (q + 1)) (some (q + 2)) (some (q + 3)) (some (q + 4)) (some (q + 5)) (some (q + 6)) t 0 0 0 45 0 none m0) (k_RX15_77 S.2.2.2.2 ⟨Nat.le_of_ble_eq_true rfl, Nat.le_of_ble_eq_true rfl⟩) m0 rfl rfl rfl rfl (Nat.le_of_ble_eq_true rfl) dX15_method_38 ⟨Nat.le_of_ble_eq_true rfl, Nat.le_of_ble_eq_true rfl⟩) (fun r u H locs hp hnz w => ?_)
          obtain ⟨rfl, rfl⟩ := hp
          rw [show (if (2 : Int32) = 0 then (0 : Int32) else 1) = 1 from by decide]
          dsimp only at w
          refine lv_if_eq (tgt := 46) hx hb dX15_method_41 (by decide) (fun c => absurd c (by decide)) (fun _ => ?_)
          refine lv_iconst (v := 0) hx hb dX15_method_44 (by decide) ?_
          exact g_iret hx hb hr hlk w (Nat.le_of_ble_eq_true rfl) (Nat.le_of_ble_eq_true rfl) dX15_method_45 ⟨(fun h => absurd h K_told_n), TH_mk (T := 2) g_up_s rfl (by simp [K_told, isB03, isB13, isB23, isPl0, isPl1, isPl2, d0, c_20, c_30])⟩
  · by_cases d0 : isB se 16 = 0
    · refine lv_aload_n hx hb dX15_method_0 rfl (lv_at hl 0 rfl) ?_
      refine lv_aload_n hx hb dX15_method_1 rfl (lv_at hl 0 rfl) ?_
      refine lv_iload_n hx hb dX15_method_2 rfl (lv_at hl 1 rfl) ?_
      refine lv_iload_n hx hb dX15_method_3 rfl (lv_at hl 2 rfl) ?_
      refine g_calli w (g_runV (As := [.int 2, .int se]) (rest := [.ref y]) S hE w hl (c_isPlaceB l D ar κ G sz y 2 se (some q) (q + 1) (some (q + 2)) (some (q + 3)) (some (q + 4)) (some (q + 5)) (some (q + 6)) t 0 0 0 45 0 none 3 (some (q + 9)) m0 m2 (by decide) d0) (k_RX15_144 S.2.2.2.2 ⟨Nat.le_of_ble_eq_true rfl, Nat.le_of_ble_eq_true rfl⟩) m0 rfl rfl rfl rfl (Nat.le_of_ble_eq_true rfl) dX15_method_4 ⟨Nat.le_of_ble_eq_true rfl, Nat.le_of_ble_eq_true rfl⟩) (fun r u H locs hp hnz w => ?_)
      obtain ⟨rfl, rfl⟩ := hp
      dsimp only at w
      refine lv_if_ne (tgt := 14) hx hb dX15_method_7 (by decide) (fun c => absurd (by decide) c) (fun _ => ?_)
      refine lv_iconst (v := 1) hx hb dX15_method_10 (by decide) ?_
      refine lv_goto (tgt := 38) hx hb dX15_method_11 (by decide) ?_
      refine g_calli w (g_runV (As := [.int 1]) (rest := []) S hE w hl (c_isWrong l D ar κ G sz y 1 (some q) (some (q + 1)) (some (q + 2)) (some (q + 3)) (some (q + 4)) (some (q + 5)) (some (q + 6)) t 0 0 0 45 0 none m0) (k_RX15_77 S.2.2.2.2 ⟨Nat.le_of_ble_eq_true rfl, Nat.le_of_ble_eq_true rfl⟩) m0 rfl rfl rfl rfl (Nat.le_of_ble_eq_true rfl) dX15_method_38 ⟨Nat.le_of_ble_eq_true rfl, Nat.le_of_ble_eq_true rfl⟩) (fun r u H locs hp hnz w => ?_)
      obtain ⟨rfl, rfl⟩ := hp
      rw [show (if (1 : Int32) = 0 then (0 : Int32) else 1) = 1 from by decide]
      dsimp only at w
      refine lv_if_eq (tgt := 46) hx hb dX15_method_41 (by decide) (fun c => absurd c (by decide)) (fun _ => ?_)
      refine lv_iconst (v := 0) hx hb dX15_method_44 (by decide) ?_
      exact g_iret hx hb hr hlk w (Nat.le_of_ble_eq_true rfl) (Nat.le_of_ble_eq_true rfl) dX15_method_45 ⟨(fun h => absurd h K_told_n), TH_mk (T := 1) g_up_s rfl (by simp [K_told, isB03, isB13, isB23, isPl0, isPl1, isPl2, d0])⟩
    · refine lv_aload_n hx hb dX15_method_0 rfl (lv_at hl 0 rfl) ?_
      refine lv_aload_n hx hb dX15_method_1 rfl (lv_at hl 0 rfl) ?_
      refine lv_iload_n hx hb dX15_method_2 rfl (lv_at hl 1 rfl) ?_
      refine lv_iload_n hx hb dX15_method_3 rfl (lv_at hl 2 rfl) ?_
      refine g_calli w (g_runV (As := [.int 2, .int se]) (rest := [.ref y]) S hE w hl (c_isPlaceC l D ar κ G sz y 2 se (some q) (q + 1) (some (q + 2)) (some (q + 3)) (some (q + 4)) (some (q + 5)) (some (q + 6)) t 0 0 0 45 0 none 3 (some (q + 9)) m0 m2 (by decide) d0) (k_RX15_144 S.2.2.2.2 ⟨Nat.le_of_ble_eq_true rfl, Nat.le_of_ble_eq_true rfl⟩) m0 rfl rfl rfl rfl (Nat.le_of_ble_eq_true rfl) dX15_method_4 ⟨Nat.le_of_ble_eq_true rfl, Nat.le_of_ble_eq_true rfl⟩) (fun r u H locs hp hnz w => ?_)
      obtain ⟨rfl, rfl⟩ := hp
      dsimp only at w
      refine lv_if_ne (tgt := 14) hx hb dX15_method_7 (by decide) (fun _ => ?_) (fun c => absurd c (by decide))
      refine lv_iload_n hx hb dX15_method_14 rfl (lv_at hl 3 rfl) ?_
      refine lv_iconst (v := 0) hx hb dX15_method_15 (by decide) ?_
      refine lv_iconst (v := 2) hx hb dX15_method_16 (by decide) ?_
      refine g_calli w (g_runS (As := [.int a, .int 0, .int 2]) (rest := [.ref y]) S hE w hl (c_isBetween l D ar κ G sz a 0 2) (k_RX15_62 S.2.2.2.2 ⟨Nat.le_of_ble_eq_true rfl, Nat.le_of_ble_eq_true rfl⟩) rfl rfl (Nat.le_of_ble_eq_true rfl) dX15_method_17 ⟨Nat.le_of_ble_eq_true rfl, Nat.le_of_ble_eq_true rfl⟩) (fun r u H locs hp hnz w => ?_)
      obtain ⟨rfl, rfl⟩ := hp
      rw [show (isW a 0 2) = isB a 3 from isW_B rfl (by decide) (by decide)]
      dsimp only at w
      refine lv_if_eq (tgt := 33) hx hb dX15_method_20 (by decide) (fun c_20 => ?_) (fun c_20 => ?_)
      · refine lv_iconst (v := 2) hx hb dX15_method_33 (by decide) ?_
        refine lv_goto (tgt := 38) hx hb dX15_method_34 (by decide) ?_
        refine g_calli w (g_runV (As := [.int 2]) (rest := []) S hE w hl (c_isWrong l D ar κ G sz y 2 (some q) (some (q + 1)) (some (q + 2)) (some (q + 3)) (some (q + 4)) (some (q + 5)) (some (q + 6)) t 0 0 0 45 0 none m0) (k_RX15_77 S.2.2.2.2 ⟨Nat.le_of_ble_eq_true rfl, Nat.le_of_ble_eq_true rfl⟩) m0 rfl rfl rfl rfl (Nat.le_of_ble_eq_true rfl) dX15_method_38 ⟨Nat.le_of_ble_eq_true rfl, Nat.le_of_ble_eq_true rfl⟩) (fun r u H locs hp hnz w => ?_)
        obtain ⟨rfl, rfl⟩ := hp
        rw [show (if (2 : Int32) = 0 then (0 : Int32) else 1) = 1 from by decide]
        dsimp only at w
        refine lv_if_eq (tgt := 46) hx hb dX15_method_41 (by decide) (fun c => absurd c (by decide)) (fun _ => ?_)
        refine lv_iconst (v := 0) hx hb dX15_method_44 (by decide) ?_
        exact g_iret hx hb hr hlk w (Nat.le_of_ble_eq_true rfl) (Nat.le_of_ble_eq_true rfl) dX15_method_45 ⟨(fun h => absurd h K_told_n), TH_mk (T := 2) g_up_s rfl (by simp [K_told, isB03, isB13, isB23, isPl0, isPl1, isPl2, d0, c_20])⟩
      · refine lv_iload hx hb dX15_method_23 (lv_at hl 4 rfl) ?_
        refine lv_iconst (v := 0) hx hb dX15_method_25 (by decide) ?_
        refine lv_iconst (v := 4) hx hb dX15_method_26 (by decide) ?_
        refine g_calli w (g_runS (As := [.int tm, .int 0, .int 4]) (rest := [.ref y]) S hE w hl (c_isBetween l D ar κ G sz tm 0 4) (k_RX15_62 S.2.2.2.2 ⟨Nat.le_of_ble_eq_true rfl, Nat.le_of_ble_eq_true rfl⟩) rfl rfl (Nat.le_of_ble_eq_true rfl) dX15_method_27 ⟨Nat.le_of_ble_eq_true rfl, Nat.le_of_ble_eq_true rfl⟩) (fun r u H locs hp hnz w => ?_)
        obtain ⟨rfl, rfl⟩ := hp
        rw [show (isW tm 0 4) = isB tm 5 from isW_B rfl (by decide) (by decide)]
        dsimp only at w
        refine lv_if_ne (tgt := 37) hx hb dX15_method_30 (by decide) (fun c_30 => ?_) (fun c_30 => ?_)
        · refine lv_iconst (v := 0) hx hb dX15_method_37 (by decide) ?_
          refine g_calli w (g_runV (As := [.int 0]) (rest := []) S hE w hl (c_isWrong l D ar κ G sz y 0 (some q) (some (q + 1)) (some (q + 2)) (some (q + 3)) (some (q + 4)) (some (q + 5)) (some (q + 6)) t 0 0 0 45 0 none m0) (k_RX15_77 S.2.2.2.2 ⟨Nat.le_of_ble_eq_true rfl, Nat.le_of_ble_eq_true rfl⟩) m0 rfl rfl rfl rfl (Nat.le_of_ble_eq_true rfl) dX15_method_38 ⟨Nat.le_of_ble_eq_true rfl, Nat.le_of_ble_eq_true rfl⟩) (fun r u H locs hp hnz w => ?_)
          obtain ⟨rfl, rfl⟩ := hp
          rw [show (if (0 : Int32) = 0 then (0 : Int32) else 1) = 0 from by decide]
          dsimp only at w
          refine lv_if_eq (tgt := 46) hx hb dX15_method_41 (by decide) (fun _ => ?_) (fun c => absurd (by decide) c)
          refine nw_RX15_112 S hE w (Nat.le_of_ble_eq_true rfl) (Nat.le_of_ble_eq_true rfl) dX15_method_46 (fun H w => ?_)
          refine lv_dup hx hb dX15_method_49 rfl ?_
          refine lv_iload_n hx hb dX15_method_50 rfl (lv_at hl 1 rfl) ?_
          refine lv_iload_n hx hb dX15_method_51 rfl (lv_at hl 2 rfl) ?_
          refine lv_iload_n hx hb dX15_method_52 rfl (lv_at hl 3 rfl) ?_
          refine lv_iload hx hb dX15_method_53 (lv_at hl 4 rfl) ?_
          refine g_callv w (g_runI (As := [.int 2, .int se, .int a, .int tm]) (rest := [.ref sz]) S hE w hl (c_X11_init l D ar κ (g_up (g_up G y (.inr (19, [.ref q, .ref (q + 1), .ref (q + 2), .ref (q + 3), .ref (q + 4), .ref (q + 5), .ref (q + 6), .int 0, .int 0, .int 0, .int 0, .int 45, .int 0, .null]))) sz (.inr (15, [.int 0, .int 0, .int 0, .int 0, .null, .null, .int 0, .int 0]))) (sz + 1) sz 2 se a tm g_up_s) (k_RX15_148 S.2.2.2.2 ⟨Nat.le_of_ble_eq_true rfl, Nat.le_of_ble_eq_true rfl⟩) rfl rfl (Nat.le_of_ble_eq_true rfl) dX15_method_55 ⟨Nat.le_of_ble_eq_true rfl, Nat.le_of_ble_eq_true rfl⟩) (fun u H locs hp hnz w => ?_)
          obtain rfl := hp
          dsimp only at w
          have w := g_eqw w (g_cng (g_inn g_over (by omega)))
          refine lv_astore (lv' := [(5, .ref sz), (0, .ref y), (1, .int 2), (2, .int se), (3, .int a), (4, .int tm)]) hx hb dX15_method_58 hl (by decide) rfl (fun ls hl => ?_)
          refine lv_aload hx hb dX15_method_60 (lv_at hl 0 rfl) ?_
          refine gf_RX15_122_15 S hE w (g_up_o (by omega) (g_up_o (by omega) g_up_s)) rfl dX15_method_62 ?_
          refine lv_aload_n hx hb dX15_method_65 rfl (lv_at hl 1 rfl) ?_
          refine gf_RX15_25_19 S hE w (g_up_o (by omega) (g_up_o (by omega) (g_up_o (by omega) g_up_s))) rfl dX15_method_66 ?_
          refine g_calli w (g_runV (As := [.ref (q + 2)]) (rest := []) S hE w hl (c_addAll0 l D ar κ (g_up (g_up (g_up (g_up G y (.inr (19, [.ref q, .ref (q + 1), .ref (q + 2), .ref (q + 3), .ref (q + 4), .ref (q + 5), .ref (q + 6), .int 0, .int 0, .int 0, .int 0, .int 45, .int 0, .null]))) sz (.inr (15, [.int 2, .int se, .int a, .int tm, .ref (sz + 1), .ref (sz + 2), .int 0, .int 0]))) (sz + 1) (.inr (3, [.int 0, .ref (κ 0), .int 0]))) (sz + 2) (.inl (ar 0, 24, .inl (fun _ => 0)))) (sz + 3) (sz + 1) (q + 2) 0 (some (κ 0)) 0 0 (g_up_o (by omega) g_up_s) (g_up_o (by omega) (g_up_o (by omega) (g_up_o (by omega) (g_up_o (g_nx m3 m0 (by simp)) m3)))) (by omega)) (k_RX15_151 S.2.2.2.2 ⟨Nat.le_of_ble_eq_true rfl, Nat.le_of_ble_eq_true rfl⟩) (g_up_o (by omega) g_up_s) rfl rfl rfl rfl (Nat.le_of_ble_eq_true rfl) dX15_method_69 ⟨Nat.le_of_ble_eq_true rfl, Nat.le_of_ble_eq_true rfl⟩) (fun r u H locs hp hnz w => ?_)
          obtain ⟨rfl, rfl⟩ := hp
          dsimp only at w
          have w := g_eqw w (g_inn (g_inn g_over (by omega)) (by omega))
          rw [show ((0 + 1) : Int32) = 1 from by decide +kernel] at w
          refine lv_pop hx hb dX15_method_72 rfl ?_
          refine lv_aload_n hx hb dX15_method_73 rfl (lv_at hl 1 rfl) ?_
          refine lv_aload_n hx hb dX15_method_74 rfl (lv_at hl 1 rfl) ?_
          refine gf_RX15_25_19 S hE w (g_up_o (by omega) (g_up_o (by omega) (g_up_o (by omega) (g_up_o (by omega) g_up_s)))) rfl dX15_method_75 ?_
          refine g_calli w (g_runV (As := []) (rest := [.ref y]) S hE w hl (c_isEmpty0 l D ar κ (g_up (g_up (g_up (g_up (g_up G y (.inr (19, [.ref q, .ref (q + 1), .ref (q + 2), .ref (q + 3), .ref (q + 4), .ref (q + 5), .ref (q + 6), .int 0, .int 0, .int 0, .int 0, .int 45, .int 0, .null]))) sz (.inr (15, [.int 2, .int se, .int a, .int tm, .ref (sz + 1), .ref (sz + 2), .int 0, .int 0]))) (sz + 1) (.inr (3, [.int 1, .ref (κ 0), .int 0]))) (sz + 2) (.inl (ar 0, 24, .inl (fun _ => 0)))) (sz + 3) (.inl (ar 11, 0, .inr (.inr (.inr (.inr (fun _ => none))))))) (sz + 4) (q + 2) 0 (some (κ 0)) (g_up_o (by omega) (g_up_o (by omega) (g_up_o (by omega) (g_up_o (by omega) (g_up_o (g_nx m3 m0 (by simp)) m3)))))) (k_RX15_155 S.2.2.2.2 ⟨Nat.le_of_ble_eq_true rfl, Nat.le_of_ble_eq_true rfl⟩) (g_up_o (by omega) (g_up_o (by omega) (g_up_o (by omega) (g_up_o (by omega) (g_up_o (g_nx m3 m0 (by simp)) m3))))) rfl rfl rfl rfl (Nat.le_of_ble_eq_true rfl) dX15_method_78 ⟨Nat.le_of_ble_eq_true rfl, Nat.le_of_ble_eq_true rfl⟩) (fun r u H locs hp hnz w => ?_)
          obtain ⟨rfl, rfl⟩ := hp
          dsimp only at w
          refine lv_if_ne (tgt := 93) hx hb dX15_method_81 (by decide) (fun _ => ?_) (fun c => absurd c (by decide))
          refine lv_iconst (v := 3) hx hb dX15_method_93 (by decide) ?_
          refine lv_goto (tgt := 98) hx hb dX15_method_94 (by decide) ?_
          refine g_calli w (g_runV (As := [.int 3]) (rest := []) S hE w hl (c_isWrong l D ar κ (g_up (g_up (g_up (g_up (g_up G y (.inr (19, [.ref q, .ref (q + 1), .ref (q + 2), .ref (q + 3), .ref (q + 4), .ref (q + 5), .ref (q + 6), .int 0, .int 0, .int 0, .int 0, .int 45, .int 0, .null]))) sz (.inr (15, [.int 2, .int se, .int a, .int tm, .ref (sz + 1), .ref (sz + 2), .int 0, .int 0]))) (sz + 1) (.inr (3, [.int 1, .ref (κ 0), .int 0]))) (sz + 2) (.inl (ar 0, 24, .inl (fun _ => 0)))) (sz + 3) (.inl (ar 11, 0, .inr (.inr (.inr (.inr (fun _ => none))))))) (sz + 4) y 3 (some q) (some (q + 1)) (some (q + 2)) (some (q + 3)) (some (q + 4)) (some (q + 5)) (some (q + 6)) 0 0 0 0 45 0 none (g_up_o (by omega) (g_up_o (by omega) (g_up_o (by omega) (g_up_o (by omega) g_up_s))))) (k_RX15_77 S.2.2.2.2 ⟨Nat.le_of_ble_eq_true rfl, Nat.le_of_ble_eq_true rfl⟩) (g_up_o (by omega) (g_up_o (by omega) (g_up_o (by omega) (g_up_o (by omega) g_up_s)))) rfl rfl rfl rfl (Nat.le_of_ble_eq_true rfl) dX15_method_98 ⟨Nat.le_of_ble_eq_true rfl, Nat.le_of_ble_eq_true rfl⟩) (fun r u H locs hp hnz w => ?_)
          obtain ⟨rfl, rfl⟩ := hp
          rw [show (if (3 : Int32) = 0 then (0 : Int32) else 1) = 1 from by decide]
          dsimp only at w
          have w := g_eqw w (g_inn (g_inn (g_inn (g_inn g_over (by omega)) (by omega)) (by omega)) (by omega))
          refine lv_if_eq (tgt := 106) hx hb dX15_method_101 (by decide) (fun c => absurd c (by decide)) (fun _ => ?_)
          refine lv_iconst (v := 0) hx hb dX15_method_104 (by decide) ?_
          exact g_iret hx hb hr hlk w (Nat.le_of_ble_eq_true rfl) (Nat.le_of_ble_eq_true rfl) dX15_method_105 ⟨(fun h => absurd h K_told_n), TH_mk (T := 3) (g_up_o (by omega) (g_up_o (by omega) (g_up_o (by omega) (g_up_o (by omega) g_up_s)))) rfl (by simp [K_told, isB03, isB13, isB23, isPl0, isPl1, isPl2, d0, c_20, c_30])⟩
        · refine lv_iconst (v := 2) hx hb dX15_method_33 (by decide) ?_
          refine lv_goto (tgt := 38) hx hb dX15_method_34 (by decide) ?_
          refine g_calli w (g_runV (As := [.int 2]) (rest := []) S hE w hl (c_isWrong l D ar κ G sz y 2 (some q) (some (q + 1)) (some (q + 2)) (some (q + 3)) (some (q + 4)) (some (q + 5)) (some (q + 6)) t 0 0 0 45 0 none m0) (k_RX15_77 S.2.2.2.2 ⟨Nat.le_of_ble_eq_true rfl, Nat.le_of_ble_eq_true rfl⟩) m0 rfl rfl rfl rfl (Nat.le_of_ble_eq_true rfl) dX15_method_38 ⟨Nat.le_of_ble_eq_true rfl, Nat.le_of_ble_eq_true rfl⟩) (fun r u H locs hp hnz w => ?_)
          obtain ⟨rfl, rfl⟩ := hp
          rw [show (if (2 : Int32) = 0 then (0 : Int32) else 1) = 1 from by decide]
          dsimp only at w
          refine lv_if_eq (tgt := 46) hx hb dX15_method_41 (by decide) (fun c => absurd c (by decide)) (fun _ => ?_)
          refine lv_iconst (v := 0) hx hb dX15_method_44 (by decide) ?_
          exact g_iret hx hb hr hlk w (Nat.le_of_ble_eq_true rfl) (Nat.le_of_ble_eq_true rfl) dX15_method_45 ⟨(fun h => absurd h K_told_n), TH_mk (T := 2) g_up_s rfl (by simp [K_told, isB03, isB13, isB23, isPl0, isPl1, isPl2, d0, c_20, c_30])⟩
set_option maxHeartbeats 4000000 in
set_option maxRecDepth 100000 in
theorem c_compiled_0 (l : Launch) (D : va_G) (ar : Nat → ClassId) (κ : Nat → Nat) (G : gW) (sz : Nat) (y : Nat) (q : Nat) (t : Int32) (m0 : G y = some (.inr (19, [.ref q, .ref (q + 1), .ref (q + 2), .ref (q + 3), .ref (q + 4), .ref (q + 5), .ref (q + 6), .int t, .int 0, .int 0, .int 0, .int 45, .int 0, .null]))) (m1 : G q = some (.inr (18, [.int 117, .int 0]))) (m2 : G (q + 1) = some (.inr (3, [.int 3, .ref (q + 9), .int 3]))) (m3 : G (q + 2) = some (.inr (3, [.int 0, .ref (κ 0), .int 0]))) (m4 : G (q + 3) = some (.inr (3, [.int 0, .ref (κ 0), .int 0]))) (m5 : G (q + 4) = some (.inr (3, [.int 0, .ref (κ 0), .int 0]))) (m6 : G (q + 5) = some (.inr (3, [.int 0, .ref (κ 0), .int 0]))) (m7 : G (q + 6) = some (.inl (ar 10, 8, .inr (.inr (.inr (.inr (va_up (va_up (va_up (va_up (va_up (va_up (va_up (va_up (fun _ => none) (Int32.toNatClampNeg 0) (some q)) (Int32.toNatClampNeg 1) (some q)) (Int32.toNatClampNeg 2) (some q)) (Int32.toNatClampNeg 3) (some q)) (Int32.toNatClampNeg 4) (some q)) (Int32.toNatClampNeg 5) (some q)) (Int32.toNatClampNeg 6) (some q)) (Int32.toNatClampNeg 7) (some q)))))))) (m8 : G (q + 7) = some (.inr (14, [.int (-1), .int 0, .ref (q + 8)]))) (m9 : G (q + 8) = some (.inl (ar 9, 16, .inr (.inr (.inr (.inr (fun _ => none))))))) (m10 : G (q + 9) = some (.inl (ar 11, 10, .inr (.inr (.inr (.inr (va_up (va_up (va_up (fun _ => none) (Int32.toNatClampNeg 0) (some (q + 7))) (Int32.toNatClampNeg 1) (some (q + 10))) (Int32.toNatClampNeg 2) (some (q + 12))))))))) (m11 : G (q + 10) = some (.inr (14, [.int 0, .int 0, .ref (q + 11)]))) (m12 : G (q + 11) = some (.inl (ar 9, 16, .inr (.inr (.inr (.inr (fun _ => none))))))) (m13 : G (q + 12) = some (.inr (14, [.int 0, .int 0, .ref (q + 13)]))) (m14 : G (q + 13) = some (.inl (ar 9, 16, .inr (.inr (.inr (.inr (fun _ => none))))))) : Met l yX15_compiled (lwC yX15_compiled cX15_compiled 9 (some .int)) (rD 6 1 4) (g_Pc D vwCl (gT ar) (EX1 κ) G sz [.ref y, .int 0]) (g_Qi D vwCl (g_A G sz) (fun r u => r = 0 ∧ u = ((g_up G sz (.inr (2, [.int 3, .int 2, .int 3, .ref (q + 1)]))), sz + 1))) 1 4 (g_A G sz) := by
  refine g_ofW (by decide +kernel) (Nat.le_of_ble_eq_true rfl) ?_
  intro p e s m below meth c ls S hr hlk hin hE w hl
  have hx := S.1
  have hb := S.2.1
  have hl : lv_has ls 9 [(0, .ref y), (1, .int 0)] := hl
  have lt_m0 : y < sz := g_ltn w m0
  have lt_m1 : q < sz := g_ltn w m1
  have lt_m2 : q + 1 < sz := g_ltn w m2
  have lt_m3 : q + 2 < sz := g_ltn w m3
  have lt_m4 : q + 3 < sz := g_ltn w m4
  have lt_m5 : q + 4 < sz := g_ltn w m5
  have lt_m6 : q + 5 < sz := g_ltn w m6
  have lt_m7 : q + 6 < sz := g_ltn w m7
  have lt_m8 : q + 7 < sz := g_ltn w m8
  have lt_m9 : q + 8 < sz := g_ltn w m9
  have lt_m10 : q + 9 < sz := g_ltn w m10
  have lt_m11 : q + 10 < sz := g_ltn w m11
  have lt_m12 : q + 11 < sz := g_ltn w m12
  have lt_m13 : q + 12 < sz := g_ltn w m13
  have lt_m14 : q + 13 < sz := g_ltn w m14
  refine lv_iconst (v := 0) hx hb dX15_compiled_0 (by decide) ?_
  refine lv_istore_n (lv' := [(2, .int 0), (0, .ref y), (1, .int 0)]) hx hb dX15_compiled_1 rfl hl (by decide) rfl (fun ls hl => ?_)
  refine lv_aload_n hx hb dX15_compiled_2 rfl (lv_at hl 1 rfl) ?_
  refine gf_RX15_21_19 S hE w m0 rfl dX15_compiled_3 ?_
  refine g_callq w (g_runV (As := []) (rest := []) S hE w hl (c_iterator l D ar κ G sz (q + 1) 3 (some (q + 9)) 3 m2) (k_RX15_183 S.2.2.2.2 ⟨Nat.le_of_ble_eq_true rfl, Nat.le_of_ble_eq_true rfl⟩) m2 rfl rfl rfl rfl (Nat.le_of_ble_eq_true rfl) dX15_compiled_6 ⟨Nat.le_of_ble_eq_true rfl, Nat.le_of_ble_eq_true rfl⟩) (fun r u H locs hp hnz w => ?_)
  obtain ⟨rfl, rfl⟩ := hp
  dsimp only at w
  refine lv_astore_n (lv' := [(3, .ref sz), (2, .int 0), (0, .ref y), (1, .int 0)]) hx hb dX15_compiled_9 rfl hl (by decide) rfl (fun ls hl => ?_)
  refine lv_aload_n hx hb dX15_compiled_10 rfl (lv_at hl 0 rfl) ?_
  refine g_callFi w (g_runF (As := []) (rest := []) S hE w hl (c_hasNext l D ar κ (g_up G sz (.inr (2, [.int 0, .int (-1), .int 3, .ref (q + 1)]))) (sz + 1) sz 0 (-1) (q + 1) 3 (some (q + 9)) 3 g_up_s (g_up_o (by omega) m2)) (kF_RX15_187_2 S.2.2.2.2 (hE.2.1.2.1 _ (List.mem_of_getElem? (i := 1) rfl)) ⟨Nat.le_of_ble_eq_true rfl, Nat.le_of_ble_eq_true rfl⟩) g_up_s rfl rfl rfl rfl (Nat.le_of_ble_eq_true rfl) dX15_compiled_11 ⟨Nat.le_of_ble_eq_true rfl, Nat.le_of_ble_eq_true rfl⟩) (fun r u H locs hp hnz w => ?_)
  obtain ⟨rfl, rfl⟩ := hp
  rw [show (if (0 : Int32) = 3 then (0 : Int32) else 1) = 1 from by decide]
  dsimp only at w
  refine lv_if_eq (tgt := 93) hx hb dX15_compiled_16 (by decide) (fun c => absurd c (by decide)) (fun _ => ?_)
  refine lv_aload_n hx hb dX15_compiled_19 rfl (lv_at hl 0 rfl) ?_
  refine g_callFq w (g_runF (As := []) (rest := []) S hE w hl (c_next_0 l D ar κ (g_up G sz (.inr (2, [.int 0, .int (-1), .int 3, .ref (q + 1)]))) (sz + 1) sz (-1) 3 (q + 1) (q + 9) (va_up (va_up (va_up (fun _ => none) (Int32.toNatClampNeg 0) (some (q + 7))) (Int32.toNatClampNeg 1) (some (q + 10))) (Int32.toNatClampNeg 2) (some (q + 12))) g_up_s (g_up_o (by omega) m2) (g_up_o (by omega) m10)) (kF_RX15_192_2 S.2.2.2.2 (hE.2.1.2.1 _ (List.mem_of_getElem? (i := 2) rfl)) ⟨Nat.le_of_ble_eq_true rfl, Nat.le_of_ble_eq_true rfl⟩) g_up_s rfl rfl rfl rfl (Nat.le_of_ble_eq_true rfl) dX15_compiled_20 ⟨Nat.le_of_ble_eq_true rfl, Nat.le_of_ble_eq_true rfl⟩) (fun r u H locs hp hnz w => ?_)
  obtain ⟨rfl, rfl⟩ := hp
  rw [show (va_up (va_up (va_up (fun _ => none) (Int32.toNatClampNeg 0) (some (q + 7))) (Int32.toNatClampNeg 1) (some (q + 10))) (Int32.toNatClampNeg 2) (some (q + 12))) (Int32.toNatClampNeg 0) = some (q + 7) from rfl]
  show W p l e _ s m _ below meth c _ _ _ _ _ (F0 m _ ls (.ref (q + 7) :: _))
  dsimp only at w
  have w := g_eqw w g_over
  refine g_castS S hE w m_6_123 (g_up_o (by omega) m8) rfl rfl dX15_compiled_25 ?_
  refine lv_astore (lv' := [(4, .ref (q + 7)), (3, .ref sz), (2, .int 0), (0, .ref y), (1, .int 0)]) hx hb dX15_compiled_28 hl (by decide) rfl (fun ls hl => ?_)
  refine lv_aload hx hb dX15_compiled_30 (lv_at hl 0 rfl) ?_
  refine gf_RX15_163_14 S hE w (g_up_o (by omega) m8) rfl dX15_compiled_32 ?_
  refine lv_astore (lv' := [(5, .ref (q + 8)), (4, .ref (q + 7)), (3, .ref sz), (2, .int 0), (0, .ref y), (1, .int 0)]) hx hb dX15_compiled_35 hl (by decide) rfl (fun ls hl => ?_)
  refine lv_aload hx hb dX15_compiled_37 (lv_at hl 0 rfl) ?_
  refine va_alen (v := 16) hx hb hE.1 (g_1 w.1 (g_up_o (by omega) m9)) 0 9 rfl rfl rfl dX15_compiled_39 ?_
  refine lv_istore (lv' := [(6, .int 16), (5, .ref (q + 8)), (4, .ref (q + 7)), (3, .ref sz), (2, .int 0), (0, .ref y), (1, .int 0)]) hx hb dX15_compiled_40 hl (by decide) rfl (fun ls hl => ?_)
  refine lv_iconst (v := 0) hx hb dX15_compiled_42 (by decide) ?_
  refine lv_istore (lv' := [(7, .int 0), (6, .int 16), (5, .ref (q + 8)), (4, .ref (q + 7)), (3, .ref sz), (2, .int 0), (0, .ref y), (1, .int 0)]) hx hb dX15_compiled_43 hl (by decide) rfl (fun ls hl => ?_)
  refine lv_iload hx hb dX15_compiled_45 (lv_at hl 0 rfl) ?_
  refine lv_iload hx hb dX15_compiled_47 (lv_at hl 1 rfl) ?_
  refine lv_icmp_ge (tgt := 90) hx hb dX15_compiled_49 (by decide) (fun c => absurd c (by decide)) (fun _ => ?_)
  refine lv_aload hx hb dX15_compiled_52 (lv_at hl 2 rfl) ?_
  refine lv_iload hx hb dX15_compiled_54 (lv_at hl 0 rfl) ?_
  refine va_aldq hx hb hE.1 (g_1 w.1 (g_up_o (by omega) m9)) 0 9 rfl rfl (vp_in_nI (n := 0) (by decide) (by decide)) dX15_compiled_56 ?_
  show W p l e _ s m _ below meth c _ _ _ _ _ (F0 m 57 ls (.null :: _))
  refine lv_astoreN (lv' := [(8, .null), (7, .int 0), (6, .int 16), (5, .ref (q + 8)), (4, .ref (q + 7)), (3, .ref sz), (2, .int 0), (0, .ref y), (1, .int 0)]) hx hb dX15_compiled_57 hl (by decide) rfl (fun ls hl => ?_)
  refine lv_iload_n hx hb dX15_compiled_59 rfl (lv_at hl 6 rfl) ?_
  refine lv_aloadN hx hb dX15_compiled_60 (lv_at hl 0 rfl) ?_
  refine lv_ifnullN (tgt := 81) hx hb dX15_compiled_62 (by decide) ?_
  refine lv_iconst (v := 0) hx hb dX15_compiled_81 (by decide) ?_
  refine lv_iadd hx hb dX15_compiled_82 ?_
  rw [show (0 + 0 : Int32) = 0 by decide +kernel]
  refine lv_istore_n (lv' := [(2, .int 0), (8, .null), (7, .int 0), (6, .int 16), (5, .ref (q + 8)), (4, .ref (q + 7)), (3, .ref sz), (0, .ref y), (1, .int 0)]) hx hb dX15_compiled_83 rfl hl (by decide) rfl (fun ls hl => ?_)
  refine lv_iinc (v := 1) (lv' := [(7, .int 1), (2, .int 0), (8, .null), (6, .int 16), (5, .ref (q + 8)), (4, .ref (q + 7)), (3, .ref sz), (0, .ref y), (1, .int 0)]) hx hb dX15_compiled_84 hl (k := 2) rfl (by decide) (by decide) rfl (fun ls hl => ?_)
  refine lv_goto (tgt := 45) hx hb dX15_compiled_87 (by decide) ?_
  refine lv_iload hx hb dX15_compiled_45 (lv_at hl 0 rfl) ?_
  refine lv_iload hx hb dX15_compiled_47 (lv_at hl 3 rfl) ?_
  refine lv_icmp_ge (tgt := 90) hx hb dX15_compiled_49 (by decide) (fun c => absurd c (by decide)) (fun _ => ?_)
  refine lv_aload hx hb dX15_compiled_52 (lv_at hl 4 rfl) ?_
  refine lv_iload hx hb dX15_compiled_54 (lv_at hl 0 rfl) ?_
  refine va_aldq hx hb hE.1 (g_1 w.1 (g_up_o (by omega) m9)) 0 9 rfl rfl (vp_in_nI (n := 1) (by decide) (by decide)) dX15_compiled_56 ?_
  show W p l e _ s m _ below meth c _ _ _ _ _ (F0 m 57 ls (.null :: _))
  refine lv_astoreN (lv' := [(8, .null), (7, .int 1), (2, .int 0), (6, .int 16), (5, .ref (q + 8)), (4, .ref (q + 7)), (3, .ref sz), (0, .ref y), (1, .int 0)]) hx hb dX15_compiled_57 hl (by decide) rfl (fun ls hl => ?_)
  refine lv_iload_n hx hb dX15_compiled_59 rfl (lv_at hl 2 rfl) ?_
  refine lv_aloadN hx hb dX15_compiled_60 (lv_at hl 0 rfl) ?_
  refine lv_ifnullN (tgt := 81) hx hb dX15_compiled_62 (by decide) ?_
  refine lv_iconst (v := 0) hx hb dX15_compiled_81 (by decide) ?_
  refine lv_iadd hx hb dX15_compiled_82 ?_
  rw [show (0 + 0 : Int32) = 0 by decide +kernel]
  refine lv_istore_n (lv' := [(2, .int 0), (8, .null), (7, .int 1), (6, .int 16), (5, .ref (q + 8)), (4, .ref (q + 7)), (3, .ref sz), (0, .ref y), (1, .int 0)]) hx hb dX15_compiled_83 rfl hl (by decide) rfl (fun ls hl => ?_)
  refine lv_iinc (v := 2) (lv' := [(7, .int 2), (2, .int 0), (8, .null), (6, .int 16), (5, .ref (q + 8)), (4, .ref (q + 7)), (3, .ref sz), (0, .ref y), (1, .int 0)]) hx hb dX15_compiled_84 hl (k := 2) rfl (by decide) (by decide) rfl (fun ls hl => ?_)
  refine lv_goto (tgt := 45) hx hb dX15_compiled_87 (by decide) ?_
  refine lv_iload hx hb dX15_compiled_45 (lv_at hl 0 rfl) ?_
  refine lv_iload hx hb dX15_compiled_47 (lv_at hl 3 rfl) ?_
  refine lv_icmp_ge (tgt := 90) hx hb dX15_compiled_49 (by decide) (fun c => absurd c (by decide)) (fun _ => ?_)
  refine lv_aload hx hb dX15_compiled_52 (lv_at hl 4 rfl) ?_
  refine lv_iload hx hb dX15_compiled_54 (lv_at hl 0 rfl) ?_
  refine va_aldq hx hb hE.1 (g_1 w.1 (g_up_o (by omega) m9)) 0 9 rfl rfl (vp_in_nI (n := 2) (by decide) (by decide)) dX15_compiled_56 ?_
  show W p l e _ s m _ below meth c _ _ _ _ _ (F0 m 57 ls (.null :: _))
  refine lv_astoreN (lv' := [(8, .null), (7, .int 2), (2, .int 0), (6, .int 16), (5, .ref (q + 8)), (4, .ref (q + 7)), (3, .ref sz), (0, .ref y), (1, .int 0)]) hx hb dX15_compiled_57 hl (by decide) rfl (fun ls hl => ?_)
  refine lv_iload_n hx hb dX15_compiled_59 rfl (lv_at hl 2 rfl) ?_
  refine lv_aloadN hx hb dX15_compiled_60 (lv_at hl 0 rfl) ?_
  refine lv_ifnullN (tgt := 81) hx hb dX15_compiled_62 (by decide) ?_
  refine lv_iconst (v := 0) hx hb dX15_compiled_81 (by decide) ?_
  refine lv_iadd hx hb dX15_compiled_82 ?_
  rw [show (0 + 0 : Int32) = 0 by decide +kernel]
  refine lv_istore_n (lv' := [(2, .int 0), (8, .null), (7, .int 2), (6, .int 16), (5, .ref (q + 8)), (4, .ref (q + 7)), (3, .ref sz), (0, .ref y), (1, .int 0)]) hx hb dX15_compiled_83 rfl hl (by decide) rfl (fun ls hl => ?_)
  refine lv_iinc (v := 3) (lv' := [(7, .int 3), (2, .int 0), (8, .null), (6, .int 16), (5, .ref (q + 8)), (4, .ref (q + 7)), (3, .ref sz), (0, .ref y), (1, .int 0)]) hx hb dX15_compiled_84 hl (k := 2) rfl (by decide) (by decide) rfl (fun ls hl => ?_)
  refine lv_goto (tgt := 45) hx hb dX15_compiled_87 (by decide) ?_
  refine lv_iload hx hb dX15_compiled_45 (lv_at hl 0 rfl) ?_
  refine lv_iload hx hb dX15_compiled_47 (lv_at hl 3 rfl) ?_
  refine lv_icmp_ge (tgt := 90) hx hb dX15_compiled_49 (by decide) (fun c => absurd c (by decide)) (fun _ => ?_)
  refine lv_aload hx hb dX15_compiled_52 (lv_at hl 4 rfl) ?_
  refine lv_iload hx hb dX15_compiled_54 (lv_at hl 0 rfl) ?_
  refine va_aldq hx hb hE.1 (g_1 w.1 (g_up_o (by omega) m9)) 0 9 rfl rfl (vp_in_nI (n := 3) (by decide) (by decide)) dX15_compiled_56 ?_
  show W p l e _ s m _ below meth c _ _ _ _ _ (F0 m 57 ls (.null :: _))
  refine lv_astoreN (lv' := [(8, .null), (7, .int 3), (2, .int 0), (6, .int 16), (5, .ref (q + 8)), (4, .ref (q + 7)), (3, .ref sz), (0, .ref y), (1, .int 0)]) hx hb dX15_compiled_57 hl (by decide) rfl (fun ls hl => ?_)
  refine lv_iload_n hx hb dX15_compiled_59 rfl (lv_at hl 2 rfl) ?_
  refine lv_aloadN hx hb dX15_compiled_60 (lv_at hl 0 rfl) ?_
  refine lv_ifnullN (tgt := 81) hx hb dX15_compiled_62 (by decide) ?_
  refine lv_iconst (v := 0) hx hb dX15_compiled_81 (by decide) ?_
  refine lv_iadd hx hb dX15_compiled_82 ?_
  rw [show (0 + 0 : Int32) = 0 by decide +kernel]
  refine lv_istore_n (lv' := [(2, .int 0), (8, .null), (7, .int 3), (6, .int 16), (5, .ref (q + 8)), (4, .ref (q + 7)), (3, .ref sz), (0, .ref y), (1, .int 0)]) hx hb dX15_compiled_83 rfl hl (by decide) rfl (fun ls hl => ?_)
  refine lv_iinc (v := 4) (lv' := [(7, .int 4), (2, .int 0), (8, .null), (6, .int 16), (5, .ref (q + 8)), (4, .ref (q + 7)), (3, .ref sz), (0, .ref y), (1, .int 0)]) hx hb dX15_compiled_84 hl (k := 2) rfl (by decide) (by decide) rfl (fun ls hl => ?_)
  refine lv_goto (tgt := 45) hx hb dX15_compiled_87 (by decide) ?_
  refine lv_iload hx hb dX15_compiled_45 (lv_at hl 0 rfl) ?_
  refine lv_iload hx hb dX15_compiled_47 (lv_at hl 3 rfl) ?_
  refine lv_icmp_ge (tgt := 90) hx hb dX15_compiled_49 (by decide) (fun c => absurd c (by decide)) (fun _ => ?_)
  refine lv_aload hx hb dX15_compiled_52 (lv_at hl 4 rfl) ?_
  refine lv_iload hx hb dX15_compiled_54 (lv_at hl 0 rfl) ?_
  refine va_aldq hx hb hE.1 (g_1 w.1 (g_up_o (by omega) m9)) 0 9 rfl rfl (vp_in_nI (n := 4) (by decide) (by decide)) dX15_compiled_56 ?_
  show W p l e _ s m _ below meth c _ _ _ _ _ (F0 m 57 ls (.null :: _))
  refine lv_astoreN (lv' := [(8, .null), (7, .int 4), (2, .int 0), (6, .int 16), (5, .ref (q + 8)), (4, .ref (q + 7)), (3, .ref sz), (0, .ref y), (1, .int 0)]) hx hb dX15_compiled_57 hl (by decide) rfl (fun ls hl => ?_)
  refine lv_iload_n hx hb dX15_compiled_59 rfl (lv_at hl 2 rfl) ?_
  refine lv_aloadN hx hb dX15_compiled_60 (lv_at hl 0 rfl) ?_
  refine lv_ifnullN (tgt := 81) hx hb dX15_compiled_62 (by decide) ?_
  refine lv_iconst (v := 0) hx hb dX15_compiled_81 (by decide) ?_
  refine lv_iadd hx hb dX15_compiled_82 ?_
  rw [show (0 + 0 : Int32) = 0 by decide +kernel]
  refine lv_istore_n (lv' := [(2, .int 0), (8, .null), (7, .int 4), (6, .int 16), (5, .ref (q + 8)), (4, .ref (q + 7)), (3, .ref sz), (0, .ref y), (1, .int 0)]) hx hb dX15_compiled_83 rfl hl (by decide) rfl (fun ls hl => ?_)
  refine lv_iinc (v := 5) (lv' := [(7, .int 5), (2, .int 0), (8, .null), (6, .int 16), (5, .ref (q + 8)), (4, .ref (q + 7)), (3, .ref sz), (0, .ref y), (1, .int 0)]) hx hb dX15_compiled_84 hl (k := 2) rfl (by decide) (by decide) rfl (fun ls hl => ?_)
  refine lv_goto (tgt := 45) hx hb dX15_compiled_87 (by decide) ?_
  refine lv_iload hx hb dX15_compiled_45 (lv_at hl 0 rfl) ?_
  refine lv_iload hx hb dX15_compiled_47 (lv_at hl 3 rfl) ?_
  refine lv_icmp_ge (tgt := 90) hx hb dX15_compiled_49 (by decide) (fun c => absurd c (by decide)) (fun _ => ?_)
  refine lv_aload hx hb dX15_compiled_52 (lv_at hl 4 rfl) ?_
  refine lv_iload hx hb dX15_compiled_54 (lv_at hl 0 rfl) ?_
  refine va_aldq hx hb hE.1 (g_1 w.1 (g_up_o (by omega) m9)) 0 9 rfl rfl (vp_in_nI (n := 5) (by decide) (by decide)) dX15_compiled_56 ?_
  show W p l e _ s m _ below meth c _ _ _ _ _ (F0 m 57 ls (.null :: _))
  refine lv_astoreN (lv' := [(8, .null), (7, .int 5), (2, .int 0), (6, .int 16), (5, .ref (q + 8)), (4, .ref (q + 7)), (3, .ref sz), (0, .ref y), (1, .int 0)]) hx hb dX15_compiled_57 hl (by decide) rfl (fun ls hl => ?_)
  refine lv_iload_n hx hb dX15_compiled_59 rfl (lv_at hl 2 rfl) ?_
  refine lv_aloadN hx hb dX15_compiled_60 (lv_at hl 0 rfl) ?_
  refine lv_ifnullN (tgt := 81) hx hb dX15_compiled_62 (by decide) ?_
  refine lv_iconst (v := 0) hx hb dX15_compiled_81 (by decide) ?_
  refine lv_iadd hx hb dX15_compiled_82 ?_
  rw [show (0 + 0 : Int32) = 0 by decide +kernel]
  refine lv_istore_n (lv' := [(2, .int 0), (8, .null), (7, .int 5), (6, .int 16), (5, .ref (q + 8)), (4, .ref (q + 7)), (3, .ref sz), (0, .ref y), (1, .int 0)]) hx hb dX15_compiled_83 rfl hl (by decide) rfl (fun ls hl => ?_)
  refine lv_iinc (v := 6) (lv' := [(7, .int 6), (2, .int 0), (8, .null), (6, .int 16), (5, .ref (q + 8)), (4, .ref (q + 7)), (3, .ref sz), (0, .ref y), (1, .int 0)]) hx hb dX15_compiled_84 hl (k := 2) rfl (by decide) (by decide) rfl (fun ls hl => ?_)
  refine lv_goto (tgt := 45) hx hb dX15_compiled_87 (by decide) ?_
  refine lv_iload hx hb dX15_compiled_45 (lv_at hl 0 rfl) ?_
  refine lv_iload hx hb dX15_compiled_47 (lv_at hl 3 rfl) ?_
  refine lv_icmp_ge (tgt := 90) hx hb dX15_compiled_49 (by decide) (fun c => absurd c (by decide)) (fun _ => ?_)
  refine lv_aload hx hb dX15_compiled_52 (lv_at hl 4 rfl) ?_
  refine lv_iload hx hb dX15_compiled_54 (lv_at hl 0 rfl) ?_
  refine va_aldq hx hb hE.1 (g_1 w.1 (g_up_o (by omega) m9)) 0 9 rfl rfl (vp_in_nI (n := 6) (by decide) (by decide)) dX15_compiled_56 ?_
  show W p l e _ s m _ below meth c _ _ _ _ _ (F0 m 57 ls (.null :: _))
  refine lv_astoreN (lv' := [(8, .null), (7, .int 6), (2, .int 0), (6, .int 16), (5, .ref (q + 8)), (4, .ref (q + 7)), (3, .ref sz), (0, .ref y), (1, .int 0)]) hx hb dX15_compiled_57 hl (by decide) rfl (fun ls hl => ?_)
  refine lv_iload_n hx hb dX15_compiled_59 rfl (lv_at hl 2 rfl) ?_
  refine lv_aloadN hx hb dX15_compiled_60 (lv_at hl 0 rfl) ?_
  refine lv_ifnullN (tgt := 81) hx hb dX15_compiled_62 (by decide) ?_
  refine lv_iconst (v := 0) hx hb dX15_compiled_81 (by decide) ?_
  refine lv_iadd hx hb dX15_compiled_82 ?_
  rw [show (0 + 0 : Int32) = 0 by decide +kernel]
  refine lv_istore_n (lv' := [(2, .int 0), (8, .null), (7, .int 6), (6, .int 16), (5, .ref (q + 8)), (4, .ref (q + 7)), (3, .ref sz), (0, .ref y), (1, .int 0)]) hx hb dX15_compiled_83 rfl hl (by decide) rfl (fun ls hl => ?_)
  refine lv_iinc (v := 7) (lv' := [(7, .int 7), (2, .int 0), (8, .null), (6, .int 16), (5, .ref (q + 8)), (4, .ref (q + 7)), (3, .ref sz), (0, .ref y), (1, .int 0)]) hx hb dX15_compiled_84 hl (k := 2) rfl (by decide) (by decide) rfl (fun ls hl => ?_)
  refine lv_goto (tgt := 45) hx hb dX15_compiled_87 (by decide) ?_
  refine lv_iload hx hb dX15_compiled_45 (lv_at hl 0 rfl) ?_
  refine lv_iload hx hb dX15_compiled_47 (lv_at hl 3 rfl) ?_
  refine lv_icmp_ge (tgt := 90) hx hb dX15_compiled_49 (by decide) (fun c => absurd c (by decide)) (fun _ => ?_)
  refine lv_aload hx hb dX15_compiled_52 (lv_at hl 4 rfl) ?_
  refine lv_iload hx hb dX15_compiled_54 (lv_at hl 0 rfl) ?_
  refine va_aldq hx hb hE.1 (g_1 w.1 (g_up_o (by omega) m9)) 0 9 rfl rfl (vp_in_nI (n := 7) (by decide) (by decide)) dX15_compiled_56 ?_
  show W p l e _ s m _ below meth c _ _ _ _ _ (F0 m 57 ls (.null :: _))
  refine lv_astoreN (lv' := [(8, .null), (7, .int 7), (2, .int 0), (6, .int 16), (5, .ref (q + 8)), (4, .ref (q + 7)), (3, .ref sz), (0, .ref y), (1, .int 0)]) hx hb dX15_compiled_57 hl (by decide) rfl (fun ls hl => ?_)
  refine lv_iload_n hx hb dX15_compiled_59 rfl (lv_at hl 2 rfl) ?_
  refine lv_aloadN hx hb dX15_compiled_60 (lv_at hl 0 rfl) ?_
  refine lv_ifnullN (tgt := 81) hx hb dX15_compiled_62 (by decide) ?_
  refine lv_iconst (v := 0) hx hb dX15_compiled_81 (by decide) ?_
  refine lv_iadd hx hb dX15_compiled_82 ?_
  rw [show (0 + 0 : Int32) = 0 by decide +kernel]
  refine lv_istore_n (lv' := [(2, .int 0), (8, .null), (7, .int 7), (6, .int 16), (5, .ref (q + 8)), (4, .ref (q + 7)), (3, .ref sz), (0, .ref y), (1, .int 0)]) hx hb dX15_compiled_83 rfl hl (by decide) rfl (fun ls hl => ?_)
  refine lv_iinc (v := 8) (lv' := [(7, .int 8), (2, .int 0), (8, .null), (6, .int 16), (5, .ref (q + 8)), (4, .ref (q + 7)), (3, .ref sz), (0, .ref y), (1, .int 0)]) hx hb dX15_compiled_84 hl (k := 2) rfl (by decide) (by decide) rfl (fun ls hl => ?_)
  refine lv_goto (tgt := 45) hx hb dX15_compiled_87 (by decide) ?_
  refine lv_iload hx hb dX15_compiled_45 (lv_at hl 0 rfl) ?_
  refine lv_iload hx hb dX15_compiled_47 (lv_at hl 3 rfl) ?_
  refine lv_icmp_ge (tgt := 90) hx hb dX15_compiled_49 (by decide) (fun c => absurd c (by decide)) (fun _ => ?_)
  refine lv_aload hx hb dX15_compiled_52 (lv_at hl 4 rfl) ?_
  refine lv_iload hx hb dX15_compiled_54 (lv_at hl 0 rfl) ?_
  refine va_aldq hx hb hE.1 (g_1 w.1 (g_up_o (by omega) m9)) 0 9 rfl rfl (vp_in_nI (n := 8) (by decide) (by decide)) dX15_compiled_56 ?_
  show W p l e _ s m _ below meth c _ _ _ _ _ (F0 m 57 ls (.null :: _))
  refine lv_astoreN (lv' := [(8, .null), (7, .int 8), (2, .int 0), (6, .int 16), (5, .ref (q + 8)), (4, .ref (q + 7)), (3, .ref sz), (0, .ref y), (1, .int 0)]) hx hb dX15_compiled_57 hl (by decide) rfl (fun ls hl => ?_)
  refine lv_iload_n hx hb dX15_compiled_59 rfl (lv_at hl 2 rfl) ?_
  refine lv_aloadN hx hb dX15_compiled_60 (lv_at hl 0 rfl) ?_
  refine lv_ifnullN (tgt := 81) hx hb dX15_compiled_62 (by decide) ?_
  refine lv_iconst (v := 0) hx hb dX15_compiled_81 (by decide) ?_
  refine lv_iadd hx hb dX15_compiled_82 ?_
  rw [show (0 + 0 : Int32) = 0 by decide +kernel]
  refine lv_istore_n (lv' := [(2, .int 0), (8, .null), (7, .int 8), (6, .int 16), (5, .ref (q + 8)), (4, .ref (q + 7)), (3, .ref sz), (0, .ref y), (1, .int 0)]) hx hb dX15_compiled_83 rfl hl (by decide) rfl (fun ls hl => ?_)
  refine lv_iinc (v := 9) (lv' := [(7, .int 9), (2, .int 0), (8, .null), (6, .int 16), (5, .ref (q + 8)), (4, .ref (q + 7)), (3, .ref sz), (0, .ref y), (1, .int 0)]) hx hb dX15_compiled_84 hl (k := 2) rfl (by decide) (by decide) rfl (fun ls hl => ?_)
  refine lv_goto (tgt := 45) hx hb dX15_compiled_87 (by decide) ?_
  refine lv_iload hx hb dX15_compiled_45 (lv_at hl 0 rfl) ?_
  refine lv_iload hx hb dX15_compiled_47 (lv_at hl 3 rfl) ?_
  refine lv_icmp_ge (tgt := 90) hx hb dX15_compiled_49 (by decide) (fun c => absurd c (by decide)) (fun _ => ?_)
  refine lv_aload hx hb dX15_compiled_52 (lv_at hl 4 rfl) ?_
  refine lv_iload hx hb dX15_compiled_54 (lv_at hl 0 rfl) ?_
  refine va_aldq hx hb hE.1 (g_1 w.1 (g_up_o (by omega) m9)) 0 9 rfl rfl (vp_in_nI (n := 9) (by decide) (by decide)) dX15_compiled_56 ?_
  show W p l e _ s m _ below meth c _ _ _ _ _ (F0 m 57 ls (.null :: _))
  refine lv_astoreN (lv' := [(8, .null), (7, .int 9), (2, .int 0), (6, .int 16), (5, .ref (q + 8)), (4, .ref (q + 7)), (3, .ref sz), (0, .ref y), (1, .int 0)]) hx hb dX15_compiled_57 hl (by decide) rfl (fun ls hl => ?_)
  refine lv_iload_n hx hb dX15_compiled_59 rfl (lv_at hl 2 rfl) ?_
  refine lv_aloadN hx hb dX15_compiled_60 (lv_at hl 0 rfl) ?_
  refine lv_ifnullN (tgt := 81) hx hb dX15_compiled_62 (by decide) ?_
  refine lv_iconst (v := 0) hx hb dX15_compiled_81 (by decide) ?_
  refine lv_iadd hx hb dX15_compiled_82 ?_
  rw [show (0 + 0 : Int32) = 0 by decide +kernel]
  refine lv_istore_n (lv' := [(2, .int 0), (8, .null), (7, .int 9), (6, .int 16), (5, .ref (q + 8)), (4, .ref (q + 7)), (3, .ref sz), (0, .ref y), (1, .int 0)]) hx hb dX15_compiled_83 rfl hl (by decide) rfl (fun ls hl => ?_)
  refine lv_iinc (v := 10) (lv' := [(7, .int 10), (2, .int 0), (8, .null), (6, .int 16), (5, .ref (q + 8)), (4, .ref (q + 7)), (3, .ref sz), (0, .ref y), (1, .int 0)]) hx hb dX15_compiled_84 hl (k := 2) rfl (by decide) (by decide) rfl (fun ls hl => ?_)
  refine lv_goto (tgt := 45) hx hb dX15_compiled_87 (by decide) ?_
  refine lv_iload hx hb dX15_compiled_45 (lv_at hl 0 rfl) ?_
  refine lv_iload hx hb dX15_compiled_47 (lv_at hl 3 rfl) ?_
  refine lv_icmp_ge (tgt := 90) hx hb dX15_compiled_49 (by decide) (fun c => absurd c (by decide)) (fun _ => ?_)
  refine lv_aload hx hb dX15_compiled_52 (lv_at hl 4 rfl) ?_
  refine lv_iload hx hb dX15_compiled_54 (lv_at hl 0 rfl) ?_
  refine va_aldq hx hb hE.1 (g_1 w.1 (g_up_o (by omega) m9)) 0 9 rfl rfl (vp_in_nI (n := 10) (by decide) (by decide)) dX15_compiled_56 ?_
  show W p l e _ s m _ below meth c _ _ _ _ _ (F0 m 57 ls (.null :: _))
  refine lv_astoreN (lv' := [(8, .null), (7, .int 10), (2, .int 0), (6, .int 16), (5, .ref (q + 8)), (4, .ref (q + 7)), (3, .ref sz), (0, .ref y), (1, .int 0)]) hx hb dX15_compiled_57 hl (by decide) rfl (fun ls hl => ?_)
  refine lv_iload_n hx hb dX15_compiled_59 rfl (lv_at hl 2 rfl) ?_
  refine lv_aloadN hx hb dX15_compiled_60 (lv_at hl 0 rfl) ?_
  refine lv_ifnullN (tgt := 81) hx hb dX15_compiled_62 (by decide) ?_
  refine lv_iconst (v := 0) hx hb dX15_compiled_81 (by decide) ?_
  refine lv_iadd hx hb dX15_compiled_82 ?_
  rw [show (0 + 0 : Int32) = 0 by decide +kernel]
  refine lv_istore_n (lv' := [(2, .int 0), (8, .null), (7, .int 10), (6, .int 16), (5, .ref (q + 8)), (4, .ref (q + 7)), (3, .ref sz), (0, .ref y), (1, .int 0)]) hx hb dX15_compiled_83 rfl hl (by decide) rfl (fun ls hl => ?_)
  refine lv_iinc (v := 11) (lv' := [(7, .int 11), (2, .int 0), (8, .null), (6, .int 16), (5, .ref (q + 8)), (4, .ref (q + 7)), (3, .ref sz), (0, .ref y), (1, .int 0)]) hx hb dX15_compiled_84 hl (k := 2) rfl (by decide) (by decide) rfl (fun ls hl => ?_)
  refine lv_goto (tgt := 45) hx hb dX15_compiled_87 (by decide) ?_
  refine lv_iload hx hb dX15_compiled_45 (lv_at hl 0 rfl) ?_
  refine lv_iload hx hb dX15_compiled_47 (lv_at hl 3 rfl) ?_
  refine lv_icmp_ge (tgt := 90) hx hb dX15_compiled_49 (by decide) (fun c => absurd c (by decide)) (fun _ => ?_)
  refine lv_aload hx hb dX15_compiled_52 (lv_at hl 4 rfl) ?_
  refine lv_iload hx hb dX15_compiled_54 (lv_at hl 0 rfl) ?_
  refine va_aldq hx hb hE.1 (g_1 w.1 (g_up_o (by omega) m9)) 0 9 rfl rfl (vp_in_nI (n := 11) (by decide) (by decide)) dX15_compiled_56 ?_
  show W p l e _ s m _ below meth c _ _ _ _ _ (F0 m 57 ls (.null :: _))
  refine lv_astoreN (lv' := [(8, .null), (7, .int 11), (2, .int 0), (6, .int 16), (5, .ref (q + 8)), (4, .ref (q + 7)), (3, .ref sz), (0, .ref y), (1, .int 0)]) hx hb dX15_compiled_57 hl (by decide) rfl (fun ls hl => ?_)
  refine lv_iload_n hx hb dX15_compiled_59 rfl (lv_at hl 2 rfl) ?_
  refine lv_aloadN hx hb dX15_compiled_60 (lv_at hl 0 rfl) ?_
  refine lv_ifnullN (tgt := 81) hx hb dX15_compiled_62 (by decide) ?_
  refine lv_iconst (v := 0) hx hb dX15_compiled_81 (by decide) ?_
  refine lv_iadd hx hb dX15_compiled_82 ?_
  rw [show (0 + 0 : Int32) = 0 by decide +kernel]
  refine lv_istore_n (lv' := [(2, .int 0), (8, .null), (7, .int 11), (6, .int 16), (5, .ref (q + 8)), (4, .ref (q + 7)), (3, .ref sz), (0, .ref y), (1, .int 0)]) hx hb dX15_compiled_83 rfl hl (by decide) rfl (fun ls hl => ?_)
  refine lv_iinc (v := 12) (lv' := [(7, .int 12), (2, .int 0), (8, .null), (6, .int 16), (5, .ref (q + 8)), (4, .ref (q + 7)), (3, .ref sz), (0, .ref y), (1, .int 0)]) hx hb dX15_compiled_84 hl (k := 2) rfl (by decide) (by decide) rfl (fun ls hl => ?_)
  refine lv_goto (tgt := 45) hx hb dX15_compiled_87 (by decide) ?_
  refine lv_iload hx hb dX15_compiled_45 (lv_at hl 0 rfl) ?_
  refine lv_iload hx hb dX15_compiled_47 (lv_at hl 3 rfl) ?_
  refine lv_icmp_ge (tgt := 90) hx hb dX15_compiled_49 (by decide) (fun c => absurd c (by decide)) (fun _ => ?_)
  refine lv_aload hx hb dX15_compiled_52 (lv_at hl 4 rfl) ?_
  refine lv_iload hx hb dX15_compiled_54 (lv_at hl 0 rfl) ?_
  refine va_aldq hx hb hE.1 (g_1 w.1 (g_up_o (by omega) m9)) 0 9 rfl rfl (vp_in_nI (n := 12) (by decide) (by decide)) dX15_compiled_56 ?_
  show W p l e _ s m _ below meth c _ _ _ _ _ (F0 m 57 ls (.null :: _))
  refine lv_astoreN (lv' := [(8, .null), (7, .int 12), (2, .int 0), (6, .int 16), (5, .ref (q + 8)), (4, .ref (q + 7)), (3, .ref sz), (0, .ref y), (1, .int 0)]) hx hb dX15_compiled_57 hl (by decide) rfl (fun ls hl => ?_)
  refine lv_iload_n hx hb dX15_compiled_59 rfl (lv_at hl 2 rfl) ?_
  refine lv_aloadN hx hb dX15_compiled_60 (lv_at hl 0 rfl) ?_
  refine lv_ifnullN (tgt := 81) hx hb dX15_compiled_62 (by decide) ?_
  refine lv_iconst (v := 0) hx hb dX15_compiled_81 (by decide) ?_
  refine lv_iadd hx hb dX15_compiled_82 ?_
  rw [show (0 + 0 : Int32) = 0 by decide +kernel]
  refine lv_istore_n (lv' := [(2, .int 0), (8, .null), (7, .int 12), (6, .int 16), (5, .ref (q + 8)), (4, .ref (q + 7)), (3, .ref sz), (0, .ref y), (1, .int 0)]) hx hb dX15_compiled_83 rfl hl (by decide) rfl (fun ls hl => ?_)
  refine lv_iinc (v := 13) (lv' := [(7, .int 13), (2, .int 0), (8, .null), (6, .int 16), (5, .ref (q + 8)), (4, .ref (q + 7)), (3, .ref sz), (0, .ref y), (1, .int 0)]) hx hb dX15_compiled_84 hl (k := 2) rfl (by decide) (by decide) rfl (fun ls hl => ?_)
  refine lv_goto (tgt := 45) hx hb dX15_compiled_87 (by decide) ?_
  refine lv_iload hx hb dX15_compiled_45 (lv_at hl 0 rfl) ?_
  refine lv_iload hx hb dX15_compiled_47 (lv_at hl 3 rfl) ?_
  refine lv_icmp_ge (tgt := 90) hx hb dX15_compiled_49 (by decide) (fun c => absurd c (by decide)) (fun _ => ?_)
  refine lv_aload hx hb dX15_compiled_52 (lv_at hl 4 rfl) ?_
  refine lv_iload hx hb dX15_compiled_54 (lv_at hl 0 rfl) ?_
  refine va_aldq hx hb hE.1 (g_1 w.1 (g_up_o (by omega) m9)) 0 9 rfl rfl (vp_in_nI (n := 13) (by decide) (by decide)) dX15_compiled_56 ?_
  show W p l e _ s m _ below meth c _ _ _ _ _ (F0 m 57 ls (.null :: _))
  refine lv_astoreN (lv' := [(8, .null), (7, .int 13), (2, .int 0), (6, .int 16), (5, .ref (q + 8)), (4, .ref (q + 7)), (3, .ref sz), (0, .ref y), (1, .int 0)]) hx hb dX15_compiled_57 hl (by decide) rfl (fun ls hl => ?_)
  refine lv_iload_n hx hb dX15_compiled_59 rfl (lv_at hl 2 rfl) ?_
  refine lv_aloadN hx hb dX15_compiled_60 (lv_at hl 0 rfl) ?_
  refine lv_ifnullN (tgt := 81) hx hb dX15_compiled_62 (by decide) ?_
  refine lv_iconst (v := 0) hx hb dX15_compiled_81 (by decide) ?_
  refine lv_iadd hx hb dX15_compiled_82 ?_
  rw [show (0 + 0 : Int32) = 0 by decide +kernel]
  refine lv_istore_n (lv' := [(2, .int 0), (8, .null), (7, .int 13), (6, .int 16), (5, .ref (q + 8)), (4, .ref (q + 7)), (3, .ref sz), (0, .ref y), (1, .int 0)]) hx hb dX15_compiled_83 rfl hl (by decide) rfl (fun ls hl => ?_)
  refine lv_iinc (v := 14) (lv' := [(7, .int 14), (2, .int 0), (8, .null), (6, .int 16), (5, .ref (q + 8)), (4, .ref (q + 7)), (3, .ref sz), (0, .ref y), (1, .int 0)]) hx hb dX15_compiled_84 hl (k := 2) rfl (by decide) (by decide) rfl (fun ls hl => ?_)
  refine lv_goto (tgt := 45) hx hb dX15_compiled_87 (by decide) ?_
  refine lv_iload hx hb dX15_compiled_45 (lv_at hl 0 rfl) ?_
  refine lv_iload hx hb dX15_compiled_47 (lv_at hl 3 rfl) ?_
  refine lv_icmp_ge (tgt := 90) hx hb dX15_compiled_49 (by decide) (fun c => absurd c (by decide)) (fun _ => ?_)
  refine lv_aload hx hb dX15_compiled_52 (lv_at hl 4 rfl) ?_
  refine lv_iload hx hb dX15_compiled_54 (lv_at hl 0 rfl) ?_
  refine va_aldq hx hb hE.1 (g_1 w.1 (g_up_o (by omega) m9)) 0 9 rfl rfl (vp_in_nI (n := 14) (by decide) (by decide)) dX15_compiled_56 ?_
  show W p l e _ s m _ below meth c _ _ _ _ _ (F0 m 57 ls (.null :: _))
  refine lv_astoreN (lv' := [(8, .null), (7, .int 14), (2, .int 0), (6, .int 16), (5, .ref (q + 8)), (4, .ref (q + 7)), (3, .ref sz), (0, .ref y), (1, .int 0)]) hx hb dX15_compiled_57 hl (by decide) rfl (fun ls hl => ?_)
  refine lv_iload_n hx hb dX15_compiled_59 rfl (lv_at hl 2 rfl) ?_
  refine lv_aloadN hx hb dX15_compiled_60 (lv_at hl 0 rfl) ?_
  refine lv_ifnullN (tgt := 81) hx hb dX15_compiled_62 (by decide) ?_
  refine lv_iconst (v := 0) hx hb dX15_compiled_81 (by decide) ?_
  refine lv_iadd hx hb dX15_compiled_82 ?_
  rw [show (0 + 0 : Int32) = 0 by decide +kernel]
  refine lv_istore_n (lv' := [(2, .int 0), (8, .null), (7, .int 14), (6, .int 16), (5, .ref (q + 8)), (4, .ref (q + 7)), (3, .ref sz), (0, .ref y), (1, .int 0)]) hx hb dX15_compiled_83 rfl hl (by decide) rfl (fun ls hl => ?_)
  refine lv_iinc (v := 15) (lv' := [(7, .int 15), (2, .int 0), (8, .null), (6, .int 16), (5, .ref (q + 8)), (4, .ref (q + 7)), (3, .ref sz), (0, .ref y), (1, .int 0)]) hx hb dX15_compiled_84 hl (k := 2) rfl (by decide) (by decide) rfl (fun ls hl => ?_)
  refine lv_goto (tgt := 45) hx hb dX15_compiled_87 (by decide) ?_
  refine lv_iload hx hb dX15_compiled_45 (lv_at hl 0 rfl) ?_
  refine lv_iload hx hb dX15_compiled_47 (lv_at hl 3 rfl) ?_
  refine lv_icmp_ge (tgt := 90) hx hb dX15_compiled_49 (by decide) (fun c => absurd c (by decide)) (fun _ => ?_)
  refine lv_aload hx hb dX15_compiled_52 (lv_at hl 4 rfl) ?_
  refine lv_iload hx hb dX15_compiled_54 (lv_at hl 0 rfl) ?_
  refine va_aldq hx hb hE.1 (g_1 w.1 (g_up_o (by omega) m9)) 0 9 rfl rfl (vp_in_nI (n := 15) (by decide) (by decide)) dX15_compiled_56 ?_
  show W p l e _ s m _ below meth c _ _ _ _ _ (F0 m 57 ls (.null :: _))
  refine lv_astoreN (lv' := [(8, .null), (7, .int 15), (2, .int 0), (6, .int 16), (5, .ref (q + 8)), (4, .ref (q + 7)), (3, .ref sz), (0, .ref y), (1, .int 0)]) hx hb dX15_compiled_57 hl (by decide) rfl (fun ls hl => ?_)
  refine lv_iload_n hx hb dX15_compiled_59 rfl (lv_at hl 2 rfl) ?_
  refine lv_aloadN hx hb dX15_compiled_60 (lv_at hl 0 rfl) ?_
  refine lv_ifnullN (tgt := 81) hx hb dX15_compiled_62 (by decide) ?_
  refine lv_iconst (v := 0) hx hb dX15_compiled_81 (by decide) ?_
  refine lv_iadd hx hb dX15_compiled_82 ?_
  rw [show (0 + 0 : Int32) = 0 by decide +kernel]
  refine lv_istore_n (lv' := [(2, .int 0), (8, .null), (7, .int 15), (6, .int 16), (5, .ref (q + 8)), (4, .ref (q + 7)), (3, .ref sz), (0, .ref y), (1, .int 0)]) hx hb dX15_compiled_83 rfl hl (by decide) rfl (fun ls hl => ?_)
  refine lv_iinc (v := 16) (lv' := [(7, .int 16), (2, .int 0), (8, .null), (6, .int 16), (5, .ref (q + 8)), (4, .ref (q + 7)), (3, .ref sz), (0, .ref y), (1, .int 0)]) hx hb dX15_compiled_84 hl (k := 2) rfl (by decide) (by decide) rfl (fun ls hl => ?_)
  refine lv_goto (tgt := 45) hx hb dX15_compiled_87 (by decide) ?_
  refine lv_iload hx hb dX15_compiled_45 (lv_at hl 0 rfl) ?_
  refine lv_iload hx hb dX15_compiled_47 (lv_at hl 3 rfl) ?_
  refine lv_icmp_ge (tgt := 90) hx hb dX15_compiled_49 (by decide) (fun _ => ?_) (fun c => absurd (by decide) c)
  refine lv_goto (tgt := 10) hx hb dX15_compiled_90 (by decide) ?_
  refine lv_aload_n hx hb dX15_compiled_10 rfl (lv_at hl 6 rfl) ?_
  refine g_callFi w (g_runF (As := []) (rest := []) S hE w hl (c_hasNext l D ar κ (g_up G sz (.inr (2, [.int 1, .int 0, .int 3, .ref (q + 1)]))) (sz + 1) sz 1 0 (q + 1) 3 (some (q + 9)) 3 g_up_s (g_up_o (by omega) m2)) (kF_RX15_187_2 S.2.2.2.2 (hE.2.1.2.1 _ (List.mem_of_getElem? (i := 1) rfl)) ⟨Nat.le_of_ble_eq_true rfl, Nat.le_of_ble_eq_true rfl⟩) g_up_s rfl rfl rfl rfl (Nat.le_of_ble_eq_true rfl) dX15_compiled_11 ⟨Nat.le_of_ble_eq_true rfl, Nat.le_of_ble_eq_true rfl⟩) (fun r u H locs hp hnz w => ?_)
  obtain ⟨rfl, rfl⟩ := hp
  rw [show (if (1 : Int32) = 3 then (0 : Int32) else 1) = 1 from by decide]
  dsimp only at w
  refine lv_if_eq (tgt := 93) hx hb dX15_compiled_16 (by decide) (fun c => absurd c (by decide)) (fun _ => ?_)
  refine lv_aload_n hx hb dX15_compiled_19 rfl (lv_at hl 6 rfl) ?_
  refine g_callFq w (g_runF (As := []) (rest := []) S hE w hl (c_next_1 l D ar κ (g_up G sz (.inr (2, [.int 1, .int 0, .int 3, .ref (q + 1)]))) (sz + 1) sz 0 3 (q + 1) (q + 9) (va_up (va_up (va_up (fun _ => none) (Int32.toNatClampNeg 0) (some (q + 7))) (Int32.toNatClampNeg 1) (some (q + 10))) (Int32.toNatClampNeg 2) (some (q + 12))) g_up_s (g_up_o (by omega) m2) (g_up_o (by omega) m10)) (kF_RX15_192_2 S.2.2.2.2 (hE.2.1.2.1 _ (List.mem_of_getElem? (i := 2) rfl)) ⟨Nat.le_of_ble_eq_true rfl, Nat.le_of_ble_eq_true rfl⟩) g_up_s rfl rfl rfl rfl (Nat.le_of_ble_eq_true rfl) dX15_compiled_20 ⟨Nat.le_of_ble_eq_true rfl, Nat.le_of_ble_eq_true rfl⟩) (fun r u H locs hp hnz w => ?_)
  obtain ⟨rfl, rfl⟩ := hp
  rw [show (va_up (va_up (va_up (fun _ => none) (Int32.toNatClampNeg 0) (some (q + 7))) (Int32.toNatClampNeg 1) (some (q + 10))) (Int32.toNatClampNeg 2) (some (q + 12))) (Int32.toNatClampNeg 1) = some (q + 10) from rfl]
  show W p l e _ s m _ below meth c _ _ _ _ _ (F0 m _ ls (.ref (q + 10) :: _))
  dsimp only at w
  have w := g_eqw w g_over
  refine g_castS S hE w m_6_123 (g_up_o (by omega) m11) rfl rfl dX15_compiled_25 ?_
  refine lv_astore (lv' := [(4, .ref (q + 10)), (7, .int 16), (2, .int 0), (8, .null), (6, .int 16), (5, .ref (q + 8)), (3, .ref sz), (0, .ref y), (1, .int 0)]) hx hb dX15_compiled_28 hl (by decide) rfl (fun ls hl => ?_)
  refine lv_aload hx hb dX15_compiled_30 (lv_at hl 0 rfl) ?_
  refine gf_RX15_163_14 S hE w (g_up_o (by omega) m11) rfl dX15_compiled_32 ?_
  refine lv_astore (lv' := [(5, .ref (q + 11)), (4, .ref (q + 10)), (7, .int 16), (2, .int 0), (8, .null), (6, .int 16), (3, .ref sz), (0, .ref y), (1, .int 0)]) hx hb dX15_compiled_35 hl (by decide) rfl (fun ls hl => ?_)
  refine lv_aload hx hb dX15_compiled_37 (lv_at hl 0 rfl) ?_
  refine va_alen (v := 16) hx hb hE.1 (g_1 w.1 (g_up_o (by omega) m12)) 0 9 rfl rfl rfl dX15_compiled_39 ?_
  refine lv_istore (lv' := [(6, .int 16), (5, .ref (q + 11)), (4, .ref (q + 10)), (7, .int 16), (2, .int 0), (8, .null), (3, .ref sz), (0, .ref y), (1, .int 0)]) hx hb dX15_compiled_40 hl (by decide) rfl (fun ls hl => ?_)
  refine lv_iconst (v := 0) hx hb dX15_compiled_42 (by decide) ?_
  refine lv_istore (lv' := [(7, .int 0), (6, .int 16), (5, .ref (q + 11)), (4, .ref (q + 10)), (2, .int 0), (8, .null), (3, .ref sz), (0, .ref y), (1, .int 0)]) hx hb dX15_compiled_43 hl (by decide) rfl (fun ls hl => ?_)
  refine lv_iload hx hb dX15_compiled_45 (lv_at hl 0 rfl) ?_
  refine lv_iload hx hb dX15_compiled_47 (lv_at hl 1 rfl) ?_
  refine lv_icmp_ge (tgt := 90) hx hb dX15_compiled_49 (by decide) (fun c => absurd c (by decide)) (fun _ => ?_)
  refine lv_aload hx hb dX15_compiled_52 (lv_at hl 2 rfl) ?_
  refine lv_iload hx hb dX15_compiled_54 (lv_at hl 0 rfl) ?_
  refine va_aldq hx hb hE.1 (g_1 w.1 (g_up_o (by omega) m12)) 0 9 rfl rfl (vp_in_nI (n := 0) (by decide) (by decide)) dX15_compiled_56 ?_
  show W p l e _ s m _ below meth c _ _ _ _ _ (F0 m 57 ls (.null :: _))
  refine lv_astoreN (lv' := [(8, .null), (7, .int 0), (6, .int 16), (5, .ref (q + 11)), (4, .ref (q + 10)), (2, .int 0), (3, .ref sz), (0, .ref y), (1, .int 0)]) hx hb dX15_compiled_57 hl (by decide) rfl (fun ls hl => ?_)
  refine lv_iload_n hx hb dX15_compiled_59 rfl (lv_at hl 5 rfl) ?_
  refine lv_aloadN hx hb dX15_compiled_60 (lv_at hl 0 rfl) ?_
  refine lv_ifnullN (tgt := 81) hx hb dX15_compiled_62 (by decide) ?_
  refine lv_iconst (v := 0) hx hb dX15_compiled_81 (by decide) ?_
  refine lv_iadd hx hb dX15_compiled_82 ?_
  rw [show (0 + 0 : Int32) = 0 by decide +kernel]
  refine lv_istore_n (lv' := [(2, .int 0), (8, .null), (7, .int 0), (6, .int 16), (5, .ref (q + 11)), (4, .ref (q + 10)), (3, .ref sz), (0, .ref y), (1, .int 0)]) hx hb dX15_compiled_83 rfl hl (by decide) rfl (fun ls hl => ?_)
  refine lv_iinc (v := 1) (lv' := [(7, .int 1), (2, .int 0), (8, .null), (6, .int 16), (5, .ref (q + 11)), (4, .ref (q + 10)), (3, .ref sz), (0, .ref y), (1, .int 0)]) hx hb dX15_compiled_84 hl (k := 2) rfl (by decide) (by decide) rfl (fun ls hl => ?_)
  refine lv_goto (tgt := 45) hx hb dX15_compiled_87 (by decide) ?_
  refine lv_iload hx hb dX15_compiled_45 (lv_at hl 0 rfl) ?_
  refine lv_iload hx hb dX15_compiled_47 (lv_at hl 3 rfl) ?_
  refine lv_icmp_ge (tgt := 90) hx hb dX15_compiled_49 (by decide) (fun c => absurd c (by decide)) (fun _ => ?_)
  refine lv_aload hx hb dX15_compiled_52 (lv_at hl 4 rfl) ?_
  refine lv_iload hx hb dX15_compiled_54 (lv_at hl 0 rfl) ?_
  refine va_aldq hx hb hE.1 (g_1 w.1 (g_up_o (by omega) m12)) 0 9 rfl rfl (vp_in_nI (n := 1) (by decide) (by decide)) dX15_compiled_56 ?_
  show W p l e _ s m _ below meth c _ _ _ _ _ (F0 m 57 ls (.null :: _))
  refine lv_astoreN (lv' := [(8, .null), (7, .int 1), (2, .int 0), (6, .int 16), (5, .ref (q + 11)), (4, .ref (q + 10)), (3, .ref sz), (0, .ref y), (1, .int 0)]) hx hb dX15_compiled_57 hl (by decide) rfl (fun ls hl => ?_)
  refine lv_iload_n hx hb dX15_compiled_59 rfl (lv_at hl 2 rfl) ?_
  refine lv_aloadN hx hb dX15_compiled_60 (lv_at hl 0 rfl) ?_
  refine lv_ifnullN (tgt := 81) hx hb dX15_compiled_62 (by decide) ?_
  refine lv_iconst (v := 0) hx hb dX15_compiled_81 (by decide) ?_
  refine lv_iadd hx hb dX15_compiled_82 ?_
  rw [show (0 + 0 : Int32) = 0 by decide +kernel]
  refine lv_istore_n (lv' := [(2, .int 0), (8, .null), (7, .int 1), (6, .int 16), (5, .ref (q + 11)), (4, .ref (q + 10)), (3, .ref sz), (0, .ref y), (1, .int 0)]) hx hb dX15_compiled_83 rfl hl (by decide) rfl (fun ls hl => ?_)
  refine lv_iinc (v := 2) (lv' := [(7, .int 2), (2, .int 0), (8, .null), (6, .int 16), (5, .ref (q + 11)), (4, .ref (q + 10)), (3, .ref sz), (0, .ref y), (1, .int 0)]) hx hb dX15_compiled_84 hl (k := 2) rfl (by decide) (by decide) rfl (fun ls hl => ?_)
  refine lv_goto (tgt := 45) hx hb dX15_compiled_87 (by decide) ?_
  refine lv_iload hx hb dX15_compiled_45 (lv_at hl 0 rfl) ?_
  refine lv_iload hx hb dX15_compiled_47 (lv_at hl 3 rfl) ?_
  refine lv_icmp_ge (tgt := 90) hx hb dX15_compiled_49 (by decide) (fun c => absurd c (by decide)) (fun _ => ?_)
  refine lv_aload hx hb dX15_compiled_52 (lv_at hl 4 rfl) ?_
  refine lv_iload hx hb dX15_compiled_54 (lv_at hl 0 rfl) ?_
  refine va_aldq hx hb hE.1 (g_1 w.1 (g_up_o (by omega) m12)) 0 9 rfl rfl (vp_in_nI (n := 2) (by decide) (by decide)) dX15_compiled_56 ?_
  show W p l e _ s m _ below meth c _ _ _ _ _ (F0 m 57 ls (.null :: _))
  refine lv_astoreN (lv' := [(8, .null), (7, .int 2), (2, .int 0), (6, .int 16), (5, .ref (q + 11)), (4, .ref (q + 10)), (3, .ref sz), (0, .ref y), (1, .int 0)]) hx hb dX15_compiled_57 hl (by decide) rfl (fun ls hl => ?_)
  refine lv_iload_n hx hb dX15_compiled_59 rfl (lv_at hl 2 rfl) ?_
  refine lv_aloadN hx hb dX15_compiled_60 (lv_at hl 0 rfl) ?_
  refine lv_ifnullN (tgt := 81) hx hb dX15_compiled_62 (by decide) ?_
  refine lv_iconst (v := 0) hx hb dX15_compiled_81 (by decide) ?_
  refine lv_iadd hx hb dX15_compiled_82 ?_
  rw [show (0 + 0 : Int32) = 0 by decide +kernel]
  refine lv_istore_n (lv' := [(2, .int 0), (8, .null), (7, .int 2), (6, .int 16), (5, .ref (q + 11)), (4, .ref (q + 10)), (3, .ref sz), (0, .ref y), (1, .int 0)]) hx hb dX15_compiled_83 rfl hl (by decide) rfl (fun ls hl => ?_)
  refine lv_iinc (v := 3) (lv' := [(7, .int 3), (2, .int 0), (8, .null), (6, .int 16), (5, .ref (q + 11)), (4, .ref (q + 10)), (3, .ref sz), (0, .ref y), (1, .int 0)]) hx hb dX15_compiled_84 hl (k := 2) rfl (by decide) (by decide) rfl (fun ls hl => ?_)
  refine lv_goto (tgt := 45) hx hb dX15_compiled_87 (by decide) ?_
  refine lv_iload hx hb dX15_compiled_45 (lv_at hl 0 rfl) ?_
  refine lv_iload hx hb dX15_compiled_47 (lv_at hl 3 rfl) ?_
  refine lv_icmp_ge (tgt := 90) hx hb dX15_compiled_49 (by decide) (fun c => absurd c (by decide)) (fun _ => ?_)
  refine lv_aload hx hb dX15_compiled_52 (lv_at hl 4 rfl) ?_
  refine lv_iload hx hb dX15_compiled_54 (lv_at hl 0 rfl) ?_
  refine va_aldq hx hb hE.1 (g_1 w.1 (g_up_o (by omega) m12)) 0 9 rfl rfl (vp_in_nI (n := 3) (by decide) (by decide)) dX15_compiled_56 ?_
  show W p l e _ s m _ below meth c _ _ _ _ _ (F0 m 57 ls (.null :: _))
  refine lv_astoreN (lv' := [(8, .null), (7, .int 3), (2, .int 0), (6, .int 16), (5, .ref (q + 11)), (4, .ref (q + 10)), (3, .ref sz), (0, .ref y), (1, .int 0)]) hx hb dX15_compiled_57 hl (by decide) rfl (fun ls hl => ?_)
  refine lv_iload_n hx hb dX15_compiled_59 rfl (lv_at hl 2 rfl) ?_
  refine lv_aloadN hx hb dX15_compiled_60 (lv_at hl 0 rfl) ?_
  refine lv_ifnullN (tgt := 81) hx hb dX15_compiled_62 (by decide) ?_
  refine lv_iconst (v := 0) hx hb dX15_compiled_81 (by decide) ?_
  refine lv_iadd hx hb dX15_compiled_82 ?_
  rw [show (0 + 0 : Int32) = 0 by decide +kernel]
  refine lv_istore_n (lv' := [(2, .int 0), (8, .null), (7, .int 3), (6, .int 16), (5, .ref (q + 11)), (4, .ref (q + 10)), (3, .ref sz), (0, .ref y), (1, .int 0)]) hx hb dX15_compiled_83 rfl hl (by decide) rfl (fun ls hl => ?_)
  refine lv_iinc (v := 4) (lv' := [(7, .int 4), (2, .int 0), (8, .null), (6, .int 16), (5, .ref (q + 11)), (4, .ref (q + 10)), (3, .ref sz), (0, .ref y), (1, .int 0)]) hx hb dX15_compiled_84 hl (k := 2) rfl (by decide) (by decide) rfl (fun ls hl => ?_)
  refine lv_goto (tgt := 45) hx hb dX15_compiled_87 (by decide) ?_
  refine lv_iload hx hb dX15_compiled_45 (lv_at hl 0 rfl) ?_
  refine lv_iload hx hb dX15_compiled_47 (lv_at hl 3 rfl) ?_
  refine lv_icmp_ge (tgt := 90) hx hb dX15_compiled_49 (by decide) (fun c => absurd c (by decide)) (fun _ => ?_)
  refine lv_aload hx hb dX15_compiled_52 (lv_at hl 4 rfl) ?_
  refine lv_iload hx hb dX15_compiled_54 (lv_at hl 0 rfl) ?_
  refine va_aldq hx hb hE.1 (g_1 w.1 (g_up_o (by omega) m12)) 0 9 rfl rfl (vp_in_nI (n := 4) (by decide) (by decide)) dX15_compiled_56 ?_
  show W p l e _ s m _ below meth c _ _ _ _ _ (F0 m 57 ls (.null :: _))
  refine lv_astoreN (lv' := [(8, .null), (7, .int 4), (2, .int 0), (6, .int 16), (5, .ref (q + 11)), (4, .ref (q + 10)), (3, .ref sz), (0, .ref y), (1, .int 0)]) hx hb dX15_compiled_57 hl (by decide) rfl (fun ls hl => ?_)
  refine lv_iload_n hx hb dX15_compiled_59 rfl (lv_at hl 2 rfl) ?_
  refine lv_aloadN hx hb dX15_compiled_60 (lv_at hl 0 rfl) ?_
  refine lv_ifnullN (tgt := 81) hx hb dX15_compiled_62 (by decide) ?_
  refine lv_iconst (v := 0) hx hb dX15_compiled_81 (by decide) ?_
  refine lv_iadd hx hb dX15_compiled_82 ?_
  rw [show (0 + 0 : Int32) = 0 by decide +kernel]
  refine lv_istore_n (lv' := [(2, .int 0), (8, .null), (7, .int 4), (6, .int 16), (5, .ref (q + 11)), (4, .ref (q + 10)), (3, .ref sz), (0, .ref y), (1, .int 0)]) hx hb dX15_compiled_83 rfl hl (by decide) rfl (fun ls hl => ?_)
  refine lv_iinc (v := 5) (lv' := [(7, .int 5), (2, .int 0), (8, .null), (6, .int 16), (5, .ref (q + 11)), (4, .ref (q + 10)), (3, .ref sz), (0, .ref y), (1, .int 0)]) hx hb dX15_compiled_84 hl (k := 2) rfl (by decide) (by decide) rfl (fun ls hl => ?_)
  refine lv_goto (tgt := 45) hx hb dX15_compiled_87 (by decide) ?_
  refine lv_iload hx hb dX15_compiled_45 (lv_at hl 0 rfl) ?_
  refine lv_iload hx hb dX15_compiled_47 (lv_at hl 3 rfl) ?_
  refine lv_icmp_ge (tgt := 90) hx hb dX15_compiled_49 (by decide) (fun c => absurd c (by decide)) (fun _ => ?_)
  refine lv_aload hx hb dX15_compiled_52 (lv_at hl 4 rfl) ?_
  refine lv_iload hx hb dX15_compiled_54 (lv_at hl 0 rfl) ?_
  refine va_aldq hx hb hE.1 (g_1 w.1 (g_up_o (by omega) m12)) 0 9 rfl rfl (vp_in_nI (n := 5) (by decide) (by decide)) dX15_compiled_56 ?_
  show W p l e _ s m _ below meth c _ _ _ _ _ (F0 m 57 ls (.null :: _))
  refine lv_astoreN (lv' := [(8, .null), (7, .int 5), (2, .int 0), (6, .int 16), (5, .ref (q + 11)), (4, .ref (q + 10)), (3, .ref sz), (0, .ref y), (1, .int 0)]) hx hb dX15_compiled_57 hl (by decide) rfl (fun ls hl => ?_)
  refine lv_iload_n hx hb dX15_compiled_59 rfl (lv_at hl 2 rfl) ?_
  refine lv_aloadN hx hb dX15_compiled_60 (lv_at hl 0 rfl) ?_
  refine lv_ifnullN (tgt := 81) hx hb dX15_compiled_62 (by decide) ?_
  refine lv_iconst (v := 0) hx hb dX15_compiled_81 (by decide) ?_
  refine lv_iadd hx hb dX15_compiled_82 ?_
  rw [show (0 + 0 : Int32) = 0 by decide +kernel]
  refine lv_istore_n (lv' := [(2, .int 0), (8, .null), (7, .int 5), (6, .int 16), (5, .ref (q + 11)), (4, .ref (q + 10)), (3, .ref sz), (0, .ref y), (1, .int 0)]) hx hb dX15_compiled_83 rfl hl (by decide) rfl (fun ls hl => ?_)
  refine lv_iinc (v := 6) (lv' := [(7, .int 6), (2, .int 0), (8, .null), (6, .int 16), (5, .ref (q + 11)), (4, .ref (q + 10)), (3, .ref sz), (0, .ref y), (1, .int 0)]) hx hb dX15_compiled_84 hl (k := 2) rfl (by decide) (by decide) rfl (fun ls hl => ?_)
  refine lv_goto (tgt := 45) hx hb dX15_compiled_87 (by decide) ?_
  refine lv_iload hx hb dX15_compiled_45 (lv_at hl 0 rfl) ?_
  refine lv_iload hx hb dX15_compiled_47 (lv_at hl 3 rfl) ?_
  refine lv_icmp_ge (tgt := 90) hx hb dX15_compiled_49 (by decide) (fun c => absurd c (by decide)) (fun _ => ?_)
  refine lv_aload hx hb dX15_compiled_52 (lv_at hl 4 rfl) ?_
  refine lv_iload hx hb dX15_compiled_54 (lv_at hl 0 rfl) ?_
  refine va_aldq hx hb hE.1 (g_1 w.1 (g_up_o (by omega) m12)) 0 9 rfl rfl (vp_in_nI (n := 6) (by decide) (by decide)) dX15_compiled_56 ?_
  show W p l e _ s m _ below meth c _ _ _ _ _ (F0 m 57 ls (.null :: _))
  refine lv_astoreN (lv' := [(8, .null), (7, .int 6), (2, .int 0), (6, .int 16), (5, .ref (q + 11)), (4, .ref (q + 10)), (3, .ref sz), (0, .ref y), (1, .int 0)]) hx hb dX15_compiled_57 hl (by decide) rfl (fun ls hl => ?_)
  refine lv_iload_n hx hb dX15_compiled_59 rfl (lv_at hl 2 rfl) ?_
  refine lv_aloadN hx hb dX15_compiled_60 (lv_at hl 0 rfl) ?_
  refine lv_ifnullN (tgt := 81) hx hb dX15_compiled_62 (by decide) ?_
  refine lv_iconst (v := 0) hx hb dX15_compiled_81 (by decide) ?_
  refine lv_iadd hx hb dX15_compiled_82 ?_
  rw [show (0 + 0 : Int32) = 0 by decide +kernel]
  refine lv_istore_n (lv' := [(2, .int 0), (8, .null), (7, .int 6), (6, .int 16), (5, .ref (q + 11)), (4, .ref (q + 10)), (3, .ref sz), (0, .ref y), (1, .int 0)]) hx hb dX15_compiled_83 rfl hl (by decide) rfl (fun ls hl => ?_)
  refine lv_iinc (v := 7) (lv' := [(7, .int 7), (2, .int 0), (8, .null), (6, .int 16), (5, .ref (q + 11)), (4, .ref (q + 10)), (3, .ref sz), (0, .ref y), (1, .int 0)]) hx hb dX15_compiled_84 hl (k := 2) rfl (by decide) (by decide) rfl (fun ls hl => ?_)
  refine lv_goto (tgt := 45) hx hb dX15_compiled_87 (by decide) ?_
  refine lv_iload hx hb dX15_compiled_45 (lv_at hl 0 rfl) ?_
  refine lv_iload hx hb dX15_compiled_47 (lv_at hl 3 rfl) ?_
  refine lv_icmp_ge (tgt := 90) hx hb dX15_compiled_49 (by decide) (fun c => absurd c (by decide)) (fun _ => ?_)
  refine lv_aload hx hb dX15_compiled_52 (lv_at hl 4 rfl) ?_
  refine lv_iload hx hb dX15_compiled_54 (lv_at hl 0 rfl) ?_
  refine va_aldq hx hb hE.1 (g_1 w.1 (g_up_o (by omega) m12)) 0 9 rfl rfl (vp_in_nI (n := 7) (by decide) (by decide)) dX15_compiled_56 ?_
  show W p l e _ s m _ below meth c _ _ _ _ _ (F0 m 57 ls (.null :: _))
  refine lv_astoreN (lv' := [(8, .null), (7, .int 7), (2, .int 0), (6, .int 16), (5, .ref (q + 11)), (4, .ref (q + 10)), (3, .ref sz), (0, .ref y), (1, .int 0)]) hx hb dX15_compiled_57 hl (by decide) rfl (fun ls hl => ?_)
  refine lv_iload_n hx hb dX15_compiled_59 rfl (lv_at hl 2 rfl) ?_
  refine lv_aloadN hx hb dX15_compiled_60 (lv_at hl 0 rfl) ?_
  refine lv_ifnullN (tgt := 81) hx hb dX15_compiled_62 (by decide) ?_
  refine lv_iconst (v := 0) hx hb dX15_compiled_81 (by decide) ?_
  refine lv_iadd hx hb dX15_compiled_82 ?_
  rw [show (0 + 0 : Int32) = 0 by decide +kernel]
  refine lv_istore_n (lv' := [(2, .int 0), (8, .null), (7, .int 7), (6, .int 16), (5, .ref (q + 11)), (4, .ref (q + 10)), (3, .ref sz), (0, .ref y), (1, .int 0)]) hx hb dX15_compiled_83 rfl hl (by decide) rfl (fun ls hl => ?_)
  refine lv_iinc (v := 8) (lv' := [(7, .int 8), (2, .int 0), (8, .null), (6, .int 16), (5, .ref (q + 11)), (4, .ref (q + 10)), (3, .ref sz), (0, .ref y), (1, .int 0)]) hx hb dX15_compiled_84 hl (k := 2) rfl (by decide) (by decide) rfl (fun ls hl => ?_)
  refine lv_goto (tgt := 45) hx hb dX15_compiled_87 (by decide) ?_
  refine lv_iload hx hb dX15_compiled_45 (lv_at hl 0 rfl) ?_
  refine lv_iload hx hb dX15_compiled_47 (lv_at hl 3 rfl) ?_
  refine lv_icmp_ge (tgt := 90) hx hb dX15_compiled_49 (by decide) (fun c => absurd c (by decide)) (fun _ => ?_)
  refine lv_aload hx hb dX15_compiled_52 (lv_at hl 4 rfl) ?_
  refine lv_iload hx hb dX15_compiled_54 (lv_at hl 0 rfl) ?_
  refine va_aldq hx hb hE.1 (g_1 w.1 (g_up_o (by omega) m12)) 0 9 rfl rfl (vp_in_nI (n := 8) (by decide) (by decide)) dX15_compiled_56 ?_
  show W p l e _ s m _ below meth c _ _ _ _ _ (F0 m 57 ls (.null :: _))
  refine lv_astoreN (lv' := [(8, .null), (7, .int 8), (2, .int 0), (6, .int 16), (5, .ref (q + 11)), (4, .ref (q + 10)), (3, .ref sz), (0, .ref y), (1, .int 0)]) hx hb dX15_compiled_57 hl (by decide) rfl (fun ls hl => ?_)
  refine lv_iload_n hx hb dX15_compiled_59 rfl (lv_at hl 2 rfl) ?_
  refine lv_aloadN hx hb dX15_compiled_60 (lv_at hl 0 rfl) ?_
  refine lv_ifnullN (tgt := 81) hx hb dX15_compiled_62 (by decide) ?_
  refine lv_iconst (v := 0) hx hb dX15_compiled_81 (by decide) ?_
  refine lv_iadd hx hb dX15_compiled_82 ?_
  rw [show (0 + 0 : Int32) = 0 by decide +kernel]
  refine lv_istore_n (lv' := [(2, .int 0), (8, .null), (7, .int 8), (6, .int 16), (5, .ref (q + 11)), (4, .ref (q + 10)), (3, .ref sz), (0, .ref y), (1, .int 0)]) hx hb dX15_compiled_83 rfl hl (by decide) rfl (fun ls hl => ?_)
  refine lv_iinc (v := 9) (lv' := [(7, .int 9), (2, .int 0), (8, .null), (6, .int 16), (5, .ref (q + 11)), (4, .ref (q + 10)), (3, .ref sz), (0, .ref y), (1, .int 0)]) hx hb dX15_compiled_84 hl (k := 2) rfl (by decide) (by decide) rfl (fun ls hl => ?_)
  refine lv_goto (tgt := 45) hx hb dX15_compiled_87 (by decide) ?_
  refine lv_iload hx hb dX15_compiled_45 (lv_at hl 0 rfl) ?_
  refine lv_iload hx hb dX15_compiled_47 (lv_at hl 3 rfl) ?_
  refine lv_icmp_ge (tgt := 90) hx hb dX15_compiled_49 (by decide) (fun c => absurd c (by decide)) (fun _ => ?_)
  refine lv_aload hx hb dX15_compiled_52 (lv_at hl 4 rfl) ?_
  refine lv_iload hx hb dX15_compiled_54 (lv_at hl 0 rfl) ?_
  refine va_aldq hx hb hE.1 (g_1 w.1 (g_up_o (by omega) m12)) 0 9 rfl rfl (vp_in_nI (n := 9) (by decide) (by decide)) dX15_compiled_56 ?_
  show W p l e _ s m _ below meth c _ _ _ _ _ (F0 m 57 ls (.null :: _))
  refine lv_astoreN (lv' := [(8, .null), (7, .int 9), (2, .int 0), (6, .int 16), (5, .ref (q + 11)), (4, .ref (q + 10)), (3, .ref sz), (0, .ref y), (1, .int 0)]) hx hb dX15_compiled_57 hl (by decide) rfl (fun ls hl => ?_)
  refine lv_iload_n hx hb dX15_compiled_59 rfl (lv_at hl 2 rfl) ?_
  refine lv_aloadN hx hb dX15_compiled_60 (lv_at hl 0 rfl) ?_
  refine lv_ifnullN (tgt := 81) hx hb dX15_compiled_62 (by decide) ?_
  refine lv_iconst (v := 0) hx hb dX15_compiled_81 (by decide) ?_
  refine lv_iadd hx hb dX15_compiled_82 ?_
  rw [show (0 + 0 : Int32) = 0 by decide +kernel]
  refine lv_istore_n (lv' := [(2, .int 0), (8, .null), (7, .int 9), (6, .int 16), (5, .ref (q + 11)), (4, .ref (q + 10)), (3, .ref sz), (0, .ref y), (1, .int 0)]) hx hb dX15_compiled_83 rfl hl (by decide) rfl (fun ls hl => ?_)
  refine lv_iinc (v := 10) (lv' := [(7, .int 10), (2, .int 0), (8, .null), (6, .int 16), (5, .ref (q + 11)), (4, .ref (q + 10)), (3, .ref sz), (0, .ref y), (1, .int 0)]) hx hb dX15_compiled_84 hl (k := 2) rfl (by decide) (by decide) rfl (fun ls hl => ?_)
  refine lv_goto (tgt := 45) hx hb dX15_compiled_87 (by decide) ?_
  refine lv_iload hx hb dX15_compiled_45 (lv_at hl 0 rfl) ?_
  refine lv_iload hx hb dX15_compiled_47 (lv_at hl 3 rfl) ?_
  refine lv_icmp_ge (tgt := 90) hx hb dX15_compiled_49 (by decide) (fun c => absurd c (by decide)) (fun _ => ?_)
  refine lv_aload hx hb dX15_compiled_52 (lv_at hl 4 rfl) ?_
  refine lv_iload hx hb dX15_compiled_54 (lv_at hl 0 rfl) ?_
  refine va_aldq hx hb hE.1 (g_1 w.1 (g_up_o (by omega) m12)) 0 9 rfl rfl (vp_in_nI (n := 10) (by decide) (by decide)) dX15_compiled_56 ?_
  show W p l e _ s m _ below meth c _ _ _ _ _ (F0 m 57 ls (.null :: _))
  refine lv_astoreN (lv' := [(8, .null), (7, .int 10), (2, .int 0), (6, .int 16), (5, .ref (q + 11)), (4, .ref (q + 10)), (3, .ref sz), (0, .ref y), (1, .int 0)]) hx hb dX15_compiled_57 hl (by decide) rfl (fun ls hl => ?_)
  refine lv_iload_n hx hb dX15_compiled_59 rfl (lv_at hl 2 rfl) ?_
  refine lv_aloadN hx hb dX15_compiled_60 (lv_at hl 0 rfl) ?_
  refine lv_ifnullN (tgt := 81) hx hb dX15_compiled_62 (by decide) ?_
  refine lv_iconst (v := 0) hx hb dX15_compiled_81 (by decide) ?_
  refine lv_iadd hx hb dX15_compiled_82 ?_
  rw [show (0 + 0 : Int32) = 0 by decide +kernel]
  refine lv_istore_n (lv' := [(2, .int 0), (8, .null), (7, .int 10), (6, .int 16), (5, .ref (q + 11)), (4, .ref (q + 10)), (3, .ref sz), (0, .ref y), (1, .int 0)]) hx hb dX15_compiled_83 rfl hl (by decide) rfl (fun ls hl => ?_)
  refine lv_iinc (v := 11) (lv' := [(7, .int 11), (2, .int 0), (8, .null), (6, .int 16), (5, .ref (q + 11)), (4, .ref (q + 10)), (3, .ref sz), (0, .ref y), (1, .int 0)]) hx hb dX15_compiled_84 hl (k := 2) rfl (by decide) (by decide) rfl (fun ls hl => ?_)
  refine lv_goto (tgt := 45) hx hb dX15_compiled_87 (by decide) ?_
  refine lv_iload hx hb dX15_compiled_45 (lv_at hl 0 rfl) ?_
  refine lv_iload hx hb dX15_compiled_47 (lv_at hl 3 rfl) ?_
  refine lv_icmp_ge (tgt := 90) hx hb dX15_compiled_49 (by decide) (fun c => absurd c (by decide)) (fun _ => ?_)
  refine lv_aload hx hb dX15_compiled_52 (lv_at hl 4 rfl) ?_
  refine lv_iload hx hb dX15_compiled_54 (lv_at hl 0 rfl) ?_
  refine va_aldq hx hb hE.1 (g_1 w.1 (g_up_o (by omega) m12)) 0 9 rfl rfl (vp_in_nI (n := 11) (by decide) (by decide)) dX15_compiled_56 ?_
  show W p l e _ s m _ below meth c _ _ _ _ _ (F0 m 57 ls (.null :: _))
  refine lv_astoreN (lv' := [(8, .null), (7, .int 11), (2, .int 0), (6, .int 16), (5, .ref (q + 11)), (4, .ref (q + 10)), (3, .ref sz), (0, .ref y), (1, .int 0)]) hx hb dX15_compiled_57 hl (by decide) rfl (fun ls hl => ?_)
  refine lv_iload_n hx hb dX15_compiled_59 rfl (lv_at hl 2 rfl) ?_
  refine lv_aloadN hx hb dX15_compiled_60 (lv_at hl 0 rfl) ?_
  refine lv_ifnullN (tgt := 81) hx hb dX15_compiled_62 (by decide) ?_
  refine lv_iconst (v := 0) hx hb dX15_compiled_81 (by decide) ?_
  refine lv_iadd hx hb dX15_compiled_82 ?_
  rw [show (0 + 0 : Int32) = 0 by decide +kernel]
  refine lv_istore_n (lv' := [(2, .int 0), (8, .null), (7, .int 11), (6, .int 16), (5, .ref (q + 11)), (4, .ref (q + 10)), (3, .ref sz), (0, .ref y), (1, .int 0)]) hx hb dX15_compiled_83 rfl hl (by decide) rfl (fun ls hl => ?_)
  refine lv_iinc (v := 12) (lv' := [(7, .int 12), (2, .int 0), (8, .null), (6, .int 16), (5, .ref (q + 11)), (4, .ref (q + 10)), (3, .ref sz), (0, .ref y), (1, .int 0)]) hx hb dX15_compiled_84 hl (k := 2) rfl (by decide) (by decide) rfl (fun ls hl => ?_)
  refine lv_goto (tgt := 45) hx hb dX15_compiled_87 (by decide) ?_
  refine lv_iload hx hb dX15_compiled_45 (lv_at hl 0 rfl) ?_
  refine lv_iload hx hb dX15_compiled_47 (lv_at hl 3 rfl) ?_
  refine lv_icmp_ge (tgt := 90) hx hb dX15_compiled_49 (by decide) (fun c => absurd c (by decide)) (fun _ => ?_)
  refine lv_aload hx hb dX15_compiled_52 (lv_at hl 4 rfl) ?_
  refine lv_iload hx hb dX15_compiled_54 (lv_at hl 0 rfl) ?_
  refine va_aldq hx hb hE.1 (g_1 w.1 (g_up_o (by omega) m12)) 0 9 rfl rfl (vp_in_nI (n := 12) (by decide) (by decide)) dX15_compiled_56 ?_
  show W p l e _ s m _ below meth c _ _ _ _ _ (F0 m 57 ls (.null :: _))
  refine lv_astoreN (lv' := [(8, .null), (7, .int 12), (2, .int 0), (6, .int 16), (5, .ref (q + 11)), (4, .ref (q + 10)), (3, .ref sz), (0, .ref y), (1, .int 0)]) hx hb dX15_compiled_57 hl (by decide) rfl (fun ls hl => ?_)
  refine lv_iload_n hx hb dX15_compiled_59 rfl (lv_at hl 2 rfl) ?_
  refine lv_aloadN hx hb dX15_compiled_60 (lv_at hl 0 rfl) ?_
  refine lv_ifnullN (tgt := 81) hx hb dX15_compiled_62 (by decide) ?_
  refine lv_iconst (v := 0) hx hb dX15_compiled_81 (by decide) ?_
  refine lv_iadd hx hb dX15_compiled_82 ?_
  rw [show (0 + 0 : Int32) = 0 by decide +kernel]
  refine lv_istore_n (lv' := [(2, .int 0), (8, .null), (7, .int 12), (6, .int 16), (5, .ref (q + 11)), (4, .ref (q + 10)), (3, .ref sz), (0, .ref y), (1, .int 0)]) hx hb dX15_compiled_83 rfl hl (by decide) rfl (fun ls hl => ?_)
  refine lv_iinc (v := 13) (lv' := [(7, .int 13), (2, .int 0), (8, .null), (6, .int 16), (5, .ref (q + 11)), (4, .ref (q + 10)), (3, .ref sz), (0, .ref y), (1, .int 0)]) hx hb dX15_compiled_84 hl (k := 2) rfl (by decide) (by decide) rfl (fun ls hl => ?_)
  refine lv_goto (tgt := 45) hx hb dX15_compiled_87 (by decide) ?_
  refine lv_iload hx hb dX15_compiled_45 (lv_at hl 0 rfl) ?_
  refine lv_iload hx hb dX15_compiled_47 (lv_at hl 3 rfl) ?_
  refine lv_icmp_ge (tgt := 90) hx hb dX15_compiled_49 (by decide) (fun c => absurd c (by decide)) (fun _ => ?_)
  refine lv_aload hx hb dX15_compiled_52 (lv_at hl 4 rfl) ?_
  refine lv_iload hx hb dX15_compiled_54 (lv_at hl 0 rfl) ?_
  refine va_aldq hx hb hE.1 (g_1 w.1 (g_up_o (by omega) m12)) 0 9 rfl rfl (vp_in_nI (n := 13) (by decide) (by decide)) dX15_compiled_56 ?_
  show W p l e _ s m _ below meth c _ _ _ _ _ (F0 m 57 ls (.null :: _))
  refine lv_astoreN (lv' := [(8, .null), (7, .int 13), (2, .int 0), (6, .int 16), (5, .ref (q + 11)), (4, .ref (q + 10)), (3, .ref sz), (0, .ref y), (1, .int 0)]) hx hb dX15_compiled_57 hl (by decide) rfl (fun ls hl => ?_)
  refine lv_iload_n hx hb dX15_compiled_59 rfl (lv_at hl 2 rfl) ?_
  refine lv_aloadN hx hb dX15_compiled_60 (lv_at hl 0 rfl) ?_
  refine lv_ifnullN (tgt := 81) hx hb dX15_compiled_62 (by decide) ?_
  refine lv_iconst (v := 0) hx hb dX15_compiled_81 (by decide) ?_
  refine lv_iadd hx hb dX15_compiled_82 ?_
  rw [show (0 + 0 : Int32) = 0 by decide +kernel]
  refine lv_istore_n (lv' := [(2, .int 0), (8, .null), (7, .int 13), (6, .int 16), (5, .ref (q + 11)), (4, .ref (q + 10)), (3, .ref sz), (0, .ref y), (1, .int 0)]) hx hb dX15_compiled_83 rfl hl (by decide) rfl (fun ls hl => ?_)
  refine lv_iinc (v := 14) (lv' := [(7, .int 14), (2, .int 0), (8, .null), (6, .int 16), (5, .ref (q + 11)), (4, .ref (q + 10)), (3, .ref sz), (0, .ref y), (1, .int 0)]) hx hb dX15_compiled_84 hl (k := 2) rfl (by decide) (by decide) rfl (fun ls hl => ?_)
  refine lv_goto (tgt := 45) hx hb dX15_compiled_87 (by decide) ?_
  refine lv_iload hx hb dX15_compiled_45 (lv_at hl 0 rfl) ?_
  refine lv_iload hx hb dX15_compiled_47 (lv_at hl 3 rfl) ?_
  refine lv_icmp_ge (tgt := 90) hx hb dX15_compiled_49 (by decide) (fun c => absurd c (by decide)) (fun _ => ?_)
  refine lv_aload hx hb dX15_compiled_52 (lv_at hl 4 rfl) ?_
  refine lv_iload hx hb dX15_compiled_54 (lv_at hl 0 rfl) ?_
  refine va_aldq hx hb hE.1 (g_1 w.1 (g_up_o (by omega) m12)) 0 9 rfl rfl (vp_in_nI (n := 14) (by decide) (by decide)) dX15_compiled_56 ?_
  show W p l e _ s m _ below meth c _ _ _ _ _ (F0 m 57 ls (.null :: _))
  refine lv_astoreN (lv' := [(8, .null), (7, .int 14), (2, .int 0), (6, .int 16), (5, .ref (q + 11)), (4, .ref (q + 10)), (3, .ref sz), (0, .ref y), (1, .int 0)]) hx hb dX15_compiled_57 hl (by decide) rfl (fun ls hl => ?_)
  refine lv_iload_n hx hb dX15_compiled_59 rfl (lv_at hl 2 rfl) ?_
  refine lv_aloadN hx hb dX15_compiled_60 (lv_at hl 0 rfl) ?_
  refine lv_ifnullN (tgt := 81) hx hb dX15_compiled_62 (by decide) ?_
  refine lv_iconst (v := 0) hx hb dX15_compiled_81 (by decide) ?_
  refine lv_iadd hx hb dX15_compiled_82 ?_
  rw [show (0 + 0 : Int32) = 0 by decide +kernel]
  refine lv_istore_n (lv' := [(2, .int 0), (8, .null), (7, .int 14), (6, .int 16), (5, .ref (q + 11)), (4, .ref (q + 10)), (3, .ref sz), (0, .ref y), (1, .int 0)]) hx hb dX15_compiled_83 rfl hl (by decide) rfl (fun ls hl => ?_)
  refine lv_iinc (v := 15) (lv' := [(7, .int 15), (2, .int 0), (8, .null), (6, .int 16), (5, .ref (q + 11)), (4, .ref (q + 10)), (3, .ref sz), (0, .ref y), (1, .int 0)]) hx hb dX15_compiled_84 hl (k := 2) rfl (by decide) (by decide) rfl (fun ls hl => ?_)
  refine lv_goto (tgt := 45) hx hb dX15_compiled_87 (by decide) ?_
  refine lv_iload hx hb dX15_compiled_45 (lv_at hl 0 rfl) ?_
  refine lv_iload hx hb dX15_compiled_47 (lv_at hl 3 rfl) ?_
  refine lv_icmp_ge (tgt := 90) hx hb dX15_compiled_49 (by decide) (fun c => absurd c (by decide)) (fun _ => ?_)
  refine lv_aload hx hb dX15_compiled_52 (lv_at hl 4 rfl) ?_
  refine lv_iload hx hb dX15_compiled_54 (lv_at hl 0 rfl) ?_
  refine va_aldq hx hb hE.1 (g_1 w.1 (g_up_o (by omega) m12)) 0 9 rfl rfl (vp_in_nI (n := 15) (by decide) (by decide)) dX15_compiled_56 ?_
  show W p l e _ s m _ below meth c _ _ _ _ _ (F0 m 57 ls (.null :: _))
  refine lv_astoreN (lv' := [(8, .null), (7, .int 15), (2, .int 0), (6, .int 16), (5, .ref (q + 11)), (4, .ref (q + 10)), (3, .ref sz), (0, .ref y), (1, .int 0)]) hx hb dX15_compiled_57 hl (by decide) rfl (fun ls hl => ?_)
  refine lv_iload_n hx hb dX15_compiled_59 rfl (lv_at hl 2 rfl) ?_
  refine lv_aloadN hx hb dX15_compiled_60 (lv_at hl 0 rfl) ?_
  refine lv_ifnullN (tgt := 81) hx hb dX15_compiled_62 (by decide) ?_
  refine lv_iconst (v := 0) hx hb dX15_compiled_81 (by decide) ?_
  refine lv_iadd hx hb dX15_compiled_82 ?_
  rw [show (0 + 0 : Int32) = 0 by decide +kernel]
  refine lv_istore_n (lv' := [(2, .int 0), (8, .null), (7, .int 15), (6, .int 16), (5, .ref (q + 11)), (4, .ref (q + 10)), (3, .ref sz), (0, .ref y), (1, .int 0)]) hx hb dX15_compiled_83 rfl hl (by decide) rfl (fun ls hl => ?_)
  refine lv_iinc (v := 16) (lv' := [(7, .int 16), (2, .int 0), (8, .null), (6, .int 16), (5, .ref (q + 11)), (4, .ref (q + 10)), (3, .ref sz), (0, .ref y), (1, .int 0)]) hx hb dX15_compiled_84 hl (k := 2) rfl (by decide) (by decide) rfl (fun ls hl => ?_)
  refine lv_goto (tgt := 45) hx hb dX15_compiled_87 (by decide) ?_
  refine lv_iload hx hb dX15_compiled_45 (lv_at hl 0 rfl) ?_
  refine lv_iload hx hb dX15_compiled_47 (lv_at hl 3 rfl) ?_
  refine lv_icmp_ge (tgt := 90) hx hb dX15_compiled_49 (by decide) (fun _ => ?_) (fun c => absurd (by decide) c)
  refine lv_goto (tgt := 10) hx hb dX15_compiled_90 (by decide) ?_
  refine lv_aload_n hx hb dX15_compiled_10 rfl (lv_at hl 6 rfl) ?_
  refine g_callFi w (g_runF (As := []) (rest := []) S hE w hl (c_hasNext l D ar κ (g_up G sz (.inr (2, [.int 2, .int 1, .int 3, .ref (q + 1)]))) (sz + 1) sz 2 1 (q + 1) 3 (some (q + 9)) 3 g_up_s (g_up_o (by omega) m2)) (kF_RX15_187_2 S.2.2.2.2 (hE.2.1.2.1 _ (List.mem_of_getElem? (i := 1) rfl)) ⟨Nat.le_of_ble_eq_true rfl, Nat.le_of_ble_eq_true rfl⟩) g_up_s rfl rfl rfl rfl (Nat.le_of_ble_eq_true rfl) dX15_compiled_11 ⟨Nat.le_of_ble_eq_true rfl, Nat.le_of_ble_eq_true rfl⟩) (fun r u H locs hp hnz w => ?_)
  obtain ⟨rfl, rfl⟩ := hp
  rw [show (if (2 : Int32) = 3 then (0 : Int32) else 1) = 1 from by decide]
  dsimp only at w
  refine lv_if_eq (tgt := 93) hx hb dX15_compiled_16 (by decide) (fun c => absurd c (by decide)) (fun _ => ?_)
  refine lv_aload_n hx hb dX15_compiled_19 rfl (lv_at hl 6 rfl) ?_
  refine g_callFq w (g_runF (As := []) (rest := []) S hE w hl (c_next_2 l D ar κ (g_up G sz (.inr (2, [.int 2, .int 1, .int 3, .ref (q + 1)]))) (sz + 1) sz 1 3 (q + 1) (q + 9) (va_up (va_up (va_up (fun _ => none) (Int32.toNatClampNeg 0) (some (q + 7))) (Int32.toNatClampNeg 1) (some (q + 10))) (Int32.toNatClampNeg 2) (some (q + 12))) g_up_s (g_up_o (by omega) m2) (g_up_o (by omega) m10)) (kF_RX15_192_2 S.2.2.2.2 (hE.2.1.2.1 _ (List.mem_of_getElem? (i := 2) rfl)) ⟨Nat.le_of_ble_eq_true rfl, Nat.le_of_ble_eq_true rfl⟩) g_up_s rfl rfl rfl rfl (Nat.le_of_ble_eq_true rfl) dX15_compiled_20 ⟨Nat.le_of_ble_eq_true rfl, Nat.le_of_ble_eq_true rfl⟩) (fun r u H locs hp hnz w => ?_)
  obtain ⟨rfl, rfl⟩ := hp
  rw [show (va_up (va_up (va_up (fun _ => none) (Int32.toNatClampNeg 0) (some (q + 7))) (Int32.toNatClampNeg 1) (some (q + 10))) (Int32.toNatClampNeg 2) (some (q + 12))) (Int32.toNatClampNeg 2) = some (q + 12) from rfl]
  show W p l e _ s m _ below meth c _ _ _ _ _ (F0 m _ ls (.ref (q + 12) :: _))
  dsimp only at w
  have w := g_eqw w g_over
  refine g_castS S hE w m_6_123 (g_up_o (by omega) m13) rfl rfl dX15_compiled_25 ?_
  refine lv_astore (lv' := [(4, .ref (q + 12)), (7, .int 16), (2, .int 0), (8, .null), (6, .int 16), (5, .ref (q + 11)), (3, .ref sz), (0, .ref y), (1, .int 0)]) hx hb dX15_compiled_28 hl (by decide) rfl (fun ls hl => ?_)
  refine lv_aload hx hb dX15_compiled_30 (lv_at hl 0 rfl) ?_
  refine gf_RX15_163_14 S hE w (g_up_o (by omega) m13) rfl dX15_compiled_32 ?_
  refine lv_astore (lv' := [(5, .ref (q + 13)), (4, .ref (q + 12)), (7, .int 16), (2, .int 0), (8, .null), (6, .int 16), (3, .ref sz), (0, .ref y), (1, .int 0)]) hx hb dX15_compiled_35 hl (by decide) rfl (fun ls hl => ?_)
  refine lv_aload hx hb dX15_compiled_37 (lv_at hl 0 rfl) ?_
  refine va_alen (v := 16) hx hb hE.1 (g_1 w.1 (g_up_o (by omega) m14)) 0 9 rfl rfl rfl dX15_compiled_39 ?_
  refine lv_istore (lv' := [(6, .int 16), (5, .ref (q + 13)), (4, .ref (q + 12)), (7, .int 16), (2, .int 0), (8, .null), (3, .ref sz), (0, .ref y), (1, .int 0)]) hx hb dX15_compiled_40 hl (by decide) rfl (fun ls hl => ?_)
  refine lv_iconst (v := 0) hx hb dX15_compiled_42 (by decide) ?_
  refine lv_istore (lv' := [(7, .int 0), (6, .int 16), (5, .ref (q + 13)), (4, .ref (q + 12)), (2, .int 0), (8, .null), (3, .ref sz), (0, .ref y), (1, .int 0)]) hx hb dX15_compiled_43 hl (by decide) rfl (fun ls hl => ?_)
  refine lv_iload hx hb dX15_compiled_45 (lv_at hl 0 rfl) ?_
  refine lv_iload hx hb dX15_compiled_47 (lv_at hl 1 rfl) ?_
  refine lv_icmp_ge (tgt := 90) hx hb dX15_compiled_49 (by decide) (fun c => absurd c (by decide)) (fun _ => ?_)
  refine lv_aload hx hb dX15_compiled_52 (lv_at hl 2 rfl) ?_
  refine lv_iload hx hb dX15_compiled_54 (lv_at hl 0 rfl) ?_
  refine va_aldq hx hb hE.1 (g_1 w.1 (g_up_o (by omega) m14)) 0 9 rfl rfl (vp_in_nI (n := 0) (by decide) (by decide)) dX15_compiled_56 ?_
  show W p l e _ s m _ below meth c _ _ _ _ _ (F0 m 57 ls (.null :: _))
  refine lv_astoreN (lv' := [(8, .null), (7, .int 0), (6, .int 16), (5, .ref (q + 13)), (4, .ref (q + 12)), (2, .int 0), (3, .ref sz), (0, .ref y), (1, .int 0)]) hx hb dX15_compiled_57 hl (by decide) rfl (fun ls hl => ?_)
  refine lv_iload_n hx hb dX15_compiled_59 rfl (lv_at hl 5 rfl) ?_
  refine lv_aloadN hx hb dX15_compiled_60 (lv_at hl 0 rfl) ?_
  refine lv_ifnullN (tgt := 81) hx hb dX15_compiled_62 (by decide) ?_
  refine lv_iconst (v := 0) hx hb dX15_compiled_81 (by decide) ?_
  refine lv_iadd hx hb dX15_compiled_82 ?_
  rw [show (0 + 0 : Int32) = 0 by decide +kernel]
  refine lv_istore_n (lv' := [(2, .int 0), (8, .null), (7, .int 0), (6, .int 16), (5, .ref (q + 13)), (4, .ref (q + 12)), (3, .ref sz), (0, .ref y), (1, .int 0)]) hx hb dX15_compiled_83 rfl hl (by decide) rfl (fun ls hl => ?_)
  refine lv_iinc (v := 1) (lv' := [(7, .int 1), (2, .int 0), (8, .null), (6, .int 16), (5, .ref (q + 13)), (4, .ref (q + 12)), (3, .ref sz), (0, .ref y), (1, .int 0)]) hx hb dX15_compiled_84 hl (k := 2) rfl (by decide) (by decide) rfl (fun ls hl => ?_)
  refine lv_goto (tgt := 45) hx hb dX15_compiled_87 (by decide) ?_
  refine lv_iload hx hb dX15_compiled_45 (lv_at hl 0 rfl) ?_
  refine lv_iload hx hb dX15_compiled_47 (lv_at hl 3 rfl) ?_
  refine lv_icmp_ge (tgt := 90) hx hb dX15_compiled_49 (by decide) (fun c => absurd c (by decide)) (fun _ => ?_)
  refine lv_aload hx hb dX15_compiled_52 (lv_at hl 4 rfl) ?_
  refine lv_iload hx hb dX15_compiled_54 (lv_at hl 0 rfl) ?_
  refine va_aldq hx hb hE.1 (g_1 w.1 (g_up_o (by omega) m14)) 0 9 rfl rfl (vp_in_nI (n := 1) (by decide) (by decide)) dX15_compiled_56 ?_
  show W p l e _ s m _ below meth c _ _ _ _ _ (F0 m 57 ls (.null :: _))
  refine lv_astoreN (lv' := [(8, .null), (7, .int 1), (2, .int 0), (6, .int 16), (5, .ref (q + 13)), (4, .ref (q + 12)), (3, .ref sz), (0, .ref y), (1, .int 0)]) hx hb dX15_compiled_57 hl (by decide) rfl (fun ls hl => ?_)
  refine lv_iload_n hx hb dX15_compiled_59 rfl (lv_at hl 2 rfl) ?_
  refine lv_aloadN hx hb dX15_compiled_60 (lv_at hl 0 rfl) ?_
  refine lv_ifnullN (tgt := 81) hx hb dX15_compiled_62 (by decide) ?_
  refine lv_iconst (v := 0) hx hb dX15_compiled_81 (by decide) ?_
  refine lv_iadd hx hb dX15_compiled_82 ?_
  rw [show (0 + 0 : Int32) = 0 by decide +kernel]
  refine lv_istore_n (lv' := [(2, .int 0), (8, .null), (7, .int 1), (6, .int 16), (5, .ref (q + 13)), (4, .ref (q + 12)), (3, .ref sz), (0, .ref y), (1, .int 0)]) hx hb dX15_compiled_83 rfl hl (by decide) rfl (fun ls hl => ?_)
  refine lv_iinc (v := 2) (lv' := [(7, .int 2), (2, .int 0), (8, .null), (6, .int 16), (5, .ref (q + 13)), (4, .ref (q + 12)), (3, .ref sz), (0, .ref y), (1, .int 0)]) hx hb dX15_compiled_84 hl (k := 2) rfl (by decide) (by decide) rfl (fun ls hl => ?_)
  refine lv_goto (tgt := 45) hx hb dX15_compiled_87 (by decide) ?_
  refine lv_iload hx hb dX15_compiled_45 (lv_at hl 0 rfl) ?_
  refine lv_iload hx hb dX15_compiled_47 (lv_at hl 3 rfl) ?_
  refine lv_icmp_ge (tgt := 90) hx hb dX15_compiled_49 (by decide) (fun c => absurd c (by decide)) (fun _ => ?_)
  refine lv_aload hx hb dX15_compiled_52 (lv_at hl 4 rfl) ?_
  refine lv_iload hx hb dX15_compiled_54 (lv_at hl 0 rfl) ?_
  refine va_aldq hx hb hE.1 (g_1 w.1 (g_up_o (by omega) m14)) 0 9 rfl rfl (vp_in_nI (n := 2) (by decide) (by decide)) dX15_compiled_56 ?_
  show W p l e _ s m _ below meth c _ _ _ _ _ (F0 m 57 ls (.null :: _))
  refine lv_astoreN (lv' := [(8, .null), (7, .int 2), (2, .int 0), (6, .int 16), (5, .ref (q + 13)), (4, .ref (q + 12)), (3, .ref sz), (0, .ref y), (1, .int 0)]) hx hb dX15_compiled_57 hl (by decide) rfl (fun ls hl => ?_)
  refine lv_iload_n hx hb dX15_compiled_59 rfl (lv_at hl 2 rfl) ?_
  refine lv_aloadN hx hb dX15_compiled_60 (lv_at hl 0 rfl) ?_
  refine lv_ifnullN (tgt := 81) hx hb dX15_compiled_62 (by decide) ?_
  refine lv_iconst (v := 0) hx hb dX15_compiled_81 (by decide) ?_
  refine lv_iadd hx hb dX15_compiled_82 ?_
  rw [show (0 + 0 : Int32) = 0 by decide +kernel]
  refine lv_istore_n (lv' := [(2, .int 0), (8, .null), (7, .int 2), (6, .int 16), (5, .ref (q + 13)), (4, .ref (q + 12)), (3, .ref sz), (0, .ref y), (1, .int 0)]) hx hb dX15_compiled_83 rfl hl (by decide) rfl (fun ls hl => ?_)
  refine lv_iinc (v := 3) (lv' := [(7, .int 3), (2, .int 0), (8, .null), (6, .int 16), (5, .ref (q + 13)), (4, .ref (q + 12)), (3, .ref sz), (0, .ref y), (1, .int 0)]) hx hb dX15_compiled_84 hl (k := 2) rfl (by decide) (by decide) rfl (fun ls hl => ?_)
  refine lv_goto (tgt := 45) hx hb dX15_compiled_87 (by decide) ?_
  refine lv_iload hx hb dX15_compiled_45 (lv_at hl 0 rfl) ?_
  refine lv_iload hx hb dX15_compiled_47 (lv_at hl 3 rfl) ?_
  refine lv_icmp_ge (tgt := 90) hx hb dX15_compiled_49 (by decide) (fun c => absurd c (by decide)) (fun _ => ?_)
  refine lv_aload hx hb dX15_compiled_52 (lv_at hl 4 rfl) ?_
  refine lv_iload hx hb dX15_compiled_54 (lv_at hl 0 rfl) ?_
  refine va_aldq hx hb hE.1 (g_1 w.1 (g_up_o (by omega) m14)) 0 9 rfl rfl (vp_in_nI (n := 3) (by decide) (by decide)) dX15_compiled_56 ?_
  show W p l e _ s m _ below meth c _ _ _ _ _ (F0 m 57 ls (.null :: _))
  refine lv_astoreN (lv' := [(8, .null), (7, .int 3), (2, .int 0), (6, .int 16), (5, .ref (q + 13)), (4, .ref (q + 12)), (3, .ref sz), (0, .ref y), (1, .int 0)]) hx hb dX15_compiled_57 hl (by decide) rfl (fun ls hl => ?_)
  refine lv_iload_n hx hb dX15_compiled_59 rfl (lv_at hl 2 rfl) ?_
  refine lv_aloadN hx hb dX15_compiled_60 (lv_at hl 0 rfl) ?_
  refine lv_ifnullN (tgt := 81) hx hb dX15_compiled_62 (by decide) ?_
  refine lv_iconst (v := 0) hx hb dX15_compiled_81 (by decide) ?_
  refine lv_iadd hx hb dX15_compiled_82 ?_
  rw [show (0 + 0 : Int32) = 0 by decide +kernel]
  refine lv_istore_n (lv' := [(2, .int 0), (8, .null), (7, .int 3), (6, .int 16), (5, .ref (q + 13)), (4, .ref (q + 12)), (3, .ref sz), (0, .ref y), (1, .int 0)]) hx hb dX15_compiled_83 rfl hl (by decide) rfl (fun ls hl => ?_)
  refine lv_iinc (v := 4) (lv' := [(7, .int 4), (2, .int 0), (8, .null), (6, .int 16), (5, .ref (q + 13)), (4, .ref (q + 12)), (3, .ref sz), (0, .ref y), (1, .int 0)]) hx hb dX15_compiled_84 hl (k := 2) rfl (by decide) (by decide) rfl (fun ls hl => ?_)
  refine lv_goto (tgt := 45) hx hb dX15_compiled_87 (by decide) ?_
  refine lv_iload hx hb dX15_compiled_45 (lv_at hl 0 rfl) ?_
  refine lv_iload hx hb dX15_compiled_47 (lv_at hl 3 rfl) ?_
  refine lv_icmp_ge (tgt := 90) hx hb dX15_compiled_49 (by decide) (fun c => absurd c (by decide)) (fun _ => ?_)
  refine lv_aload hx hb dX15_compiled_52 (lv_at hl 4 rfl) ?_
  refine lv_iload hx hb dX15_compiled_54 (lv_at hl 0 rfl) ?_
  refine va_aldq hx hb hE.1 (g_1 w.1 (g_up_o (by omega) m14)) 0 9 rfl rfl (vp_in_nI (n := 4) (by decide) (by decide)) dX15_compiled_56 ?_
  show W p l e _ s m _ below meth c _ _ _ _ _ (F0 m 57 ls (.null :: _))
  refine lv_astoreN (lv' := [(8, .null), (7, .int 4), (2, .int 0), (6, .int 16), (5, .ref (q + 13)), (4, .ref (q + 12)), (3, .ref sz), (0, .ref y), (1, .int 0)]) hx hb dX15_compiled_57 hl (by decide) rfl (fun ls hl => ?_)
  refine lv_iload_n hx hb dX15_compiled_59 rfl (lv_at hl 2 rfl) ?_
  refine lv_aloadN hx hb dX15_compiled_60 (lv_at hl 0 rfl) ?_
  refine lv_ifnullN (tgt := 81) hx hb dX15_compiled_62 (by decide) ?_
  refine lv_iconst (v := 0) hx hb dX15_compiled_81 (by decide) ?_
  refine lv_iadd hx hb dX15_compiled_82 ?_
  rw [show (0 + 0 : Int32) = 0 by decide +kernel]
  refine lv_istore_n (lv' := [(2, .int 0), (8, .null), (7, .int 4), (6, .int 16), (5, .ref (q + 13)), (4, .ref (q + 12)), (3, .ref sz), (0, .ref y), (1, .int 0)]) hx hb dX15_compiled_83 rfl hl (by decide) rfl (fun ls hl => ?_)
  refine lv_iinc (v := 5) (lv' := [(7, .int 5), (2, .int 0), (8, .null), (6, .int 16), (5, .ref (q + 13)), (4, .ref (q + 12)), (3, .ref sz), (0, .ref y), (1, .int 0)]) hx hb dX15_compiled_84 hl (k := 2) rfl (by decide) (by decide) rfl (fun ls hl => ?_)
  refine lv_goto (tgt := 45) hx hb dX15_compiled_87 (by decide) ?_
  refine lv_iload hx hb dX15_compiled_45 (lv_at hl 0 rfl) ?_
  refine lv_iload hx hb dX15_compiled_47 (lv_at hl 3 rfl) ?_
  refine lv_icmp_ge (tgt := 90) hx hb dX15_compiled_49 (by decide) (fun c => absurd c (by decide)) (fun _ => ?_)
  refine lv_aload hx hb dX15_compiled_52 (lv_at hl 4 rfl) ?_
  refine lv_iload hx hb dX15_compiled_54 (lv_at hl 0 rfl) ?_
  refine va_aldq hx hb hE.1 (g_1 w.1 (g_up_o (by omega) m14)) 0 9 rfl rfl (vp_in_nI (n := 5) (by decide) (by decide)) dX15_compiled_56 ?_
  show W p l e _ s m _ below meth c _ _ _ _ _ (F0 m 57 ls (.null :: _))
  refine lv_astoreN (lv' := [(8, .null), (7, .int 5), (2, .int 0), (6, .int 16), (5, .ref (q + 13)), (4, .ref (q + 12)), (3, .ref sz), (0, .ref y), (1, .int 0)]) hx hb dX15_compiled_57 hl (by decide) rfl (fun ls hl => ?_)
  refine lv_iload_n hx hb dX15_compiled_59 rfl (lv_at hl 2 rfl) ?_
  refine lv_aloadN hx hb dX15_compiled_60 (lv_at hl 0 rfl) ?_
  refine lv_ifnullN (tgt := 81) hx hb dX15_compiled_62 (by decide) ?_
  refine lv_iconst (v := 0) hx hb dX15_compiled_81 (by decide) ?_
  refine lv_iadd hx hb dX15_compiled_82 ?_
  rw [show (0 + 0 : Int32) = 0 by decide +kernel]
  refine lv_istore_n (lv' := [(2, .int 0), (8, .null), (7, .int 5), (6, .int 16), (5, .ref (q + 13)), (4, .ref (q + 12)), (3, .ref sz), (0, .ref y), (1, .int 0)]) hx hb dX15_compiled_83 rfl hl (by decide) rfl (fun ls hl => ?_)
  refine lv_iinc (v := 6) (lv' := [(7, .int 6), (2, .int 0), (8, .null), (6, .int 16), (5, .ref (q + 13)), (4, .ref (q + 12)), (3, .ref sz), (0, .ref y), (1, .int 0)]) hx hb dX15_compiled_84 hl (k := 2) rfl (by decide) (by decide) rfl (fun ls hl => ?_)
  refine lv_goto (tgt := 45) hx hb dX15_compiled_87 (by decide) ?_
  refine lv_iload hx hb dX15_compiled_45 (lv_at hl 0 rfl) ?_
  refine lv_iload hx hb dX15_compiled_47 (lv_at hl 3 rfl) ?_
  refine lv_icmp_ge (tgt := 90) hx hb dX15_compiled_49 (by decide) (fun c => absurd c (by decide)) (fun _ => ?_)
  refine lv_aload hx hb dX15_compiled_52 (lv_at hl 4 rfl) ?_
  refine lv_iload hx hb dX15_compiled_54 (lv_at hl 0 rfl) ?_
  refine va_aldq hx hb hE.1 (g_1 w.1 (g_up_o (by omega) m14)) 0 9 rfl rfl (vp_in_nI (n := 6) (by decide) (by decide)) dX15_compiled_56 ?_
  show W p l e _ s m _ below meth c _ _ _ _ _ (F0 m 57 ls (.null :: _))
  refine lv_astoreN (lv' := [(8, .null), (7, .int 6), (2, .int 0), (6, .int 16), (5, .ref (q + 13)), (4, .ref (q + 12)), (3, .ref sz), (0, .ref y), (1, .int 0)]) hx hb dX15_compiled_57 hl (by decide) rfl (fun ls hl => ?_)
  refine lv_iload_n hx hb dX15_compiled_59 rfl (lv_at hl 2 rfl) ?_
  refine lv_aloadN hx hb dX15_compiled_60 (lv_at hl 0 rfl) ?_
  refine lv_ifnullN (tgt := 81) hx hb dX15_compiled_62 (by decide) ?_
  refine lv_iconst (v := 0) hx hb dX15_compiled_81 (by decide) ?_
  refine lv_iadd hx hb dX15_compiled_82 ?_
  rw [show (0 + 0 : Int32) = 0 by decide +kernel]
  refine lv_istore_n (lv' := [(2, .int 0), (8, .null), (7, .int 6), (6, .int 16), (5, .ref (q + 13)), (4, .ref (q + 12)), (3, .ref sz), (0, .ref y), (1, .int 0)]) hx hb dX15_compiled_83 rfl hl (by decide) rfl (fun ls hl => ?_)
  refine lv_iinc (v := 7) (lv' := [(7, .int 7), (2, .int 0), (8, .null), (6, .int 16), (5, .ref (q + 13)), (4, .ref (q + 12)), (3, .ref sz), (0, .ref y), (1, .int 0)]) hx hb dX15_compiled_84 hl (k := 2) rfl (by decide) (by decide) rfl (fun ls hl => ?_)
  refine lv_goto (tgt := 45) hx hb dX15_compiled_87 (by decide) ?_
  refine lv_iload hx hb dX15_compiled_45 (lv_at hl 0 rfl) ?_
  refine lv_iload hx hb dX15_compiled_47 (lv_at hl 3 rfl) ?_
  refine lv_icmp_ge (tgt := 90) hx hb dX15_compiled_49 (by decide) (fun c => absurd c (by decide)) (fun _ => ?_)
  refine lv_aload hx hb dX15_compiled_52 (lv_at hl 4 rfl) ?_
  refine lv_iload hx hb dX15_compiled_54 (lv_at hl 0 rfl) ?_
  refine va_aldq hx hb hE.1 (g_1 w.1 (g_up_o (by omega) m14)) 0 9 rfl rfl (vp_in_nI (n := 7) (by decide) (by decide)) dX15_compiled_56 ?_
  show W p l e _ s m _ below meth c _ _ _ _ _ (F0 m 57 ls (.null :: _))
  refine lv_astoreN (lv' := [(8, .null), (7, .int 7), (2, .int 0), (6, .int 16), (5, .ref (q + 13)), (4, .ref (q + 12)), (3, .ref sz), (0, .ref y), (1, .int 0)]) hx hb dX15_compiled_57 hl (by decide) rfl (fun ls hl => ?_)
  refine lv_iload_n hx hb dX15_compiled_59 rfl (lv_at hl 2 rfl) ?_
  refine lv_aloadN hx hb dX15_compiled_60 (lv_at hl 0 rfl) ?_
  refine lv_ifnullN (tgt := 81) hx hb dX15_compiled_62 (by decide) ?_
  refine lv_iconst (v := 0) hx hb dX15_compiled_81 (by decide) ?_
  refine lv_iadd hx hb dX15_compiled_82 ?_
  rw [show (0 + 0 : Int32) = 0 by decide +kernel]
  refine lv_istore_n (lv' := [(2, .int 0), (8, .null), (7, .int 7), (6, .int 16), (5, .ref (q + 13)), (4, .ref (q + 12)), (3, .ref sz), (0, .ref y), (1, .int 0)]) hx hb dX15_compiled_83 rfl hl (by decide) rfl (fun ls hl => ?_)
  refine lv_iinc (v := 8) (lv' := [(7, .int 8), (2, .int 0), (8, .null), (6, .int 16), (5, .ref (q + 13)), (4, .ref (q + 12)), (3, .ref sz), (0, .ref y), (1, .int 0)]) hx hb dX15_compiled_84 hl (k := 2) rfl (by decide) (by decide) rfl (fun ls hl => ?_)
  refine lv_goto (tgt := 45) hx hb dX15_compiled_87 (by decide) ?_
  refine lv_iload hx hb dX15_compiled_45 (lv_at hl 0 rfl) ?_
  refine lv_iload hx hb dX15_compiled_47 (lv_at hl 3 rfl) ?_
  refine lv_icmp_ge (tgt := 90) hx hb dX15_compiled_49 (by decide) (fun c => absurd c (by decide)) (fun _ => ?_)
  refine lv_aload hx hb dX15_compiled_52 (lv_at hl 4 rfl) ?_
  refine lv_iload hx hb dX15_compiled_54 (lv_at hl 0 rfl) ?_
  refine va_aldq hx hb hE.1 (g_1 w.1 (g_up_o (by omega) m14)) 0 9 rfl rfl (vp_in_nI (n := 8) (by decide) (by decide)) dX15_compiled_56 ?_
  show W p l e _ s m _ below meth c _ _ _ _ _ (F0 m 57 ls (.null :: _))
  refine lv_astoreN (lv' := [(8, .null), (7, .int 8), (2, .int 0), (6, .int 16), (5, .ref (q + 13)), (4, .ref (q + 12)), (3, .ref sz), (0, .ref y), (1, .int 0)]) hx hb dX15_compiled_57 hl (by decide) rfl (fun ls hl => ?_)
  refine lv_iload_n hx hb dX15_compiled_59 rfl (lv_at hl 2 rfl) ?_
  refine lv_aloadN hx hb dX15_compiled_60 (lv_at hl 0 rfl) ?_
  refine lv_ifnullN (tgt := 81) hx hb dX15_compiled_62 (by decide) ?_
  refine lv_iconst (v := 0) hx hb dX15_compiled_81 (by decide) ?_
  refine lv_iadd hx hb dX15_compiled_82 ?_
  rw [show (0 + 0 : Int32) = 0 by decide +kernel]
  refine lv_istore_n (lv' := [(2, .int 0), (8, .null), (7, .int 8), (6, .int 16), (5, .ref (q + 13)), (4, .ref (q + 12)), (3, .ref sz), (0, .ref y), (1, .int 0)]) hx hb dX15_compiled_83 rfl hl (by decide) rfl (fun ls hl => ?_)
  refine lv_iinc (v := 9) (lv' := [(7, .int 9), (2, .int 0), (8, .null), (6, .int 16), (5, .ref (q + 13)), (4, .ref (q + 12)), (3, .ref sz), (0, .ref y), (1, .int 0)]) hx hb dX15_compiled_84 hl (k := 2) rfl (by decide) (by decide) rfl (fun ls hl => ?_)
  refine lv_goto (tgt := 45) hx hb dX15_compiled_87 (by decide) ?_
  refine lv_iload hx hb dX15_compiled_45 (lv_at hl 0 rfl) ?_
  refine lv_iload hx hb dX15_compiled_47 (lv_at hl 3 rfl) ?_
  refine lv_icmp_ge (tgt := 90) hx hb dX15_compiled_49 (by decide) (fun c => absurd c (by decide)) (fun _ => ?_)
  refine lv_aload hx hb dX15_compiled_52 (lv_at hl 4 rfl) ?_
  refine lv_iload hx hb dX15_compiled_54 (lv_at hl 0 rfl) ?_
  refine va_aldq hx hb hE.1 (g_1 w.1 (g_up_o (by omega) m14)) 0 9 rfl rfl (vp_in_nI (n := 9) (by decide) (by decide)) dX15_compiled_56 ?_
  show W p l e _ s m _ below meth c _ _ _ _ _ (F0 m 57 ls (.null :: _))
  refine lv_astoreN (lv' := [(8, .null), (7, .int 9), (2, .int 0), (6, .int 16), (5, .ref (q + 13)), (4, .ref (q + 12)), (3, .ref sz), (0, .ref y), (1, .int 0)]) hx hb dX15_compiled_57 hl (by decide) rfl (fun ls hl => ?_)
  refine lv_iload_n hx hb dX15_compiled_59 rfl (lv_at hl 2 rfl) ?_
  refine lv_aloadN hx hb dX15_compiled_60 (lv_at hl 0 rfl) ?_
  refine lv_ifnullN (tgt := 81) hx hb dX15_compiled_62 (by decide) ?_
  refine lv_iconst (v := 0) hx hb dX15_compiled_81 (by decide) ?_
  refine lv_iadd hx hb dX15_compiled_82 ?_
  rw [show (0 + 0 : Int32) = 0 by decide +kernel]
  refine lv_istore_n (lv' := [(2, .int 0), (8, .null), (7, .int 9), (6, .int 16), (5, .ref (q + 13)), (4, .ref (q + 12)), (3, .ref sz), (0, .ref y), (1, .int 0)]) hx hb dX15_compiled_83 rfl hl (by decide) rfl (fun ls hl => ?_)
  refine lv_iinc (v := 10) (lv' := [(7, .int 10), (2, .int 0), (8, .null), (6, .int 16), (5, .ref (q + 13)), (4, .ref (q + 12)), (3, .ref sz), (0, .ref y), (1, .int 0)]) hx hb dX15_compiled_84 hl (k := 2) rfl (by decide) (by decide) rfl (fun ls hl => ?_)
  refine lv_goto (tgt := 45) hx hb dX15_compiled_87 (by decide) ?_
  refine lv_iload hx hb dX15_compiled_45 (lv_at hl 0 rfl) ?_
  refine lv_iload hx hb dX15_compiled_47 (lv_at hl 3 rfl) ?_
  refine lv_icmp_ge (tgt := 90) hx hb dX15_compiled_49 (by decide) (fun c => absurd c (by decide)) (fun _ => ?_)
  refine lv_aload hx hb dX15_compiled_52 (lv_at hl 4 rfl) ?_
  refine lv_iload hx hb dX15_compiled_54 (lv_at hl 0 rfl) ?_
  refine va_aldq hx hb hE.1 (g_1 w.1 (g_up_o (by omega) m14)) 0 9 rfl rfl (vp_in_nI (n := 10) (by decide) (by decide)) dX15_compiled_56 ?_
  show W p l e _ s m _ below meth c _ _ _ _ _ (F0 m 57 ls (.null :: _))
  refine lv_astoreN (lv' := [(8, .null), (7, .int 10), (2, .int 0), (6, .int 16), (5, .ref (q + 13)), (4, .ref (q + 12)), (3, .ref sz), (0, .ref y), (1, .int 0)]) hx hb dX15_compiled_57 hl (by decide) rfl (fun ls hl => ?_)
  refine lv_iload_n hx hb dX15_compiled_59 rfl (lv_at hl 2 rfl) ?_
  refine lv_aloadN hx hb dX15_compiled_60 (lv_at hl 0 rfl) ?_
  refine lv_ifnullN (tgt := 81) hx hb dX15_compiled_62 (by decide) ?_
  refine lv_iconst (v := 0) hx hb dX15_compiled_81 (by decide) ?_
  refine lv_iadd hx hb dX15_compiled_82 ?_
  rw [show (0 + 0 : Int32) = 0 by decide +kernel]
  refine lv_istore_n (lv' := [(2, .int 0), (8, .null), (7, .int 10), (6, .int 16), (5, .ref (q + 13)), (4, .ref (q + 12)), (3, .ref sz), (0, .ref y), (1, .int 0)]) hx hb dX15_compiled_83 rfl hl (by decide) rfl (fun ls hl => ?_)
  refine lv_iinc (v := 11) (lv' := [(7, .int 11), (2, .int 0), (8, .null), (6, .int 16), (5, .ref (q + 13)), (4, .ref (q + 12)), (3, .ref sz), (0, .ref y), (1, .int 0)]) hx hb dX15_compiled_84 hl (k := 2) rfl (by decide) (by decide) rfl (fun ls hl => ?_)
  refine lv_goto (tgt := 45) hx hb dX15_compiled_87 (by decide) ?_
  refine lv_iload hx hb dX15_compiled_45 (lv_at hl 0 rfl) ?_
  refine lv_iload hx hb dX15_compiled_47 (lv_at hl 3 rfl) ?_
  refine lv_icmp_ge (tgt := 90) hx hb dX15_compiled_49 (by decide) (fun c => absurd c (by decide)) (fun _ => ?_)
  refine lv_aload hx hb dX15_compiled_52 (lv_at hl 4 rfl) ?_
  refine lv_iload hx hb dX15_compiled_54 (lv_at hl 0 rfl) ?_
  refine va_aldq hx hb hE.1 (g_1 w.1 (g_up_o (by omega) m14)) 0 9 rfl rfl (vp_in_nI (n := 11) (by decide) (by decide)) dX15_compiled_56 ?_
  show W p l e _ s m _ below meth c _ _ _ _ _ (F0 m 57 ls (.null :: _))
  refine lv_astoreN (lv' := [(8, .null), (7, .int 11), (2, .int 0), (6, .int 16), (5, .ref (q + 13)), (4, .ref (q + 12)), (3, .ref sz), (0, .ref y), (1, .int 0)]) hx hb dX15_compiled_57 hl (by decide) rfl (fun ls hl => ?_)
  refine lv_iload_n hx hb dX15_compiled_59 rfl (lv_at hl 2 rfl) ?_
  refine lv_aloadN hx hb dX15_compiled_60 (lv_at hl 0 rfl) ?_
  refine lv_ifnullN (tgt := 81) hx hb dX15_compiled_62 (by decide) ?_
  refine lv_iconst (v := 0) hx hb dX15_compiled_81 (by decide) ?_
  refine lv_iadd hx hb dX15_compiled_82 ?_
  rw [show (0 + 0 : Int32) = 0 by decide +kernel]
  refine lv_istore_n (lv' := [(2, .int 0), (8, .null), (7, .int 11), (6, .int 16), (5, .ref (q + 13)), (4, .ref (q + 12)), (3, .ref sz), (0, .ref y), (1, .int 0)]) hx hb dX15_compiled_83 rfl hl (by decide) rfl (fun ls hl => ?_)
  refine lv_iinc (v := 12) (lv' := [(7, .int 12), (2, .int 0), (8, .null), (6, .int 16), (5, .ref (q + 13)), (4, .ref (q + 12)), (3, .ref sz), (0, .ref y), (1, .int 0)]) hx hb dX15_compiled_84 hl (k := 2) rfl (by decide) (by decide) rfl (fun ls hl => ?_)
  refine lv_goto (tgt := 45) hx hb dX15_compiled_87 (by decide) ?_
  refine lv_iload hx hb dX15_compiled_45 (lv_at hl 0 rfl) ?_
  refine lv_iload hx hb dX15_compiled_47 (lv_at hl 3 rfl) ?_
  refine lv_icmp_ge (tgt := 90) hx hb dX15_compiled_49 (by decide) (fun c => absurd c (by decide)) (fun _ => ?_)
  refine lv_aload hx hb dX15_compiled_52 (lv_at hl 4 rfl) ?_
  refine lv_iload hx hb dX15_compiled_54 (lv_at hl 0 rfl) ?_
  refine va_aldq hx hb hE.1 (g_1 w.1 (g_up_o (by omega) m14)) 0 9 rfl rfl (vp_in_nI (n := 12) (by decide) (by decide)) dX15_compiled_56 ?_
  show W p l e _ s m _ below meth c _ _ _ _ _ (F0 m 57 ls (.null :: _))
  refine lv_astoreN (lv' := [(8, .null), (7, .int 12), (2, .int 0), (6, .int 16), (5, .ref (q + 13)), (4, .ref (q + 12)), (3, .ref sz), (0, .ref y), (1, .int 0)]) hx hb dX15_compiled_57 hl (by decide) rfl (fun ls hl => ?_)
  refine lv_iload_n hx hb dX15_compiled_59 rfl (lv_at hl 2 rfl) ?_
  refine lv_aloadN hx hb dX15_compiled_60 (lv_at hl 0 rfl) ?_
  refine lv_ifnullN (tgt := 81) hx hb dX15_compiled_62 (by decide) ?_
  refine lv_iconst (v := 0) hx hb dX15_compiled_81 (by decide) ?_
  refine lv_iadd hx hb dX15_compiled_82 ?_
  rw [show (0 + 0 : Int32) = 0 by decide +kernel]
  refine lv_istore_n (lv' := [(2, .int 0), (8, .null), (7, .int 12), (6, .int 16), (5, .ref (q + 13)), (4, .ref (q + 12)), (3, .ref sz), (0, .ref y), (1, .int 0)]) hx hb dX15_compiled_83 rfl hl (by decide) rfl (fun ls hl => ?_)
  refine lv_iinc (v := 13) (lv' := [(7, .int 13), (2, .int 0), (8, .null), (6, .int 16), (5, .ref (q + 13)), (4, .ref (q + 12)), (3, .ref sz), (0, .ref y), (1, .int 0)]) hx hb dX15_compiled_84 hl (k := 2) rfl (by decide) (by decide) rfl (fun ls hl => ?_)
  refine lv_goto (tgt := 45) hx hb dX15_compiled_87 (by decide) ?_
  refine lv_iload hx hb dX15_compiled_45 (lv_at hl 0 rfl) ?_
  refine lv_iload hx hb dX15_compiled_47 (lv_at hl 3 rfl) ?_
  refine lv_icmp_ge (tgt := 90) hx hb dX15_compiled_49 (by decide) (fun c => absurd c (by decide)) (fun _ => ?_)
  refine lv_aload hx hb dX15_compiled_52 (lv_at hl 4 rfl) ?_
  refine lv_iload hx hb dX15_compiled_54 (lv_at hl 0 rfl) ?_
  refine va_aldq hx hb hE.1 (g_1 w.1 (g_up_o (by omega) m14)) 0 9 rfl rfl (vp_in_nI (n := 13) (by decide) (by decide)) dX15_compiled_56 ?_
  show W p l e _ s m _ below meth c _ _ _ _ _ (F0 m 57 ls (.null :: _))
  refine lv_astoreN (lv' := [(8, .null), (7, .int 13), (2, .int 0), (6, .int 16), (5, .ref (q + 13)), (4, .ref (q + 12)), (3, .ref sz), (0, .ref y), (1, .int 0)]) hx hb dX15_compiled_57 hl (by decide) rfl (fun ls hl => ?_)
  refine lv_iload_n hx hb dX15_compiled_59 rfl (lv_at hl 2 rfl) ?_
  refine lv_aloadN hx hb dX15_compiled_60 (lv_at hl 0 rfl) ?_
  refine lv_ifnullN (tgt := 81) hx hb dX15_compiled_62 (by decide) ?_
  refine lv_iconst (v := 0) hx hb dX15_compiled_81 (by decide) ?_
  refine lv_iadd hx hb dX15_compiled_82 ?_
  rw [show (0 + 0 : Int32) = 0 by decide +kernel]
  refine lv_istore_n (lv' := [(2, .int 0), (8, .null), (7, .int 13), (6, .int 16), (5, .ref (q + 13)), (4, .ref (q + 12)), (3, .ref sz), (0, .ref y), (1, .int 0)]) hx hb dX15_compiled_83 rfl hl (by decide) rfl (fun ls hl => ?_)
  refine lv_iinc (v := 14) (lv' := [(7, .int 14), (2, .int 0), (8, .null), (6, .int 16), (5, .ref (q + 13)), (4, .ref (q + 12)), (3, .ref sz), (0, .ref y), (1, .int 0)]) hx hb dX15_compiled_84 hl (k := 2) rfl (by decide) (by decide) rfl (fun ls hl => ?_)
  refine lv_goto (tgt := 45) hx hb dX15_compiled_87 (by decide) ?_
  refine lv_iload hx hb dX15_compiled_45 (lv_at hl 0 rfl) ?_
  refine lv_iload hx hb dX15_compiled_47 (lv_at hl 3 rfl) ?_
  refine lv_icmp_ge (tgt := 90) hx hb dX15_compiled_49 (by decide) (fun c => absurd c (by decide)) (fun _ => ?_)
  refine lv_aload hx hb dX15_compiled_52 (lv_at hl 4 rfl) ?_
  refine lv_iload hx hb dX15_compiled_54 (lv_at hl 0 rfl) ?_
  refine va_aldq hx hb hE.1 (g_1 w.1 (g_up_o (by omega) m14)) 0 9 rfl rfl (vp_in_nI (n := 14) (by decide) (by decide)) dX15_compiled_56 ?_
  show W p l e _ s m _ below meth c _ _ _ _ _ (F0 m 57 ls (.null :: _))
  refine lv_astoreN (lv' := [(8, .null), (7, .int 14), (2, .int 0), (6, .int 16), (5, .ref (q + 13)), (4, .ref (q + 12)), (3, .ref sz), (0, .ref y), (1, .int 0)]) hx hb dX15_compiled_57 hl (by decide) rfl (fun ls hl => ?_)
  refine lv_iload_n hx hb dX15_compiled_59 rfl (lv_at hl 2 rfl) ?_
  refine lv_aloadN hx hb dX15_compiled_60 (lv_at hl 0 rfl) ?_
  refine lv_ifnullN (tgt := 81) hx hb dX15_compiled_62 (by decide) ?_
  refine lv_iconst (v := 0) hx hb dX15_compiled_81 (by decide) ?_
  refine lv_iadd hx hb dX15_compiled_82 ?_
  rw [show (0 + 0 : Int32) = 0 by decide +kernel]
  refine lv_istore_n (lv' := [(2, .int 0), (8, .null), (7, .int 14), (6, .int 16), (5, .ref (q + 13)), (4, .ref (q + 12)), (3, .ref sz), (0, .ref y), (1, .int 0)]) hx hb dX15_compiled_83 rfl hl (by decide) rfl (fun ls hl => ?_)
  refine lv_iinc (v := 15) (lv' := [(7, .int 15), (2, .int 0), (8, .null), (6, .int 16), (5, .ref (q + 13)), (4, .ref (q + 12)), (3, .ref sz), (0, .ref y), (1, .int 0)]) hx hb dX15_compiled_84 hl (k := 2) rfl (by decide) (by decide) rfl (fun ls hl => ?_)
  refine lv_goto (tgt := 45) hx hb dX15_compiled_87 (by decide) ?_
  refine lv_iload hx hb dX15_compiled_45 (lv_at hl 0 rfl) ?_
  refine lv_iload hx hb dX15_compiled_47 (lv_at hl 3 rfl) ?_
  refine lv_icmp_ge (tgt := 90) hx hb dX15_compiled_49 (by decide) (fun c => absurd c (by decide)) (fun _ => ?_)
  refine lv_aload hx hb dX15_compiled_52 (lv_at hl 4 rfl) ?_
  refine lv_iload hx hb dX15_compiled_54 (lv_at hl 0 rfl) ?_
  refine va_aldq hx hb hE.1 (g_1 w.1 (g_up_o (by omega) m14)) 0 9 rfl rfl (vp_in_nI (n := 15) (by decide) (by decide)) dX15_compiled_56 ?_
  show W p l e _ s m _ below meth c _ _ _ _ _ (F0 m 57 ls (.null :: _))
  refine lv_astoreN (lv' := [(8, .null), (7, .int 15), (2, .int 0), (6, .int 16), (5, .ref (q + 13)), (4, .ref (q + 12)), (3, .ref sz), (0, .ref y), (1, .int 0)]) hx hb dX15_compiled_57 hl (by decide) rfl (fun ls hl => ?_)
  refine lv_iload_n hx hb dX15_compiled_59 rfl (lv_at hl 2 rfl) ?_
  refine lv_aloadN hx hb dX15_compiled_60 (lv_at hl 0 rfl) ?_
  refine lv_ifnullN (tgt := 81) hx hb dX15_compiled_62 (by decide) ?_
  refine lv_iconst (v := 0) hx hb dX15_compiled_81 (by decide) ?_
  refine lv_iadd hx hb dX15_compiled_82 ?_
  rw [show (0 + 0 : Int32) = 0 by decide +kernel]
  refine lv_istore_n (lv' := [(2, .int 0), (8, .null), (7, .int 15), (6, .int 16), (5, .ref (q + 13)), (4, .ref (q + 12)), (3, .ref sz), (0, .ref y), (1, .int 0)]) hx hb dX15_compiled_83 rfl hl (by decide) rfl (fun ls hl => ?_)
  refine lv_iinc (v := 16) (lv' := [(7, .int 16), (2, .int 0), (8, .null), (6, .int 16), (5, .ref (q + 13)), (4, .ref (q + 12)), (3, .ref sz), (0, .ref y), (1, .int 0)]) hx hb dX15_compiled_84 hl (k := 2) rfl (by decide) (by decide) rfl (fun ls hl => ?_)
  refine lv_goto (tgt := 45) hx hb dX15_compiled_87 (by decide) ?_
  refine lv_iload hx hb dX15_compiled_45 (lv_at hl 0 rfl) ?_
  refine lv_iload hx hb dX15_compiled_47 (lv_at hl 3 rfl) ?_
  refine lv_icmp_ge (tgt := 90) hx hb dX15_compiled_49 (by decide) (fun _ => ?_) (fun c => absurd (by decide) c)
  refine lv_goto (tgt := 10) hx hb dX15_compiled_90 (by decide) ?_
  refine lv_aload_n hx hb dX15_compiled_10 rfl (lv_at hl 6 rfl) ?_
  refine g_callFi w (g_runF (As := []) (rest := []) S hE w hl (c_hasNext l D ar κ (g_up G sz (.inr (2, [.int 3, .int 2, .int 3, .ref (q + 1)]))) (sz + 1) sz 3 2 (q + 1) 3 (some (q + 9)) 3 g_up_s (g_up_o (by omega) m2)) (kF_RX15_187_2 S.2.2.2.2 (hE.2.1.2.1 _ (List.mem_of_getElem? (i := 1) rfl)) ⟨Nat.le_of_ble_eq_true rfl, Nat.le_of_ble_eq_true rfl⟩) g_up_s rfl rfl rfl rfl (Nat.le_of_ble_eq_true rfl) dX15_compiled_11 ⟨Nat.le_of_ble_eq_true rfl, Nat.le_of_ble_eq_true rfl⟩) (fun r u H locs hp hnz w => ?_)
  obtain ⟨rfl, rfl⟩ := hp
  rw [show (if (3 : Int32) = 3 then (0 : Int32) else 1) = 0 from by decide]
  dsimp only at w
  refine lv_if_eq (tgt := 93) hx hb dX15_compiled_16 (by decide) (fun _ => ?_) (fun c => absurd (by decide) c)
  refine lv_iload_n hx hb dX15_compiled_93 rfl (lv_at hl 1 rfl) ?_
  exact g_iret hx hb hr hlk w (Nat.le_of_ble_eq_true rfl) (Nat.le_of_ble_eq_true rfl) dX15_compiled_94 ⟨rfl, rfl⟩
set_option maxHeartbeats 4000000 in
set_option maxRecDepth 100000 in
theorem c_compiled_1 (l : Launch) (D : va_G) (ar : Nat → ClassId) (κ : Nat → Nat) (G : gW) (sz : Nat) (y : Nat) (q : Nat) (t : Int32) (m0 : G y = some (.inr (19, [.ref q, .ref (q + 1), .ref (q + 2), .ref (q + 3), .ref (q + 4), .ref (q + 5), .ref (q + 6), .int t, .int 0, .int 0, .int 0, .int 45, .int 0, .null]))) (m1 : G q = some (.inr (18, [.int 117, .int 0]))) (m2 : G (q + 1) = some (.inr (3, [.int 3, .ref (q + 9), .int 3]))) (m3 : G (q + 2) = some (.inr (3, [.int 0, .ref (κ 0), .int 0]))) (m4 : G (q + 3) = some (.inr (3, [.int 0, .ref (κ 0), .int 0]))) (m5 : G (q + 4) = some (.inr (3, [.int 0, .ref (κ 0), .int 0]))) (m6 : G (q + 5) = some (.inr (3, [.int 0, .ref (κ 0), .int 0]))) (m7 : G (q + 6) = some (.inl (ar 10, 8, .inr (.inr (.inr (.inr (va_up (va_up (va_up (va_up (va_up (va_up (va_up (va_up (fun _ => none) (Int32.toNatClampNeg 0) (some q)) (Int32.toNatClampNeg 1) (some q)) (Int32.toNatClampNeg 2) (some q)) (Int32.toNatClampNeg 3) (some q)) (Int32.toNatClampNeg 4) (some q)) (Int32.toNatClampNeg 5) (some q)) (Int32.toNatClampNeg 6) (some q)) (Int32.toNatClampNeg 7) (some q)))))))) (m8 : G (q + 7) = some (.inr (14, [.int (-1), .int 0, .ref (q + 8)]))) (m9 : G (q + 8) = some (.inl (ar 9, 16, .inr (.inr (.inr (.inr (fun _ => none))))))) (m10 : G (q + 9) = some (.inl (ar 11, 10, .inr (.inr (.inr (.inr (va_up (va_up (va_up (fun _ => none) (Int32.toNatClampNeg 0) (some (q + 7))) (Int32.toNatClampNeg 1) (some (q + 10))) (Int32.toNatClampNeg 2) (some (q + 12))))))))) (m11 : G (q + 10) = some (.inr (14, [.int 0, .int 0, .ref (q + 11)]))) (m12 : G (q + 11) = some (.inl (ar 9, 16, .inr (.inr (.inr (.inr (fun _ => none))))))) (m13 : G (q + 12) = some (.inr (14, [.int 0, .int 0, .ref (q + 13)]))) (m14 : G (q + 13) = some (.inl (ar 9, 16, .inr (.inr (.inr (.inr (fun _ => none))))))) : Met l yX15_compiled (lwC yX15_compiled cX15_compiled 9 (some .int)) (rD 6 1 4) (g_Pc D vwCl (gT ar) (EX1 κ) G sz [.ref y, .int 1]) (g_Qi D vwCl (g_A G sz) (fun r u => r = 0 ∧ u = ((g_up G sz (.inr (2, [.int 3, .int 2, .int 3, .ref (q + 1)]))), sz + 1))) 1 4 (g_A G sz) := by
  refine g_ofW (by decide +kernel) (Nat.le_of_ble_eq_true rfl) ?_
  intro p e s m below meth c ls S hr hlk hin hE w hl
  have hx := S.1
  have hb := S.2.1
  have hl : lv_has ls 9 [(0, .ref y), (1, .int 1)] := hl
  have lt_m0 : y < sz := g_ltn w m0
  have lt_m1 : q < sz := g_ltn w m1
  have lt_m2 : q + 1 < sz := g_ltn w m2
  have lt_m3 : q + 2 < sz := g_ltn w m3
  have lt_m4 : q + 3 < sz := g_ltn w m4
  have lt_m5 : q + 4 < sz := g_ltn w m5
  have lt_m6 : q + 5 < sz := g_ltn w m6
  have lt_m7 : q + 6 < sz := g_ltn w m7
  have lt_m8 : q + 7 < sz := g_ltn w m8
  have lt_m9 : q + 8 < sz := g_ltn w m9
  have lt_m10 : q + 9 < sz := g_ltn w m10
  have lt_m11 : q + 10 < sz := g_ltn w m11
  have lt_m12 : q + 11 < sz := g_ltn w m12
  have lt_m13 : q + 12 < sz := g_ltn w m13
  have lt_m14 : q + 13 < sz := g_ltn w m14
  refine lv_iconst (v := 0) hx hb dX15_compiled_0 (by decide) ?_
  refine lv_istore_n (lv' := [(2, .int 0), (0, .ref y), (1, .int 1)]) hx hb dX15_compiled_1 rfl hl (by decide) rfl (fun ls hl => ?_)
  refine lv_aload_n hx hb dX15_compiled_2 rfl (lv_at hl 1 rfl) ?_
  refine gf_RX15_21_19 S hE w m0 rfl dX15_compiled_3 ?_
  refine g_callq w (g_runV (As := []) (rest := []) S hE w hl (c_iterator l D ar κ G sz (q + 1) 3 (some (q + 9)) 3 m2) (k_RX15_183 S.2.2.2.2 ⟨Nat.le_of_ble_eq_true rfl, Nat.le_of_ble_eq_true rfl⟩) m2 rfl rfl rfl rfl (Nat.le_of_ble_eq_true rfl) dX15_compiled_6 ⟨Nat.le_of_ble_eq_true rfl, Nat.le_of_ble_eq_true rfl⟩) (fun r u H locs hp hnz w => ?_)
  obtain ⟨rfl, rfl⟩ := hp
  dsimp only at w
  refine lv_astore_n (lv' := [(3, .ref sz), (2, .int 0), (0, .ref y), (1, .int 1)]) hx hb dX15_compiled_9 rfl hl (by decide) rfl (fun ls hl => ?_)
  refine lv_aload_n hx hb dX15_compiled_10 rfl (lv_at hl 0 rfl) ?_
  refine g_callFi w (g_runF (As := []) (rest := []) S hE w hl (c_hasNext l D ar κ (g_up G sz (.inr (2, [.int 0, .int (-1), .int 3, .ref (q + 1)]))) (sz + 1) sz 0 (-1) (q + 1) 3 (some (q + 9)) 3 g_up_s (g_up_o (by omega) m2)) (kF_RX15_187_2 S.2.2.2.2 (hE.2.1.2.1 _ (List.mem_of_getElem? (i := 1) rfl)) ⟨Nat.le_of_ble_eq_true rfl, Nat.le_of_ble_eq_true rfl⟩) g_up_s rfl rfl rfl rfl (Nat.le_of_ble_eq_true rfl) dX15_compiled_11 ⟨Nat.le_of_ble_eq_true rfl, Nat.le_of_ble_eq_true rfl⟩) (fun r u H locs hp hnz w => ?_)
  obtain ⟨rfl, rfl⟩ := hp
  rw [show (if (0 : Int32) = 3 then (0 : Int32) else 1) = 1 from by decide]
  dsimp only at w
  refine lv_if_eq (tgt := 93) hx hb dX15_compiled_16 (by decide) (fun c => absurd c (by decide)) (fun _ => ?_)
  refine lv_aload_n hx hb dX15_compiled_19 rfl (lv_at hl 0 rfl) ?_
  refine g_callFq w (g_runF (As := []) (rest := []) S hE w hl (c_next_0 l D ar κ (g_up G sz (.inr (2, [.int 0, .int (-1), .int 3, .ref (q + 1)]))) (sz + 1) sz (-1) 3 (q + 1) (q + 9) (va_up (va_up (va_up (fun _ => none) (Int32.toNatClampNeg 0) (some (q + 7))) (Int32.toNatClampNeg 1) (some (q + 10))) (Int32.toNatClampNeg 2) (some (q + 12))) g_up_s (g_up_o (by omega) m2) (g_up_o (by omega) m10)) (kF_RX15_192_2 S.2.2.2.2 (hE.2.1.2.1 _ (List.mem_of_getElem? (i := 2) rfl)) ⟨Nat.le_of_ble_eq_true rfl, Nat.le_of_ble_eq_true rfl⟩) g_up_s rfl rfl rfl rfl (Nat.le_of_ble_eq_true rfl) dX15_compiled_20 ⟨Nat.le_of_ble_eq_true rfl, Nat.le_of_ble_eq_true rfl⟩) (fun r u H locs hp hnz w => ?_)
  obtain ⟨rfl, rfl⟩ := hp
  rw [show (va_up (va_up (va_up (fun _ => none) (Int32.toNatClampNeg 0) (some (q + 7))) (Int32.toNatClampNeg 1) (some (q + 10))) (Int32.toNatClampNeg 2) (some (q + 12))) (Int32.toNatClampNeg 0) = some (q + 7) from rfl]
  show W p l e _ s m _ below meth c _ _ _ _ _ (F0 m _ ls (.ref (q + 7) :: _))
  dsimp only at w
  have w := g_eqw w g_over
  refine g_castS S hE w m_6_123 (g_up_o (by omega) m8) rfl rfl dX15_compiled_25 ?_
  refine lv_astore (lv' := [(4, .ref (q + 7)), (3, .ref sz), (2, .int 0), (0, .ref y), (1, .int 1)]) hx hb dX15_compiled_28 hl (by decide) rfl (fun ls hl => ?_)
  refine lv_aload hx hb dX15_compiled_30 (lv_at hl 0 rfl) ?_
  refine gf_RX15_163_14 S hE w (g_up_o (by omega) m8) rfl dX15_compiled_32 ?_
  refine lv_astore (lv' := [(5, .ref (q + 8)), (4, .ref (q + 7)), (3, .ref sz), (2, .int 0), (0, .ref y), (1, .int 1)]) hx hb dX15_compiled_35 hl (by decide) rfl (fun ls hl => ?_)
  refine lv_aload hx hb dX15_compiled_37 (lv_at hl 0 rfl) ?_
  refine va_alen (v := 16) hx hb hE.1 (g_1 w.1 (g_up_o (by omega) m9)) 0 9 rfl rfl rfl dX15_compiled_39 ?_
  refine lv_istore (lv' := [(6, .int 16), (5, .ref (q + 8)), (4, .ref (q + 7)), (3, .ref sz), (2, .int 0), (0, .ref y), (1, .int 1)]) hx hb dX15_compiled_40 hl (by decide) rfl (fun ls hl => ?_)
  refine lv_iconst (v := 0) hx hb dX15_compiled_42 (by decide) ?_
  refine lv_istore (lv' := [(7, .int 0), (6, .int 16), (5, .ref (q + 8)), (4, .ref (q + 7)), (3, .ref sz), (2, .int 0), (0, .ref y), (1, .int 1)]) hx hb dX15_compiled_43 hl (by decide) rfl (fun ls hl => ?_)
  refine lv_iload hx hb dX15_compiled_45 (lv_at hl 0 rfl) ?_
  refine lv_iload hx hb dX15_compiled_47 (lv_at hl 1 rfl) ?_
  refine lv_icmp_ge (tgt := 90) hx hb dX15_compiled_49 (by decide) (fun c => absurd c (by decide)) (fun _ => ?_)
  refine lv_aload hx hb dX15_compiled_52 (lv_at hl 2 rfl) ?_
  refine lv_iload hx hb dX15_compiled_54 (lv_at hl 0 rfl) ?_
  refine va_aldq hx hb hE.1 (g_1 w.1 (g_up_o (by omega) m9)) 0 9 rfl rfl (vp_in_nI (n := 0) (by decide) (by decide)) dX15_compiled_56 ?_
  show W p l e _ s m _ below meth c _ _ _ _ _ (F0 m 57 ls (.null :: _))
  refine lv_astoreN (lv' := [(8, .null), (7, .int 0), (6, .int 16), (5, .ref (q + 8)), (4, .ref (q + 7)), (3, .ref sz), (2, .int 0), (0, .ref y), (1, .int 1)]) hx hb dX15_compiled_57 hl (by decide) rfl (fun ls hl => ?_)
  refine lv_iload_n hx hb dX15_compiled_59 rfl (lv_at hl 6 rfl) ?_
  refine lv_aloadN hx hb dX15_compiled_60 (lv_at hl 0 rfl) ?_
  refine lv_ifnullN (tgt := 81) hx hb dX15_compiled_62 (by decide) ?_
  refine lv_iconst (v := 0) hx hb dX15_compiled_81 (by decide) ?_
  refine lv_iadd hx hb dX15_compiled_82 ?_
  rw [show (0 + 0 : Int32) = 0 by decide +kernel]
  refine lv_istore_n (lv' := [(2, .int 0), (8, .null), (7, .int 0), (6, .int 16), (5, .ref (q + 8)), (4, .ref (q + 7)), (3, .ref sz), (0, .ref y), (1, .int 1)]) hx hb dX15_compiled_83 rfl hl (by decide) rfl (fun ls hl => ?_)
  refine lv_iinc (v := 1) (lv' := [(7, .int 1), (2, .int 0), (8, .null), (6, .int 16), (5, .ref (q + 8)), (4, .ref (q + 7)), (3, .ref sz), (0, .ref y), (1, .int 1)]) hx hb dX15_compiled_84 hl (k := 2) rfl (by decide) (by decide) rfl (fun ls hl => ?_)
  refine lv_goto (tgt := 45) hx hb dX15_compiled_87 (by decide) ?_
  refine lv_iload hx hb dX15_compiled_45 (lv_at hl 0 rfl) ?_
  refine lv_iload hx hb dX15_compiled_47 (lv_at hl 3 rfl) ?_
  refine lv_icmp_ge (tgt := 90) hx hb dX15_compiled_49 (by decide) (fun c => absurd c (by decide)) (fun _ => ?_)
  refine lv_aload hx hb dX15_compiled_52 (lv_at hl 4 rfl) ?_
  refine lv_iload hx hb dX15_compiled_54 (lv_at hl 0 rfl) ?_
  refine va_aldq hx hb hE.1 (g_1 w.1 (g_up_o (by omega) m9)) 0 9 rfl rfl (vp_in_nI (n := 1) (by decide) (by decide)) dX15_compiled_56 ?_
  show W p l e _ s m _ below meth c _ _ _ _ _ (F0 m 57 ls (.null :: _))
  refine lv_astoreN (lv' := [(8, .null), (7, .int 1), (2, .int 0), (6, .int 16), (5, .ref (q + 8)), (4, .ref (q + 7)), (3, .ref sz), (0, .ref y), (1, .int 1)]) hx hb dX15_compiled_57 hl (by decide) rfl (fun ls hl => ?_)
  refine lv_iload_n hx hb dX15_compiled_59 rfl (lv_at hl 2 rfl) ?_
  refine lv_aloadN hx hb dX15_compiled_60 (lv_at hl 0 rfl) ?_
  refine lv_ifnullN (tgt := 81) hx hb dX15_compiled_62 (by decide) ?_
  refine lv_iconst (v := 0) hx hb dX15_compiled_81 (by decide) ?_
  refine lv_iadd hx hb dX15_compiled_82 ?_
  rw [show (0 + 0 : Int32) = 0 by decide +kernel]
  refine lv_istore_n (lv' := [(2, .int 0), (8, .null), (7, .int 1), (6, .int 16), (5, .ref (q + 8)), (4, .ref (q + 7)), (3, .ref sz), (0, .ref y), (1, .int 1)]) hx hb dX15_compiled_83 rfl hl (by decide) rfl (fun ls hl => ?_)
  refine lv_iinc (v := 2) (lv' := [(7, .int 2), (2, .int 0), (8, .null), (6, .int 16), (5, .ref (q + 8)), (4, .ref (q + 7)), (3, .ref sz), (0, .ref y), (1, .int 1)]) hx hb dX15_compiled_84 hl (k := 2) rfl (by decide) (by decide) rfl (fun ls hl => ?_)
  refine lv_goto (tgt := 45) hx hb dX15_compiled_87 (by decide) ?_
  refine lv_iload hx hb dX15_compiled_45 (lv_at hl 0 rfl) ?_
  refine lv_iload hx hb dX15_compiled_47 (lv_at hl 3 rfl) ?_
  refine lv_icmp_ge (tgt := 90) hx hb dX15_compiled_49 (by decide) (fun c => absurd c (by decide)) (fun _ => ?_)
  refine lv_aload hx hb dX15_compiled_52 (lv_at hl 4 rfl) ?_
  refine lv_iload hx hb dX15_compiled_54 (lv_at hl 0 rfl) ?_
  refine va_aldq hx hb hE.1 (g_1 w.1 (g_up_o (by omega) m9)) 0 9 rfl rfl (vp_in_nI (n := 2) (by decide) (by decide)) dX15_compiled_56 ?_
  show W p l e _ s m _ below meth c _ _ _ _ _ (F0 m 57 ls (.null :: _))
  refine lv_astoreN (lv' := [(8, .null), (7, .int 2), (2, .int 0), (6, .int 16), (5, .ref (q + 8)), (4, .ref (q + 7)), (3, .ref sz), (0, .ref y), (1, .int 1)]) hx hb dX15_compiled_57 hl (by decide) rfl (fun ls hl => ?_)
  refine lv_iload_n hx hb dX15_compiled_59 rfl (lv_at hl 2 rfl) ?_
  refine lv_aloadN hx hb dX15_compiled_60 (lv_at hl 0 rfl) ?_
  refine lv_ifnullN (tgt := 81) hx hb dX15_compiled_62 (by decide) ?_
  refine lv_iconst (v := 0) hx hb dX15_compiled_81 (by decide) ?_
  refine lv_iadd hx hb dX15_compiled_82 ?_
  rw [show (0 + 0 : Int32) = 0 by decide +kernel]
  refine lv_istore_n (lv' := [(2, .int 0), (8, .null), (7, .int 2), (6, .int 16), (5, .ref (q + 8)), (4, .ref (q + 7)), (3, .ref sz), (0, .ref y), (1, .int 1)]) hx hb dX15_compiled_83 rfl hl (by decide) rfl (fun ls hl => ?_)
  refine lv_iinc (v := 3) (lv' := [(7, .int 3), (2, .int 0), (8, .null), (6, .int 16), (5, .ref (q + 8)), (4, .ref (q + 7)), (3, .ref sz), (0, .ref y), (1, .int 1)]) hx hb dX15_compiled_84 hl (k := 2) rfl (by decide) (by decide) rfl (fun ls hl => ?_)
  refine lv_goto (tgt := 45) hx hb dX15_compiled_87 (by decide) ?_
  refine lv_iload hx hb dX15_compiled_45 (lv_at hl 0 rfl) ?_
  refine lv_iload hx hb dX15_compiled_47 (lv_at hl 3 rfl) ?_
  refine lv_icmp_ge (tgt := 90) hx hb dX15_compiled_49 (by decide) (fun c => absurd c (by decide)) (fun _ => ?_)
  refine lv_aload hx hb dX15_compiled_52 (lv_at hl 4 rfl) ?_
  refine lv_iload hx hb dX15_compiled_54 (lv_at hl 0 rfl) ?_
  refine va_aldq hx hb hE.1 (g_1 w.1 (g_up_o (by omega) m9)) 0 9 rfl rfl (vp_in_nI (n := 3) (by decide) (by decide)) dX15_compiled_56 ?_
  show W p l e _ s m _ below meth c _ _ _ _ _ (F0 m 57 ls (.null :: _))
  refine lv_astoreN (lv' := [(8, .null), (7, .int 3), (2, .int 0), (6, .int 16), (5, .ref (q + 8)), (4, .ref (q + 7)), (3, .ref sz), (0, .ref y), (1, .int 1)]) hx hb dX15_compiled_57 hl (by decide) rfl (fun ls hl => ?_)
  refine lv_iload_n hx hb dX15_compiled_59 rfl (lv_at hl 2 rfl) ?_
  refine lv_aloadN hx hb dX15_compiled_60 (lv_at hl 0 rfl) ?_
  refine lv_ifnullN (tgt := 81) hx hb dX15_compiled_62 (by decide) ?_
  refine lv_iconst (v := 0) hx hb dX15_compiled_81 (by decide) ?_
  refine lv_iadd hx hb dX15_compiled_82 ?_
  rw [show (0 + 0 : Int32) = 0 by decide +kernel]
  refine lv_istore_n (lv' := [(2, .int 0), (8, .null), (7, .int 3), (6, .int 16), (5, .ref (q + 8)), (4, .ref (q + 7)), (3, .ref sz), (0, .ref y), (1, .int 1)]) hx hb dX15_compiled_83 rfl hl (by decide) rfl (fun ls hl => ?_)
  refine lv_iinc (v := 4) (lv' := [(7, .int 4), (2, .int 0), (8, .null), (6, .int 16), (5, .ref (q + 8)), (4, .ref (q + 7)), (3, .ref sz), (0, .ref y), (1, .int 1)]) hx hb dX15_compiled_84 hl (k := 2) rfl (by decide) (by decide) rfl (fun ls hl => ?_)
  refine lv_goto (tgt := 45) hx hb dX15_compiled_87 (by decide) ?_
  refine lv_iload hx hb dX15_compiled_45 (lv_at hl 0 rfl) ?_
  refine lv_iload hx hb dX15_compiled_47 (lv_at hl 3 rfl) ?_
  refine lv_icmp_ge (tgt := 90) hx hb dX15_compiled_49 (by decide) (fun c => absurd c (by decide)) (fun _ => ?_)
  refine lv_aload hx hb dX15_compiled_52 (lv_at hl 4 rfl) ?_
  refine lv_iload hx hb dX15_compiled_54 (lv_at hl 0 rfl) ?_
  refine va_aldq hx hb hE.1 (g_1 w.1 (g_up_o (by omega) m9)) 0 9 rfl rfl (vp_in_nI (n := 4) (by decide) (by decide)) dX15_compiled_56 ?_
  show W p l e _ s m _ below meth c _ _ _ _ _ (F0 m 57 ls (.null :: _))
  refine lv_astoreN (lv' := [(8, .null), (7, .int 4), (2, .int 0), (6, .int 16), (5, .ref (q + 8)), (4, .ref (q + 7)), (3, .ref sz), (0, .ref y), (1, .int 1)]) hx hb dX15_compiled_57 hl (by decide) rfl (fun ls hl => ?_)
  refine lv_iload_n hx hb dX15_compiled_59 rfl (lv_at hl 2 rfl) ?_
  refine lv_aloadN hx hb dX15_compiled_60 (lv_at hl 0 rfl) ?_
  refine lv_ifnullN (tgt := 81) hx hb dX15_compiled_62 (by decide) ?_
  refine lv_iconst (v := 0) hx hb dX15_compiled_81 (by decide) ?_
  refine lv_iadd hx hb dX15_compiled_82 ?_
  rw [show (0 + 0 : Int32) = 0 by decide +kernel]
  refine lv_istore_n (lv' := [(2, .int 0), (8, .null), (7, .int 4), (6, .int 16), (5, .ref (q + 8)), (4, .ref (q + 7)), (3, .ref sz), (0, .ref y), (1, .int 1)]) hx hb dX15_compiled_83 rfl hl (by decide) rfl (fun ls hl => ?_)
  refine lv_iinc (v := 5) (lv' := [(7, .int 5), (2, .int 0), (8, .null), (6, .int 16), (5, .ref (q + 8)), (4, .ref (q + 7)), (3, .ref sz), (0, .ref y), (1, .int 1)]) hx hb dX15_compiled_84 hl (k := 2) rfl (by decide) (by decide) rfl (fun ls hl => ?_)
  refine lv_goto (tgt := 45) hx hb dX15_compiled_87 (by decide) ?_
  refine lv_iload hx hb dX15_compiled_45 (lv_at hl 0 rfl) ?_
  refine lv_iload hx hb dX15_compiled_47 (lv_at hl 3 rfl) ?_
  refine lv_icmp_ge (tgt := 90) hx hb dX15_compiled_49 (by decide) (fun c => absurd c (by decide)) (fun _ => ?_)
  refine lv_aload hx hb dX15_compiled_52 (lv_at hl 4 rfl) ?_
  refine lv_iload hx hb dX15_compiled_54 (lv_at hl 0 rfl) ?_
  refine va_aldq hx hb hE.1 (g_1 w.1 (g_up_o (by omega) m9)) 0 9 rfl rfl (vp_in_nI (n := 5) (by decide) (by decide)) dX15_compiled_56 ?_
  show W p l e _ s m _ below meth c _ _ _ _ _ (F0 m 57 ls (.null :: _))
  refine lv_astoreN (lv' := [(8, .null), (7, .int 5), (2, .int 0), (6, .int 16), (5, .ref (q + 8)), (4, .ref (q + 7)), (3, .ref sz), (0, .ref y), (1, .int 1)]) hx hb dX15_compiled_57 hl (by decide) rfl (fun ls hl => ?_)
  refine lv_iload_n hx hb dX15_compiled_59 rfl (lv_at hl 2 rfl) ?_
  refine lv_aloadN hx hb dX15_compiled_60 (lv_at hl 0 rfl) ?_
  refine lv_ifnullN (tgt := 81) hx hb dX15_compiled_62 (by decide) ?_
  refine lv_iconst (v := 0) hx hb dX15_compiled_81 (by decide) ?_
  refine lv_iadd hx hb dX15_compiled_82 ?_
  rw [show (0 + 0 : Int32) = 0 by decide +kernel]
  refine lv_istore_n (lv' := [(2, .int 0), (8, .null), (7, .int 5), (6, .int 16), (5, .ref (q + 8)), (4, .ref (q + 7)), (3, .ref sz), (0, .ref y), (1, .int 1)]) hx hb dX15_compiled_83 rfl hl (by decide) rfl (fun ls hl => ?_)
  refine lv_iinc (v := 6) (lv' := [(7, .int 6), (2, .int 0), (8, .null), (6, .int 16), (5, .ref (q + 8)), (4, .ref (q + 7)), (3, .ref sz), (0, .ref y), (1, .int 1)]) hx hb dX15_compiled_84 hl (k := 2) rfl (by decide) (by decide) rfl (fun ls hl => ?_)
  refine lv_goto (tgt := 45) hx hb dX15_compiled_87 (by decide) ?_
  refine lv_iload hx hb dX15_compiled_45 (lv_at hl 0 rfl) ?_
  refine lv_iload hx hb dX15_compiled_47 (lv_at hl 3 rfl) ?_
  refine lv_icmp_ge (tgt := 90) hx hb dX15_compiled_49 (by decide) (fun c => absurd c (by decide)) (fun _ => ?_)
  refine lv_aload hx hb dX15_compiled_52 (lv_at hl 4 rfl) ?_
  refine lv_iload hx hb dX15_compiled_54 (lv_at hl 0 rfl) ?_
  refine va_aldq hx hb hE.1 (g_1 w.1 (g_up_o (by omega) m9)) 0 9 rfl rfl (vp_in_nI (n := 6) (by decide) (by decide)) dX15_compiled_56 ?_
  show W p l e _ s m _ below meth c _ _ _ _ _ (F0 m 57 ls (.null :: _))
  refine lv_astoreN (lv' := [(8, .null), (7, .int 6), (2, .int 0), (6, .int 16), (5, .ref (q + 8)), (4, .ref (q + 7)), (3, .ref sz), (0, .ref y), (1, .int 1)]) hx hb dX15_compiled_57 hl (by decide) rfl (fun ls hl => ?_)
  refine lv_iload_n hx hb dX15_compiled_59 rfl (lv_at hl 2 rfl) ?_
  refine lv_aloadN hx hb dX15_compiled_60 (lv_at hl 0 rfl) ?_
  refine lv_ifnullN (tgt := 81) hx hb dX15_compiled_62 (by decide) ?_
  refine lv_iconst (v := 0) hx hb dX15_compiled_81 (by decide) ?_
  refine lv_iadd hx hb dX15_compiled_82 ?_
  rw [show (0 + 0 : Int32) = 0 by decide +kernel]
  refine lv_istore_n (lv' := [(2, .int 0), (8, .null), (7, .int 6), (6, .int 16), (5, .ref (q + 8)), (4, .ref (q + 7)), (3, .ref sz), (0, .ref y), (1, .int 1)]) hx hb dX15_compiled_83 rfl hl (by decide) rfl (fun ls hl => ?_)
  refine lv_iinc (v := 7) (lv' := [(7, .int 7), (2, .int 0), (8, .null), (6, .int 16), (5, .ref (q + 8)), (4, .ref (q + 7)), (3, .ref sz), (0, .ref y), (1, .int 1)]) hx hb dX15_compiled_84 hl (k := 2) rfl (by decide) (by decide) rfl (fun ls hl => ?_)
  refine lv_goto (tgt := 45) hx hb dX15_compiled_87 (by decide) ?_
  refine lv_iload hx hb dX15_compiled_45 (lv_at hl 0 rfl) ?_
  refine lv_iload hx hb dX15_compiled_47 (lv_at hl 3 rfl) ?_
  refine lv_icmp_ge (tgt := 90) hx hb dX15_compiled_49 (by decide) (fun c => absurd c (by decide)) (fun _ => ?_)
  refine lv_aload hx hb dX15_compiled_52 (lv_at hl 4 rfl) ?_
  refine lv_iload hx hb dX15_compiled_54 (lv_at hl 0 rfl) ?_
  refine va_aldq hx hb hE.1 (g_1 w.1 (g_up_o (by omega) m9)) 0 9 rfl rfl (vp_in_nI (n := 7) (by decide) (by decide)) dX15_compiled_56 ?_
  show W p l e _ s m _ below meth c _ _ _ _ _ (F0 m 57 ls (.null :: _))
  refine lv_astoreN (lv' := [(8, .null), (7, .int 7), (2, .int 0), (6, .int 16), (5, .ref (q + 8)), (4, .ref (q + 7)), (3, .ref sz), (0, .ref y), (1, .int 1)]) hx hb dX15_compiled_57 hl (by decide) rfl (fun ls hl => ?_)
  refine lv_iload_n hx hb dX15_compiled_59 rfl (lv_at hl 2 rfl) ?_
  refine lv_aloadN hx hb dX15_compiled_60 (lv_at hl 0 rfl) ?_
  refine lv_ifnullN (tgt := 81) hx hb dX15_compiled_62 (by decide) ?_
  refine lv_iconst (v := 0) hx hb dX15_compiled_81 (by decide) ?_
  refine lv_iadd hx hb dX15_compiled_82 ?_
  rw [show (0 + 0 : Int32) = 0 by decide +kernel]
  refine lv_istore_n (lv' := [(2, .int 0), (8, .null), (7, .int 7), (6, .int 16), (5, .ref (q + 8)), (4, .ref (q + 7)), (3, .ref sz), (0, .ref y), (1, .int 1)]) hx hb dX15_compiled_83 rfl hl (by decide) rfl (fun ls hl => ?_)
  refine lv_iinc (v := 8) (lv' := [(7, .int 8), (2, .int 0), (8, .null), (6, .int 16), (5, .ref (q + 8)), (4, .ref (q + 7)), (3, .ref sz), (0, .ref y), (1, .int 1)]) hx hb dX15_compiled_84 hl (k := 2) rfl (by decide) (by decide) rfl (fun ls hl => ?_)
  refine lv_goto (tgt := 45) hx hb dX15_compiled_87 (by decide) ?_
  refine lv_iload hx hb dX15_compiled_45 (lv_at hl 0 rfl) ?_
  refine lv_iload hx hb dX15_compiled_47 (lv_at hl 3 rfl) ?_
  refine lv_icmp_ge (tgt := 90) hx hb dX15_compiled_49 (by decide) (fun c => absurd c (by decide)) (fun _ => ?_)
  refine lv_aload hx hb dX15_compiled_52 (lv_at hl 4 rfl) ?_
  refine lv_iload hx hb dX15_compiled_54 (lv_at hl 0 rfl) ?_
  refine va_aldq hx hb hE.1 (g_1 w.1 (g_up_o (by omega) m9)) 0 9 rfl rfl (vp_in_nI (n := 8) (by decide) (by decide)) dX15_compiled_56 ?_
  show W p l e _ s m _ below meth c _ _ _ _ _ (F0 m 57 ls (.null :: _))
  refine lv_astoreN (lv' := [(8, .null), (7, .int 8), (2, .int 0), (6, .int 16), (5, .ref (q + 8)), (4, .ref (q + 7)), (3, .ref sz), (0, .ref y), (1, .int 1)]) hx hb dX15_compiled_57 hl (by decide) rfl (fun ls hl => ?_)
  refine lv_iload_n hx hb dX15_compiled_59 rfl (lv_at hl 2 rfl) ?_
  refine lv_aloadN hx hb dX15_compiled_60 (lv_at hl 0 rfl) ?_
  refine lv_ifnullN (tgt := 81) hx hb dX15_compiled_62 (by decide) ?_
  refine lv_iconst (v := 0) hx hb dX15_compiled_81 (by decide) ?_
  refine lv_iadd hx hb dX15_compiled_82 ?_
  rw [show (0 + 0 : Int32) = 0 by decide +kernel]
  refine lv_istore_n (lv' := [(2, .int 0), (8, .null), (7, .int 8), (6, .int 16), (5, .ref (q + 8)), (4, .ref (q + 7)), (3, .ref sz), (0, .ref y), (1, .int 1)]) hx hb dX15_compiled_83 rfl hl (by decide) rfl (fun ls hl => ?_)
  refine lv_iinc (v := 9) (lv' := [(7, .int 9), (2, .int 0), (8, .null), (6, .int 16), (5, .ref (q + 8)), (4, .ref (q + 7)), (3, .ref sz), (0, .ref y), (1, .int 1)]) hx hb dX15_compiled_84 hl (k := 2) rfl (by decide) (by decide) rfl (fun ls hl => ?_)
  refine lv_goto (tgt := 45) hx hb dX15_compiled_87 (by decide) ?_
  refine lv_iload hx hb dX15_compiled_45 (lv_at hl 0 rfl) ?_
  refine lv_iload hx hb dX15_compiled_47 (lv_at hl 3 rfl) ?_
  refine lv_icmp_ge (tgt := 90) hx hb dX15_compiled_49 (by decide) (fun c => absurd c (by decide)) (fun _ => ?_)
  refine lv_aload hx hb dX15_compiled_52 (lv_at hl 4 rfl) ?_
  refine lv_iload hx hb dX15_compiled_54 (lv_at hl 0 rfl) ?_
  refine va_aldq hx hb hE.1 (g_1 w.1 (g_up_o (by omega) m9)) 0 9 rfl rfl (vp_in_nI (n := 9) (by decide) (by decide)) dX15_compiled_56 ?_
  show W p l e _ s m _ below meth c _ _ _ _ _ (F0 m 57 ls (.null :: _))
  refine lv_astoreN (lv' := [(8, .null), (7, .int 9), (2, .int 0), (6, .int 16), (5, .ref (q + 8)), (4, .ref (q + 7)), (3, .ref sz), (0, .ref y), (1, .int 1)]) hx hb dX15_compiled_57 hl (by decide) rfl (fun ls hl => ?_)
  refine lv_iload_n hx hb dX15_compiled_59 rfl (lv_at hl 2 rfl) ?_
  refine lv_aloadN hx hb dX15_compiled_60 (lv_at hl 0 rfl) ?_
  refine lv_ifnullN (tgt := 81) hx hb dX15_compiled_62 (by decide) ?_
  refine lv_iconst (v := 0) hx hb dX15_compiled_81 (by decide) ?_
  refine lv_iadd hx hb dX15_compiled_82 ?_
  rw [show (0 + 0 : Int32) = 0 by decide +kernel]
  refine lv_istore_n (lv' := [(2, .int 0), (8, .null), (7, .int 9), (6, .int 16), (5, .ref (q + 8)), (4, .ref (q + 7)), (3, .ref sz), (0, .ref y), (1, .int 1)]) hx hb dX15_compiled_83 rfl hl (by decide) rfl (fun ls hl => ?_)
  refine lv_iinc (v := 10) (lv' := [(7, .int 10), (2, .int 0), (8, .null), (6, .int 16), (5, .ref (q + 8)), (4, .ref (q + 7)), (3, .ref sz), (0, .ref y), (1, .int 1)]) hx hb dX15_compiled_84 hl (k := 2) rfl (by decide) (by decide) rfl (fun ls hl => ?_)
  refine lv_goto (tgt := 45) hx hb dX15_compiled_87 (by decide) ?_
  refine lv_iload hx hb dX15_compiled_45 (lv_at hl 0 rfl) ?_
  refine lv_iload hx hb dX15_compiled_47 (lv_at hl 3 rfl) ?_
  refine lv_icmp_ge (tgt := 90) hx hb dX15_compiled_49 (by decide) (fun c => absurd c (by decide)) (fun _ => ?_)
  refine lv_aload hx hb dX15_compiled_52 (lv_at hl 4 rfl) ?_
  refine lv_iload hx hb dX15_compiled_54 (lv_at hl 0 rfl) ?_
  refine va_aldq hx hb hE.1 (g_1 w.1 (g_up_o (by omega) m9)) 0 9 rfl rfl (vp_in_nI (n := 10) (by decide) (by decide)) dX15_compiled_56 ?_
  show W p l e _ s m _ below meth c _ _ _ _ _ (F0 m 57 ls (.null :: _))
  refine lv_astoreN (lv' := [(8, .null), (7, .int 10), (2, .int 0), (6, .int 16), (5, .ref (q + 8)), (4, .ref (q + 7)), (3, .ref sz), (0, .ref y), (1, .int 1)]) hx hb dX15_compiled_57 hl (by decide) rfl (fun ls hl => ?_)
  refine lv_iload_n hx hb dX15_compiled_59 rfl (lv_at hl 2 rfl) ?_
  refine lv_aloadN hx hb dX15_compiled_60 (lv_at hl 0 rfl) ?_
  refine lv_ifnullN (tgt := 81) hx hb dX15_compiled_62 (by decide) ?_
  refine lv_iconst (v := 0) hx hb dX15_compiled_81 (by decide) ?_
  refine lv_iadd hx hb dX15_compiled_82 ?_
  rw [show (0 + 0 : Int32) = 0 by decide +kernel]
  refine lv_istore_n (lv' := [(2, .int 0), (8, .null), (7, .int 10), (6, .int 16), (5, .ref (q + 8)), (4, .ref (q + 7)), (3, .ref sz), (0, .ref y), (1, .int 1)]) hx hb dX15_compiled_83 rfl hl (by decide) rfl (fun ls hl => ?_)
  refine lv_iinc (v := 11) (lv' := [(7, .int 11), (2, .int 0), (8, .null), (6, .int 16), (5, .ref (q + 8)), (4, .ref (q + 7)), (3, .ref sz), (0, .ref y), (1, .int 1)]) hx hb dX15_compiled_84 hl (k := 2) rfl (by decide) (by decide) rfl (fun ls hl => ?_)
  refine lv_goto (tgt := 45) hx hb dX15_compiled_87 (by decide) ?_
  refine lv_iload hx hb dX15_compiled_45 (lv_at hl 0 rfl) ?_
  refine lv_iload hx hb dX15_compiled_47 (lv_at hl 3 rfl) ?_
  refine lv_icmp_ge (tgt := 90) hx hb dX15_compiled_49 (by decide) (fun c => absurd c (by decide)) (fun _ => ?_)
  refine lv_aload hx hb dX15_compiled_52 (lv_at hl 4 rfl) ?_
  refine lv_iload hx hb dX15_compiled_54 (lv_at hl 0 rfl) ?_
  refine va_aldq hx hb hE.1 (g_1 w.1 (g_up_o (by omega) m9)) 0 9 rfl rfl (vp_in_nI (n := 11) (by decide) (by decide)) dX15_compiled_56 ?_
  show W p l e _ s m _ below meth c _ _ _ _ _ (F0 m 57 ls (.null :: _))
  refine lv_astoreN (lv' := [(8, .null), (7, .int 11), (2, .int 0), (6, .int 16), (5, .ref (q + 8)), (4, .ref (q + 7)), (3, .ref sz), (0, .ref y), (1, .int 1)]) hx hb dX15_compiled_57 hl (by decide) rfl (fun ls hl => ?_)
  refine lv_iload_n hx hb dX15_compiled_59 rfl (lv_at hl 2 rfl) ?_
  refine lv_aloadN hx hb dX15_compiled_60 (lv_at hl 0 rfl) ?_
  refine lv_ifnullN (tgt := 81) hx hb dX15_compiled_62 (by decide) ?_
  refine lv_iconst (v := 0) hx hb dX15_compiled_81 (by decide) ?_
  refine lv_iadd hx hb dX15_compiled_82 ?_
  rw [show (0 + 0 : Int32) = 0 by decide +kernel]
  refine lv_istore_n (lv' := [(2, .int 0), (8, .null), (7, .int 11), (6, .int 16), (5, .ref (q + 8)), (4, .ref (q + 7)), (3, .ref sz), (0, .ref y), (1, .int 1)]) hx hb dX15_compiled_83 rfl hl (by decide) rfl (fun ls hl => ?_)
  refine lv_iinc (v := 12) (lv' := [(7, .int 12), (2, .int 0), (8, .null), (6, .int 16), (5, .ref (q + 8)), (4, .ref (q + 7)), (3, .ref sz), (0, .ref y), (1, .int 1)]) hx hb dX15_compiled_84 hl (k := 2) rfl (by decide) (by decide) rfl (fun ls hl => ?_)
  refine lv_goto (tgt := 45) hx hb dX15_compiled_87 (by decide) ?_
  refine lv_iload hx hb dX15_compiled_45 (lv_at hl 0 rfl) ?_
  refine lv_iload hx hb dX15_compiled_47 (lv_at hl 3 rfl) ?_
  refine lv_icmp_ge (tgt := 90) hx hb dX15_compiled_49 (by decide) (fun c => absurd c (by decide)) (fun _ => ?_)
  refine lv_aload hx hb dX15_compiled_52 (lv_at hl 4 rfl) ?_
  refine lv_iload hx hb dX15_compiled_54 (lv_at hl 0 rfl) ?_
  refine va_aldq hx hb hE.1 (g_1 w.1 (g_up_o (by omega) m9)) 0 9 rfl rfl (vp_in_nI (n := 12) (by decide) (by decide)) dX15_compiled_56 ?_
  show W p l e _ s m _ below meth c _ _ _ _ _ (F0 m 57 ls (.null :: _))
  refine lv_astoreN (lv' := [(8, .null), (7, .int 12), (2, .int 0), (6, .int 16), (5, .ref (q + 8)), (4, .ref (q + 7)), (3, .ref sz), (0, .ref y), (1, .int 1)]) hx hb dX15_compiled_57 hl (by decide) rfl (fun ls hl => ?_)
  refine lv_iload_n hx hb dX15_compiled_59 rfl (lv_at hl 2 rfl) ?_
  refine lv_aloadN hx hb dX15_compiled_60 (lv_at hl 0 rfl) ?_
  refine lv_ifnullN (tgt := 81) hx hb dX15_compiled_62 (by decide) ?_
  refine lv_iconst (v := 0) hx hb dX15_compiled_81 (by decide) ?_
  refine lv_iadd hx hb dX15_compiled_82 ?_
  rw [show (0 + 0 : Int32) = 0 by decide +kernel]
  refine lv_istore_n (lv' := [(2, .int 0), (8, .null), (7, .int 12), (6, .int 16), (5, .ref (q + 8)), (4, .ref (q + 7)), (3, .ref sz), (0, .ref y), (1, .int 1)]) hx hb dX15_compiled_83 rfl hl (by decide) rfl (fun ls hl => ?_)
  refine lv_iinc (v := 13) (lv' := [(7, .int 13), (2, .int 0), (8, .null), (6, .int 16), (5, .ref (q + 8)), (4, .ref (q + 7)), (3, .ref sz), (0, .ref y), (1, .int 1)]) hx hb dX15_compiled_84 hl (k := 2) rfl (by decide) (by decide) rfl (fun ls hl => ?_)
  refine lv_goto (tgt := 45) hx hb dX15_compiled_87 (by decide) ?_
  refine lv_iload hx hb dX15_compiled_45 (lv_at hl 0 rfl) ?_
  refine lv_iload hx hb dX15_compiled_47 (lv_at hl 3 rfl) ?_
  refine lv_icmp_ge (tgt := 90) hx hb dX15_compiled_49 (by decide) (fun c => absurd c (by decide)) (fun _ => ?_)
  refine lv_aload hx hb dX15_compiled_52 (lv_at hl 4 rfl) ?_
  refine lv_iload hx hb dX15_compiled_54 (lv_at hl 0 rfl) ?_
  refine va_aldq hx hb hE.1 (g_1 w.1 (g_up_o (by omega) m9)) 0 9 rfl rfl (vp_in_nI (n := 13) (by decide) (by decide)) dX15_compiled_56 ?_
  show W p l e _ s m _ below meth c _ _ _ _ _ (F0 m 57 ls (.null :: _))
  refine lv_astoreN (lv' := [(8, .null), (7, .int 13), (2, .int 0), (6, .int 16), (5, .ref (q + 8)), (4, .ref (q + 7)), (3, .ref sz), (0, .ref y), (1, .int 1)]) hx hb dX15_compiled_57 hl (by decide) rfl (fun ls hl => ?_)
  refine lv_iload_n hx hb dX15_compiled_59 rfl (lv_at hl 2 rfl) ?_
  refine lv_aloadN hx hb dX15_compiled_60 (lv_at hl 0 rfl) ?_
  refine lv_ifnullN (tgt := 81) hx hb dX15_compiled_62 (by decide) ?_
  refine lv_iconst (v := 0) hx hb dX15_compiled_81 (by decide) ?_
  refine lv_iadd hx hb dX15_compiled_82 ?_
  rw [show (0 + 0 : Int32) = 0 by decide +kernel]
  refine lv_istore_n (lv' := [(2, .int 0), (8, .null), (7, .int 13), (6, .int 16), (5, .ref (q + 8)), (4, .ref (q + 7)), (3, .ref sz), (0, .ref y), (1, .int 1)]) hx hb dX15_compiled_83 rfl hl (by decide) rfl (fun ls hl => ?_)
  refine lv_iinc (v := 14) (lv' := [(7, .int 14), (2, .int 0), (8, .null), (6, .int 16), (5, .ref (q + 8)), (4, .ref (q + 7)), (3, .ref sz), (0, .ref y), (1, .int 1)]) hx hb dX15_compiled_84 hl (k := 2) rfl (by decide) (by decide) rfl (fun ls hl => ?_)
  refine lv_goto (tgt := 45) hx hb dX15_compiled_87 (by decide) ?_
  refine lv_iload hx hb dX15_compiled_45 (lv_at hl 0 rfl) ?_
  refine lv_iload hx hb dX15_compiled_47 (lv_at hl 3 rfl) ?_
  refine lv_icmp_ge (tgt := 90) hx hb dX15_compiled_49 (by decide) (fun c => absurd c (by decide)) (fun _ => ?_)
  refine lv_aload hx hb dX15_compiled_52 (lv_at hl 4 rfl) ?_
  refine lv_iload hx hb dX15_compiled_54 (lv_at hl 0 rfl) ?_
  refine va_aldq hx hb hE.1 (g_1 w.1 (g_up_o (by omega) m9)) 0 9 rfl rfl (vp_in_nI (n := 14) (by decide) (by decide)) dX15_compiled_56 ?_
  show W p l e _ s m _ below meth c _ _ _ _ _ (F0 m 57 ls (.null :: _))
  refine lv_astoreN (lv' := [(8, .null), (7, .int 14), (2, .int 0), (6, .int 16), (5, .ref (q + 8)), (4, .ref (q + 7)), (3, .ref sz), (0, .ref y), (1, .int 1)]) hx hb dX15_compiled_57 hl (by decide) rfl (fun ls hl => ?_)
  refine lv_iload_n hx hb dX15_compiled_59 rfl (lv_at hl 2 rfl) ?_
  refine lv_aloadN hx hb dX15_compiled_60 (lv_at hl 0 rfl) ?_
  refine lv_ifnullN (tgt := 81) hx hb dX15_compiled_62 (by decide) ?_
  refine lv_iconst (v := 0) hx hb dX15_compiled_81 (by decide) ?_
  refine lv_iadd hx hb dX15_compiled_82 ?_
  rw [show (0 + 0 : Int32) = 0 by decide +kernel]
  refine lv_istore_n (lv' := [(2, .int 0), (8, .null), (7, .int 14), (6, .int 16), (5, .ref (q + 8)), (4, .ref (q + 7)), (3, .ref sz), (0, .ref y), (1, .int 1)]) hx hb dX15_compiled_83 rfl hl (by decide) rfl (fun ls hl => ?_)
  refine lv_iinc (v := 15) (lv' := [(7, .int 15), (2, .int 0), (8, .null), (6, .int 16), (5, .ref (q + 8)), (4, .ref (q + 7)), (3, .ref sz), (0, .ref y), (1, .int 1)]) hx hb dX15_compiled_84 hl (k := 2) rfl (by decide) (by decide) rfl (fun ls hl => ?_)
  refine lv_goto (tgt := 45) hx hb dX15_compiled_87 (by decide) ?_
  refine lv_iload hx hb dX15_compiled_45 (lv_at hl 0 rfl) ?_
  refine lv_iload hx hb dX15_compiled_47 (lv_at hl 3 rfl) ?_
  refine lv_icmp_ge (tgt := 90) hx hb dX15_compiled_49 (by decide) (fun c => absurd c (by decide)) (fun _ => ?_)
  refine lv_aload hx hb dX15_compiled_52 (lv_at hl 4 rfl) ?_
  refine lv_iload hx hb dX15_compiled_54 (lv_at hl 0 rfl) ?_
  refine va_aldq hx hb hE.1 (g_1 w.1 (g_up_o (by omega) m9)) 0 9 rfl rfl (vp_in_nI (n := 15) (by decide) (by decide)) dX15_compiled_56 ?_
  show W p l e _ s m _ below meth c _ _ _ _ _ (F0 m 57 ls (.null :: _))
  refine lv_astoreN (lv' := [(8, .null), (7, .int 15), (2, .int 0), (6, .int 16), (5, .ref (q + 8)), (4, .ref (q + 7)), (3, .ref sz), (0, .ref y), (1, .int 1)]) hx hb dX15_compiled_57 hl (by decide) rfl (fun ls hl => ?_)
  refine lv_iload_n hx hb dX15_compiled_59 rfl (lv_at hl 2 rfl) ?_
  refine lv_aloadN hx hb dX15_compiled_60 (lv_at hl 0 rfl) ?_
  refine lv_ifnullN (tgt := 81) hx hb dX15_compiled_62 (by decide) ?_
  refine lv_iconst (v := 0) hx hb dX15_compiled_81 (by decide) ?_
  refine lv_iadd hx hb dX15_compiled_82 ?_
  rw [show (0 + 0 : Int32) = 0 by decide +kernel]
  refine lv_istore_n (lv' := [(2, .int 0), (8, .null), (7, .int 15), (6, .int 16), (5, .ref (q + 8)), (4, .ref (q + 7)), (3, .ref sz), (0, .ref y), (1, .int 1)]) hx hb dX15_compiled_83 rfl hl (by decide) rfl (fun ls hl => ?_)
  refine lv_iinc (v := 16) (lv' := [(7, .int 16), (2, .int 0), (8, .null), (6, .int 16), (5, .ref (q + 8)), (4, .ref (q + 7)), (3, .ref sz), (0, .ref y), (1, .int 1)]) hx hb dX15_compiled_84 hl (k := 2) rfl (by decide) (by decide) rfl (fun ls hl => ?_)
  refine lv_goto (tgt := 45) hx hb dX15_compiled_87 (by decide) ?_
  refine lv_iload hx hb dX15_compiled_45 (lv_at hl 0 rfl) ?_
  refine lv_iload hx hb dX15_compiled_47 (lv_at hl 3 rfl) ?_
  refine lv_icmp_ge (tgt := 90) hx hb dX15_compiled_49 (by decide) (fun _ => ?_) (fun c => absurd (by decide) c)
  refine lv_goto (tgt := 10) hx hb dX15_compiled_90 (by decide) ?_
  refine lv_aload_n hx hb dX15_compiled_10 rfl (lv_at hl 6 rfl) ?_
  refine g_callFi w (g_runF (As := []) (rest := []) S hE w hl (c_hasNext l D ar κ (g_up G sz (.inr (2, [.int 1, .int 0, .int 3, .ref (q + 1)]))) (sz + 1) sz 1 0 (q + 1) 3 (some (q + 9)) 3 g_up_s (g_up_o (by omega) m2)) (kF_RX15_187_2 S.2.2.2.2 (hE.2.1.2.1 _ (List.mem_of_getElem? (i := 1) rfl)) ⟨Nat.le_of_ble_eq_true rfl, Nat.le_of_ble_eq_true rfl⟩) g_up_s rfl rfl rfl rfl (Nat.le_of_ble_eq_true rfl) dX15_compiled_11 ⟨Nat.le_of_ble_eq_true rfl, Nat.le_of_ble_eq_true rfl⟩) (fun r u H locs hp hnz w => ?_)
  obtain ⟨rfl, rfl⟩ := hp
  rw [show (if (1 : Int32) = 3 then (0 : Int32) else 1) = 1 from by decide]
  dsimp only at w
  refine lv_if_eq (tgt := 93) hx hb dX15_compiled_16 (by decide) (fun c => absurd c (by decide)) (fun _ => ?_)
  refine lv_aload_n hx hb dX15_compiled_19 rfl (lv_at hl 6 rfl) ?_
  refine g_callFq w (g_runF (As := []) (rest := []) S hE w hl (c_next_1 l D ar κ (g_up G sz (.inr (2, [.int 1, .int 0, .int 3, .ref (q + 1)]))) (sz + 1) sz 0 3 (q + 1) (q + 9) (va_up (va_up (va_up (fun _ => none) (Int32.toNatClampNeg 0) (some (q + 7))) (Int32.toNatClampNeg 1) (some (q + 10))) (Int32.toNatClampNeg 2) (some (q + 12))) g_up_s (g_up_o (by omega) m2) (g_up_o (by omega) m10)) (kF_RX15_192_2 S.2.2.2.2 (hE.2.1.2.1 _ (List.mem_of_getElem? (i := 2) rfl)) ⟨Nat.le_of_ble_eq_true rfl, Nat.le_of_ble_eq_true rfl⟩) g_up_s rfl rfl rfl rfl (Nat.le_of_ble_eq_true rfl) dX15_compiled_20 ⟨Nat.le_of_ble_eq_true rfl, Nat.le_of_ble_eq_true rfl⟩) (fun r u H locs hp hnz w => ?_)
  obtain ⟨rfl, rfl⟩ := hp
  rw [show (va_up (va_up (va_up (fun _ => none) (Int32.toNatClampNeg 0) (some (q + 7))) (Int32.toNatClampNeg 1) (some (q + 10))) (Int32.toNatClampNeg 2) (some (q + 12))) (Int32.toNatClampNeg 1) = some (q + 10) from rfl]
  show W p l e _ s m _ below meth c _ _ _ _ _ (F0 m _ ls (.ref (q + 10) :: _))
  dsimp only at w
  have w := g_eqw w g_over
  refine g_castS S hE w m_6_123 (g_up_o (by omega) m11) rfl rfl dX15_compiled_25 ?_
  refine lv_astore (lv' := [(4, .ref (q + 10)), (7, .int 16), (2, .int 0), (8, .null), (6, .int 16), (5, .ref (q + 8)), (3, .ref sz), (0, .ref y), (1, .int 1)]) hx hb dX15_compiled_28 hl (by decide) rfl (fun ls hl => ?_)
  refine lv_aload hx hb dX15_compiled_30 (lv_at hl 0 rfl) ?_
  refine gf_RX15_163_14 S hE w (g_up_o (by omega) m11) rfl dX15_compiled_32 ?_
  refine lv_astore (lv' := [(5, .ref (q + 11)), (4, .ref (q + 10)), (7, .int 16), (2, .int 0), (8, .null), (6, .int 16), (3, .ref sz), (0, .ref y), (1, .int 1)]) hx hb dX15_compiled_35 hl (by decide) rfl (fun ls hl => ?_)
  refine lv_aload hx hb dX15_compiled_37 (lv_at hl 0 rfl) ?_
  refine va_alen (v := 16) hx hb hE.1 (g_1 w.1 (g_up_o (by omega) m12)) 0 9 rfl rfl rfl dX15_compiled_39 ?_
  refine lv_istore (lv' := [(6, .int 16), (5, .ref (q + 11)), (4, .ref (q + 10)), (7, .int 16), (2, .int 0), (8, .null), (3, .ref sz), (0, .ref y), (1, .int 1)]) hx hb dX15_compiled_40 hl (by decide) rfl (fun ls hl => ?_)
  refine lv_iconst (v := 0) hx hb dX15_compiled_42 (by decide) ?_
  refine lv_istore (lv' := [(7, .int 0), (6, .int 16), (5, .ref (q + 11)), (4, .ref (q + 10)), (2, .int 0), (8, .null), (3, .ref sz), (0, .ref y), (1, .int 1)]) hx hb dX15_compiled_43 hl (by decide) rfl (fun ls hl => ?_)
  refine lv_iload hx hb dX15_compiled_45 (lv_at hl 0 rfl) ?_
  refine lv_iload hx hb dX15_compiled_47 (lv_at hl 1 rfl) ?_
  refine lv_icmp_ge (tgt := 90) hx hb dX15_compiled_49 (by decide) (fun c => absurd c (by decide)) (fun _ => ?_)
  refine lv_aload hx hb dX15_compiled_52 (lv_at hl 2 rfl) ?_
  refine lv_iload hx hb dX15_compiled_54 (lv_at hl 0 rfl) ?_
  refine va_aldq hx hb hE.1 (g_1 w.1 (g_up_o (by omega) m12)) 0 9 rfl rfl (vp_in_nI (n := 0) (by decide) (by decide)) dX15_compiled_56 ?_
  show W p l e _ s m _ below meth c _ _ _ _ _ (F0 m 57 ls (.null :: _))
  refine lv_astoreN (lv' := [(8, .null), (7, .int 0), (6, .int 16), (5, .ref (q + 11)), (4, .ref (q + 10)), (2, .int 0), (3, .ref sz), (0, .ref y), (1, .int 1)]) hx hb dX15_compiled_57 hl (by decide) rfl (fun ls hl => ?_)
  refine lv_iload_n hx hb dX15_compiled_59 rfl (lv_at hl 5 rfl) ?_
  refine lv_aloadN hx hb dX15_compiled_60 (lv_at hl 0 rfl) ?_
  refine lv_ifnullN (tgt := 81) hx hb dX15_compiled_62 (by decide) ?_
  refine lv_iconst (v := 0) hx hb dX15_compiled_81 (by decide) ?_
  refine lv_iadd hx hb dX15_compiled_82 ?_
  rw [show (0 + 0 : Int32) = 0 by decide +kernel]
  refine lv_istore_n (lv' := [(2, .int 0), (8, .null), (7, .int 0), (6, .int 16), (5, .ref (q + 11)), (4, .ref (q + 10)), (3, .ref sz), (0, .ref y), (1, .int 1)]) hx hb dX15_compiled_83 rfl hl (by decide) rfl (fun ls hl => ?_)
  refine lv_iinc (v := 1) (lv' := [(7, .int 1), (2, .int 0), (8, .null), (6, .int 16), (5, .ref (q + 11)), (4, .ref (q + 10)), (3, .ref sz), (0, .ref y), (1, .int 1)]) hx hb dX15_compiled_84 hl (k := 2) rfl (by decide) (by decide) rfl (fun ls hl => ?_)
  refine lv_goto (tgt := 45) hx hb dX15_compiled_87 (by decide) ?_
  refine lv_iload hx hb dX15_compiled_45 (lv_at hl 0 rfl) ?_
  refine lv_iload hx hb dX15_compiled_47 (lv_at hl 3 rfl) ?_
  refine lv_icmp_ge (tgt := 90) hx hb dX15_compiled_49 (by decide) (fun c => absurd c (by decide)) (fun _ => ?_)
  refine lv_aload hx hb dX15_compiled_52 (lv_at hl 4 rfl) ?_
  refine lv_iload hx hb dX15_compiled_54 (lv_at hl 0 rfl) ?_
  refine va_aldq hx hb hE.1 (g_1 w.1 (g_up_o (by omega) m12)) 0 9 rfl rfl (vp_in_nI (n := 1) (by decide) (by decide)) dX15_compiled_56 ?_
  show W p l e _ s m _ below meth c _ _ _ _ _ (F0 m 57 ls (.null :: _))
  refine lv_astoreN (lv' := [(8, .null), (7, .int 1), (2, .int 0), (6, .int 16), (5, .ref (q + 11)), (4, .ref (q + 10)), (3, .ref sz), (0, .ref y), (1, .int 1)]) hx hb dX15_compiled_57 hl (by decide) rfl (fun ls hl => ?_)
  refine lv_iload_n hx hb dX15_compiled_59 rfl (lv_at hl 2 rfl) ?_
  refine lv_aloadN hx hb dX15_compiled_60 (lv_at hl 0 rfl) ?_
  refine lv_ifnullN (tgt := 81) hx hb dX15_compiled_62 (by decide) ?_
  refine lv_iconst (v := 0) hx hb dX15_compiled_81 (by decide) ?_
  refine lv_iadd hx hb dX15_compiled_82 ?_
  rw [show (0 + 0 : Int32) = 0 by decide +kernel]
  refine lv_istore_n (lv' := [(2, .int 0), (8, .null), (7, .int 1), (6, .int 16), (5, .ref (q + 11)), (4, .ref (q + 10)), (3, .ref sz), (0, .ref y), (1, .int 1)]) hx hb dX15_compiled_83 rfl hl (by decide) rfl (fun ls hl => ?_)
  refine lv_iinc (v := 2) (lv' := [(7, .int 2), (2, .int 0), (8, .null), (6, .int 16), (5, .ref (q + 11)), (4, .ref (q + 10)), (3, .ref sz), (0, .ref y), (1, .int 1)]) hx hb dX15_compiled_84 hl (k := 2) rfl (by decide) (by decide) rfl (fun ls hl => ?_)
  refine lv_goto (tgt := 45) hx hb dX15_compiled_87 (by decide) ?_
  refine lv_iload hx hb dX15_compiled_45 (lv_at hl 0 rfl) ?_
  refine lv_iload hx hb dX15_compiled_47 (lv_at hl 3 rfl) ?_
  refine lv_icmp_ge (tgt := 90) hx hb dX15_compiled_49 (by decide) (fun c => absurd c (by decide)) (fun _ => ?_)
  refine lv_aload hx hb dX15_compiled_52 (lv_at hl 4 rfl) ?_
  refine lv_iload hx hb dX15_compiled_54 (lv_at hl 0 rfl) ?_
  refine va_aldq hx hb hE.1 (g_1 w.1 (g_up_o (by omega) m12)) 0 9 rfl rfl (vp_in_nI (n := 2) (by decide) (by decide)) dX15_compiled_56 ?_
  show W p l e _ s m _ below meth c _ _ _ _ _ (F0 m 57 ls (.null :: _))
  refine lv_astoreN (lv' := [(8, .null), (7, .int 2), (2, .int 0), (6, .int 16), (5, .ref (q + 11)), (4, .ref (q + 10)), (3, .ref sz), (0, .ref y), (1, .int 1)]) hx hb dX15_compiled_57 hl (by decide) rfl (fun ls hl => ?_)
  refine lv_iload_n hx hb dX15_compiled_59 rfl (lv_at hl 2 rfl) ?_
  refine lv_aloadN hx hb dX15_compiled_60 (lv_at hl 0 rfl) ?_
  refine lv_ifnullN (tgt := 81) hx hb dX15_compiled_62 (by decide) ?_
  refine lv_iconst (v := 0) hx hb dX15_compiled_81 (by decide) ?_
  refine lv_iadd hx hb dX15_compiled_82 ?_
  rw [show (0 + 0 : Int32) = 0 by decide +kernel]
  refine lv_istore_n (lv' := [(2, .int 0), (8, .null), (7, .int 2), (6, .int 16), (5, .ref (q + 11)), (4, .ref (q + 10)), (3, .ref sz), (0, .ref y), (1, .int 1)]) hx hb dX15_compiled_83 rfl hl (by decide) rfl (fun ls hl => ?_)
  refine lv_iinc (v := 3) (lv' := [(7, .int 3), (2, .int 0), (8, .null), (6, .int 16), (5, .ref (q + 11)), (4, .ref (q + 10)), (3, .ref sz), (0, .ref y), (1, .int 1)]) hx hb dX15_compiled_84 hl (k := 2) rfl (by decide) (by decide) rfl (fun ls hl => ?_)
  refine lv_goto (tgt := 45) hx hb dX15_compiled_87 (by decide) ?_
  refine lv_iload hx hb dX15_compiled_45 (lv_at hl 0 rfl) ?_
  refine lv_iload hx hb dX15_compiled_47 (lv_at hl 3 rfl) ?_
  refine lv_icmp_ge (tgt := 90) hx hb dX15_compiled_49 (by decide) (fun c => absurd c (by decide)) (fun _ => ?_)
  refine lv_aload hx hb dX15_compiled_52 (lv_at hl 4 rfl) ?_
  refine lv_iload hx hb dX15_compiled_54 (lv_at hl 0 rfl) ?_
  refine va_aldq hx hb hE.1 (g_1 w.1 (g_up_o (by omega) m12)) 0 9 rfl rfl (vp_in_nI (n := 3) (by decide) (by decide)) dX15_compiled_56 ?_
  show W p l e _ s m _ below meth c _ _ _ _ _ (F0 m 57 ls (.null :: _))
  refine lv_astoreN (lv' := [(8, .null), (7, .int 3), (2, .int 0), (6, .int 16), (5, .ref (q + 11)), (4, .ref (q + 10)), (3, .ref sz), (0, .ref y), (1, .int 1)]) hx hb dX15_compiled_57 hl (by decide) rfl (fun ls hl => ?_)
  refine lv_iload_n hx hb dX15_compiled_59 rfl (lv_at hl 2 rfl) ?_
  refine lv_aloadN hx hb dX15_compiled_60 (lv_at hl 0 rfl) ?_
  refine lv_ifnullN (tgt := 81) hx hb dX15_compiled_62 (by decide) ?_
  refine lv_iconst (v := 0) hx hb dX15_compiled_81 (by decide) ?_
  refine lv_iadd hx hb dX15_compiled_82 ?_
  rw [show (0 + 0 : Int32) = 0 by decide +kernel]
  refine lv_istore_n (lv' := [(2, .int 0), (8, .null), (7, .int 3), (6, .int 16), (5, .ref (q + 11)), (4, .ref (q + 10)), (3, .ref sz), (0, .ref y), (1, .int 1)]) hx hb dX15_compiled_83 rfl hl (by decide) rfl (fun ls hl => ?_)
  refine lv_iinc (v := 4) (lv' := [(7, .int 4), (2, .int 0), (8, .null), (6, .int 16), (5, .ref (q + 11)), (4, .ref (q + 10)), (3, .ref sz), (0, .ref y), (1, .int 1)]) hx hb dX15_compiled_84 hl (k := 2) rfl (by decide) (by decide) rfl (fun ls hl => ?_)
  refine lv_goto (tgt := 45) hx hb dX15_compiled_87 (by decide) ?_
  refine lv_iload hx hb dX15_compiled_45 (lv_at hl 0 rfl) ?_
  refine lv_iload hx hb dX15_compiled_47 (lv_at hl 3 rfl) ?_
  refine lv_icmp_ge (tgt := 90) hx hb dX15_compiled_49 (by decide) (fun c => absurd c (by decide)) (fun _ => ?_)
  refine lv_aload hx hb dX15_compiled_52 (lv_at hl 4 rfl) ?_
  refine lv_iload hx hb dX15_compiled_54 (lv_at hl 0 rfl) ?_
  refine va_aldq hx hb hE.1 (g_1 w.1 (g_up_o (by omega) m12)) 0 9 rfl rfl (vp_in_nI (n := 4) (by decide) (by decide)) dX15_compiled_56 ?_
  show W p l e _ s m _ below meth c _ _ _ _ _ (F0 m 57 ls (.null :: _))
  refine lv_astoreN (lv' := [(8, .null), (7, .int 4), (2, .int 0), (6, .int 16), (5, .ref (q + 11)), (4, .ref (q + 10)), (3, .ref sz), (0, .ref y), (1, .int 1)]) hx hb dX15_compiled_57 hl (by decide) rfl (fun ls hl => ?_)
  refine lv_iload_n hx hb dX15_compiled_59 rfl (lv_at hl 2 rfl) ?_
  refine lv_aloadN hx hb dX15_compiled_60 (lv_at hl 0 rfl) ?_
  refine lv_ifnullN (tgt := 81) hx hb dX15_compiled_62 (by decide) ?_
  refine lv_iconst (v := 0) hx hb dX15_compiled_81 (by decide) ?_
  refine lv_iadd hx hb dX15_compiled_82 ?_
  rw [show (0 + 0 : Int32) = 0 by decide +kernel]
  refine lv_istore_n (lv' := [(2, .int 0), (8, .null), (7, .int 4), (6, .int 16), (5, .ref (q + 11)), (4, .ref (q + 10)), (3, .ref sz), (0, .ref y), (1, .int 1)]) hx hb dX15_compiled_83 rfl hl (by decide) rfl (fun ls hl => ?_)
  refine lv_iinc (v := 5) (lv' := [(7, .int 5), (2, .int 0), (8, .null), (6, .int 16), (5, .ref (q + 11)), (4, .ref (q + 10)), (3, .ref sz), (0, .ref y), (1, .int 1)]) hx hb dX15_compiled_84 hl (k := 2) rfl (by decide) (by decide) rfl (fun ls hl => ?_)
  refine lv_goto (tgt := 45) hx hb dX15_compiled_87 (by decide) ?_
  refine lv_iload hx hb dX15_compiled_45 (lv_at hl 0 rfl) ?_
  refine lv_iload hx hb dX15_compiled_47 (lv_at hl 3 rfl) ?_
  refine lv_icmp_ge (tgt := 90) hx hb dX15_compiled_49 (by decide) (fun c => absurd c (by decide)) (fun _ => ?_)
  refine lv_aload hx hb dX15_compiled_52 (lv_at hl 4 rfl) ?_
  refine lv_iload hx hb dX15_compiled_54 (lv_at hl 0 rfl) ?_
  refine va_aldq hx hb hE.1 (g_1 w.1 (g_up_o (by omega) m12)) 0 9 rfl rfl (vp_in_nI (n := 5) (by decide) (by decide)) dX15_compiled_56 ?_
  show W p l e _ s m _ below meth c _ _ _ _ _ (F0 m 57 ls (.null :: _))
  refine lv_astoreN (lv' := [(8, .null), (7, .int 5), (2, .int 0), (6, .int 16), (5, .ref (q + 11)), (4, .ref (q + 10)), (3, .ref sz), (0, .ref y), (1, .int 1)]) hx hb dX15_compiled_57 hl (by decide) rfl (fun ls hl => ?_)
  refine lv_iload_n hx hb dX15_compiled_59 rfl (lv_at hl 2 rfl) ?_
  refine lv_aloadN hx hb dX15_compiled_60 (lv_at hl 0 rfl) ?_
  refine lv_ifnullN (tgt := 81) hx hb dX15_compiled_62 (by decide) ?_
  refine lv_iconst (v := 0) hx hb dX15_compiled_81 (by decide) ?_
  refine lv_iadd hx hb dX15_compiled_82 ?_
  rw [show (0 + 0 : Int32) = 0 by decide +kernel]
  refine lv_istore_n (lv' := [(2, .int 0), (8, .null), (7, .int 5), (6, .int 16), (5, .ref (q + 11)), (4, .ref (q + 10)), (3, .ref sz), (0, .ref y), (1, .int 1)]) hx hb dX15_compiled_83 rfl hl (by decide) rfl (fun ls hl => ?_)
  refine lv_iinc (v := 6) (lv' := [(7, .int 6), (2, .int 0), (8, .null), (6, .int 16), (5, .ref (q + 11)), (4, .ref (q + 10)), (3, .ref sz), (0, .ref y), (1, .int 1)]) hx hb dX15_compiled_84 hl (k := 2) rfl (by decide) (by decide) rfl (fun ls hl => ?_)
  refine lv_goto (tgt := 45) hx hb dX15_compiled_87 (by decide) ?_
  refine lv_iload hx hb dX15_compiled_45 (lv_at hl 0 rfl) ?_
  refine lv_iload hx hb dX15_compiled_47 (lv_at hl 3 rfl) ?_
  refine lv_icmp_ge (tgt := 90) hx hb dX15_compiled_49 (by decide) (fun c => absurd c (by decide)) (fun _ => ?_)
  refine lv_aload hx hb dX15_compiled_52 (lv_at hl 4 rfl) ?_
  refine lv_iload hx hb dX15_compiled_54 (lv_at hl 0 rfl) ?_
  refine va_aldq hx hb hE.1 (g_1 w.1 (g_up_o (by omega) m12)) 0 9 rfl rfl (vp_in_nI (n := 6) (by decide) (by decide)) dX15_compiled_56 ?_
  show W p l e _ s m _ below meth c _ _ _ _ _ (F0 m 57 ls (.null :: _))
  refine lv_astoreN (lv' := [(8, .null), (7, .int 6), (2, .int 0), (6, .int 16), (5, .ref (q + 11)), (4, .ref (q + 10)), (3, .ref sz), (0, .ref y), (1, .int 1)]) hx hb dX15_compiled_57 hl (by decide) rfl (fun ls hl => ?_)
  refine lv_iload_n hx hb dX15_compiled_59 rfl (lv_at hl 2 rfl) ?_
  refine lv_aloadN hx hb dX15_compiled_60 (lv_at hl 0 rfl) ?_
  refine lv_ifnullN (tgt := 81) hx hb dX15_compiled_62 (by decide) ?_
  refine lv_iconst (v := 0) hx hb dX15_compiled_81 (by decide) ?_
  refine lv_iadd hx hb dX15_compiled_82 ?_
  rw [show (0 + 0 : Int32) = 0 by decide +kernel]
  refine lv_istore_n (lv' := [(2, .int 0), (8, .null), (7, .int 6), (6, .int 16), (5, .ref (q + 11)), (4, .ref (q + 10)), (3, .ref sz), (0, .ref y), (1, .int 1)]) hx hb dX15_compiled_83 rfl hl (by decide) rfl (fun ls hl => ?_)
  refine lv_iinc (v := 7) (lv' := [(7, .int 7), (2, .int 0), (8, .null), (6, .int 16), (5, .ref (q + 11)), (4, .ref (q + 10)), (3, .ref sz), (0, .ref y), (1, .int 1)]) hx hb dX15_compiled_84 hl (k := 2) rfl (by decide) (by decide) rfl (fun ls hl => ?_)
  refine lv_goto (tgt := 45) hx hb dX15_compiled_87 (by decide) ?_
  refine lv_iload hx hb dX15_compiled_45 (lv_at hl 0 rfl) ?_
  refine lv_iload hx hb dX15_compiled_47 (lv_at hl 3 rfl) ?_
  refine lv_icmp_ge (tgt := 90) hx hb dX15_compiled_49 (by decide) (fun c => absurd c (by decide)) (fun _ => ?_)
  refine lv_aload hx hb dX15_compiled_52 (lv_at hl 4 rfl) ?_
  refine lv_iload hx hb dX15_compiled_54 (lv_at hl 0 rfl) ?_
  refine va_aldq hx hb hE.1 (g_1 w.1 (g_up_o (by omega) m12)) 0 9 rfl rfl (vp_in_nI (n := 7) (by decide) (by decide)) dX15_compiled_56 ?_
  show W p l e _ s m _ below meth c _ _ _ _ _ (F0 m 57 ls (.null :: _))
  refine lv_astoreN (lv' := [(8, .null), (7, .int 7), (2, .int 0), (6, .int 16), (5, .ref (q + 11)), (4, .ref (q + 10)), (3, .ref sz), (0, .ref y), (1, .int 1)]) hx hb dX15_compiled_57 hl (by decide) rfl (fun ls hl => ?_)
  refine lv_iload_n hx hb dX15_compiled_59 rfl (lv_at hl 2 rfl) ?_
  refine lv_aloadN hx hb dX15_compiled_60 (lv_at hl 0 rfl) ?_
  refine lv_ifnullN (tgt := 81) hx hb dX15_compiled_62 (by decide) ?_
  refine lv_iconst (v := 0) hx hb dX15_compiled_81 (by decide) ?_
  refine lv_iadd hx hb dX15_compiled_82 ?_
  rw [show (0 + 0 : Int32) = 0 by decide +kernel]
  refine lv_istore_n (lv' := [(2, .int 0), (8, .null), (7, .int 7), (6, .int 16), (5, .ref (q + 11)), (4, .ref (q + 10)), (3, .ref sz), (0, .ref y), (1, .int 1)]) hx hb dX15_compiled_83 rfl hl (by decide) rfl (fun ls hl => ?_)
  refine lv_iinc (v := 8) (lv' := [(7, .int 8), (2, .int 0), (8, .null), (6, .int 16), (5, .ref (q + 11)), (4, .ref (q + 10)), (3, .ref sz), (0, .ref y), (1, .int 1)]) hx hb dX15_compiled_84 hl (k := 2) rfl (by decide) (by decide) rfl (fun ls hl => ?_)
  refine lv_goto (tgt := 45) hx hb dX15_compiled_87 (by decide) ?_
  refine lv_iload hx hb dX15_compiled_45 (lv_at hl 0 rfl) ?_
  refine lv_iload hx hb dX15_compiled_47 (lv_at hl 3 rfl) ?_
  refine lv_icmp_ge (tgt := 90) hx hb dX15_compiled_49 (by decide) (fun c => absurd c (by decide)) (fun _ => ?_)
  refine lv_aload hx hb dX15_compiled_52 (lv_at hl 4 rfl) ?_
  refine lv_iload hx hb dX15_compiled_54 (lv_at hl 0 rfl) ?_
  refine va_aldq hx hb hE.1 (g_1 w.1 (g_up_o (by omega) m12)) 0 9 rfl rfl (vp_in_nI (n := 8) (by decide) (by decide)) dX15_compiled_56 ?_
  show W p l e _ s m _ below meth c _ _ _ _ _ (F0 m 57 ls (.null :: _))
  refine lv_astoreN (lv' := [(8, .null), (7, .int 8), (2, .int 0), (6, .int 16), (5, .ref (q + 11)), (4, .ref (q + 10)), (3, .ref sz), (0, .ref y), (1, .int 1)]) hx hb dX15_compiled_57 hl (by decide) rfl (fun ls hl => ?_)
  refine lv_iload_n hx hb dX15_compiled_59 rfl (lv_at hl 2 rfl) ?_
  refine lv_aloadN hx hb dX15_compiled_60 (lv_at hl 0 rfl) ?_
  refine lv_ifnullN (tgt := 81) hx hb dX15_compiled_62 (by decide) ?_
  refine lv_iconst (v := 0) hx hb dX15_compiled_81 (by decide) ?_
  refine lv_iadd hx hb dX15_compiled_82 ?_
  rw [show (0 + 0 : Int32) = 0 by decide +kernel]
  refine lv_istore_n (lv' := [(2, .int 0), (8, .null), (7, .int 8), (6, .int 16), (5, .ref (q + 11)), (4, .ref (q + 10)), (3, .ref sz), (0, .ref y), (1, .int 1)]) hx hb dX15_compiled_83 rfl hl (by decide) rfl (fun ls hl => ?_)
  refine lv_iinc (v := 9) (lv' := [(7, .int 9), (2, .int 0), (8, .null), (6, .int 16), (5, .ref (q + 11)), (4, .ref (q + 10)), (3, .ref sz), (0, .ref y), (1, .int 1)]) hx hb dX15_compiled_84 hl (k := 2) rfl (by decide) (by decide) rfl (fun ls hl => ?_)
  refine lv_goto (tgt := 45) hx hb dX15_compiled_87 (by decide) ?_
  refine lv_iload hx hb dX15_compiled_45 (lv_at hl 0 rfl) ?_
  refine lv_iload hx hb dX15_compiled_47 (lv_at hl 3 rfl) ?_
  refine lv_icmp_ge (tgt := 90) hx hb dX15_compiled_49 (by decide) (fun c => absurd c (by decide)) (fun _ => ?_)
  refine lv_aload hx hb dX15_compiled_52 (lv_at hl 4 rfl) ?_
  refine lv_iload hx hb dX15_compiled_54 (lv_at hl 0 rfl) ?_
  refine va_aldq hx hb hE.1 (g_1 w.1 (g_up_o (by omega) m12)) 0 9 rfl rfl (vp_in_nI (n := 9) (by decide) (by decide)) dX15_compiled_56 ?_
  show W p l e _ s m _ below meth c _ _ _ _ _ (F0 m 57 ls (.null :: _))
  refine lv_astoreN (lv' := [(8, .null), (7, .int 9), (2, .int 0), (6, .int 16), (5, .ref (q + 11)), (4, .ref (q + 10)), (3, .ref sz), (0, .ref y), (1, .int 1)]) hx hb dX15_compiled_57 hl (by decide) rfl (fun ls hl => ?_)
  refine lv_iload_n hx hb dX15_compiled_59 rfl (lv_at hl 2 rfl) ?_
  refine lv_aloadN hx hb dX15_compiled_60 (lv_at hl 0 rfl) ?_
  refine lv_ifnullN (tgt := 81) hx hb dX15_compiled_62 (by decide) ?_
  refine lv_iconst (v := 0) hx hb dX15_compiled_81 (by decide) ?_
  refine lv_iadd hx hb dX15_compiled_82 ?_
  rw [show (0 + 0 : Int32) = 0 by decide +kernel]
  refine lv_istore_n (lv' := [(2, .int 0), (8, .null), (7, .int 9), (6, .int 16), (5, .ref (q + 11)), (4, .ref (q + 10)), (3, .ref sz), (0, .ref y), (1, .int 1)]) hx hb dX15_compiled_83 rfl hl (by decide) rfl (fun ls hl => ?_)
  refine lv_iinc (v := 10) (lv' := [(7, .int 10), (2, .int 0), (8, .null), (6, .int 16), (5, .ref (q + 11)), (4, .ref (q + 10)), (3, .ref sz), (0, .ref y), (1, .int 1)]) hx hb dX15_compiled_84 hl (k := 2) rfl (by decide) (by decide) rfl (fun ls hl => ?_)
  refine lv_goto (tgt := 45) hx hb dX15_compiled_87 (by decide) ?_
  refine lv_iload hx hb dX15_compiled_45 (lv_at hl 0 rfl) ?_
  refine lv_iload hx hb dX15_compiled_47 (lv_at hl 3 rfl) ?_
  refine lv_icmp_ge (tgt := 90) hx hb dX15_compiled_49 (by decide) (fun c => absurd c (by decide)) (fun _ => ?_)
  refine lv_aload hx hb dX15_compiled_52 (lv_at hl 4 rfl) ?_
  refine lv_iload hx hb dX15_compiled_54 (lv_at hl 0 rfl) ?_
  refine va_aldq hx hb hE.1 (g_1 w.1 (g_up_o (by omega) m12)) 0 9 rfl rfl (vp_in_nI (n := 10) (by decide) (by decide)) dX15_compiled_56 ?_
  show W p l e _ s m _ below meth c _ _ _ _ _ (F0 m 57 ls (.null :: _))
  refine lv_astoreN (lv' := [(8, .null), (7, .int 10), (2, .int 0), (6, .int 16), (5, .ref (q + 11)), (4, .ref (q + 10)), (3, .ref sz), (0, .ref y), (1, .int 1)]) hx hb dX15_compiled_57 hl (by decide) rfl (fun ls hl => ?_)
  refine lv_iload_n hx hb dX15_compiled_59 rfl (lv_at hl 2 rfl) ?_
  refine lv_aloadN hx hb dX15_compiled_60 (lv_at hl 0 rfl) ?_
  refine lv_ifnullN (tgt := 81) hx hb dX15_compiled_62 (by decide) ?_
  refine lv_iconst (v := 0) hx hb dX15_compiled_81 (by decide) ?_
  refine lv_iadd hx hb dX15_compiled_82 ?_
  rw [show (0 + 0 : Int32) = 0 by decide +kernel]
  refine lv_istore_n (lv' := [(2, .int 0), (8, .null), (7, .int 10), (6, .int 16), (5, .ref (q + 11)), (4, .ref (q + 10)), (3, .ref sz), (0, .ref y), (1, .int 1)]) hx hb dX15_compiled_83 rfl hl (by decide) rfl (fun ls hl => ?_)
  refine lv_iinc (v := 11) (lv' := [(7, .int 11), (2, .int 0), (8, .null), (6, .int 16), (5, .ref (q + 11)), (4, .ref (q + 10)), (3, .ref sz), (0, .ref y), (1, .int 1)]) hx hb dX15_compiled_84 hl (k := 2) rfl (by decide) (by decide) rfl (fun ls hl => ?_)
  refine lv_goto (tgt := 45) hx hb dX15_compiled_87 (by decide) ?_
  refine lv_iload hx hb dX15_compiled_45 (lv_at hl 0 rfl) ?_
  refine lv_iload hx hb dX15_compiled_47 (lv_at hl 3 rfl) ?_
  refine lv_icmp_ge (tgt := 90) hx hb dX15_compiled_49 (by decide) (fun c => absurd c (by decide)) (fun _ => ?_)
  refine lv_aload hx hb dX15_compiled_52 (lv_at hl 4 rfl) ?_
  refine lv_iload hx hb dX15_compiled_54 (lv_at hl 0 rfl) ?_
  refine va_aldq hx hb hE.1 (g_1 w.1 (g_up_o (by omega) m12)) 0 9 rfl rfl (vp_in_nI (n := 11) (by decide) (by decide)) dX15_compiled_56 ?_
  show W p l e _ s m _ below meth c _ _ _ _ _ (F0 m 57 ls (.null :: _))
  refine lv_astoreN (lv' := [(8, .null), (7, .int 11), (2, .int 0), (6, .int 16), (5, .ref (q + 11)), (4, .ref (q + 10)), (3, .ref sz), (0, .ref y), (1, .int 1)]) hx hb dX15_compiled_57 hl (by decide) rfl (fun ls hl => ?_)
  refine lv_iload_n hx hb dX15_compiled_59 rfl (lv_at hl 2 rfl) ?_
  refine lv_aloadN hx hb dX15_compiled_60 (lv_at hl 0 rfl) ?_
  refine lv_ifnullN (tgt := 81) hx hb dX15_compiled_62 (by decide) ?_
  refine lv_iconst (v := 0) hx hb dX15_compiled_81 (by decide) ?_
  refine lv_iadd hx hb dX15_compiled_82 ?_
  rw [show (0 + 0 : Int32) = 0 by decide +kernel]
  refine lv_istore_n (lv' := [(2, .int 0), (8, .null), (7, .int 11), (6, .int 16), (5, .ref (q + 11)), (4, .ref (q + 10)), (3, .ref sz), (0, .ref y), (1, .int 1)]) hx hb dX15_compiled_83 rfl hl (by decide) rfl (fun ls hl => ?_)
  refine lv_iinc (v := 12) (lv' := [(7, .int 12), (2, .int 0), (8, .null), (6, .int 16), (5, .ref (q + 11)), (4, .ref (q + 10)), (3, .ref sz), (0, .ref y), (1, .int 1)]) hx hb dX15_compiled_84 hl (k := 2) rfl (by decide) (by decide) rfl (fun ls hl => ?_)
  refine lv_goto (tgt := 45) hx hb dX15_compiled_87 (by decide) ?_
  refine lv_iload hx hb dX15_compiled_45 (lv_at hl 0 rfl) ?_
  refine lv_iload hx hb dX15_compiled_47 (lv_at hl 3 rfl) ?_
  refine lv_icmp_ge (tgt := 90) hx hb dX15_compiled_49 (by decide) (fun c => absurd c (by decide)) (fun _ => ?_)
  refine lv_aload hx hb dX15_compiled_52 (lv_at hl 4 rfl) ?_
  refine lv_iload hx hb dX15_compiled_54 (lv_at hl 0 rfl) ?_
  refine va_aldq hx hb hE.1 (g_1 w.1 (g_up_o (by omega) m12)) 0 9 rfl rfl (vp_in_nI (n := 12) (by decide) (by decide)) dX15_compiled_56 ?_
  show W p l e _ s m _ below meth c _ _ _ _ _ (F0 m 57 ls (.null :: _))
  refine lv_astoreN (lv' := [(8, .null), (7, .int 12), (2, .int 0), (6, .int 16), (5, .ref (q + 11)), (4, .ref (q + 10)), (3, .ref sz), (0, .ref y), (1, .int 1)]) hx hb dX15_compiled_57 hl (by decide) rfl (fun ls hl => ?_)
  refine lv_iload_n hx hb dX15_compiled_59 rfl (lv_at hl 2 rfl) ?_
  refine lv_aloadN hx hb dX15_compiled_60 (lv_at hl 0 rfl) ?_
  refine lv_ifnullN (tgt := 81) hx hb dX15_compiled_62 (by decide) ?_
  refine lv_iconst (v := 0) hx hb dX15_compiled_81 (by decide) ?_
  refine lv_iadd hx hb dX15_compiled_82 ?_
  rw [show (0 + 0 : Int32) = 0 by decide +kernel]
  refine lv_istore_n (lv' := [(2, .int 0), (8, .null), (7, .int 12), (6, .int 16), (5, .ref (q + 11)), (4, .ref (q + 10)), (3, .ref sz), (0, .ref y), (1, .int 1)]) hx hb dX15_compiled_83 rfl hl (by decide) rfl (fun ls hl => ?_)
  refine lv_iinc (v := 13) (lv' := [(7, .int 13), (2, .int 0), (8, .null), (6, .int 16), (5, .ref (q + 11)), (4, .ref (q + 10)), (3, .ref sz), (0, .ref y), (1, .int 1)]) hx hb dX15_compiled_84 hl (k := 2) rfl (by decide) (by decide) rfl (fun ls hl => ?_)
  refine lv_goto (tgt := 45) hx hb dX15_compiled_87 (by decide) ?_
  refine lv_iload hx hb dX15_compiled_45 (lv_at hl 0 rfl) ?_
  refine lv_iload hx hb dX15_compiled_47 (lv_at hl 3 rfl) ?_
  refine lv_icmp_ge (tgt := 90) hx hb dX15_compiled_49 (by decide) (fun c => absurd c (by decide)) (fun _ => ?_)
  refine lv_aload hx hb dX15_compiled_52 (lv_at hl 4 rfl) ?_
  refine lv_iload hx hb dX15_compiled_54 (lv_at hl 0 rfl) ?_
  refine va_aldq hx hb hE.1 (g_1 w.1 (g_up_o (by omega) m12)) 0 9 rfl rfl (vp_in_nI (n := 13) (by decide) (by decide)) dX15_compiled_56 ?_
  show W p l e _ s m _ below meth c _ _ _ _ _ (F0 m 57 ls (.null :: _))
  refine lv_astoreN (lv' := [(8, .null), (7, .int 13), (2, .int 0), (6, .int 16), (5, .ref (q + 11)), (4, .ref (q + 10)), (3, .ref sz), (0, .ref y), (1, .int 1)]) hx hb dX15_compiled_57 hl (by decide) rfl (fun ls hl => ?_)
  refine lv_iload_n hx hb dX15_compiled_59 rfl (lv_at hl 2 rfl) ?_
  refine lv_aloadN hx hb dX15_compiled_60 (lv_at hl 0 rfl) ?_
  refine lv_ifnullN (tgt := 81) hx hb dX15_compiled_62 (by decide) ?_
  refine lv_iconst (v := 0) hx hb dX15_compiled_81 (by decide) ?_
  refine lv_iadd hx hb dX15_compiled_82 ?_
  rw [show (0 + 0 : Int32) = 0 by decide +kernel]
  refine lv_istore_n (lv' := [(2, .int 0), (8, .null), (7, .int 13), (6, .int 16), (5, .ref (q + 11)), (4, .ref (q + 10)), (3, .ref sz), (0, .ref y), (1, .int 1)]) hx hb dX15_compiled_83 rfl hl (by decide) rfl (fun ls hl => ?_)
  refine lv_iinc (v := 14) (lv' := [(7, .int 14), (2, .int 0), (8, .null), (6, .int 16), (5, .ref (q + 11)), (4, .ref (q + 10)), (3, .ref sz), (0, .ref y), (1, .int 1)]) hx hb dX15_compiled_84 hl (k := 2) rfl (by decide) (by decide) rfl (fun ls hl => ?_)
  refine lv_goto (tgt := 45) hx hb dX15_compiled_87 (by decide) ?_
  refine lv_iload hx hb dX15_compiled_45 (lv_at hl 0 rfl) ?_
  refine lv_iload hx hb dX15_compiled_47 (lv_at hl 3 rfl) ?_
  refine lv_icmp_ge (tgt := 90) hx hb dX15_compiled_49 (by decide) (fun c => absurd c (by decide)) (fun _ => ?_)
  refine lv_aload hx hb dX15_compiled_52 (lv_at hl 4 rfl) ?_
  refine lv_iload hx hb dX15_compiled_54 (lv_at hl 0 rfl) ?_
  refine va_aldq hx hb hE.1 (g_1 w.1 (g_up_o (by omega) m12)) 0 9 rfl rfl (vp_in_nI (n := 14) (by decide) (by decide)) dX15_compiled_56 ?_
  show W p l e _ s m _ below meth c _ _ _ _ _ (F0 m 57 ls (.null :: _))
  refine lv_astoreN (lv' := [(8, .null), (7, .int 14), (2, .int 0), (6, .int 16), (5, .ref (q + 11)), (4, .ref (q + 10)), (3, .ref sz), (0, .ref y), (1, .int 1)]) hx hb dX15_compiled_57 hl (by decide) rfl (fun ls hl => ?_)
  refine lv_iload_n hx hb dX15_compiled_59 rfl (lv_at hl 2 rfl) ?_
  refine lv_aloadN hx hb dX15_compiled_60 (lv_at hl 0 rfl) ?_
  refine lv_ifnullN (tgt := 81) hx hb dX15_compiled_62 (by decide) ?_
  refine lv_iconst (v := 0) hx hb dX15_compiled_81 (by decide) ?_
  refine lv_iadd hx hb dX15_compiled_82 ?_
  rw [show (0 + 0 : Int32) = 0 by decide +kernel]
  refine lv_istore_n (lv' := [(2, .int 0), (8, .null), (7, .int 14), (6, .int 16), (5, .ref (q + 11)), (4, .ref (q + 10)), (3, .ref sz), (0, .ref y), (1, .int 1)]) hx hb dX15_compiled_83 rfl hl (by decide) rfl (fun ls hl => ?_)
  refine lv_iinc (v := 15) (lv' := [(7, .int 15), (2, .int 0), (8, .null), (6, .int 16), (5, .ref (q + 11)), (4, .ref (q + 10)), (3, .ref sz), (0, .ref y), (1, .int 1)]) hx hb dX15_compiled_84 hl (k := 2) rfl (by decide) (by decide) rfl (fun ls hl => ?_)
  refine lv_goto (tgt := 45) hx hb dX15_compiled_87 (by decide) ?_
  refine lv_iload hx hb dX15_compiled_45 (lv_at hl 0 rfl) ?_
  refine lv_iload hx hb dX15_compiled_47 (lv_at hl 3 rfl) ?_
  refine lv_icmp_ge (tgt := 90) hx hb dX15_compiled_49 (by decide) (fun c => absurd c (by decide)) (fun _ => ?_)
  refine lv_aload hx hb dX15_compiled_52 (lv_at hl 4 rfl) ?_
  refine lv_iload hx hb dX15_compiled_54 (lv_at hl 0 rfl) ?_
  refine va_aldq hx hb hE.1 (g_1 w.1 (g_up_o (by omega) m12)) 0 9 rfl rfl (vp_in_nI (n := 15) (by decide) (by decide)) dX15_compiled_56 ?_
  show W p l e _ s m _ below meth c _ _ _ _ _ (F0 m 57 ls (.null :: _))
  refine lv_astoreN (lv' := [(8, .null), (7, .int 15), (2, .int 0), (6, .int 16), (5, .ref (q + 11)), (4, .ref (q + 10)), (3, .ref sz), (0, .ref y), (1, .int 1)]) hx hb dX15_compiled_57 hl (by decide) rfl (fun ls hl => ?_)
  refine lv_iload_n hx hb dX15_compiled_59 rfl (lv_at hl 2 rfl) ?_
  refine lv_aloadN hx hb dX15_compiled_60 (lv_at hl 0 rfl) ?_
  refine lv_ifnullN (tgt := 81) hx hb dX15_compiled_62 (by decide) ?_
  refine lv_iconst (v := 0) hx hb dX15_compiled_81 (by decide) ?_
  refine lv_iadd hx hb dX15_compiled_82 ?_
  rw [show (0 + 0 : Int32) = 0 by decide +kernel]
  refine lv_istore_n (lv' := [(2, .int 0), (8, .null), (7, .int 15), (6, .int 16), (5, .ref (q + 11)), (4, .ref (q + 10)), (3, .ref sz), (0, .ref y), (1, .int 1)]) hx hb dX15_compiled_83 rfl hl (by decide) rfl (fun ls hl => ?_)
  refine lv_iinc (v := 16) (lv' := [(7, .int 16), (2, .int 0), (8, .null), (6, .int 16), (5, .ref (q + 11)), (4, .ref (q + 10)), (3, .ref sz), (0, .ref y), (1, .int 1)]) hx hb dX15_compiled_84 hl (k := 2) rfl (by decide) (by decide) rfl (fun ls hl => ?_)
  refine lv_goto (tgt := 45) hx hb dX15_compiled_87 (by decide) ?_
  refine lv_iload hx hb dX15_compiled_45 (lv_at hl 0 rfl) ?_
  refine lv_iload hx hb dX15_compiled_47 (lv_at hl 3 rfl) ?_
  refine lv_icmp_ge (tgt := 90) hx hb dX15_compiled_49 (by decide) (fun _ => ?_) (fun c => absurd (by decide) c)
  refine lv_goto (tgt := 10) hx hb dX15_compiled_90 (by decide) ?_
  refine lv_aload_n hx hb dX15_compiled_10 rfl (lv_at hl 6 rfl) ?_
  refine g_callFi w (g_runF (As := []) (rest := []) S hE w hl (c_hasNext l D ar κ (g_up G sz (.inr (2, [.int 2, .int 1, .int 3, .ref (q + 1)]))) (sz + 1) sz 2 1 (q + 1) 3 (some (q + 9)) 3 g_up_s (g_up_o (by omega) m2)) (kF_RX15_187_2 S.2.2.2.2 (hE.2.1.2.1 _ (List.mem_of_getElem? (i := 1) rfl)) ⟨Nat.le_of_ble_eq_true rfl, Nat.le_of_ble_eq_true rfl⟩) g_up_s rfl rfl rfl rfl (Nat.le_of_ble_eq_true rfl) dX15_compiled_11 ⟨Nat.le_of_ble_eq_true rfl, Nat.le_of_ble_eq_true rfl⟩) (fun r u H locs hp hnz w => ?_)
  obtain ⟨rfl, rfl⟩ := hp
  rw [show (if (2 : Int32) = 3 then (0 : Int32) else 1) = 1 from by decide]
  dsimp only at w
  refine lv_if_eq (tgt := 93) hx hb dX15_compiled_16 (by decide) (fun c => absurd c (by decide)) (fun _ => ?_)
  refine lv_aload_n hx hb dX15_compiled_19 rfl (lv_at hl 6 rfl) ?_
  refine g_callFq w (g_runF (As := []) (rest := []) S hE w hl (c_next_2 l D ar κ (g_up G sz (.inr (2, [.int 2, .int 1, .int 3, .ref (q + 1)]))) (sz + 1) sz 1 3 (q + 1) (q + 9) (va_up (va_up (va_up (fun _ => none) (Int32.toNatClampNeg 0) (some (q + 7))) (Int32.toNatClampNeg 1) (some (q + 10))) (Int32.toNatClampNeg 2) (some (q + 12))) g_up_s (g_up_o (by omega) m2) (g_up_o (by omega) m10)) (kF_RX15_192_2 S.2.2.2.2 (hE.2.1.2.1 _ (List.mem_of_getElem? (i := 2) rfl)) ⟨Nat.le_of_ble_eq_true rfl, Nat.le_of_ble_eq_true rfl⟩) g_up_s rfl rfl rfl rfl (Nat.le_of_ble_eq_true rfl) dX15_compiled_20 ⟨Nat.le_of_ble_eq_true rfl, Nat.le_of_ble_eq_true rfl⟩) (fun r u H locs hp hnz w => ?_)
  obtain ⟨rfl, rfl⟩ := hp
  rw [show (va_up (va_up (va_up (fun _ => none) (Int32.toNatClampNeg 0) (some (q + 7))) (Int32.toNatClampNeg 1) (some (q + 10))) (Int32.toNatClampNeg 2) (some (q + 12))) (Int32.toNatClampNeg 2) = some (q + 12) from rfl]
  show W p l e _ s m _ below meth c _ _ _ _ _ (F0 m _ ls (.ref (q + 12) :: _))
  dsimp only at w
  have w := g_eqw w g_over
  refine g_castS S hE w m_6_123 (g_up_o (by omega) m13) rfl rfl dX15_compiled_25 ?_
  refine lv_astore (lv' := [(4, .ref (q + 12)), (7, .int 16), (2, .int 0), (8, .null), (6, .int 16), (5, .ref (q + 11)), (3, .ref sz), (0, .ref y), (1, .int 1)]) hx hb dX15_compiled_28 hl (by decide) rfl (fun ls hl => ?_)
  refine lv_aload hx hb dX15_compiled_30 (lv_at hl 0 rfl) ?_
  refine gf_RX15_163_14 S hE w (g_up_o (by omega) m13) rfl dX15_compiled_32 ?_
  refine lv_astore (lv' := [(5, .ref (q + 13)), (4, .ref (q + 12)), (7, .int 16), (2, .int 0), (8, .null), (6, .int 16), (3, .ref sz), (0, .ref y), (1, .int 1)]) hx hb dX15_compiled_35 hl (by decide) rfl (fun ls hl => ?_)
  refine lv_aload hx hb dX15_compiled_37 (lv_at hl 0 rfl) ?_
  refine va_alen (v := 16) hx hb hE.1 (g_1 w.1 (g_up_o (by omega) m14)) 0 9 rfl rfl rfl dX15_compiled_39 ?_
  refine lv_istore (lv' := [(6, .int 16), (5, .ref (q + 13)), (4, .ref (q + 12)), (7, .int 16), (2, .int 0), (8, .null), (3, .ref sz), (0, .ref y), (1, .int 1)]) hx hb dX15_compiled_40 hl (by decide) rfl (fun ls hl => ?_)
  refine lv_iconst (v := 0) hx hb dX15_compiled_42 (by decide) ?_
  refine lv_istore (lv' := [(7, .int 0), (6, .int 16), (5, .ref (q + 13)), (4, .ref (q + 12)), (2, .int 0), (8, .null), (3, .ref sz), (0, .ref y), (1, .int 1)]) hx hb dX15_compiled_43 hl (by decide) rfl (fun ls hl => ?_)
  refine lv_iload hx hb dX15_compiled_45 (lv_at hl 0 rfl) ?_
  refine lv_iload hx hb dX15_compiled_47 (lv_at hl 1 rfl) ?_
  refine lv_icmp_ge (tgt := 90) hx hb dX15_compiled_49 (by decide) (fun c => absurd c (by decide)) (fun _ => ?_)
  refine lv_aload hx hb dX15_compiled_52 (lv_at hl 2 rfl) ?_
  refine lv_iload hx hb dX15_compiled_54 (lv_at hl 0 rfl) ?_
  refine va_aldq hx hb hE.1 (g_1 w.1 (g_up_o (by omega) m14)) 0 9 rfl rfl (vp_in_nI (n := 0) (by decide) (by decide)) dX15_compiled_56 ?_
  show W p l e _ s m _ below meth c _ _ _ _ _ (F0 m 57 ls (.null :: _))
  refine lv_astoreN (lv' := [(8, .null), (7, .int 0), (6, .int 16), (5, .ref (q + 13)), (4, .ref (q + 12)), (2, .int 0), (3, .ref sz), (0, .ref y), (1, .int 1)]) hx hb dX15_compiled_57 hl (by decide) rfl (fun ls hl => ?_)
  refine lv_iload_n hx hb dX15_compiled_59 rfl (lv_at hl 5 rfl) ?_
  refine lv_aloadN hx hb dX15_compiled_60 (lv_at hl 0 rfl) ?_
  refine lv_ifnullN (tgt := 81) hx hb dX15_compiled_62 (by decide) ?_
  refine lv_iconst (v := 0) hx hb dX15_compiled_81 (by decide) ?_
  refine lv_iadd hx hb dX15_compiled_82 ?_
  rw [show (0 + 0 : Int32) = 0 by decide +kernel]
  refine lv_istore_n (lv' := [(2, .int 0), (8, .null), (7, .int 0), (6, .int 16), (5, .ref (q + 13)), (4, .ref (q + 12)), (3, .ref sz), (0, .ref y), (1, .int 1)]) hx hb dX15_compiled_83 rfl hl (by decide) rfl (fun ls hl => ?_)
  refine lv_iinc (v := 1) (lv' := [(7, .int 1), (2, .int 0), (8, .null), (6, .int 16), (5, .ref (q + 13)), (4, .ref (q + 12)), (3, .ref sz), (0, .ref y), (1, .int 1)]) hx hb dX15_compiled_84 hl (k := 2) rfl (by decide) (by decide) rfl (fun ls hl => ?_)
  refine lv_goto (tgt := 45) hx hb dX15_compiled_87 (by decide) ?_
  refine lv_iload hx hb dX15_compiled_45 (lv_at hl 0 rfl) ?_
  refine lv_iload hx hb dX15_compiled_47 (lv_at hl 3 rfl) ?_
  refine lv_icmp_ge (tgt := 90) hx hb dX15_compiled_49 (by decide) (fun c => absurd c (by decide)) (fun _ => ?_)
  refine lv_aload hx hb dX15_compiled_52 (lv_at hl 4 rfl) ?_
  refine lv_iload hx hb dX15_compiled_54 (lv_at hl 0 rfl) ?_
  refine va_aldq hx hb hE.1 (g_1 w.1 (g_up_o (by omega) m14)) 0 9 rfl rfl (vp_in_nI (n := 1) (by decide) (by decide)) dX15_compiled_56 ?_
  show W p l e _ s m _ below meth c _ _ _ _ _ (F0 m 57 ls (.null :: _))
  refine lv_astoreN (lv' := [(8, .null), (7, .int 1), (2, .int 0), (6, .int 16), (5, .ref (q + 13)), (4, .ref (q + 12)), (3, .ref sz), (0, .ref y), (1, .int 1)]) hx hb dX15_compiled_57 hl (by decide) rfl (fun ls hl => ?_)
  refine lv_iload_n hx hb dX15_compiled_59 rfl (lv_at hl 2 rfl) ?_
  refine lv_aloadN hx hb dX15_compiled_60 (lv_at hl 0 rfl) ?_
  refine lv_ifnullN (tgt := 81) hx hb dX15_compiled_62 (by decide) ?_
  refine lv_iconst (v := 0) hx hb dX15_compiled_81 (by decide) ?_
  refine lv_iadd hx hb dX15_compiled_82 ?_
  rw [show (0 + 0 : Int32) = 0 by decide +kernel]
  refine lv_istore_n (lv' := [(2, .int 0), (8, .null), (7, .int 1), (6, .int 16), (5, .ref (q + 13)), (4, .ref (q + 12)), (3, .ref sz), (0, .ref y), (1, .int 1)]) hx hb dX15_compiled_83 rfl hl (by decide) rfl (fun ls hl => ?_)
  refine lv_iinc (v := 2) (lv' := [(7, .int 2), (2, .int 0), (8, .null), (6, .int 16), (5, .ref (q + 13)), (4, .ref (q + 12)), (3, .ref sz), (0, .ref y), (1, .int 1)]) hx hb dX15_compiled_84 hl (k := 2) rfl (by decide) (by decide) rfl (fun ls hl => ?_)
  refine lv_goto (tgt := 45) hx hb dX15_compiled_87 (by decide) ?_
  refine lv_iload hx hb dX15_compiled_45 (lv_at hl 0 rfl) ?_
  refine lv_iload hx hb dX15_compiled_47 (lv_at hl 3 rfl) ?_
  refine lv_icmp_ge (tgt := 90) hx hb dX15_compiled_49 (by decide) (fun c => absurd c (by decide)) (fun _ => ?_)
  refine lv_aload hx hb dX15_compiled_52 (lv_at hl 4 rfl) ?_
  refine lv_iload hx hb dX15_compiled_54 (lv_at hl 0 rfl) ?_
  refine va_aldq hx hb hE.1 (g_1 w.1 (g_up_o (by omega) m14)) 0 9 rfl rfl (vp_in_nI (n := 2) (by decide) (by decide)) dX15_compiled_56 ?_
  show W p l e _ s m _ below meth c _ _ _ _ _ (F0 m 57 ls (.null :: _))
  refine lv_astoreN (lv' := [(8, .null), (7, .int 2), (2, .int 0), (6, .int 16), (5, .ref (q + 13)), (4, .ref (q + 12)), (3, .ref sz), (0, .ref y), (1, .int 1)]) hx hb dX15_compiled_57 hl (by decide) rfl (fun ls hl => ?_)
  refine lv_iload_n hx hb dX15_compiled_59 rfl (lv_at hl 2 rfl) ?_
  refine lv_aloadN hx hb dX15_compiled_60 (lv_at hl 0 rfl) ?_
  refine lv_ifnullN (tgt := 81) hx hb dX15_compiled_62 (by decide) ?_
  refine lv_iconst (v := 0) hx hb dX15_compiled_81 (by decide) ?_
  refine lv_iadd hx hb dX15_compiled_82 ?_
  rw [show (0 + 0 : Int32) = 0 by decide +kernel]
  refine lv_istore_n (lv' := [(2, .int 0), (8, .null), (7, .int 2), (6, .int 16), (5, .ref (q + 13)), (4, .ref (q + 12)), (3, .ref sz), (0, .ref y), (1, .int 1)]) hx hb dX15_compiled_83 rfl hl (by decide) rfl (fun ls hl => ?_)
  refine lv_iinc (v := 3) (lv' := [(7, .int 3), (2, .int 0), (8, .null), (6, .int 16), (5, .ref (q + 13)), (4, .ref (q + 12)), (3, .ref sz), (0, .ref y), (1, .int 1)]) hx hb dX15_compiled_84 hl (k := 2) rfl (by decide) (by decide) rfl (fun ls hl => ?_)
  refine lv_goto (tgt := 45) hx hb dX15_compiled_87 (by decide) ?_
  refine lv_iload hx hb dX15_compiled_45 (lv_at hl 0 rfl) ?_
  refine lv_iload hx hb dX15_compiled_47 (lv_at hl 3 rfl) ?_
  refine lv_icmp_ge (tgt := 90) hx hb dX15_compiled_49 (by decide) (fun c => absurd c (by decide)) (fun _ => ?_)
  refine lv_aload hx hb dX15_compiled_52 (lv_at hl 4 rfl) ?_
  refine lv_iload hx hb dX15_compiled_54 (lv_at hl 0 rfl) ?_
  refine va_aldq hx hb hE.1 (g_1 w.1 (g_up_o (by omega) m14)) 0 9 rfl rfl (vp_in_nI (n := 3) (by decide) (by decide)) dX15_compiled_56 ?_
  show W p l e _ s m _ below meth c _ _ _ _ _ (F0 m 57 ls (.null :: _))
  refine lv_astoreN (lv' := [(8, .null), (7, .int 3), (2, .int 0), (6, .int 16), (5, .ref (q + 13)), (4, .ref (q + 12)), (3, .ref sz), (0, .ref y), (1, .int 1)]) hx hb dX15_compiled_57 hl (by decide) rfl (fun ls hl => ?_)
  refine lv_iload_n hx hb dX15_compiled_59 rfl (lv_at hl 2 rfl) ?_
  refine lv_aloadN hx hb dX15_compiled_60 (lv_at hl 0 rfl) ?_
  refine lv_ifnullN (tgt := 81) hx hb dX15_compiled_62 (by decide) ?_
  refine lv_iconst (v := 0) hx hb dX15_compiled_81 (by decide) ?_
  refine lv_iadd hx hb dX15_compiled_82 ?_
  rw [show (0 + 0 : Int32) = 0 by decide +kernel]
  refine lv_istore_n (lv' := [(2, .int 0), (8, .null), (7, .int 3), (6, .int 16), (5, .ref (q + 13)), (4, .ref (q + 12)), (3, .ref sz), (0, .ref y), (1, .int 1)]) hx hb dX15_compiled_83 rfl hl (by decide) rfl (fun ls hl => ?_)
  refine lv_iinc (v := 4) (lv' := [(7, .int 4), (2, .int 0), (8, .null), (6, .int 16), (5, .ref (q + 13)), (4, .ref (q + 12)), (3, .ref sz), (0, .ref y), (1, .int 1)]) hx hb dX15_compiled_84 hl (k := 2) rfl (by decide) (by decide) rfl (fun ls hl => ?_)
  refine lv_goto (tgt := 45) hx hb dX15_compiled_87 (by decide) ?_
  refine lv_iload hx hb dX15_compiled_45 (lv_at hl 0 rfl) ?_
  refine lv_iload hx hb dX15_compiled_47 (lv_at hl 3 rfl) ?_
  refine lv_icmp_ge (tgt := 90) hx hb dX15_compiled_49 (by decide) (fun c => absurd c (by decide)) (fun _ => ?_)
  refine lv_aload hx hb dX15_compiled_52 (lv_at hl 4 rfl) ?_
  refine lv_iload hx hb dX15_compiled_54 (lv_at hl 0 rfl) ?_
  refine va_aldq hx hb hE.1 (g_1 w.1 (g_up_o (by omega) m14)) 0 9 rfl rfl (vp_in_nI (n := 4) (by decide) (by decide)) dX15_compiled_56 ?_
  show W p l e _ s m _ below meth c _ _ _ _ _ (F0 m 57 ls (.null :: _))
  refine lv_astoreN (lv' := [(8, .null), (7, .int 4), (2, .int 0), (6, .int 16), (5, .ref (q + 13)), (4, .ref (q + 12)), (3, .ref sz), (0, .ref y), (1, .int 1)]) hx hb dX15_compiled_57 hl (by decide) rfl (fun ls hl => ?_)
  refine lv_iload_n hx hb dX15_compiled_59 rfl (lv_at hl 2 rfl) ?_
  refine lv_aloadN hx hb dX15_compiled_60 (lv_at hl 0 rfl) ?_
  refine lv_ifnullN (tgt := 81) hx hb dX15_compiled_62 (by decide) ?_
  refine lv_iconst (v := 0) hx hb dX15_compiled_81 (by decide) ?_
  refine lv_iadd hx hb dX15_compiled_82 ?_
  rw [show (0 + 0 : Int32) = 0 by decide +kernel]
  refine lv_istore_n (lv' := [(2, .int 0), (8, .null), (7, .int 4), (6, .int 16), (5, .ref (q + 13)), (4, .ref (q + 12)), (3, .ref sz), (0, .ref y), (1, .int 1)]) hx hb dX15_compiled_83 rfl hl (by decide) rfl (fun ls hl => ?_)
  refine lv_iinc (v := 5) (lv' := [(7, .int 5), (2, .int 0), (8, .null), (6, .int 16), (5, .ref (q + 13)), (4, .ref (q + 12)), (3, .ref sz), (0, .ref y), (1, .int 1)]) hx hb dX15_compiled_84 hl (k := 2) rfl (by decide) (by decide) rfl (fun ls hl => ?_)
  refine lv_goto (tgt := 45) hx hb dX15_compiled_87 (by decide) ?_
  refine lv_iload hx hb dX15_compiled_45 (lv_at hl 0 rfl) ?_
  refine lv_iload hx hb dX15_compiled_47 (lv_at hl 3 rfl) ?_
  refine lv_icmp_ge (tgt := 90) hx hb dX15_compiled_49 (by decide) (fun c => absurd c (by decide)) (fun _ => ?_)
  refine lv_aload hx hb dX15_compiled_52 (lv_at hl 4 rfl) ?_
  refine lv_iload hx hb dX15_compiled_54 (lv_at hl 0 rfl) ?_
  refine va_aldq hx hb hE.1 (g_1 w.1 (g_up_o (by omega) m14)) 0 9 rfl rfl (vp_in_nI (n := 5) (by decide) (by decide)) dX15_compiled_56 ?_
  show W p l e _ s m _ below meth c _ _ _ _ _ (F0 m 57 ls (.null :: _))
  refine lv_astoreN (lv' := [(8, .null), (7, .int 5), (2, .int 0), (6, .int 16), (5, .ref (q + 13)), (4, .ref (q + 12)), (3, .ref sz), (0, .ref y), (1, .int 1)]) hx hb dX15_compiled_57 hl (by decide) rfl (fun ls hl => ?_)
  refine lv_iload_n hx hb dX15_compiled_59 rfl (lv_at hl 2 rfl) ?_
  refine lv_aloadN hx hb dX15_compiled_60 (lv_at hl 0 rfl) ?_
  refine lv_ifnullN (tgt := 81) hx hb dX15_compiled_62 (by decide) ?_
  refine lv_iconst (v := 0) hx hb dX15_compiled_81 (by decide) ?_
  refine lv_iadd hx hb dX15_compiled_82 ?_
  rw [show (0 + 0 : Int32) = 0 by decide +kernel]
  refine lv_istore_n (lv' := [(2, .int 0), (8, .null), (7, .int 5), (6, .int 16), (5, .ref (q + 13)), (4, .ref (q + 12)), (3, .ref sz), (0, .ref y), (1, .int 1)]) hx hb dX15_compiled_83 rfl hl (by decide) rfl (fun ls hl => ?_)
  refine lv_iinc (v := 6) (lv' := [(7, .int 6), (2, .int 0), (8, .null), (6, .int 16), (5, .ref (q + 13)), (4, .ref (q + 12)), (3, .ref sz), (0, .ref y), (1, .int 1)]) hx hb dX15_compiled_84 hl (k := 2) rfl (by decide) (by decide) rfl (fun ls hl => ?_)
  refine lv_goto (tgt := 45) hx hb dX15_compiled_87 (by decide) ?_
  refine lv_iload hx hb dX15_compiled_45 (lv_at hl 0 rfl) ?_
  refine lv_iload hx hb dX15_compiled_47 (lv_at hl 3 rfl) ?_
  refine lv_icmp_ge (tgt := 90) hx hb dX15_compiled_49 (by decide) (fun c => absurd c (by decide)) (fun _ => ?_)
  refine lv_aload hx hb dX15_compiled_52 (lv_at hl 4 rfl) ?_
  refine lv_iload hx hb dX15_compiled_54 (lv_at hl 0 rfl) ?_
  refine va_aldq hx hb hE.1 (g_1 w.1 (g_up_o (by omega) m14)) 0 9 rfl rfl (vp_in_nI (n := 6) (by decide) (by decide)) dX15_compiled_56 ?_
  show W p l e _ s m _ below meth c _ _ _ _ _ (F0 m 57 ls (.null :: _))
  refine lv_astoreN (lv' := [(8, .null), (7, .int 6), (2, .int 0), (6, .int 16), (5, .ref (q + 13)), (4, .ref (q + 12)), (3, .ref sz), (0, .ref y), (1, .int 1)]) hx hb dX15_compiled_57 hl (by decide) rfl (fun ls hl => ?_)
  refine lv_iload_n hx hb dX15_compiled_59 rfl (lv_at hl 2 rfl) ?_
  refine lv_aloadN hx hb dX15_compiled_60 (lv_at hl 0 rfl) ?_
  refine lv_ifnullN (tgt := 81) hx hb dX15_compiled_62 (by decide) ?_
  refine lv_iconst (v := 0) hx hb dX15_compiled_81 (by decide) ?_
  refine lv_iadd hx hb dX15_compiled_82 ?_
  rw [show (0 + 0 : Int32) = 0 by decide +kernel]
  refine lv_istore_n (lv' := [(2, .int 0), (8, .null), (7, .int 6), (6, .int 16), (5, .ref (q + 13)), (4, .ref (q + 12)), (3, .ref sz), (0, .ref y), (1, .int 1)]) hx hb dX15_compiled_83 rfl hl (by decide) rfl (fun ls hl => ?_)
  refine lv_iinc (v := 7) (lv' := [(7, .int 7), (2, .int 0), (8, .null), (6, .int 16), (5, .ref (q + 13)), (4, .ref (q + 12)), (3, .ref sz), (0, .ref y), (1, .int 1)]) hx hb dX15_compiled_84 hl (k := 2) rfl (by decide) (by decide) rfl (fun ls hl => ?_)
  refine lv_goto (tgt := 45) hx hb dX15_compiled_87 (by decide) ?_
  refine lv_iload hx hb dX15_compiled_45 (lv_at hl 0 rfl) ?_
  refine lv_iload hx hb dX15_compiled_47 (lv_at hl 3 rfl) ?_
  refine lv_icmp_ge (tgt := 90) hx hb dX15_compiled_49 (by decide) (fun c => absurd c (by decide)) (fun _ => ?_)
  refine lv_aload hx hb dX15_compiled_52 (lv_at hl 4 rfl) ?_
  refine lv_iload hx hb dX15_compiled_54 (lv_at hl 0 rfl) ?_
  refine va_aldq hx hb hE.1 (g_1 w.1 (g_up_o (by omega) m14)) 0 9 rfl rfl (vp_in_nI (n := 7) (by decide) (by decide)) dX15_compiled_56 ?_
  show W p l e _ s m _ below meth c _ _ _ _ _ (F0 m 57 ls (.null :: _))
  refine lv_astoreN (lv' := [(8, .null), (7, .int 7), (2, .int 0), (6, .int 16), (5, .ref (q + 13)), (4, .ref (q + 12)), (3, .ref sz), (0, .ref y), (1, .int 1)]) hx hb dX15_compiled_57 hl (by decide) rfl (fun ls hl => ?_)
  refine lv_iload_n hx hb dX15_compiled_59 rfl (lv_at hl 2 rfl) ?_
  refine lv_aloadN hx hb dX15_compiled_60 (lv_at hl 0 rfl) ?_
  refine lv_ifnullN (tgt := 81) hx hb dX15_compiled_62 (by decide) ?_
  refine lv_iconst (v := 0) hx hb dX15_compiled_81 (by decide) ?_
  refine lv_iadd hx hb dX15_compiled_82 ?_
  rw [show (0 + 0 : Int32) = 0 by decide +kernel]
  refine lv_istore_n (lv' := [(2, .int 0), (8, .null), (7, .int 7), (6, .int 16), (5, .ref (q + 13)), (4, .ref (q + 12)), (3, .ref sz), (0, .ref y), (1, .int 1)]) hx hb dX15_compiled_83 rfl hl (by decide) rfl (fun ls hl => ?_)
  refine lv_iinc (v := 8) (lv' := [(7, .int 8), (2, .int 0), (8, .null), (6, .int 16), (5, .ref (q + 13)), (4, .ref (q + 12)), (3, .ref sz), (0, .ref y), (1, .int 1)]) hx hb dX15_compiled_84 hl (k := 2) rfl (by decide) (by decide) rfl (fun ls hl => ?_)
  refine lv_goto (tgt := 45) hx hb dX15_compiled_87 (by decide) ?_
  refine lv_iload hx hb dX15_compiled_45 (lv_at hl 0 rfl) ?_
  refine lv_iload hx hb dX15_compiled_47 (lv_at hl 3 rfl) ?_
  refine lv_icmp_ge (tgt := 90) hx hb dX15_compiled_49 (by decide) (fun c => absurd c (by decide)) (fun _ => ?_)
  refine lv_aload hx hb dX15_compiled_52 (lv_at hl 4 rfl) ?_
  refine lv_iload hx hb dX15_compiled_54 (lv_at hl 0 rfl) ?_
  refine va_aldq hx hb hE.1 (g_1 w.1 (g_up_o (by omega) m14)) 0 9 rfl rfl (vp_in_nI (n := 8) (by decide) (by decide)) dX15_compiled_56 ?_
  show W p l e _ s m _ below meth c _ _ _ _ _ (F0 m 57 ls (.null :: _))
  refine lv_astoreN (lv' := [(8, .null), (7, .int 8), (2, .int 0), (6, .int 16), (5, .ref (q + 13)), (4, .ref (q + 12)), (3, .ref sz), (0, .ref y), (1, .int 1)]) hx hb dX15_compiled_57 hl (by decide) rfl (fun ls hl => ?_)
  refine lv_iload_n hx hb dX15_compiled_59 rfl (lv_at hl 2 rfl) ?_
  refine lv_aloadN hx hb dX15_compiled_60 (lv_at hl 0 rfl) ?_
  refine lv_ifnullN (tgt := 81) hx hb dX15_compiled_62 (by decide) ?_
  refine lv_iconst (v := 0) hx hb dX15_compiled_81 (by decide) ?_
  refine lv_iadd hx hb dX15_compiled_82 ?_
  rw [show (0 + 0 : Int32) = 0 by decide +kernel]
  refine lv_istore_n (lv' := [(2, .int 0), (8, .null), (7, .int 8), (6, .int 16), (5, .ref (q + 13)), (4, .ref (q + 12)), (3, .ref sz), (0, .ref y), (1, .int 1)]) hx hb dX15_compiled_83 rfl hl (by decide) rfl (fun ls hl => ?_)
  refine lv_iinc (v := 9) (lv' := [(7, .int 9), (2, .int 0), (8, .null), (6, .int 16), (5, .ref (q + 13)), (4, .ref (q + 12)), (3, .ref sz), (0, .ref y), (1, .int 1)]) hx hb dX15_compiled_84 hl (k := 2) rfl (by decide) (by decide) rfl (fun ls hl => ?_)
  refine lv_goto (tgt := 45) hx hb dX15_compiled_87 (by decide) ?_
  refine lv_iload hx hb dX15_compiled_45 (lv_at hl 0 rfl) ?_
  refine lv_iload hx hb dX15_compiled_47 (lv_at hl 3 rfl) ?_
  refine lv_icmp_ge (tgt := 90) hx hb dX15_compiled_49 (by decide) (fun c => absurd c (by decide)) (fun _ => ?_)
  refine lv_aload hx hb dX15_compiled_52 (lv_at hl 4 rfl) ?_
  refine lv_iload hx hb dX15_compiled_54 (lv_at hl 0 rfl) ?_
  refine va_aldq hx hb hE.1 (g_1 w.1 (g_up_o (by omega) m14)) 0 9 rfl rfl (vp_in_nI (n := 9) (by decide) (by decide)) dX15_compiled_56 ?_
  show W p l e _ s m _ below meth c _ _ _ _ _ (F0 m 57 ls (.null :: _))
  refine lv_astoreN (lv' := [(8, .null), (7, .int 9), (2, .int 0), (6, .int 16), (5, .ref (q + 13)), (4, .ref (q + 12)), (3, .ref sz), (0, .ref y), (1, .int 1)]) hx hb dX15_compiled_57 hl (by decide) rfl (fun ls hl => ?_)
  refine lv_iload_n hx hb dX15_compiled_59 rfl (lv_at hl 2 rfl) ?_
  refine lv_aloadN hx hb dX15_compiled_60 (lv_at hl 0 rfl) ?_
  refine lv_ifnullN (tgt := 81) hx hb dX15_compiled_62 (by decide) ?_
  refine lv_iconst (v := 0) hx hb dX15_compiled_81 (by decide) ?_
  refine lv_iadd hx hb dX15_compiled_82 ?_
  rw [show (0 + 0 : Int32) = 0 by decide +kernel]
  refine lv_istore_n (lv' := [(2, .int 0), (8, .null), (7, .int 9), (6, .int 16), (5, .ref (q + 13)), (4, .ref (q + 12)), (3, .ref sz), (0, .ref y), (1, .int 1)]) hx hb dX15_compiled_83 rfl hl (by decide) rfl (fun ls hl => ?_)
  refine lv_iinc (v := 10) (lv' := [(7, .int 10), (2, .int 0), (8, .null), (6, .int 16), (5, .ref (q + 13)), (4, .ref (q + 12)), (3, .ref sz), (0, .ref y), (1, .int 1)]) hx hb dX15_compiled_84 hl (k := 2) rfl (by decide) (by decide) rfl (fun ls hl => ?_)
  refine lv_goto (tgt := 45) hx hb dX15_compiled_87 (by decide) ?_
  refine lv_iload hx hb dX15_compiled_45 (lv_at hl 0 rfl) ?_
  refine lv_iload hx hb dX15_compiled_47 (lv_at hl 3 rfl) ?_
  refine lv_icmp_ge (tgt := 90) hx hb dX15_compiled_49 (by decide) (fun c => absurd c (by decide)) (fun _ => ?_)
  refine lv_aload hx hb dX15_compiled_52 (lv_at hl 4 rfl) ?_
  refine lv_iload hx hb dX15_compiled_54 (lv_at hl 0 rfl) ?_
  refine va_aldq hx hb hE.1 (g_1 w.1 (g_up_o (by omega) m14)) 0 9 rfl rfl (vp_in_nI (n := 10) (by decide) (by decide)) dX15_compiled_56 ?_
  show W p l e _ s m _ below meth c _ _ _ _ _ (F0 m 57 ls (.null :: _))
  refine lv_astoreN (lv' := [(8, .null), (7, .int 10), (2, .int 0), (6, .int 16), (5, .ref (q + 13)), (4, .ref (q + 12)), (3, .ref sz), (0, .ref y), (1, .int 1)]) hx hb dX15_compiled_57 hl (by decide) rfl (fun ls hl => ?_)
  refine lv_iload_n hx hb dX15_compiled_59 rfl (lv_at hl 2 rfl) ?_
  refine lv_aloadN hx hb dX15_compiled_60 (lv_at hl 0 rfl) ?_
  refine lv_ifnullN (tgt := 81) hx hb dX15_compiled_62 (by decide) ?_
  refine lv_iconst (v := 0) hx hb dX15_compiled_81 (by decide) ?_
  refine lv_iadd hx hb dX15_compiled_82 ?_
  rw [show (0 + 0 : Int32) = 0 by decide +kernel]
  refine lv_istore_n (lv' := [(2, .int 0), (8, .null), (7, .int 10), (6, .int 16), (5, .ref (q + 13)), (4, .ref (q + 12)), (3, .ref sz), (0, .ref y), (1, .int 1)]) hx hb dX15_compiled_83 rfl hl (by decide) rfl (fun ls hl => ?_)
  refine lv_iinc (v := 11) (lv' := [(7, .int 11), (2, .int 0), (8, .null), (6, .int 16), (5, .ref (q + 13)), (4, .ref (q + 12)), (3, .ref sz), (0, .ref y), (1, .int 1)]) hx hb dX15_compiled_84 hl (k := 2) rfl (by decide) (by decide) rfl (fun ls hl => ?_)
  refine lv_goto (tgt := 45) hx hb dX15_compiled_87 (by decide) ?_
  refine lv_iload hx hb dX15_compiled_45 (lv_at hl 0 rfl) ?_
  refine lv_iload hx hb dX15_compiled_47 (lv_at hl 3 rfl) ?_
  refine lv_icmp_ge (tgt := 90) hx hb dX15_compiled_49 (by decide) (fun c => absurd c (by decide)) (fun _ => ?_)
  refine lv_aload hx hb dX15_compiled_52 (lv_at hl 4 rfl) ?_
  refine lv_iload hx hb dX15_compiled_54 (lv_at hl 0 rfl) ?_
  refine va_aldq hx hb hE.1 (g_1 w.1 (g_up_o (by omega) m14)) 0 9 rfl rfl (vp_in_nI (n := 11) (by decide) (by decide)) dX15_compiled_56 ?_
  show W p l e _ s m _ below meth c _ _ _ _ _ (F0 m 57 ls (.null :: _))
  refine lv_astoreN (lv' := [(8, .null), (7, .int 11), (2, .int 0), (6, .int 16), (5, .ref (q + 13)), (4, .ref (q + 12)), (3, .ref sz), (0, .ref y), (1, .int 1)]) hx hb dX15_compiled_57 hl (by decide) rfl (fun ls hl => ?_)
  refine lv_iload_n hx hb dX15_compiled_59 rfl (lv_at hl 2 rfl) ?_
  refine lv_aloadN hx hb dX15_compiled_60 (lv_at hl 0 rfl) ?_
  refine lv_ifnullN (tgt := 81) hx hb dX15_compiled_62 (by decide) ?_
  refine lv_iconst (v := 0) hx hb dX15_compiled_81 (by decide) ?_
  refine lv_iadd hx hb dX15_compiled_82 ?_
  rw [show (0 + 0 : Int32) = 0 by decide +kernel]
  refine lv_istore_n (lv' := [(2, .int 0), (8, .null), (7, .int 11), (6, .int 16), (5, .ref (q + 13)), (4, .ref (q + 12)), (3, .ref sz), (0, .ref y), (1, .int 1)]) hx hb dX15_compiled_83 rfl hl (by decide) rfl (fun ls hl => ?_)
  refine lv_iinc (v := 12) (lv' := [(7, .int 12), (2, .int 0), (8, .null), (6, .int 16), (5, .ref (q + 13)), (4, .ref (q + 12)), (3, .ref sz), (0, .ref y), (1, .int 1)]) hx hb dX15_compiled_84 hl (k := 2) rfl (by decide) (by decide) rfl (fun ls hl => ?_)
  refine lv_goto (tgt := 45) hx hb dX15_compiled_87 (by decide) ?_
  refine lv_iload hx hb dX15_compiled_45 (lv_at hl 0 rfl) ?_
  refine lv_iload hx hb dX15_compiled_47 (lv_at hl 3 rfl) ?_
  refine lv_icmp_ge (tgt := 90) hx hb dX15_compiled_49 (by decide) (fun c => absurd c (by decide)) (fun _ => ?_)
  refine lv_aload hx hb dX15_compiled_52 (lv_at hl 4 rfl) ?_
  refine lv_iload hx hb dX15_compiled_54 (lv_at hl 0 rfl) ?_
  refine va_aldq hx hb hE.1 (g_1 w.1 (g_up_o (by omega) m14)) 0 9 rfl rfl (vp_in_nI (n := 12) (by decide) (by decide)) dX15_compiled_56 ?_
  show W p l e _ s m _ below meth c _ _ _ _ _ (F0 m 57 ls (.null :: _))
  refine lv_astoreN (lv' := [(8, .null), (7, .int 12), (2, .int 0), (6, .int 16), (5, .ref (q + 13)), (4, .ref (q + 12)), (3, .ref sz), (0, .ref y), (1, .int 1)]) hx hb dX15_compiled_57 hl (by decide) rfl (fun ls hl => ?_)
  refine lv_iload_n hx hb dX15_compiled_59 rfl (lv_at hl 2 rfl) ?_
  refine lv_aloadN hx hb dX15_compiled_60 (lv_at hl 0 rfl) ?_
  refine lv_ifnullN (tgt := 81) hx hb dX15_compiled_62 (by decide) ?_
  refine lv_iconst (v := 0) hx hb dX15_compiled_81 (by decide) ?_
  refine lv_iadd hx hb dX15_compiled_82 ?_
  rw [show (0 + 0 : Int32) = 0 by decide +kernel]
  refine lv_istore_n (lv' := [(2, .int 0), (8, .null), (7, .int 12), (6, .int 16), (5, .ref (q + 13)), (4, .ref (q + 12)), (3, .ref sz), (0, .ref y), (1, .int 1)]) hx hb dX15_compiled_83 rfl hl (by decide) rfl (fun ls hl => ?_)
  refine lv_iinc (v := 13) (lv' := [(7, .int 13), (2, .int 0), (8, .null), (6, .int 16), (5, .ref (q + 13)), (4, .ref (q + 12)), (3, .ref sz), (0, .ref y), (1, .int 1)]) hx hb dX15_compiled_84 hl (k := 2) rfl (by decide) (by decide) rfl (fun ls hl => ?_)
  refine lv_goto (tgt := 45) hx hb dX15_compiled_87 (by decide) ?_
  refine lv_iload hx hb dX15_compiled_45 (lv_at hl 0 rfl) ?_
  refine lv_iload hx hb dX15_compiled_47 (lv_at hl 3 rfl) ?_
  refine lv_icmp_ge (tgt := 90) hx hb dX15_compiled_49 (by decide) (fun c => absurd c (by decide)) (fun _ => ?_)
  refine lv_aload hx hb dX15_compiled_52 (lv_at hl 4 rfl) ?_
  refine lv_iload hx hb dX15_compiled_54 (lv_at hl 0 rfl) ?_
  refine va_aldq hx hb hE.1 (g_1 w.1 (g_up_o (by omega) m14)) 0 9 rfl rfl (vp_in_nI (n := 13) (by decide) (by decide)) dX15_compiled_56 ?_
  show W p l e _ s m _ below meth c _ _ _ _ _ (F0 m 57 ls (.null :: _))
  refine lv_astoreN (lv' := [(8, .null), (7, .int 13), (2, .int 0), (6, .int 16), (5, .ref (q + 13)), (4, .ref (q + 12)), (3, .ref sz), (0, .ref y), (1, .int 1)]) hx hb dX15_compiled_57 hl (by decide) rfl (fun ls hl => ?_)
  refine lv_iload_n hx hb dX15_compiled_59 rfl (lv_at hl 2 rfl) ?_
  refine lv_aloadN hx hb dX15_compiled_60 (lv_at hl 0 rfl) ?_
  refine lv_ifnullN (tgt := 81) hx hb dX15_compiled_62 (by decide) ?_
  refine lv_iconst (v := 0) hx hb dX15_compiled_81 (by decide) ?_
  refine lv_iadd hx hb dX15_compiled_82 ?_
  rw [show (0 + 0 : Int32) = 0 by decide +kernel]
  refine lv_istore_n (lv' := [(2, .int 0), (8, .null), (7, .int 13), (6, .int 16), (5, .ref (q + 13)), (4, .ref (q + 12)), (3, .ref sz), (0, .ref y), (1, .int 1)]) hx hb dX15_compiled_83 rfl hl (by decide) rfl (fun ls hl => ?_)
  refine lv_iinc (v := 14) (lv' := [(7, .int 14), (2, .int 0), (8, .null), (6, .int 16), (5, .ref (q + 13)), (4, .ref (q + 12)), (3, .ref sz), (0, .ref y), (1, .int 1)]) hx hb dX15_compiled_84 hl (k := 2) rfl (by decide) (by decide) rfl (fun ls hl => ?_)
  refine lv_goto (tgt := 45) hx hb dX15_compiled_87 (by decide) ?_
  refine lv_iload hx hb dX15_compiled_45 (lv_at hl 0 rfl) ?_
  refine lv_iload hx hb dX15_compiled_47 (lv_at hl 3 rfl) ?_
  refine lv_icmp_ge (tgt := 90) hx hb dX15_compiled_49 (by decide) (fun c => absurd c (by decide)) (fun _ => ?_)
  refine lv_aload hx hb dX15_compiled_52 (lv_at hl 4 rfl) ?_
  refine lv_iload hx hb dX15_compiled_54 (lv_at hl 0 rfl) ?_
  refine va_aldq hx hb hE.1 (g_1 w.1 (g_up_o (by omega) m14)) 0 9 rfl rfl (vp_in_nI (n := 14) (by decide) (by decide)) dX15_compiled_56 ?_
  show W p l e _ s m _ below meth c _ _ _ _ _ (F0 m 57 ls (.null :: _))
  refine lv_astoreN (lv' := [(8, .null), (7, .int 14), (2, .int 0), (6, .int 16), (5, .ref (q + 13)), (4, .ref (q + 12)), (3, .ref sz), (0, .ref y), (1, .int 1)]) hx hb dX15_compiled_57 hl (by decide) rfl (fun ls hl => ?_)
  refine lv_iload_n hx hb dX15_compiled_59 rfl (lv_at hl 2 rfl) ?_
  refine lv_aloadN hx hb dX15_compiled_60 (lv_at hl 0 rfl) ?_
  refine lv_ifnullN (tgt := 81) hx hb dX15_compiled_62 (by decide) ?_
  refine lv_iconst (v := 0) hx hb dX15_compiled_81 (by decide) ?_
  refine lv_iadd hx hb dX15_compiled_82 ?_
  rw [show (0 + 0 : Int32) = 0 by decide +kernel]
  refine lv_istore_n (lv' := [(2, .int 0), (8, .null), (7, .int 14), (6, .int 16), (5, .ref (q + 13)), (4, .ref (q + 12)), (3, .ref sz), (0, .ref y), (1, .int 1)]) hx hb dX15_compiled_83 rfl hl (by decide) rfl (fun ls hl => ?_)
  refine lv_iinc (v := 15) (lv' := [(7, .int 15), (2, .int 0), (8, .null), (6, .int 16), (5, .ref (q + 13)), (4, .ref (q + 12)), (3, .ref sz), (0, .ref y), (1, .int 1)]) hx hb dX15_compiled_84 hl (k := 2) rfl (by decide) (by decide) rfl (fun ls hl => ?_)
  refine lv_goto (tgt := 45) hx hb dX15_compiled_87 (by decide) ?_
  refine lv_iload hx hb dX15_compiled_45 (lv_at hl 0 rfl) ?_
  refine lv_iload hx hb dX15_compiled_47 (lv_at hl 3 rfl) ?_
  refine lv_icmp_ge (tgt := 90) hx hb dX15_compiled_49 (by decide) (fun c => absurd c (by decide)) (fun _ => ?_)
  refine lv_aload hx hb dX15_compiled_52 (lv_at hl 4 rfl) ?_
  refine lv_iload hx hb dX15_compiled_54 (lv_at hl 0 rfl) ?_
  refine va_aldq hx hb hE.1 (g_1 w.1 (g_up_o (by omega) m14)) 0 9 rfl rfl (vp_in_nI (n := 15) (by decide) (by decide)) dX15_compiled_56 ?_
  show W p l e _ s m _ below meth c _ _ _ _ _ (F0 m 57 ls (.null :: _))
  refine lv_astoreN (lv' := [(8, .null), (7, .int 15), (2, .int 0), (6, .int 16), (5, .ref (q + 13)), (4, .ref (q + 12)), (3, .ref sz), (0, .ref y), (1, .int 1)]) hx hb dX15_compiled_57 hl (by decide) rfl (fun ls hl => ?_)
  refine lv_iload_n hx hb dX15_compiled_59 rfl (lv_at hl 2 rfl) ?_
  refine lv_aloadN hx hb dX15_compiled_60 (lv_at hl 0 rfl) ?_
  refine lv_ifnullN (tgt := 81) hx hb dX15_compiled_62 (by decide) ?_
  refine lv_iconst (v := 0) hx hb dX15_compiled_81 (by decide) ?_
  refine lv_iadd hx hb dX15_compiled_82 ?_
  rw [show (0 + 0 : Int32) = 0 by decide +kernel]
  refine lv_istore_n (lv' := [(2, .int 0), (8, .null), (7, .int 15), (6, .int 16), (5, .ref (q + 13)), (4, .ref (q + 12)), (3, .ref sz), (0, .ref y), (1, .int 1)]) hx hb dX15_compiled_83 rfl hl (by decide) rfl (fun ls hl => ?_)
  refine lv_iinc (v := 16) (lv' := [(7, .int 16), (2, .int 0), (8, .null), (6, .int 16), (5, .ref (q + 13)), (4, .ref (q + 12)), (3, .ref sz), (0, .ref y), (1, .int 1)]) hx hb dX15_compiled_84 hl (k := 2) rfl (by decide) (by decide) rfl (fun ls hl => ?_)
  refine lv_goto (tgt := 45) hx hb dX15_compiled_87 (by decide) ?_
  refine lv_iload hx hb dX15_compiled_45 (lv_at hl 0 rfl) ?_
  refine lv_iload hx hb dX15_compiled_47 (lv_at hl 3 rfl) ?_
  refine lv_icmp_ge (tgt := 90) hx hb dX15_compiled_49 (by decide) (fun _ => ?_) (fun c => absurd (by decide) c)
  refine lv_goto (tgt := 10) hx hb dX15_compiled_90 (by decide) ?_
  refine lv_aload_n hx hb dX15_compiled_10 rfl (lv_at hl 6 rfl) ?_
  refine g_callFi w (g_runF (As := []) (rest := []) S hE w hl (c_hasNext l D ar κ (g_up G sz (.inr (2, [.int 3, .int 2, .int 3, .ref (q + 1)]))) (sz + 1) sz 3 2 (q + 1) 3 (some (q + 9)) 3 g_up_s (g_up_o (by omega) m2)) (kF_RX15_187_2 S.2.2.2.2 (hE.2.1.2.1 _ (List.mem_of_getElem? (i := 1) rfl)) ⟨Nat.le_of_ble_eq_true rfl, Nat.le_of_ble_eq_true rfl⟩) g_up_s rfl rfl rfl rfl (Nat.le_of_ble_eq_true rfl) dX15_compiled_11 ⟨Nat.le_of_ble_eq_true rfl, Nat.le_of_ble_eq_true rfl⟩) (fun r u H locs hp hnz w => ?_)
  obtain ⟨rfl, rfl⟩ := hp
  rw [show (if (3 : Int32) = 3 then (0 : Int32) else 1) = 0 from by decide]
  dsimp only at w
  refine lv_if_eq (tgt := 93) hx hb dX15_compiled_16 (by decide) (fun _ => ?_) (fun c => absurd (by decide) c)
  refine lv_iload_n hx hb dX15_compiled_93 rfl (lv_at hl 1 rfl) ?_
  exact g_iret hx hb hr hlk w (Nat.le_of_ble_eq_true rfl) (Nat.le_of_ble_eq_true rfl) dX15_compiled_94 ⟨rfl, rfl⟩
set_option maxHeartbeats 4000000 in
set_option maxRecDepth 100000 in
theorem m_compiledShare (l : Launch) (D : va_G) (ar : Nat → ClassId) (κ : Nat → Nat) (G : gW) (sz : Nat) (y : Nat) (q : Nat) (t : Int32) (hM : FM ar κ G y q t) : Met l yX15_compiledShare (lwC yX15_compiledShare cX15_compiledShare 1 (some .float)) (rD 7 1 4) (g_Pc D vwCl (gT ar) (EX1 κ) G sz [.ref y]) (g_Qf D vwCl (g_A G sz) (fun r u => TH y 1 u)) 1 4 (g_A G sz) := by
  refine g_ofW (by decide +kernel) (Nat.le_of_ble_eq_true rfl) ?_
  intro p e s m below meth c ls S hr hlk hin hE w hl
  have hx := S.1
  have hb := S.2.1
  have hl : lv_has ls 1 [(0, .ref y)] := hl
  obtain ⟨hyq, m0, m1, m2, m3, m4, m5, m6, m7, m8, m9, m10, m11, m12, m13, m14⟩ := id hM
  have lt13 : q + 13 < sz := g_ltn w m14
  refine lv_aload_n hx hb dX15_compiledShare_0 rfl (lv_at hl 0 rfl) ?_
  refine lv_aload_n hx hb dX15_compiledShare_1 rfl (lv_at hl 0 rfl) ?_
  refine lv_iconst (v := 1) hx hb dX15_compiledShare_2 (by decide) ?_
  refine g_calli w (g_runV (As := [.int 1]) (rest := [.ref y]) S hE w hl (c_compiled_1 l D ar κ G sz y q t m0 m1 m2 m3 m4 m5 m6 m7 m8 m9 m10 m11 m12 m13 m14) (k_RX15_200 S.2.2.2.2 ⟨Nat.le_of_ble_eq_true rfl, Nat.le_of_ble_eq_true rfl⟩) m0 rfl rfl rfl rfl (Nat.le_of_ble_eq_true rfl) dX15_compiledShare_3 ⟨Nat.le_of_ble_eq_true rfl, Nat.le_of_ble_eq_true rfl⟩) (fun r u H locs hp hnz w => ?_)
  obtain ⟨rfl, rfl⟩ := hp
  dsimp only at w
  refine lv_if_ne (tgt := 13) hx hb dX15_compiledShare_6 (by decide) (fun c => absurd (by decide) c) (fun _ => ?_)
  refine lv_iconst (v := 1) hx hb dX15_compiledShare_9 (by decide) ?_
  refine lv_goto (tgt := 14) hx hb dX15_compiledShare_10 (by decide) ?_
  refine g_calli w (g_runV (As := [.int 1]) (rest := []) S hE w hl (c_isWrong l D ar κ (g_up G sz (.inr (2, [.int 3, .int 2, .int 3, .ref (q + 1)]))) (sz + 1) y 1 (some q) (some (q + 1)) (some (q + 2)) (some (q + 3)) (some (q + 4)) (some (q + 5)) (some (q + 6)) t 0 0 0 45 0 none (g_up_o (by omega) m0)) (k_RX15_77 S.2.2.2.2 ⟨Nat.le_of_ble_eq_true rfl, Nat.le_of_ble_eq_true rfl⟩) (g_up_o (by omega) m0) rfl rfl rfl rfl (Nat.le_of_ble_eq_true rfl) dX15_compiledShare_14 ⟨Nat.le_of_ble_eq_true rfl, Nat.le_of_ble_eq_true rfl⟩) (fun r u H locs hp hnz w => ?_)
  obtain ⟨rfl, rfl⟩ := hp
  rw [show (if (1 : Int32) = 0 then (0 : Int32) else 1) = 1 from by decide]
  dsimp only at w
  refine lv_if_eq (tgt := 24) hx hb dX15_compiledShare_17 (by decide) (fun c => absurd c (by decide)) (fun _ => ?_)
  refine lv_fconst0 hx hb dX15_compiledShare_20 ?_
  refine lv_goto (tgt := 37) hx hb dX15_compiledShare_21 (by decide) ?_
  exact g_fret hx hb hr hlk w (Nat.le_of_ble_eq_true rfl) (Nat.le_of_ble_eq_true rfl) dX15_compiledShare_37 (TH_mk (T := 1) g_up_s rfl rfl)
set_option maxHeartbeats 4000000 in
set_option maxRecDepth 100000 in
theorem m_meanCalls (l : Launch) (D : va_G) (ar : Nat → ClassId) (κ : Nat → Nat) (G : gW) (sz : Nat) (y : Nat) (q : Nat) (t : Int32) (hM : FM ar κ G y q t) : Met l yX15_meanCalls (lwC yX15_meanCalls cX15_meanCalls 8 (some .double)) (rD 7 1 4) (g_Pc D vwCl (gT ar) (EX1 κ) G sz [.ref y]) (g_Qd D vwCl (g_A G sz) (fun r u => TH y 1 u)) 1 4 (g_A G sz) := by
  refine g_ofW (by decide +kernel) (Nat.le_of_ble_eq_true rfl) ?_
  intro p e s m below meth c ls S hr hlk hin hE w hl
  have hx := S.1
  have hb := S.2.1
  have hl : lv_has ls 8 [(0, .ref y)] := hl
  obtain ⟨hyq, m0, m1, m2, m3, m4, m5, m6, m7, m8, m9, m10, m11, m12, m13, m14⟩ := id hM
  have lt13 : q + 13 < sz := g_ltn w m14
  refine lv_aload_n hx hb dX15_meanCalls_0 rfl (lv_at hl 0 rfl) ?_
  refine lv_aload_n hx hb dX15_meanCalls_1 rfl (lv_at hl 0 rfl) ?_
  refine lv_iconst (v := 1) hx hb dX15_meanCalls_2 (by decide) ?_
  refine g_calli w (g_runV (As := [.int 1]) (rest := [.ref y]) S hE w hl (c_compiled_1 l D ar κ G sz y q t m0 m1 m2 m3 m4 m5 m6 m7 m8 m9 m10 m11 m12 m13 m14) (k_RX15_200 S.2.2.2.2 ⟨Nat.le_of_ble_eq_true rfl, Nat.le_of_ble_eq_true rfl⟩) m0 rfl rfl rfl rfl (Nat.le_of_ble_eq_true rfl) dX15_meanCalls_3 ⟨Nat.le_of_ble_eq_true rfl, Nat.le_of_ble_eq_true rfl⟩) (fun r u H locs hp hnz w => ?_)
  obtain ⟨rfl, rfl⟩ := hp
  dsimp only at w
  refine lv_if_ne (tgt := 13) hx hb dX15_meanCalls_6 (by decide) (fun c => absurd (by decide) c) (fun _ => ?_)
  refine lv_iconst (v := 1) hx hb dX15_meanCalls_9 (by decide) ?_
  refine lv_goto (tgt := 14) hx hb dX15_meanCalls_10 (by decide) ?_
  refine g_calli w (g_runV (As := [.int 1]) (rest := []) S hE w hl (c_isWrong l D ar κ (g_up G sz (.inr (2, [.int 3, .int 2, .int 3, .ref (q + 1)]))) (sz + 1) y 1 (some q) (some (q + 1)) (some (q + 2)) (some (q + 3)) (some (q + 4)) (some (q + 5)) (some (q + 6)) t 0 0 0 45 0 none (g_up_o (by omega) m0)) (k_RX15_77 S.2.2.2.2 ⟨Nat.le_of_ble_eq_true rfl, Nat.le_of_ble_eq_true rfl⟩) (g_up_o (by omega) m0) rfl rfl rfl rfl (Nat.le_of_ble_eq_true rfl) dX15_meanCalls_14 ⟨Nat.le_of_ble_eq_true rfl, Nat.le_of_ble_eq_true rfl⟩) (fun r u H locs hp hnz w => ?_)
  obtain ⟨rfl, rfl⟩ := hp
  rw [show (if (1 : Int32) = 0 then (0 : Int32) else 1) = 1 from by decide]
  dsimp only at w
  refine lv_if_eq (tgt := 22) hx hb dX15_meanCalls_17 (by decide) (fun c => absurd c (by decide)) (fun _ => ?_)
  refine lv_dconst0 hx hb dX15_meanCalls_20 ?_
  exact g_dret hx hb hr hlk w (Nat.le_of_ble_eq_true rfl) (Nat.le_of_ble_eq_true rfl) dX15_meanCalls_21 (TH_mk (T := 1) g_up_s rfl rfl)
set_option maxHeartbeats 4000000 in
set_option maxRecDepth 100000 in
theorem c_summed (l : Launch) (D : va_G) (ar : Nat → ClassId) (κ : Nat → Nat) (G : gW) (sz : Nat) (a : Int64) (v : Nat) (hv : G v = some (.inr (18, [.int 117, .int 0]))) : Met l yX15_summed (lwC yX15_summed cX15_summed 3 (some .long)) (rD 1 0 0) (g_Pc D vwCl (gT ar) (EX1 κ) G sz [.long a, .ref v]) (g_Ql D vwCl (g_A G sz) (fun r u => r = (31 * ((31 * a) + 117)) + 0 ∧ u = (G, sz))) 0 0 (g_A G sz) := by
  refine g_ofW (by decide +kernel) (Nat.le_of_ble_eq_true rfl) ?_
  intro p e s m below meth c ls S hr hlk hin hE w hl
  have hx := S.1
  have hb := S.2.1
  have hl : lv_has ls 3 [(0, .long a), (2, .ref v)] := hl
  have lt_hv : v < sz := g_ltn w hv
  refine lv_ldc2 hx hb S.2.2.2.1 (S.2.2.2.2 _ m_9_82) dX15_summed_0 ?_
  refine lv_ldc2 hx hb S.2.2.2.1 (S.2.2.2.2 _ m_9_82) dX15_summed_3 ?_
  refine lv_lload_n hx hb dX15_summed_6 rfl (lv_at hl 0 rfl) ?_
  refine lv_lmul hx hb dX15_summed_7 ?_
  refine lv_aload_n hx hb dX15_summed_8 rfl (lv_at hl 1 rfl) ?_
  refine gf_RX15_228_18 S hE w hv rfl dX15_summed_9 ?_
  refine lv_i2l hx hb dX15_summed_12 rfl ?_
  rw [show ((117 : Int32)).toInt64 = 117 by decide +kernel]
  refine lv_ladd hx hb dX15_summed_13 ?_
  refine lv_lmul hx hb dX15_summed_14 ?_
  refine lv_aload_n hx hb dX15_summed_15 rfl (lv_at hl 1 rfl) ?_
  refine gf_RX15_225_18 S hE w hv rfl dX15_summed_16 ?_
  refine lv_i2l hx hb dX15_summed_19 rfl ?_
  rw [show ((0 : Int32)).toInt64 = 0 by decide +kernel]
  refine lv_ladd hx hb dX15_summed_20 ?_
  exact g_lret hx hb hr hlk w (Nat.le_of_ble_eq_true rfl) (Nat.le_of_ble_eq_true rfl) dX15_summed_21 ⟨rfl, rfl⟩
set_option maxHeartbeats 4000000 in
set_option maxRecDepth 100000 in
theorem m_checksum (l : Launch) (D : va_G) (ar : Nat → ClassId) (κ : Nat → Nat) (G : gW) (sz : Nat) (y : Nat) (q : Nat) (t : Int32) (hM : FM ar κ G y q t) : Met l yX15_checksum (lwC yX15_checksum cX15_checksum 9 (some .long)) (rD 7 3 12) (g_Pc D vwCl (gT ar) (EX1 κ) G sz [.ref y]) (g_Ql D vwCl (g_A G sz) (fun r u => r = 278040950975800092)) 3 12 (g_A G sz) := by
  refine g_ofW (by decide +kernel) (Nat.le_of_ble_eq_true rfl) ?_
  intro p e s m below meth c ls S hr hlk hin hE w hl
  have hx := S.1
  have hb := S.2.1
  have hl : lv_has ls 9 [(0, .ref y)] := hl
  obtain ⟨hyq, m0, m1, m2, m3, m4, m5, m6, m7, m8, m9, m10, m11, m12, m13, m14⟩ := id hM
  have lt13 : q + 13 < sz := g_ltn w m14
  refine lv_aload_n hx hb dX15_checksum_0 rfl (lv_at hl 0 rfl) ?_
  refine lv_iconst (v := 0) hx hb dX15_checksum_1 (by decide) ?_
  refine pf_RX15_54_19 (fs1 := [.ref q, .ref (q + 1), .ref (q + 2), .ref (q + 3), .ref (q + 4), .ref (q + 5), .ref (q + 6), .int 0, .int 0, .int 0, .int 0, .int 45, .int 0, .null]) S hE w m0 rfl rfl (Nat.le_of_ble_eq_true rfl) rfl dX15_checksum_2 (fun H locs w => ?_)
  refine lv_ldc2 hx hb S.2.2.2.1 (S.2.2.2.2 _ m_9_78) dX15_checksum_5 ?_
  refine lv_aload_n hx hb dX15_checksum_8 rfl (lv_at hl 0 rfl) ?_
  refine gf_RX15_336_19 S hE w g_up_s rfl dX15_checksum_9 ?_
  refine lv_i2l hx hb dX15_checksum_12 rfl ?_
  rw [show ((0 : Int32)).toInt64 = 0 by decide +kernel]
  refine lv_ladd hx hb dX15_checksum_13 ?_
  rw [show (217 + 0 : Int64) = 217 by decide +kernel]
  refine lv_lstore_n (lv' := [(1, .long 217), (0, .ref y)]) hx hb dX15_checksum_14 rfl hl (by decide) rfl (fun ls hl => ?_)
  refine lv_aload_n hx hb dX15_checksum_15 rfl (lv_at hl 1 rfl) ?_
  refine gf_RX15_37_19 S hE w g_up_s rfl dX15_checksum_16 ?_
  refine lv_astore_n (lv' := [(3, .ref (q + 6)), (1, .long 217), (0, .ref y)]) hx hb dX15_checksum_19 rfl hl (by decide) rfl (fun ls hl => ?_)
  refine lv_aload_n hx hb dX15_checksum_20 rfl (lv_at hl 0 rfl) ?_
  refine va_alen (v := 8) hx hb hE.1 (g_1 w.1 (g_up_o (g_nx m7 m0 (by simp)) m7)) 0 10 rfl rfl rfl dX15_checksum_21 ?_
  refine lv_istore (lv' := [(4, .int 8), (3, .ref (q + 6)), (1, .long 217), (0, .ref y)]) hx hb dX15_checksum_22 hl (by decide) rfl (fun ls hl => ?_)
  refine lv_iconst (v := 0) hx hb dX15_checksum_24 (by decide) ?_
  refine lv_istore (lv' := [(5, .int 0), (4, .int 8), (3, .ref (q + 6)), (1, .long 217), (0, .ref y)]) hx hb dX15_checksum_25 hl (by decide) rfl (fun ls hl => ?_)
  refine lv_iload hx hb dX15_checksum_27 (lv_at hl 0 rfl) ?_
  refine lv_iload hx hb dX15_checksum_29 (lv_at hl 1 rfl) ?_
  refine lv_icmp_ge (tgt := 53) hx hb dX15_checksum_31 (by decide) (fun c => absurd c (by decide)) (fun _ => ?_)
  refine lv_aload_n hx hb dX15_checksum_34 rfl (lv_at hl 2 rfl) ?_
  refine lv_iload hx hb dX15_checksum_35 (lv_at hl 0 rfl) ?_
  refine va_aldq hx hb hE.1 (g_1 w.1 (g_up_o (g_nx m7 m0 (by simp)) m7)) 0 10 rfl rfl (vp_in_nI (n := 0) (by decide) (by decide)) dX15_checksum_37 ?_
  rw [show (va_up (va_up (va_up (va_up (va_up (va_up (va_up (va_up (fun _ => none) (Int32.toNatClampNeg 0) (some q)) (Int32.toNatClampNeg 1) (some q)) (Int32.toNatClampNeg 2) (some q)) (Int32.toNatClampNeg 3) (some q)) (Int32.toNatClampNeg 4) (some q)) (Int32.toNatClampNeg 5) (some q)) (Int32.toNatClampNeg 6) (some q)) (Int32.toNatClampNeg 7) (some q)) (Int32.toNatClampNeg 0) = some q from rfl]
  show W p l e _ s m _ below meth c _ _ _ _ _ (F0 m _ ls (.ref q :: _))
  refine lv_astore (lv' := [(6, .ref q), (5, .int 0), (4, .int 8), (3, .ref (q + 6)), (1, .long 217), (0, .ref y)]) hx hb dX15_checksum_38 hl (by decide) rfl (fun ls hl => ?_)
  refine lv_lload_n hx hb dX15_checksum_40 rfl (lv_at hl 4 rfl) ?_
  refine lv_aload hx hb dX15_checksum_41 (lv_at hl 0 rfl) ?_
  refine g_calll w (g_runS (As := [.long 217, .ref q]) (rest := []) S hE w hl (c_summed l D ar κ (g_up G y (.inr (19, [.ref q, .ref (q + 1), .ref (q + 2), .ref (q + 3), .ref (q + 4), .ref (q + 5), .ref (q + 6), .int 0, .int 0, .int 0, .int 0, .int 45, .int 0, .null]))) sz 217 q (g_up_o (g_nx m1 m0 (by simp)) m1)) (k_RX15_360 S.2.2.2.2 ⟨Nat.le_of_ble_eq_true rfl, Nat.le_of_ble_eq_true rfl⟩) rfl rfl (Nat.le_of_ble_eq_true rfl) dX15_checksum_43 ⟨Nat.le_of_ble_eq_true rfl, Nat.le_of_ble_eq_true rfl⟩) (fun r u H locs hp hnz w => ?_)
  obtain ⟨rfl, rfl⟩ := hp
  rw [show ((31 * ((31 * 217) + 117)) + 0 : Int64) = 212164 from by decide +kernel]
  dsimp only at w
  refine lv_lstore_n (lv' := [(1, .long 212164), (6, .ref q), (5, .int 0), (4, .int 8), (3, .ref (q + 6)), (0, .ref y)]) hx hb dX15_checksum_46 rfl hl (by decide) rfl (fun ls hl => ?_)
  refine lv_iinc (v := 1) (lv' := [(5, .int 1), (1, .long 212164), (6, .ref q), (4, .int 8), (3, .ref (q + 6)), (0, .ref y)]) hx hb dX15_checksum_47 hl (k := 2) rfl (by decide) (by decide) rfl (fun ls hl => ?_)
  refine lv_goto (tgt := 27) hx hb dX15_checksum_50 (by decide) ?_
  refine lv_iload hx hb dX15_checksum_27 (lv_at hl 0 rfl) ?_
  refine lv_iload hx hb dX15_checksum_29 (lv_at hl 3 rfl) ?_
  refine lv_icmp_ge (tgt := 53) hx hb dX15_checksum_31 (by decide) (fun c => absurd c (by decide)) (fun _ => ?_)
  refine lv_aload_n hx hb dX15_checksum_34 rfl (lv_at hl 4 rfl) ?_
  refine lv_iload hx hb dX15_checksum_35 (lv_at hl 0 rfl) ?_
  refine va_aldq hx hb hE.1 (g_1 w.1 (g_up_o (g_nx m7 m0 (by simp)) m7)) 0 10 rfl rfl (vp_in_nI (n := 1) (by decide) (by decide)) dX15_checksum_37 ?_
  rw [show (va_up (va_up (va_up (va_up (va_up (va_up (va_up (va_up (fun _ => none) (Int32.toNatClampNeg 0) (some q)) (Int32.toNatClampNeg 1) (some q)) (Int32.toNatClampNeg 2) (some q)) (Int32.toNatClampNeg 3) (some q)) (Int32.toNatClampNeg 4) (some q)) (Int32.toNatClampNeg 5) (some q)) (Int32.toNatClampNeg 6) (some q)) (Int32.toNatClampNeg 7) (some q)) (Int32.toNatClampNeg 1) = some q from rfl]
  show W p l e _ s m _ below meth c _ _ _ _ _ (F0 m _ ls (.ref q :: _))
  refine lv_astore (lv' := [(6, .ref q), (5, .int 1), (1, .long 212164), (4, .int 8), (3, .ref (q + 6)), (0, .ref y)]) hx hb dX15_checksum_38 hl (by decide) rfl (fun ls hl => ?_)
  refine lv_lload_n hx hb dX15_checksum_40 rfl (lv_at hl 2 rfl) ?_
  refine lv_aload hx hb dX15_checksum_41 (lv_at hl 0 rfl) ?_
  refine g_calll w (g_runS (As := [.long 212164, .ref q]) (rest := []) S hE w hl (c_summed l D ar κ (g_up G y (.inr (19, [.ref q, .ref (q + 1), .ref (q + 2), .ref (q + 3), .ref (q + 4), .ref (q + 5), .ref (q + 6), .int 0, .int 0, .int 0, .int 0, .int 45, .int 0, .null]))) sz 212164 q (g_up_o (g_nx m1 m0 (by simp)) m1)) (k_RX15_360 S.2.2.2.2 ⟨Nat.le_of_ble_eq_true rfl, Nat.le_of_ble_eq_true rfl⟩) rfl rfl (Nat.le_of_ble_eq_true rfl) dX15_checksum_43 ⟨Nat.le_of_ble_eq_true rfl, Nat.le_of_ble_eq_true rfl⟩) (fun r u H locs hp hnz w => ?_)
  obtain ⟨rfl, rfl⟩ := hp
  rw [show ((31 * ((31 * 212164) + 117)) + 0 : Int64) = 203893231 from by decide +kernel]
  dsimp only at w
  refine lv_lstore_n (lv' := [(1, .long 203893231), (6, .ref q), (5, .int 1), (4, .int 8), (3, .ref (q + 6)), (0, .ref y)]) hx hb dX15_checksum_46 rfl hl (by decide) rfl (fun ls hl => ?_)
  refine lv_iinc (v := 2) (lv' := [(5, .int 2), (1, .long 203893231), (6, .ref q), (4, .int 8), (3, .ref (q + 6)), (0, .ref y)]) hx hb dX15_checksum_47 hl (k := 2) rfl (by decide) (by decide) rfl (fun ls hl => ?_)
  refine lv_goto (tgt := 27) hx hb dX15_checksum_50 (by decide) ?_
  refine lv_iload hx hb dX15_checksum_27 (lv_at hl 0 rfl) ?_
  refine lv_iload hx hb dX15_checksum_29 (lv_at hl 3 rfl) ?_
  refine lv_icmp_ge (tgt := 53) hx hb dX15_checksum_31 (by decide) (fun c => absurd c (by decide)) (fun _ => ?_)
  refine lv_aload_n hx hb dX15_checksum_34 rfl (lv_at hl 4 rfl) ?_
  refine lv_iload hx hb dX15_checksum_35 (lv_at hl 0 rfl) ?_
  refine va_aldq hx hb hE.1 (g_1 w.1 (g_up_o (g_nx m7 m0 (by simp)) m7)) 0 10 rfl rfl (vp_in_nI (n := 2) (by decide) (by decide)) dX15_checksum_37 ?_
  rw [show (va_up (va_up (va_up (va_up (va_up (va_up (va_up (va_up (fun _ => none) (Int32.toNatClampNeg 0) (some q)) (Int32.toNatClampNeg 1) (some q)) (Int32.toNatClampNeg 2) (some q)) (Int32.toNatClampNeg 3) (some q)) (Int32.toNatClampNeg 4) (some q)) (Int32.toNatClampNeg 5) (some q)) (Int32.toNatClampNeg 6) (some q)) (Int32.toNatClampNeg 7) (some q)) (Int32.toNatClampNeg 2) = some q from rfl]
  show W p l e _ s m _ below meth c _ _ _ _ _ (F0 m _ ls (.ref q :: _))
  refine lv_astore (lv' := [(6, .ref q), (5, .int 2), (1, .long 203893231), (4, .int 8), (3, .ref (q + 6)), (0, .ref y)]) hx hb dX15_checksum_38 hl (by decide) rfl (fun ls hl => ?_)
  refine lv_lload_n hx hb dX15_checksum_40 rfl (lv_at hl 2 rfl) ?_
  refine lv_aload hx hb dX15_checksum_41 (lv_at hl 0 rfl) ?_
  refine g_calll w (g_runS (As := [.long 203893231, .ref q]) (rest := []) S hE w hl (c_summed l D ar κ (g_up G y (.inr (19, [.ref q, .ref (q + 1), .ref (q + 2), .ref (q + 3), .ref (q + 4), .ref (q + 5), .ref (q + 6), .int 0, .int 0, .int 0, .int 0, .int 45, .int 0, .null]))) sz 203893231 q (g_up_o (g_nx m1 m0 (by simp)) m1)) (k_RX15_360 S.2.2.2.2 ⟨Nat.le_of_ble_eq_true rfl, Nat.le_of_ble_eq_true rfl⟩) rfl rfl (Nat.le_of_ble_eq_true rfl) dX15_checksum_43 ⟨Nat.le_of_ble_eq_true rfl, Nat.le_of_ble_eq_true rfl⟩) (fun r u H locs hp hnz w => ?_)
  obtain ⟨rfl, rfl⟩ := hp
  rw [show ((31 * ((31 * 203893231) + 117)) + 0 : Int64) = 195941398618 from by decide +kernel]
  dsimp only at w
  refine lv_lstore_n (lv' := [(1, .long 195941398618), (6, .ref q), (5, .int 2), (4, .int 8), (3, .ref (q + 6)), (0, .ref y)]) hx hb dX15_checksum_46 rfl hl (by decide) rfl (fun ls hl => ?_)
  refine lv_iinc (v := 3) (lv' := [(5, .int 3), (1, .long 195941398618), (6, .ref q), (4, .int 8), (3, .ref (q + 6)), (0, .ref y)]) hx hb dX15_checksum_47 hl (k := 2) rfl (by decide) (by decide) rfl (fun ls hl => ?_)
  refine lv_goto (tgt := 27) hx hb dX15_checksum_50 (by decide) ?_
  refine lv_iload hx hb dX15_checksum_27 (lv_at hl 0 rfl) ?_
  refine lv_iload hx hb dX15_checksum_29 (lv_at hl 3 rfl) ?_
  refine lv_icmp_ge (tgt := 53) hx hb dX15_checksum_31 (by decide) (fun c => absurd c (by decide)) (fun _ => ?_)
  refine lv_aload_n hx hb dX15_checksum_34 rfl (lv_at hl 4 rfl) ?_
  refine lv_iload hx hb dX15_checksum_35 (lv_at hl 0 rfl) ?_
  refine va_aldq hx hb hE.1 (g_1 w.1 (g_up_o (g_nx m7 m0 (by simp)) m7)) 0 10 rfl rfl (vp_in_nI (n := 3) (by decide) (by decide)) dX15_checksum_37 ?_
  rw [show (va_up (va_up (va_up (va_up (va_up (va_up (va_up (va_up (fun _ => none) (Int32.toNatClampNeg 0) (some q)) (Int32.toNatClampNeg 1) (some q)) (Int32.toNatClampNeg 2) (some q)) (Int32.toNatClampNeg 3) (some q)) (Int32.toNatClampNeg 4) (some q)) (Int32.toNatClampNeg 5) (some q)) (Int32.toNatClampNeg 6) (some q)) (Int32.toNatClampNeg 7) (some q)) (Int32.toNatClampNeg 3) = some q from rfl]
  show W p l e _ s m _ below meth c _ _ _ _ _ (F0 m _ ls (.ref q :: _))
  refine lv_astore (lv' := [(6, .ref q), (5, .int 3), (1, .long 195941398618), (4, .int 8), (3, .ref (q + 6)), (0, .ref y)]) hx hb dX15_checksum_38 hl (by decide) rfl (fun ls hl => ?_)
  refine lv_lload_n hx hb dX15_checksum_40 rfl (lv_at hl 2 rfl) ?_
  refine lv_aload hx hb dX15_checksum_41 (lv_at hl 0 rfl) ?_
  refine g_calll w (g_runS (As := [.long 195941398618, .ref q]) (rest := []) S hE w hl (c_summed l D ar κ (g_up G y (.inr (19, [.ref q, .ref (q + 1), .ref (q + 2), .ref (q + 3), .ref (q + 4), .ref (q + 5), .ref (q + 6), .int 0, .int 0, .int 0, .int 0, .int 45, .int 0, .null]))) sz 195941398618 q (g_up_o (g_nx m1 m0 (by simp)) m1)) (k_RX15_360 S.2.2.2.2 ⟨Nat.le_of_ble_eq_true rfl, Nat.le_of_ble_eq_true rfl⟩) rfl rfl (Nat.le_of_ble_eq_true rfl) dX15_checksum_43 ⟨Nat.le_of_ble_eq_true rfl, Nat.le_of_ble_eq_true rfl⟩) (fun r u H locs hp hnz w => ?_)
  obtain ⟨rfl, rfl⟩ := hp
  rw [show ((31 * ((31 * 195941398618) + 117)) + 0 : Int64) = 188299684075525 from by decide +kernel]
  dsimp only at w
  refine lv_lstore_n (lv' := [(1, .long 188299684075525), (6, .ref q), (5, .int 3), (4, .int 8), (3, .ref (q + 6)), (0, .ref y)]) hx hb dX15_checksum_46 rfl hl (by decide) rfl (fun ls hl => ?_)
  refine lv_iinc (v := 4) (lv' := [(5, .int 4), (1, .long 188299684075525), (6, .ref q), (4, .int 8), (3, .ref (q + 6)), (0, .ref y)]) hx hb dX15_checksum_47 hl (k := 2) rfl (by decide) (by decide) rfl (fun ls hl => ?_)
  refine lv_goto (tgt := 27) hx hb dX15_checksum_50 (by decide) ?_
  refine lv_iload hx hb dX15_checksum_27 (lv_at hl 0 rfl) ?_
  refine lv_iload hx hb dX15_checksum_29 (lv_at hl 3 rfl) ?_
  refine lv_icmp_ge (tgt := 53) hx hb dX15_checksum_31 (by decide) (fun c => absurd c (by decide)) (fun _ => ?_)
  refine lv_aload_n hx hb dX15_checksum_34 rfl (lv_at hl 4 rfl) ?_
  refine lv_iload hx hb dX15_checksum_35 (lv_at hl 0 rfl) ?_
  refine va_aldq hx hb hE.1 (g_1 w.1 (g_up_o (g_nx m7 m0 (by simp)) m7)) 0 10 rfl rfl (vp_in_nI (n := 4) (by decide) (by decide)) dX15_checksum_37 ?_
  rw [show (va_up (va_up (va_up (va_up (va_up (va_up (va_up (va_up (fun _ => none) (Int32.toNatClampNeg 0) (some q)) (Int32.toNatClampNeg 1) (some q)) (Int32.toNatClampNeg 2) (some q)) (Int32.toNatClampNeg 3) (some q)) (Int32.toNatClampNeg 4) (some q)) (Int32.toNatClampNeg 5) (some q)) (Int32.toNatClampNeg 6) (some q)) (Int32.toNatClampNeg 7) (some q)) (Int32.toNatClampNeg 4) = some q from rfl]
  show W p l e _ s m _ below meth c _ _ _ _ _ (F0 m _ ls (.ref q :: _))
  refine lv_astore (lv' := [(6, .ref q), (5, .int 4), (1, .long 188299684075525), (4, .int 8), (3, .ref (q + 6)), (0, .ref y)]) hx hb dX15_checksum_38 hl (by decide) rfl (fun ls hl => ?_)
  refine lv_lload_n hx hb dX15_checksum_40 rfl (lv_at hl 2 rfl) ?_
  refine lv_aload hx hb dX15_checksum_41 (lv_at hl 0 rfl) ?_
  refine g_calll w (g_runS (As := [.long 188299684075525, .ref q]) (rest := []) S hE w hl (c_summed l D ar κ (g_up G y (.inr (19, [.ref q, .ref (q + 1), .ref (q + 2), .ref (q + 3), .ref (q + 4), .ref (q + 5), .ref (q + 6), .int 0, .int 0, .int 0, .int 0, .int 45, .int 0, .null]))) sz 188299684075525 q (g_up_o (g_nx m1 m0 (by simp)) m1)) (k_RX15_360 S.2.2.2.2 ⟨Nat.le_of_ble_eq_true rfl, Nat.le_of_ble_eq_true rfl⟩) rfl rfl (Nat.le_of_ble_eq_true rfl) dX15_checksum_43 ⟨Nat.le_of_ble_eq_true rfl, Nat.le_of_ble_eq_true rfl⟩) (fun r u H locs hp hnz w => ?_)
  obtain ⟨rfl, rfl⟩ := hp
  rw [show ((31 * ((31 * 188299684075525) + 117)) + 0 : Int64) = 180955996396583152 from by decide +kernel]
  dsimp only at w
  refine lv_lstore_n (lv' := [(1, .long 180955996396583152), (6, .ref q), (5, .int 4), (4, .int 8), (3, .ref (q + 6)), (0, .ref y)]) hx hb dX15_checksum_46 rfl hl (by decide) rfl (fun ls hl => ?_)
  refine lv_iinc (v := 5) (lv' := [(5, .int 5), (1, .long 180955996396583152), (6, .ref q), (4, .int 8), (3, .ref (q + 6)), (0, .ref y)]) hx hb dX15_checksum_47 hl (k := 2) rfl (by decide) (by decide) rfl (fun ls hl => ?_)
  refine lv_goto (tgt := 27) hx hb dX15_checksum_50 (by decide) ?_
  refine lv_iload hx hb dX15_checksum_27 (lv_at hl 0 rfl) ?_
  refine lv_iload hx hb dX15_checksum_29 (lv_at hl 3 rfl) ?_
  refine lv_icmp_ge (tgt := 53) hx hb dX15_checksum_31 (by decide) (fun c => absurd c (by decide)) (fun _ => ?_)
  refine lv_aload_n hx hb dX15_checksum_34 rfl (lv_at hl 4 rfl) ?_
  refine lv_iload hx hb dX15_checksum_35 (lv_at hl 0 rfl) ?_
  refine va_aldq hx hb hE.1 (g_1 w.1 (g_up_o (g_nx m7 m0 (by simp)) m7)) 0 10 rfl rfl (vp_in_nI (n := 5) (by decide) (by decide)) dX15_checksum_37 ?_
  rw [show (va_up (va_up (va_up (va_up (va_up (va_up (va_up (va_up (fun _ => none) (Int32.toNatClampNeg 0) (some q)) (Int32.toNatClampNeg 1) (some q)) (Int32.toNatClampNeg 2) (some q)) (Int32.toNatClampNeg 3) (some q)) (Int32.toNatClampNeg 4) (some q)) (Int32.toNatClampNeg 5) (some q)) (Int32.toNatClampNeg 6) (some q)) (Int32.toNatClampNeg 7) (some q)) (Int32.toNatClampNeg 5) = some q from rfl]
  show W p l e _ s m _ below meth c _ _ _ _ _ (F0 m _ ls (.ref q :: _))
  refine lv_astore (lv' := [(6, .ref q), (5, .int 5), (1, .long 180955996396583152), (4, .int 8), (3, .ref (q + 6)), (0, .ref y)]) hx hb dX15_checksum_38 hl (by decide) rfl (fun ls hl => ?_)
  refine lv_lload_n hx hb dX15_checksum_40 rfl (lv_at hl 2 rfl) ?_
  refine lv_aload hx hb dX15_checksum_41 (lv_at hl 0 rfl) ?_
  refine g_calll w (g_runS (As := [.long 180955996396583152, .ref q]) (rest := []) S hE w hl (c_summed l D ar κ (g_up G y (.inr (19, [.ref q, .ref (q + 1), .ref (q + 2), .ref (q + 3), .ref (q + 4), .ref (q + 5), .ref (q + 6), .int 0, .int 0, .int 0, .int 0, .int 45, .int 0, .null]))) sz 180955996396583152 q (g_up_o (g_nx m1 m0 (by simp)) m1)) (k_RX15_360 S.2.2.2.2 ⟨Nat.le_of_ble_eq_true rfl, Nat.le_of_ble_eq_true rfl⟩) rfl rfl (Nat.le_of_ble_eq_true rfl) dX15_checksum_43 ⟨Nat.le_of_ble_eq_true rfl, Nat.le_of_ble_eq_true rfl⟩) (fun r u H locs hp hnz w => ?_)
  obtain ⟨rfl, rfl⟩ := hp
  rw [show ((31 * ((31 * 180955996396583152) + 117)) + 0 : Int64) = 7878015873730448155 from by decide +kernel]
  dsimp only at w
  refine lv_lstore_n (lv' := [(1, .long 7878015873730448155), (6, .ref q), (5, .int 5), (4, .int 8), (3, .ref (q + 6)), (0, .ref y)]) hx hb dX15_checksum_46 rfl hl (by decide) rfl (fun ls hl => ?_)
  refine lv_iinc (v := 6) (lv' := [(5, .int 6), (1, .long 7878015873730448155), (6, .ref q), (4, .int 8), (3, .ref (q + 6)), (0, .ref y)]) hx hb dX15_checksum_47 hl (k := 2) rfl (by decide) (by decide) rfl (fun ls hl => ?_)
  refine lv_goto (tgt := 27) hx hb dX15_checksum_50 (by decide) ?_
  refine lv_iload hx hb dX15_checksum_27 (lv_at hl 0 rfl) ?_
  refine lv_iload hx hb dX15_checksum_29 (lv_at hl 3 rfl) ?_
  refine lv_icmp_ge (tgt := 53) hx hb dX15_checksum_31 (by decide) (fun c => absurd c (by decide)) (fun _ => ?_)
  refine lv_aload_n hx hb dX15_checksum_34 rfl (lv_at hl 4 rfl) ?_
  refine lv_iload hx hb dX15_checksum_35 (lv_at hl 0 rfl) ?_
  refine va_aldq hx hb hE.1 (g_1 w.1 (g_up_o (g_nx m7 m0 (by simp)) m7)) 0 10 rfl rfl (vp_in_nI (n := 6) (by decide) (by decide)) dX15_checksum_37 ?_
  rw [show (va_up (va_up (va_up (va_up (va_up (va_up (va_up (va_up (fun _ => none) (Int32.toNatClampNeg 0) (some q)) (Int32.toNatClampNeg 1) (some q)) (Int32.toNatClampNeg 2) (some q)) (Int32.toNatClampNeg 3) (some q)) (Int32.toNatClampNeg 4) (some q)) (Int32.toNatClampNeg 5) (some q)) (Int32.toNatClampNeg 6) (some q)) (Int32.toNatClampNeg 7) (some q)) (Int32.toNatClampNeg 6) = some q from rfl]
  show W p l e _ s m _ below meth c _ _ _ _ _ (F0 m _ ls (.ref q :: _))
  refine lv_astore (lv' := [(6, .ref q), (5, .int 6), (1, .long 7878015873730448155), (4, .int 8), (3, .ref (q + 6)), (0, .ref y)]) hx hb dX15_checksum_38 hl (by decide) rfl (fun ls hl => ?_)
  refine lv_lload_n hx hb dX15_checksum_40 rfl (lv_at hl 2 rfl) ?_
  refine lv_aload hx hb dX15_checksum_41 (lv_at hl 0 rfl) ?_
  refine g_calll w (g_runS (As := [.long 7878015873730448155, .ref q]) (rest := []) S hE w hl (c_summed l D ar κ (g_up G y (.inr (19, [.ref q, .ref (q + 1), .ref (q + 2), .ref (q + 3), .ref (q + 4), .ref (q + 5), .ref (q + 6), .int 0, .int 0, .int 0, .int 0, .int 45, .int 0, .null]))) sz 7878015873730448155 q (g_up_o (g_nx m1 m0 (by simp)) m1)) (k_RX15_360 S.2.2.2.2 ⟨Nat.le_of_ble_eq_true rfl, Nat.le_of_ble_eq_true rfl⟩) rfl rfl (Nat.le_of_ble_eq_true rfl) dX15_checksum_43 ⟨Nat.le_of_ble_eq_true rfl, Nat.le_of_ble_eq_true rfl⟩) (fun r u H locs hp hnz w => ?_)
  obtain ⟨rfl, rfl⟩ := hp
  rw [show ((31 * ((31 * 7878015873730448155) + 117)) + 0 : Int64) = 7608184434044518022 from by decide +kernel]
  dsimp only at w
  refine lv_lstore_n (lv' := [(1, .long 7608184434044518022), (6, .ref q), (5, .int 6), (4, .int 8), (3, .ref (q + 6)), (0, .ref y)]) hx hb dX15_checksum_46 rfl hl (by decide) rfl (fun ls hl => ?_)
  refine lv_iinc (v := 7) (lv' := [(5, .int 7), (1, .long 7608184434044518022), (6, .ref q), (4, .int 8), (3, .ref (q + 6)), (0, .ref y)]) hx hb dX15_checksum_47 hl (k := 2) rfl (by decide) (by decide) rfl (fun ls hl => ?_)
  refine lv_goto (tgt := 27) hx hb dX15_checksum_50 (by decide) ?_
  refine lv_iload hx hb dX15_checksum_27 (lv_at hl 0 rfl) ?_
  refine lv_iload hx hb dX15_checksum_29 (lv_at hl 3 rfl) ?_
  refine lv_icmp_ge (tgt := 53) hx hb dX15_checksum_31 (by decide) (fun c => absurd c (by decide)) (fun _ => ?_)
  refine lv_aload_n hx hb dX15_checksum_34 rfl (lv_at hl 4 rfl) ?_
  refine lv_iload hx hb dX15_checksum_35 (lv_at hl 0 rfl) ?_
  refine va_aldq hx hb hE.1 (g_1 w.1 (g_up_o (g_nx m7 m0 (by simp)) m7)) 0 10 rfl rfl (vp_in_nI (n := 7) (by decide) (by decide)) dX15_checksum_37 ?_
  rw [show (va_up (va_up (va_up (va_up (va_up (va_up (va_up (va_up (fun _ => none) (Int32.toNatClampNeg 0) (some q)) (Int32.toNatClampNeg 1) (some q)) (Int32.toNatClampNeg 2) (some q)) (Int32.toNatClampNeg 3) (some q)) (Int32.toNatClampNeg 4) (some q)) (Int32.toNatClampNeg 5) (some q)) (Int32.toNatClampNeg 6) (some q)) (Int32.toNatClampNeg 7) (some q)) (Int32.toNatClampNeg 7) = some q from rfl]
  show W p l e _ s m _ below meth c _ _ _ _ _ (F0 m _ ls (.ref q :: _))
  refine lv_astore (lv' := [(6, .ref q), (5, .int 7), (1, .long 7608184434044518022), (4, .int 8), (3, .ref (q + 6)), (0, .ref y)]) hx hb dX15_checksum_38 hl (by decide) rfl (fun ls hl => ?_)
  refine lv_lload_n hx hb dX15_checksum_40 rfl (lv_at hl 2 rfl) ?_
  refine lv_aload hx hb dX15_checksum_41 (lv_at hl 0 rfl) ?_
  refine g_calll w (g_runS (As := [.long 7608184434044518022, .ref q]) (rest := []) S hE w hl (c_summed l D ar κ (g_up G y (.inr (19, [.ref q, .ref (q + 1), .ref (q + 2), .ref (q + 3), .ref (q + 4), .ref (q + 5), .ref (q + 6), .int 0, .int 0, .int 0, .int 0, .int 45, .int 0, .null]))) sz 7608184434044518022 q (g_up_o (g_nx m1 m0 (by simp)) m1)) (k_RX15_360 S.2.2.2.2 ⟨Nat.le_of_ble_eq_true rfl, Nat.le_of_ble_eq_true rfl⟩) rfl rfl (Nat.le_of_ble_eq_true rfl) dX15_checksum_43 ⟨Nat.le_of_ble_eq_true rfl, Nat.le_of_ble_eq_true rfl⟩) (fun r u H locs hp hnz w => ?_)
  obtain ⟨rfl, rfl⟩ := hp
  rw [show ((31 * ((31 * 7608184434044518022) + 117)) + 0 : Int64) = 6554587927799382833 from by decide +kernel]
  dsimp only at w
  refine lv_lstore_n (lv' := [(1, .long 6554587927799382833), (6, .ref q), (5, .int 7), (4, .int 8), (3, .ref (q + 6)), (0, .ref y)]) hx hb dX15_checksum_46 rfl hl (by decide) rfl (fun ls hl => ?_)
  refine lv_iinc (v := 8) (lv' := [(5, .int 8), (1, .long 6554587927799382833), (6, .ref q), (4, .int 8), (3, .ref (q + 6)), (0, .ref y)]) hx hb dX15_checksum_47 hl (k := 2) rfl (by decide) (by decide) rfl (fun ls hl => ?_)
  refine lv_goto (tgt := 27) hx hb dX15_checksum_50 (by decide) ?_
  refine lv_iload hx hb dX15_checksum_27 (lv_at hl 0 rfl) ?_
  refine lv_iload hx hb dX15_checksum_29 (lv_at hl 3 rfl) ?_
  refine lv_icmp_ge (tgt := 53) hx hb dX15_checksum_31 (by decide) (fun _ => ?_) (fun c => absurd (by decide) c)
  refine lv_aload_n hx hb dX15_checksum_53 rfl (lv_at hl 5 rfl) ?_
  refine gf_RX15_28_19 S hE w g_up_s rfl dX15_checksum_54 ?_
  refine g_callq w (g_runV (As := []) (rest := []) S hE w hl (c_iterator l D ar κ (g_up G y (.inr (19, [.ref q, .ref (q + 1), .ref (q + 2), .ref (q + 3), .ref (q + 4), .ref (q + 5), .ref (q + 6), .int 0, .int 0, .int 0, .int 0, .int 45, .int 0, .null]))) sz (q + 3) 0 (some (κ 0)) 0 (g_up_o (g_nx m4 m0 (by simp)) m4)) (k_RX15_183 S.2.2.2.2 ⟨Nat.le_of_ble_eq_true rfl, Nat.le_of_ble_eq_true rfl⟩) (g_up_o (g_nx m4 m0 (by simp)) m4) rfl rfl rfl rfl (Nat.le_of_ble_eq_true rfl) dX15_checksum_57 ⟨Nat.le_of_ble_eq_true rfl, Nat.le_of_ble_eq_true rfl⟩) (fun r u H locs hp hnz w => ?_)
  obtain ⟨rfl, rfl⟩ := hp
  dsimp only at w
  refine lv_astore_n (lv' := [(3, .ref sz), (5, .int 8), (1, .long 6554587927799382833), (6, .ref q), (4, .int 8), (0, .ref y)]) hx hb dX15_checksum_60 rfl hl (by decide) rfl (fun ls hl => ?_)
  refine lv_aload_n hx hb dX15_checksum_61 rfl (lv_at hl 0 rfl) ?_
  refine g_callFi w (g_runF (As := []) (rest := []) S hE w hl (c_hasNext l D ar κ (g_up (g_up G y (.inr (19, [.ref q, .ref (q + 1), .ref (q + 2), .ref (q + 3), .ref (q + 4), .ref (q + 5), .ref (q + 6), .int 0, .int 0, .int 0, .int 0, .int 45, .int 0, .null]))) sz (.inr (2, [.int 0, .int (-1), .int 0, .ref (q + 3)]))) (sz + 1) sz 0 (-1) (q + 3) 0 (some (κ 0)) 0 g_up_s (g_up_o (by omega) (g_up_o (g_nx m4 m0 (by simp)) m4))) (kF_RX15_187_2 S.2.2.2.2 (hE.2.1.2.1 _ (List.mem_of_getElem? (i := 1) rfl)) ⟨Nat.le_of_ble_eq_true rfl, Nat.le_of_ble_eq_true rfl⟩) g_up_s rfl rfl rfl rfl (Nat.le_of_ble_eq_true rfl) dX15_checksum_62 ⟨Nat.le_of_ble_eq_true rfl, Nat.le_of_ble_eq_true rfl⟩) (fun r u H locs hp hnz w => ?_)
  obtain ⟨rfl, rfl⟩ := hp
  rw [show (if (0 : Int32) = 0 then (0 : Int32) else 1) = 0 from by decide]
  dsimp only at w
  refine lv_if_eq (tgt := 153) hx hb dX15_checksum_67 (by decide) (fun _ => ?_) (fun c => absurd (by decide) c)
  refine lv_ldc2 hx hb S.2.2.2.1 (S.2.2.2.2 _ m_9_82) dX15_checksum_153 ?_
  refine lv_lload_n hx hb dX15_checksum_156 rfl (lv_at hl 2 rfl) ?_
  refine lv_lmul hx hb dX15_checksum_157 ?_
  rw [show (31 * 6554587927799382833 : Int64) = 278040950975800047 by decide +kernel]
  refine lv_aload_n hx hb dX15_checksum_158 rfl (lv_at hl 5 rfl) ?_
  refine gf_RX15_41_19 S hE w (g_up_o (by omega) g_up_s) rfl dX15_checksum_159 ?_
  refine lv_i2l hx hb dX15_checksum_162 rfl ?_
  rw [show ((45 : Int32)).toInt64 = 45 by decide +kernel]
  refine lv_ladd hx hb dX15_checksum_163 ?_
  rw [show (278040950975800047 + 45 : Int64) = 278040950975800092 by decide +kernel]
  refine lv_lstore_n (lv' := [(1, .long 278040950975800092), (3, .ref sz), (5, .int 8), (6, .ref q), (4, .int 8), (0, .ref y)]) hx hb dX15_checksum_164 rfl hl (by decide) rfl (fun ls hl => ?_)
  refine lv_aload_n hx hb dX15_checksum_165 rfl (lv_at hl 5 rfl) ?_
  refine gf_RX15_31_19 S hE w (g_up_o (by omega) g_up_s) rfl dX15_checksum_166 ?_
  refine g_callq w (g_runV (As := []) (rest := []) S hE w hl (c_iterator l D ar κ (g_up (g_up G y (.inr (19, [.ref q, .ref (q + 1), .ref (q + 2), .ref (q + 3), .ref (q + 4), .ref (q + 5), .ref (q + 6), .int 0, .int 0, .int 0, .int 0, .int 45, .int 0, .null]))) sz (.inr (2, [.int 0, .int (-1), .int 0, .ref (q + 3)]))) (sz + 1) (q + 4) 0 (some (κ 0)) 0 (g_up_o (by omega) (g_up_o (g_nx m5 m0 (by simp)) m5))) (k_RX15_183 S.2.2.2.2 ⟨Nat.le_of_ble_eq_true rfl, Nat.le_of_ble_eq_true rfl⟩) (g_up_o (by omega) (g_up_o (g_nx m5 m0 (by simp)) m5)) rfl rfl rfl rfl (Nat.le_of_ble_eq_true rfl) dX15_checksum_169 ⟨Nat.le_of_ble_eq_true rfl, Nat.le_of_ble_eq_true rfl⟩) (fun r u H locs hp hnz w => ?_)
  obtain ⟨rfl, rfl⟩ := hp
  dsimp only at w
  refine lv_astore_n (lv' := [(3, .ref (sz + 1)), (1, .long 278040950975800092), (5, .int 8), (6, .ref q), (4, .int 8), (0, .ref y)]) hx hb dX15_checksum_172 rfl hl (by decide) rfl (fun ls hl => ?_)
  refine lv_aload_n hx hb dX15_checksum_173 rfl (lv_at hl 0 rfl) ?_
  refine g_callFi w (g_runF (As := []) (rest := []) S hE w hl (c_hasNext l D ar κ (g_up (g_up (g_up G y (.inr (19, [.ref q, .ref (q + 1), .ref (q + 2), .ref (q + 3), .ref (q + 4), .ref (q + 5), .ref (q + 6), .int 0, .int 0, .int 0, .int 0, .int 45, .int 0, .null]))) sz (.inr (2, [.int 0, .int (-1), .int 0, .ref (q + 3)]))) (sz + 1) (.inr (2, [.int 0, .int (-1), .int 0, .ref (q + 4)]))) (sz + 2) (sz + 1) 0 (-1) (q + 4) 0 (some (κ 0)) 0 g_up_s (g_up_o (by omega) (g_up_o (by omega) (g_up_o (g_nx m5 m0 (by simp)) m5)))) (kF_RX15_187_2 S.2.2.2.2 (hE.2.1.2.1 _ (List.mem_of_getElem? (i := 1) rfl)) ⟨Nat.le_of_ble_eq_true rfl, Nat.le_of_ble_eq_true rfl⟩) g_up_s rfl rfl rfl rfl (Nat.le_of_ble_eq_true rfl) dX15_checksum_174 ⟨Nat.le_of_ble_eq_true rfl, Nat.le_of_ble_eq_true rfl⟩) (fun r u H locs hp hnz w => ?_)
  obtain ⟨rfl, rfl⟩ := hp
  rw [show (if (0 : Int32) = 0 then (0 : Int32) else 1) = 0 from by decide]
  dsimp only at w
  refine lv_if_eq (tgt := 371) hx hb dX15_checksum_179 (by decide) (fun _ => ?_) (fun c => absurd (by decide) c)
  refine lv_aload_n hx hb dX15_checksum_371 rfl (lv_at hl 5 rfl) ?_
  refine gf_RX15_34_19 S hE w (g_up_o (by omega) (g_up_o (by omega) g_up_s)) rfl dX15_checksum_372 ?_
  refine g_callq w (g_runV (As := []) (rest := []) S hE w hl (c_iterator l D ar κ (g_up (g_up (g_up G y (.inr (19, [.ref q, .ref (q + 1), .ref (q + 2), .ref (q + 3), .ref (q + 4), .ref (q + 5), .ref (q + 6), .int 0, .int 0, .int 0, .int 0, .int 45, .int 0, .null]))) sz (.inr (2, [.int 0, .int (-1), .int 0, .ref (q + 3)]))) (sz + 1) (.inr (2, [.int 0, .int (-1), .int 0, .ref (q + 4)]))) (sz + 2) (q + 5) 0 (some (κ 0)) 0 (g_up_o (by omega) (g_up_o (by omega) (g_up_o (g_nx m6 m0 (by simp)) m6)))) (k_RX15_183 S.2.2.2.2 ⟨Nat.le_of_ble_eq_true rfl, Nat.le_of_ble_eq_true rfl⟩) (g_up_o (by omega) (g_up_o (by omega) (g_up_o (g_nx m6 m0 (by simp)) m6))) rfl rfl rfl rfl (Nat.le_of_ble_eq_true rfl) dX15_checksum_375 ⟨Nat.le_of_ble_eq_true rfl, Nat.le_of_ble_eq_true rfl⟩) (fun r u H locs hp hnz w => ?_)
  obtain ⟨rfl, rfl⟩ := hp
  dsimp only at w
  refine lv_astore_n (lv' := [(3, .ref (sz + 2)), (1, .long 278040950975800092), (5, .int 8), (6, .ref q), (4, .int 8), (0, .ref y)]) hx hb dX15_checksum_378 rfl hl (by decide) rfl (fun ls hl => ?_)
  refine lv_aload_n hx hb dX15_checksum_379 rfl (lv_at hl 0 rfl) ?_
  refine g_callFi w (g_runF (As := []) (rest := []) S hE w hl (c_hasNext l D ar κ (g_up (g_up (g_up (g_up G y (.inr (19, [.ref q, .ref (q + 1), .ref (q + 2), .ref (q + 3), .ref (q + 4), .ref (q + 5), .ref (q + 6), .int 0, .int 0, .int 0, .int 0, .int 45, .int 0, .null]))) sz (.inr (2, [.int 0, .int (-1), .int 0, .ref (q + 3)]))) (sz + 1) (.inr (2, [.int 0, .int (-1), .int 0, .ref (q + 4)]))) (sz + 2) (.inr (2, [.int 0, .int (-1), .int 0, .ref (q + 5)]))) (sz + 3) (sz + 2) 0 (-1) (q + 5) 0 (some (κ 0)) 0 g_up_s (g_up_o (by omega) (g_up_o (by omega) (g_up_o (by omega) (g_up_o (g_nx m6 m0 (by simp)) m6))))) (kF_RX15_187_2 S.2.2.2.2 (hE.2.1.2.1 _ (List.mem_of_getElem? (i := 1) rfl)) ⟨Nat.le_of_ble_eq_true rfl, Nat.le_of_ble_eq_true rfl⟩) g_up_s rfl rfl rfl rfl (Nat.le_of_ble_eq_true rfl) dX15_checksum_380 ⟨Nat.le_of_ble_eq_true rfl, Nat.le_of_ble_eq_true rfl⟩) (fun r u H locs hp hnz w => ?_)
  obtain ⟨rfl, rfl⟩ := hp
  rw [show (if (0 : Int32) = 0 then (0 : Int32) else 1) = 0 from by decide]
  dsimp only at w
  refine lv_if_eq (tgt := 409) hx hb dX15_checksum_385 (by decide) (fun _ => ?_) (fun c => absurd (by decide) c)
  refine lv_lload_n hx hb dX15_checksum_409 rfl (lv_at hl 1 rfl) ?_
  exact g_lret hx hb hr hlk w (Nat.le_of_ble_eq_true rfl) (Nat.le_of_ble_eq_true rfl) dX15_checksum_410 rfl
set_option maxHeartbeats 4000000 in
set_option maxRecDepth 100000 in
theorem m_isSound (l : Launch) (D : va_G) (ar : Nat → ClassId) (κ : Nat → Nat) (G : gW) (sz : Nat) (y : Nat) (q : Nat) (t : Int32) (hM : FM ar κ G y q t) : Met l yX15_isSound (lwC yX15_isSound cX15_isSound 8 (some .boolean)) (rD 7 2 8) (g_Pc D vwCl (gT ar) (EX1 κ) G sz [.ref y]) (g_Qi D vwCl (g_A G sz) (fun r u => r = 1)) 2 8 (g_A G sz) := by
  refine g_ofW (by decide +kernel) (Nat.le_of_ble_eq_true rfl) ?_
  intro p e s m below meth c ls S hr hlk hin hE w hl
  have hx := S.1
  have hb := S.2.1
  have hl : lv_has ls 8 [(0, .ref y)] := hl
  obtain ⟨hyq, m0, m1, m2, m3, m4, m5, m6, m7, m8, m9, m10, m11, m12, m13, m14⟩ := id hM
  have lt13 : q + 13 < sz := g_ltn w m14
  refine lv_aload_n hx hb dX15_isSound_0 rfl (lv_at hl 0 rfl) ?_
  refine lv_iconst (v := 0) hx hb dX15_isSound_1 (by decide) ?_
  refine pf_RX15_54_19 (fs1 := [.ref q, .ref (q + 1), .ref (q + 2), .ref (q + 3), .ref (q + 4), .ref (q + 5), .ref (q + 6), .int 0, .int 0, .int 0, .int 0, .int 45, .int 0, .null]) S hE w m0 rfl rfl (Nat.le_of_ble_eq_true rfl) rfl dX15_isSound_2 (fun H locs w => ?_)
  refine lv_aload_n hx hb dX15_isSound_5 rfl (lv_at hl 0 rfl) ?_
  refine gf_RX15_28_19 S hE w g_up_s rfl dX15_isSound_6 ?_
  refine g_calli w (g_runV (As := []) (rest := []) S hE w hl (c_size l D ar κ (g_up G y (.inr (19, [.ref q, .ref (q + 1), .ref (q + 2), .ref (q + 3), .ref (q + 4), .ref (q + 5), .ref (q + 6), .int 0, .int 0, .int 0, .int 0, .int 45, .int 0, .null]))) sz (q + 3) 0 (some (κ 0)) 0 (g_up_o (g_nx m4 m0 (by simp)) m4)) (k_RX15_58 S.2.2.2.2 ⟨Nat.le_of_ble_eq_true rfl, Nat.le_of_ble_eq_true rfl⟩) (g_up_o (g_nx m4 m0 (by simp)) m4) rfl rfl rfl rfl (Nat.le_of_ble_eq_true rfl) dX15_isSound_9 ⟨Nat.le_of_ble_eq_true rfl, Nat.le_of_ble_eq_true rfl⟩) (fun r u H locs hp hnz w => ?_)
  obtain ⟨rfl, rfl⟩ := hp
  dsimp only at w
  refine lv_bipush (v := 60) hx hb dX15_isSound_12 (by decide) ?_
  refine lv_icmp_gt (tgt := 44) hx hb dX15_isSound_14 (by decide) (fun c => absurd c (by decide)) (fun _ => ?_)
  refine lv_aload_n hx hb dX15_isSound_17 rfl (lv_at hl 0 rfl) ?_
  refine gf_RX15_31_19 S hE w g_up_s rfl dX15_isSound_18 ?_
  refine g_calli w (g_runV (As := []) (rest := []) S hE w hl (c_size l D ar κ (g_up G y (.inr (19, [.ref q, .ref (q + 1), .ref (q + 2), .ref (q + 3), .ref (q + 4), .ref (q + 5), .ref (q + 6), .int 0, .int 0, .int 0, .int 0, .int 45, .int 0, .null]))) sz (q + 4) 0 (some (κ 0)) 0 (g_up_o (g_nx m5 m0 (by simp)) m5)) (k_RX15_58 S.2.2.2.2 ⟨Nat.le_of_ble_eq_true rfl, Nat.le_of_ble_eq_true rfl⟩) (g_up_o (g_nx m5 m0 (by simp)) m5) rfl rfl rfl rfl (Nat.le_of_ble_eq_true rfl) dX15_isSound_21 ⟨Nat.le_of_ble_eq_true rfl, Nat.le_of_ble_eq_true rfl⟩) (fun r u H locs hp hnz w => ?_)
  obtain ⟨rfl, rfl⟩ := hp
  dsimp only at w
  refine lv_bipush (v := 12) hx hb dX15_isSound_24 (by decide) ?_
  refine lv_icmp_gt (tgt := 44) hx hb dX15_isSound_26 (by decide) (fun c => absurd c (by decide)) (fun _ => ?_)
  refine lv_aload_n hx hb dX15_isSound_29 rfl (lv_at hl 0 rfl) ?_
  refine lv_aload_n hx hb dX15_isSound_30 rfl (lv_at hl 0 rfl) ?_
  refine gf_RX15_249_19 S hE w g_up_s rfl dX15_isSound_31 ?_
  refine g_calli w (g_runV (As := [.null]) (rest := []) S hE w hl (c_isThere_0 l D ar κ (g_up G y (.inr (19, [.ref q, .ref (q + 1), .ref (q + 2), .ref (q + 3), .ref (q + 4), .ref (q + 5), .ref (q + 6), .int 0, .int 0, .int 0, .int 0, .int 45, .int 0, .null]))) sz y) (k_RX15_364 S.2.2.2.2 ⟨Nat.le_of_ble_eq_true rfl, Nat.le_of_ble_eq_true rfl⟩) g_up_s rfl rfl rfl rfl (Nat.le_of_ble_eq_true rfl) dX15_isSound_34 ⟨Nat.le_of_ble_eq_true rfl, Nat.le_of_ble_eq_true rfl⟩) (fun r u H locs hp hnz w => ?_)
  obtain ⟨rfl, rfl⟩ := hp
  dsimp only at w
  refine lv_if_eq (tgt := 44) hx hb dX15_isSound_37 (by decide) (fun c => absurd c (by decide)) (fun _ => ?_)
  refine lv_iconst (v := 1) hx hb dX15_isSound_40 (by decide) ?_
  refine lv_goto (tgt := 45) hx hb dX15_isSound_41 (by decide) ?_
  refine lv_istore_n (lv' := [(1, .int 1), (0, .ref y)]) hx hb dX15_isSound_45 rfl hl (by decide) rfl (fun ls hl => ?_)
  refine lv_aload_n hx hb dX15_isSound_46 rfl (lv_at hl 1 rfl) ?_
  refine gf_RX15_37_19 S hE w g_up_s rfl dX15_isSound_47 ?_
  refine lv_astore_n (lv' := [(2, .ref (q + 6)), (1, .int 1), (0, .ref y)]) hx hb dX15_isSound_50 rfl hl (by decide) rfl (fun ls hl => ?_)
  refine lv_aload_n hx hb dX15_isSound_51 rfl (lv_at hl 0 rfl) ?_
  refine va_alen (v := 8) hx hb hE.1 (g_1 w.1 (g_up_o (g_nx m7 m0 (by simp)) m7)) 0 10 rfl rfl rfl dX15_isSound_52 ?_
  refine lv_istore_n (lv' := [(3, .int 8), (2, .ref (q + 6)), (1, .int 1), (0, .ref y)]) hx hb dX15_isSound_53 rfl hl (by decide) rfl (fun ls hl => ?_)
  refine lv_iconst (v := 0) hx hb dX15_isSound_54 (by decide) ?_
  refine lv_istore (lv' := [(4, .int 0), (3, .int 8), (2, .ref (q + 6)), (1, .int 1), (0, .ref y)]) hx hb dX15_isSound_55 hl (by decide) rfl (fun ls hl => ?_)
  refine lv_iload hx hb dX15_isSound_57 (lv_at hl 0 rfl) ?_
  refine lv_iload_n hx hb dX15_isSound_59 rfl (lv_at hl 1 rfl) ?_
  refine lv_icmp_ge (tgt := 84) hx hb dX15_isSound_60 (by decide) (fun c => absurd c (by decide)) (fun _ => ?_)
  refine lv_aload_n hx hb dX15_isSound_63 rfl (lv_at hl 2 rfl) ?_
  refine lv_iload hx hb dX15_isSound_64 (lv_at hl 0 rfl) ?_
  refine va_aldq hx hb hE.1 (g_1 w.1 (g_up_o (g_nx m7 m0 (by simp)) m7)) 0 10 rfl rfl (vp_in_nI (n := 0) (by decide) (by decide)) dX15_isSound_66 ?_
  rw [show (va_up (va_up (va_up (va_up (va_up (va_up (va_up (va_up (fun _ => none) (Int32.toNatClampNeg 0) (some q)) (Int32.toNatClampNeg 1) (some q)) (Int32.toNatClampNeg 2) (some q)) (Int32.toNatClampNeg 3) (some q)) (Int32.toNatClampNeg 4) (some q)) (Int32.toNatClampNeg 5) (some q)) (Int32.toNatClampNeg 6) (some q)) (Int32.toNatClampNeg 7) (some q)) (Int32.toNatClampNeg 0) = some q from rfl]
  show W p l e _ s m _ below meth c _ _ _ _ _ (F0 m _ ls (.ref q :: _))
  refine lv_astore (lv' := [(5, .ref q), (4, .int 0), (3, .int 8), (2, .ref (q + 6)), (1, .int 1), (0, .ref y)]) hx hb dX15_isSound_67 hl (by decide) rfl (fun ls hl => ?_)
  refine lv_iload_n hx hb dX15_isSound_69 rfl (lv_at hl 4 rfl) ?_
  refine lv_aload_n hx hb dX15_isSound_70 rfl (lv_at hl 5 rfl) ?_
  refine lv_aload hx hb dX15_isSound_71 (lv_at hl 0 rfl) ?_
  refine g_calli w (g_runV (As := [.ref q]) (rest := [.int 1]) S hE w hl (c_isThere_v l D ar κ (g_up G y (.inr (19, [.ref q, .ref (q + 1), .ref (q + 2), .ref (q + 3), .ref (q + 4), .ref (q + 5), .ref (q + 6), .int 0, .int 0, .int 0, .int 0, .int 45, .int 0, .null]))) sz y q 0 (g_up_o (g_nx m1 m0 (by simp)) m1)) (k_RX15_364 S.2.2.2.2 ⟨Nat.le_of_ble_eq_true rfl, Nat.le_of_ble_eq_true rfl⟩) g_up_s rfl rfl rfl rfl (Nat.le_of_ble_eq_true rfl) dX15_isSound_73 ⟨Nat.le_of_ble_eq_true rfl, Nat.le_of_ble_eq_true rfl⟩) (fun r u H locs hp hnz w => ?_)
  obtain ⟨rfl, rfl⟩ := hp
  dsimp only at w
  refine lv_iand hx hb dX15_isSound_76 ?_
  rw [show (1 &&& 1 : Int32) = 1 by decide +kernel]
  refine lv_istore_n (lv' := [(1, .int 1), (5, .ref q), (4, .int 0), (3, .int 8), (2, .ref (q + 6)), (0, .ref y)]) hx hb dX15_isSound_77 rfl hl (by decide) rfl (fun ls hl => ?_)
  refine lv_iinc (v := 1) (lv' := [(4, .int 1), (1, .int 1), (5, .ref q), (3, .int 8), (2, .ref (q + 6)), (0, .ref y)]) hx hb dX15_isSound_78 hl (k := 2) rfl (by decide) (by decide) rfl (fun ls hl => ?_)
  refine lv_goto (tgt := 57) hx hb dX15_isSound_81 (by decide) ?_
  refine lv_iload hx hb dX15_isSound_57 (lv_at hl 0 rfl) ?_
  refine lv_iload_n hx hb dX15_isSound_59 rfl (lv_at hl 3 rfl) ?_
  refine lv_icmp_ge (tgt := 84) hx hb dX15_isSound_60 (by decide) (fun c => absurd c (by decide)) (fun _ => ?_)
  refine lv_aload_n hx hb dX15_isSound_63 rfl (lv_at hl 4 rfl) ?_
  refine lv_iload hx hb dX15_isSound_64 (lv_at hl 0 rfl) ?_
  refine va_aldq hx hb hE.1 (g_1 w.1 (g_up_o (g_nx m7 m0 (by simp)) m7)) 0 10 rfl rfl (vp_in_nI (n := 1) (by decide) (by decide)) dX15_isSound_66 ?_
  rw [show (va_up (va_up (va_up (va_up (va_up (va_up (va_up (va_up (fun _ => none) (Int32.toNatClampNeg 0) (some q)) (Int32.toNatClampNeg 1) (some q)) (Int32.toNatClampNeg 2) (some q)) (Int32.toNatClampNeg 3) (some q)) (Int32.toNatClampNeg 4) (some q)) (Int32.toNatClampNeg 5) (some q)) (Int32.toNatClampNeg 6) (some q)) (Int32.toNatClampNeg 7) (some q)) (Int32.toNatClampNeg 1) = some q from rfl]
  show W p l e _ s m _ below meth c _ _ _ _ _ (F0 m _ ls (.ref q :: _))
  refine lv_astore (lv' := [(5, .ref q), (4, .int 1), (1, .int 1), (3, .int 8), (2, .ref (q + 6)), (0, .ref y)]) hx hb dX15_isSound_67 hl (by decide) rfl (fun ls hl => ?_)
  refine lv_iload_n hx hb dX15_isSound_69 rfl (lv_at hl 2 rfl) ?_
  refine lv_aload_n hx hb dX15_isSound_70 rfl (lv_at hl 5 rfl) ?_
  refine lv_aload hx hb dX15_isSound_71 (lv_at hl 0 rfl) ?_
  refine g_calli w (g_runV (As := [.ref q]) (rest := [.int 1]) S hE w hl (c_isThere_v l D ar κ (g_up G y (.inr (19, [.ref q, .ref (q + 1), .ref (q + 2), .ref (q + 3), .ref (q + 4), .ref (q + 5), .ref (q + 6), .int 0, .int 0, .int 0, .int 0, .int 45, .int 0, .null]))) sz y q 0 (g_up_o (g_nx m1 m0 (by simp)) m1)) (k_RX15_364 S.2.2.2.2 ⟨Nat.le_of_ble_eq_true rfl, Nat.le_of_ble_eq_true rfl⟩) g_up_s rfl rfl rfl rfl (Nat.le_of_ble_eq_true rfl) dX15_isSound_73 ⟨Nat.le_of_ble_eq_true rfl, Nat.le_of_ble_eq_true rfl⟩) (fun r u H locs hp hnz w => ?_)
  obtain ⟨rfl, rfl⟩ := hp
  dsimp only at w
  refine lv_iand hx hb dX15_isSound_76 ?_
  rw [show (1 &&& 1 : Int32) = 1 by decide +kernel]
  refine lv_istore_n (lv' := [(1, .int 1), (5, .ref q), (4, .int 1), (3, .int 8), (2, .ref (q + 6)), (0, .ref y)]) hx hb dX15_isSound_77 rfl hl (by decide) rfl (fun ls hl => ?_)
  refine lv_iinc (v := 2) (lv' := [(4, .int 2), (1, .int 1), (5, .ref q), (3, .int 8), (2, .ref (q + 6)), (0, .ref y)]) hx hb dX15_isSound_78 hl (k := 2) rfl (by decide) (by decide) rfl (fun ls hl => ?_)
  refine lv_goto (tgt := 57) hx hb dX15_isSound_81 (by decide) ?_
  refine lv_iload hx hb dX15_isSound_57 (lv_at hl 0 rfl) ?_
  refine lv_iload_n hx hb dX15_isSound_59 rfl (lv_at hl 3 rfl) ?_
  refine lv_icmp_ge (tgt := 84) hx hb dX15_isSound_60 (by decide) (fun c => absurd c (by decide)) (fun _ => ?_)
  refine lv_aload_n hx hb dX15_isSound_63 rfl (lv_at hl 4 rfl) ?_
  refine lv_iload hx hb dX15_isSound_64 (lv_at hl 0 rfl) ?_
  refine va_aldq hx hb hE.1 (g_1 w.1 (g_up_o (g_nx m7 m0 (by simp)) m7)) 0 10 rfl rfl (vp_in_nI (n := 2) (by decide) (by decide)) dX15_isSound_66 ?_
  rw [show (va_up (va_up (va_up (va_up (va_up (va_up (va_up (va_up (fun _ => none) (Int32.toNatClampNeg 0) (some q)) (Int32.toNatClampNeg 1) (some q)) (Int32.toNatClampNeg 2) (some q)) (Int32.toNatClampNeg 3) (some q)) (Int32.toNatClampNeg 4) (some q)) (Int32.toNatClampNeg 5) (some q)) (Int32.toNatClampNeg 6) (some q)) (Int32.toNatClampNeg 7) (some q)) (Int32.toNatClampNeg 2) = some q from rfl]
  show W p l e _ s m _ below meth c _ _ _ _ _ (F0 m _ ls (.ref q :: _))
  refine lv_astore (lv' := [(5, .ref q), (4, .int 2), (1, .int 1), (3, .int 8), (2, .ref (q + 6)), (0, .ref y)]) hx hb dX15_isSound_67 hl (by decide) rfl (fun ls hl => ?_)
  refine lv_iload_n hx hb dX15_isSound_69 rfl (lv_at hl 2 rfl) ?_
  refine lv_aload_n hx hb dX15_isSound_70 rfl (lv_at hl 5 rfl) ?_
  refine lv_aload hx hb dX15_isSound_71 (lv_at hl 0 rfl) ?_
  refine g_calli w (g_runV (As := [.ref q]) (rest := [.int 1]) S hE w hl (c_isThere_v l D ar κ (g_up G y (.inr (19, [.ref q, .ref (q + 1), .ref (q + 2), .ref (q + 3), .ref (q + 4), .ref (q + 5), .ref (q + 6), .int 0, .int 0, .int 0, .int 0, .int 45, .int 0, .null]))) sz y q 0 (g_up_o (g_nx m1 m0 (by simp)) m1)) (k_RX15_364 S.2.2.2.2 ⟨Nat.le_of_ble_eq_true rfl, Nat.le_of_ble_eq_true rfl⟩) g_up_s rfl rfl rfl rfl (Nat.le_of_ble_eq_true rfl) dX15_isSound_73 ⟨Nat.le_of_ble_eq_true rfl, Nat.le_of_ble_eq_true rfl⟩) (fun r u H locs hp hnz w => ?_)
  obtain ⟨rfl, rfl⟩ := hp
  dsimp only at w
  refine lv_iand hx hb dX15_isSound_76 ?_
  rw [show (1 &&& 1 : Int32) = 1 by decide +kernel]
  refine lv_istore_n (lv' := [(1, .int 1), (5, .ref q), (4, .int 2), (3, .int 8), (2, .ref (q + 6)), (0, .ref y)]) hx hb dX15_isSound_77 rfl hl (by decide) rfl (fun ls hl => ?_)
  refine lv_iinc (v := 3) (lv' := [(4, .int 3), (1, .int 1), (5, .ref q), (3, .int 8), (2, .ref (q + 6)), (0, .ref y)]) hx hb dX15_isSound_78 hl (k := 2) rfl (by decide) (by decide) rfl (fun ls hl => ?_)
  refine lv_goto (tgt := 57) hx hb dX15_isSound_81 (by decide) ?_
  refine lv_iload hx hb dX15_isSound_57 (lv_at hl 0 rfl) ?_
  refine lv_iload_n hx hb dX15_isSound_59 rfl (lv_at hl 3 rfl) ?_
  refine lv_icmp_ge (tgt := 84) hx hb dX15_isSound_60 (by decide) (fun c => absurd c (by decide)) (fun _ => ?_)
  refine lv_aload_n hx hb dX15_isSound_63 rfl (lv_at hl 4 rfl) ?_
  refine lv_iload hx hb dX15_isSound_64 (lv_at hl 0 rfl) ?_
  refine va_aldq hx hb hE.1 (g_1 w.1 (g_up_o (g_nx m7 m0 (by simp)) m7)) 0 10 rfl rfl (vp_in_nI (n := 3) (by decide) (by decide)) dX15_isSound_66 ?_
  rw [show (va_up (va_up (va_up (va_up (va_up (va_up (va_up (va_up (fun _ => none) (Int32.toNatClampNeg 0) (some q)) (Int32.toNatClampNeg 1) (some q)) (Int32.toNatClampNeg 2) (some q)) (Int32.toNatClampNeg 3) (some q)) (Int32.toNatClampNeg 4) (some q)) (Int32.toNatClampNeg 5) (some q)) (Int32.toNatClampNeg 6) (some q)) (Int32.toNatClampNeg 7) (some q)) (Int32.toNatClampNeg 3) = some q from rfl]
  show W p l e _ s m _ below meth c _ _ _ _ _ (F0 m _ ls (.ref q :: _))
  refine lv_astore (lv' := [(5, .ref q), (4, .int 3), (1, .int 1), (3, .int 8), (2, .ref (q + 6)), (0, .ref y)]) hx hb dX15_isSound_67 hl (by decide) rfl (fun ls hl => ?_)
  refine lv_iload_n hx hb dX15_isSound_69 rfl (lv_at hl 2 rfl) ?_
  refine lv_aload_n hx hb dX15_isSound_70 rfl (lv_at hl 5 rfl) ?_
  refine lv_aload hx hb dX15_isSound_71 (lv_at hl 0 rfl) ?_
  refine g_calli w (g_runV (As := [.ref q]) (rest := [.int 1]) S hE w hl (c_isThere_v l D ar κ (g_up G y (.inr (19, [.ref q, .ref (q + 1), .ref (q + 2), .ref (q + 3), .ref (q + 4), .ref (q + 5), .ref (q + 6), .int 0, .int 0, .int 0, .int 0, .int 45, .int 0, .null]))) sz y q 0 (g_up_o (g_nx m1 m0 (by simp)) m1)) (k_RX15_364 S.2.2.2.2 ⟨Nat.le_of_ble_eq_true rfl, Nat.le_of_ble_eq_true rfl⟩) g_up_s rfl rfl rfl rfl (Nat.le_of_ble_eq_true rfl) dX15_isSound_73 ⟨Nat.le_of_ble_eq_true rfl, Nat.le_of_ble_eq_true rfl⟩) (fun r u H locs hp hnz w => ?_)
  obtain ⟨rfl, rfl⟩ := hp
  dsimp only at w
  refine lv_iand hx hb dX15_isSound_76 ?_
  rw [show (1 &&& 1 : Int32) = 1 by decide +kernel]
  refine lv_istore_n (lv' := [(1, .int 1), (5, .ref q), (4, .int 3), (3, .int 8), (2, .ref (q + 6)), (0, .ref y)]) hx hb dX15_isSound_77 rfl hl (by decide) rfl (fun ls hl => ?_)
  refine lv_iinc (v := 4) (lv' := [(4, .int 4), (1, .int 1), (5, .ref q), (3, .int 8), (2, .ref (q + 6)), (0, .ref y)]) hx hb dX15_isSound_78 hl (k := 2) rfl (by decide) (by decide) rfl (fun ls hl => ?_)
  refine lv_goto (tgt := 57) hx hb dX15_isSound_81 (by decide) ?_
  refine lv_iload hx hb dX15_isSound_57 (lv_at hl 0 rfl) ?_
  refine lv_iload_n hx hb dX15_isSound_59 rfl (lv_at hl 3 rfl) ?_
  refine lv_icmp_ge (tgt := 84) hx hb dX15_isSound_60 (by decide) (fun c => absurd c (by decide)) (fun _ => ?_)
  refine lv_aload_n hx hb dX15_isSound_63 rfl (lv_at hl 4 rfl) ?_
  refine lv_iload hx hb dX15_isSound_64 (lv_at hl 0 rfl) ?_
  refine va_aldq hx hb hE.1 (g_1 w.1 (g_up_o (g_nx m7 m0 (by simp)) m7)) 0 10 rfl rfl (vp_in_nI (n := 4) (by decide) (by decide)) dX15_isSound_66 ?_
  rw [show (va_up (va_up (va_up (va_up (va_up (va_up (va_up (va_up (fun _ => none) (Int32.toNatClampNeg 0) (some q)) (Int32.toNatClampNeg 1) (some q)) (Int32.toNatClampNeg 2) (some q)) (Int32.toNatClampNeg 3) (some q)) (Int32.toNatClampNeg 4) (some q)) (Int32.toNatClampNeg 5) (some q)) (Int32.toNatClampNeg 6) (some q)) (Int32.toNatClampNeg 7) (some q)) (Int32.toNatClampNeg 4) = some q from rfl]
  show W p l e _ s m _ below meth c _ _ _ _ _ (F0 m _ ls (.ref q :: _))
  refine lv_astore (lv' := [(5, .ref q), (4, .int 4), (1, .int 1), (3, .int 8), (2, .ref (q + 6)), (0, .ref y)]) hx hb dX15_isSound_67 hl (by decide) rfl (fun ls hl => ?_)
  refine lv_iload_n hx hb dX15_isSound_69 rfl (lv_at hl 2 rfl) ?_
  refine lv_aload_n hx hb dX15_isSound_70 rfl (lv_at hl 5 rfl) ?_
  refine lv_aload hx hb dX15_isSound_71 (lv_at hl 0 rfl) ?_
  refine g_calli w (g_runV (As := [.ref q]) (rest := [.int 1]) S hE w hl (c_isThere_v l D ar κ (g_up G y (.inr (19, [.ref q, .ref (q + 1), .ref (q + 2), .ref (q + 3), .ref (q + 4), .ref (q + 5), .ref (q + 6), .int 0, .int 0, .int 0, .int 0, .int 45, .int 0, .null]))) sz y q 0 (g_up_o (g_nx m1 m0 (by simp)) m1)) (k_RX15_364 S.2.2.2.2 ⟨Nat.le_of_ble_eq_true rfl, Nat.le_of_ble_eq_true rfl⟩) g_up_s rfl rfl rfl rfl (Nat.le_of_ble_eq_true rfl) dX15_isSound_73 ⟨Nat.le_of_ble_eq_true rfl, Nat.le_of_ble_eq_true rfl⟩) (fun r u H locs hp hnz w => ?_)
  obtain ⟨rfl, rfl⟩ := hp
  dsimp only at w
  refine lv_iand hx hb dX15_isSound_76 ?_
  rw [show (1 &&& 1 : Int32) = 1 by decide +kernel]
  refine lv_istore_n (lv' := [(1, .int 1), (5, .ref q), (4, .int 4), (3, .int 8), (2, .ref (q + 6)), (0, .ref y)]) hx hb dX15_isSound_77 rfl hl (by decide) rfl (fun ls hl => ?_)
  refine lv_iinc (v := 5) (lv' := [(4, .int 5), (1, .int 1), (5, .ref q), (3, .int 8), (2, .ref (q + 6)), (0, .ref y)]) hx hb dX15_isSound_78 hl (k := 2) rfl (by decide) (by decide) rfl (fun ls hl => ?_)
  refine lv_goto (tgt := 57) hx hb dX15_isSound_81 (by decide) ?_
  refine lv_iload hx hb dX15_isSound_57 (lv_at hl 0 rfl) ?_
  refine lv_iload_n hx hb dX15_isSound_59 rfl (lv_at hl 3 rfl) ?_
  refine lv_icmp_ge (tgt := 84) hx hb dX15_isSound_60 (by decide) (fun c => absurd c (by decide)) (fun _ => ?_)
  refine lv_aload_n hx hb dX15_isSound_63 rfl (lv_at hl 4 rfl) ?_
  refine lv_iload hx hb dX15_isSound_64 (lv_at hl 0 rfl) ?_
  refine va_aldq hx hb hE.1 (g_1 w.1 (g_up_o (g_nx m7 m0 (by simp)) m7)) 0 10 rfl rfl (vp_in_nI (n := 5) (by decide) (by decide)) dX15_isSound_66 ?_
  rw [show (va_up (va_up (va_up (va_up (va_up (va_up (va_up (va_up (fun _ => none) (Int32.toNatClampNeg 0) (some q)) (Int32.toNatClampNeg 1) (some q)) (Int32.toNatClampNeg 2) (some q)) (Int32.toNatClampNeg 3) (some q)) (Int32.toNatClampNeg 4) (some q)) (Int32.toNatClampNeg 5) (some q)) (Int32.toNatClampNeg 6) (some q)) (Int32.toNatClampNeg 7) (some q)) (Int32.toNatClampNeg 5) = some q from rfl]
  show W p l e _ s m _ below meth c _ _ _ _ _ (F0 m _ ls (.ref q :: _))
  refine lv_astore (lv' := [(5, .ref q), (4, .int 5), (1, .int 1), (3, .int 8), (2, .ref (q + 6)), (0, .ref y)]) hx hb dX15_isSound_67 hl (by decide) rfl (fun ls hl => ?_)
  refine lv_iload_n hx hb dX15_isSound_69 rfl (lv_at hl 2 rfl) ?_
  refine lv_aload_n hx hb dX15_isSound_70 rfl (lv_at hl 5 rfl) ?_
  refine lv_aload hx hb dX15_isSound_71 (lv_at hl 0 rfl) ?_
  refine g_calli w (g_runV (As := [.ref q]) (rest := [.int 1]) S hE w hl (c_isThere_v l D ar κ (g_up G y (.inr (19, [.ref q, .ref (q + 1), .ref (q + 2), .ref (q + 3), .ref (q + 4), .ref (q + 5), .ref (q + 6), .int 0, .int 0, .int 0, .int 0, .int 45, .int 0, .null]))) sz y q 0 (g_up_o (g_nx m1 m0 (by simp)) m1)) (k_RX15_364 S.2.2.2.2 ⟨Nat.le_of_ble_eq_true rfl, Nat.le_of_ble_eq_true rfl⟩) g_up_s rfl rfl rfl rfl (Nat.le_of_ble_eq_true rfl) dX15_isSound_73 ⟨Nat.le_of_ble_eq_true rfl, Nat.le_of_ble_eq_true rfl⟩) (fun r u H locs hp hnz w => ?_)
  obtain ⟨rfl, rfl⟩ := hp
  dsimp only at w
  refine lv_iand hx hb dX15_isSound_76 ?_
  rw [show (1 &&& 1 : Int32) = 1 by decide +kernel]
  refine lv_istore_n (lv' := [(1, .int 1), (5, .ref q), (4, .int 5), (3, .int 8), (2, .ref (q + 6)), (0, .ref y)]) hx hb dX15_isSound_77 rfl hl (by decide) rfl (fun ls hl => ?_)
  refine lv_iinc (v := 6) (lv' := [(4, .int 6), (1, .int 1), (5, .ref q), (3, .int 8), (2, .ref (q + 6)), (0, .ref y)]) hx hb dX15_isSound_78 hl (k := 2) rfl (by decide) (by decide) rfl (fun ls hl => ?_)
  refine lv_goto (tgt := 57) hx hb dX15_isSound_81 (by decide) ?_
  refine lv_iload hx hb dX15_isSound_57 (lv_at hl 0 rfl) ?_
  refine lv_iload_n hx hb dX15_isSound_59 rfl (lv_at hl 3 rfl) ?_
  refine lv_icmp_ge (tgt := 84) hx hb dX15_isSound_60 (by decide) (fun c => absurd c (by decide)) (fun _ => ?_)
  refine lv_aload_n hx hb dX15_isSound_63 rfl (lv_at hl 4 rfl) ?_
  refine lv_iload hx hb dX15_isSound_64 (lv_at hl 0 rfl) ?_
  refine va_aldq hx hb hE.1 (g_1 w.1 (g_up_o (g_nx m7 m0 (by simp)) m7)) 0 10 rfl rfl (vp_in_nI (n := 6) (by decide) (by decide)) dX15_isSound_66 ?_
  rw [show (va_up (va_up (va_up (va_up (va_up (va_up (va_up (va_up (fun _ => none) (Int32.toNatClampNeg 0) (some q)) (Int32.toNatClampNeg 1) (some q)) (Int32.toNatClampNeg 2) (some q)) (Int32.toNatClampNeg 3) (some q)) (Int32.toNatClampNeg 4) (some q)) (Int32.toNatClampNeg 5) (some q)) (Int32.toNatClampNeg 6) (some q)) (Int32.toNatClampNeg 7) (some q)) (Int32.toNatClampNeg 6) = some q from rfl]
  show W p l e _ s m _ below meth c _ _ _ _ _ (F0 m _ ls (.ref q :: _))
  refine lv_astore (lv' := [(5, .ref q), (4, .int 6), (1, .int 1), (3, .int 8), (2, .ref (q + 6)), (0, .ref y)]) hx hb dX15_isSound_67 hl (by decide) rfl (fun ls hl => ?_)
  refine lv_iload_n hx hb dX15_isSound_69 rfl (lv_at hl 2 rfl) ?_
  refine lv_aload_n hx hb dX15_isSound_70 rfl (lv_at hl 5 rfl) ?_
  refine lv_aload hx hb dX15_isSound_71 (lv_at hl 0 rfl) ?_
  refine g_calli w (g_runV (As := [.ref q]) (rest := [.int 1]) S hE w hl (c_isThere_v l D ar κ (g_up G y (.inr (19, [.ref q, .ref (q + 1), .ref (q + 2), .ref (q + 3), .ref (q + 4), .ref (q + 5), .ref (q + 6), .int 0, .int 0, .int 0, .int 0, .int 45, .int 0, .null]))) sz y q 0 (g_up_o (g_nx m1 m0 (by simp)) m1)) (k_RX15_364 S.2.2.2.2 ⟨Nat.le_of_ble_eq_true rfl, Nat.le_of_ble_eq_true rfl⟩) g_up_s rfl rfl rfl rfl (Nat.le_of_ble_eq_true rfl) dX15_isSound_73 ⟨Nat.le_of_ble_eq_true rfl, Nat.le_of_ble_eq_true rfl⟩) (fun r u H locs hp hnz w => ?_)
  obtain ⟨rfl, rfl⟩ := hp
  dsimp only at w
  refine lv_iand hx hb dX15_isSound_76 ?_
  rw [show (1 &&& 1 : Int32) = 1 by decide +kernel]
  refine lv_istore_n (lv' := [(1, .int 1), (5, .ref q), (4, .int 6), (3, .int 8), (2, .ref (q + 6)), (0, .ref y)]) hx hb dX15_isSound_77 rfl hl (by decide) rfl (fun ls hl => ?_)
  refine lv_iinc (v := 7) (lv' := [(4, .int 7), (1, .int 1), (5, .ref q), (3, .int 8), (2, .ref (q + 6)), (0, .ref y)]) hx hb dX15_isSound_78 hl (k := 2) rfl (by decide) (by decide) rfl (fun ls hl => ?_)
  refine lv_goto (tgt := 57) hx hb dX15_isSound_81 (by decide) ?_
  refine lv_iload hx hb dX15_isSound_57 (lv_at hl 0 rfl) ?_
  refine lv_iload_n hx hb dX15_isSound_59 rfl (lv_at hl 3 rfl) ?_
  refine lv_icmp_ge (tgt := 84) hx hb dX15_isSound_60 (by decide) (fun c => absurd c (by decide)) (fun _ => ?_)
  refine lv_aload_n hx hb dX15_isSound_63 rfl (lv_at hl 4 rfl) ?_
  refine lv_iload hx hb dX15_isSound_64 (lv_at hl 0 rfl) ?_
  refine va_aldq hx hb hE.1 (g_1 w.1 (g_up_o (g_nx m7 m0 (by simp)) m7)) 0 10 rfl rfl (vp_in_nI (n := 7) (by decide) (by decide)) dX15_isSound_66 ?_
  rw [show (va_up (va_up (va_up (va_up (va_up (va_up (va_up (va_up (fun _ => none) (Int32.toNatClampNeg 0) (some q)) (Int32.toNatClampNeg 1) (some q)) (Int32.toNatClampNeg 2) (some q)) (Int32.toNatClampNeg 3) (some q)) (Int32.toNatClampNeg 4) (some q)) (Int32.toNatClampNeg 5) (some q)) (Int32.toNatClampNeg 6) (some q)) (Int32.toNatClampNeg 7) (some q)) (Int32.toNatClampNeg 7) = some q from rfl]
  show W p l e _ s m _ below meth c _ _ _ _ _ (F0 m _ ls (.ref q :: _))
  refine lv_astore (lv' := [(5, .ref q), (4, .int 7), (1, .int 1), (3, .int 8), (2, .ref (q + 6)), (0, .ref y)]) hx hb dX15_isSound_67 hl (by decide) rfl (fun ls hl => ?_)
  refine lv_iload_n hx hb dX15_isSound_69 rfl (lv_at hl 2 rfl) ?_
  refine lv_aload_n hx hb dX15_isSound_70 rfl (lv_at hl 5 rfl) ?_
  refine lv_aload hx hb dX15_isSound_71 (lv_at hl 0 rfl) ?_
  refine g_calli w (g_runV (As := [.ref q]) (rest := [.int 1]) S hE w hl (c_isThere_v l D ar κ (g_up G y (.inr (19, [.ref q, .ref (q + 1), .ref (q + 2), .ref (q + 3), .ref (q + 4), .ref (q + 5), .ref (q + 6), .int 0, .int 0, .int 0, .int 0, .int 45, .int 0, .null]))) sz y q 0 (g_up_o (g_nx m1 m0 (by simp)) m1)) (k_RX15_364 S.2.2.2.2 ⟨Nat.le_of_ble_eq_true rfl, Nat.le_of_ble_eq_true rfl⟩) g_up_s rfl rfl rfl rfl (Nat.le_of_ble_eq_true rfl) dX15_isSound_73 ⟨Nat.le_of_ble_eq_true rfl, Nat.le_of_ble_eq_true rfl⟩) (fun r u H locs hp hnz w => ?_)
  obtain ⟨rfl, rfl⟩ := hp
  dsimp only at w
  refine lv_iand hx hb dX15_isSound_76 ?_
  rw [show (1 &&& 1 : Int32) = 1 by decide +kernel]
  refine lv_istore_n (lv' := [(1, .int 1), (5, .ref q), (4, .int 7), (3, .int 8), (2, .ref (q + 6)), (0, .ref y)]) hx hb dX15_isSound_77 rfl hl (by decide) rfl (fun ls hl => ?_)
  refine lv_iinc (v := 8) (lv' := [(4, .int 8), (1, .int 1), (5, .ref q), (3, .int 8), (2, .ref (q + 6)), (0, .ref y)]) hx hb dX15_isSound_78 hl (k := 2) rfl (by decide) (by decide) rfl (fun ls hl => ?_)
  refine lv_goto (tgt := 57) hx hb dX15_isSound_81 (by decide) ?_
  refine lv_iload hx hb dX15_isSound_57 (lv_at hl 0 rfl) ?_
  refine lv_iload_n hx hb dX15_isSound_59 rfl (lv_at hl 3 rfl) ?_
  refine lv_icmp_ge (tgt := 84) hx hb dX15_isSound_60 (by decide) (fun _ => ?_) (fun c => absurd (by decide) c)
  refine lv_aload_n hx hb dX15_isSound_84 rfl (lv_at hl 5 rfl) ?_
  refine gf_RX15_28_19 S hE w g_up_s rfl dX15_isSound_85 ?_
  refine g_callq w (g_runV (As := []) (rest := []) S hE w hl (c_iterator l D ar κ (g_up G y (.inr (19, [.ref q, .ref (q + 1), .ref (q + 2), .ref (q + 3), .ref (q + 4), .ref (q + 5), .ref (q + 6), .int 0, .int 0, .int 0, .int 0, .int 45, .int 0, .null]))) sz (q + 3) 0 (some (κ 0)) 0 (g_up_o (g_nx m4 m0 (by simp)) m4)) (k_RX15_183 S.2.2.2.2 ⟨Nat.le_of_ble_eq_true rfl, Nat.le_of_ble_eq_true rfl⟩) (g_up_o (g_nx m4 m0 (by simp)) m4) rfl rfl rfl rfl (Nat.le_of_ble_eq_true rfl) dX15_isSound_88 ⟨Nat.le_of_ble_eq_true rfl, Nat.le_of_ble_eq_true rfl⟩) (fun r u H locs hp hnz w => ?_)
  obtain ⟨rfl, rfl⟩ := hp
  dsimp only at w
  refine lv_astore_n (lv' := [(2, .ref sz), (4, .int 8), (1, .int 1), (5, .ref q), (3, .int 8), (0, .ref y)]) hx hb dX15_isSound_91 rfl hl (by decide) rfl (fun ls hl => ?_)
  refine lv_aload_n hx hb dX15_isSound_92 rfl (lv_at hl 0 rfl) ?_
  refine g_callFi w (g_runF (As := []) (rest := []) S hE w hl (c_hasNext l D ar κ (g_up (g_up G y (.inr (19, [.ref q, .ref (q + 1), .ref (q + 2), .ref (q + 3), .ref (q + 4), .ref (q + 5), .ref (q + 6), .int 0, .int 0, .int 0, .int 0, .int 45, .int 0, .null]))) sz (.inr (2, [.int 0, .int (-1), .int 0, .ref (q + 3)]))) (sz + 1) sz 0 (-1) (q + 3) 0 (some (κ 0)) 0 g_up_s (g_up_o (by omega) (g_up_o (g_nx m4 m0 (by simp)) m4))) (kF_RX15_187_2 S.2.2.2.2 (hE.2.1.2.1 _ (List.mem_of_getElem? (i := 1) rfl)) ⟨Nat.le_of_ble_eq_true rfl, Nat.le_of_ble_eq_true rfl⟩) g_up_s rfl rfl rfl rfl (Nat.le_of_ble_eq_true rfl) dX15_isSound_93 ⟨Nat.le_of_ble_eq_true rfl, Nat.le_of_ble_eq_true rfl⟩) (fun r u H locs hp hnz w => ?_)
  obtain ⟨rfl, rfl⟩ := hp
  rw [show (if (0 : Int32) = 0 then (0 : Int32) else 1) = 0 from by decide]
  dsimp only at w
  refine lv_if_eq (tgt := 157) hx hb dX15_isSound_98 (by decide) (fun _ => ?_) (fun c => absurd (by decide) c)
  refine lv_aload_n hx hb dX15_isSound_157 rfl (lv_at hl 5 rfl) ?_
  refine gf_RX15_31_19 S hE w (g_up_o (by omega) g_up_s) rfl dX15_isSound_158 ?_
  refine g_callq w (g_runV (As := []) (rest := []) S hE w hl (c_iterator l D ar κ (g_up (g_up G y (.inr (19, [.ref q, .ref (q + 1), .ref (q + 2), .ref (q + 3), .ref (q + 4), .ref (q + 5), .ref (q + 6), .int 0, .int 0, .int 0, .int 0, .int 45, .int 0, .null]))) sz (.inr (2, [.int 0, .int (-1), .int 0, .ref (q + 3)]))) (sz + 1) (q + 4) 0 (some (κ 0)) 0 (g_up_o (by omega) (g_up_o (g_nx m5 m0 (by simp)) m5))) (k_RX15_183 S.2.2.2.2 ⟨Nat.le_of_ble_eq_true rfl, Nat.le_of_ble_eq_true rfl⟩) (g_up_o (by omega) (g_up_o (g_nx m5 m0 (by simp)) m5)) rfl rfl rfl rfl (Nat.le_of_ble_eq_true rfl) dX15_isSound_161 ⟨Nat.le_of_ble_eq_true rfl, Nat.le_of_ble_eq_true rfl⟩) (fun r u H locs hp hnz w => ?_)
  obtain ⟨rfl, rfl⟩ := hp
  dsimp only at w
  refine lv_astore_n (lv' := [(2, .ref (sz + 1)), (4, .int 8), (1, .int 1), (5, .ref q), (3, .int 8), (0, .ref y)]) hx hb dX15_isSound_164 rfl hl (by decide) rfl (fun ls hl => ?_)
  refine lv_aload_n hx hb dX15_isSound_165 rfl (lv_at hl 0 rfl) ?_
  refine g_callFi w (g_runF (As := []) (rest := []) S hE w hl (c_hasNext l D ar κ (g_up (g_up (g_up G y (.inr (19, [.ref q, .ref (q + 1), .ref (q + 2), .ref (q + 3), .ref (q + 4), .ref (q + 5), .ref (q + 6), .int 0, .int 0, .int 0, .int 0, .int 45, .int 0, .null]))) sz (.inr (2, [.int 0, .int (-1), .int 0, .ref (q + 3)]))) (sz + 1) (.inr (2, [.int 0, .int (-1), .int 0, .ref (q + 4)]))) (sz + 2) (sz + 1) 0 (-1) (q + 4) 0 (some (κ 0)) 0 g_up_s (g_up_o (by omega) (g_up_o (by omega) (g_up_o (g_nx m5 m0 (by simp)) m5)))) (kF_RX15_187_2 S.2.2.2.2 (hE.2.1.2.1 _ (List.mem_of_getElem? (i := 1) rfl)) ⟨Nat.le_of_ble_eq_true rfl, Nat.le_of_ble_eq_true rfl⟩) g_up_s rfl rfl rfl rfl (Nat.le_of_ble_eq_true rfl) dX15_isSound_166 ⟨Nat.le_of_ble_eq_true rfl, Nat.le_of_ble_eq_true rfl⟩) (fun r u H locs hp hnz w => ?_)
  obtain ⟨rfl, rfl⟩ := hp
  rw [show (if (0 : Int32) = 0 then (0 : Int32) else 1) = 0 from by decide]
  dsimp only at w
  refine lv_if_eq (tgt := 327) hx hb dX15_isSound_171 (by decide) (fun _ => ?_) (fun c => absurd (by decide) c)
  refine lv_iload_n hx hb dX15_isSound_327 rfl (lv_at hl 2 rfl) ?_
  refine lv_if_eq (tgt := 376) hx hb dX15_isSound_328 (by decide) (fun c => absurd c (by decide)) (fun _ => ?_)
  refine lv_aload_n hx hb dX15_isSound_331 rfl (lv_at hl 5 rfl) ?_
  refine gf_RX15_31_19 S hE w (g_up_o (by omega) (g_up_o (by omega) g_up_s)) rfl dX15_isSound_332 ?_
  refine g_calli w (g_runV (As := []) (rest := []) S hE w hl (c_isEmpty0 l D ar κ (g_up (g_up (g_up G y (.inr (19, [.ref q, .ref (q + 1), .ref (q + 2), .ref (q + 3), .ref (q + 4), .ref (q + 5), .ref (q + 6), .int 0, .int 0, .int 0, .int 0, .int 45, .int 0, .null]))) sz (.inr (2, [.int 0, .int (-1), .int 0, .ref (q + 3)]))) (sz + 1) (.inr (2, [.int 0, .int (-1), .int 0, .ref (q + 4)]))) (sz + 2) (q + 4) 0 (some (κ 0)) (g_up_o (by omega) (g_up_o (by omega) (g_up_o (g_nx m5 m0 (by simp)) m5)))) (k_RX15_155 S.2.2.2.2 ⟨Nat.le_of_ble_eq_true rfl, Nat.le_of_ble_eq_true rfl⟩) (g_up_o (by omega) (g_up_o (by omega) (g_up_o (g_nx m5 m0 (by simp)) m5))) rfl rfl rfl rfl (Nat.le_of_ble_eq_true rfl) dX15_isSound_335 ⟨Nat.le_of_ble_eq_true rfl, Nat.le_of_ble_eq_true rfl⟩) (fun r u H locs hp hnz w => ?_)
  obtain ⟨rfl, rfl⟩ := hp
  dsimp only at w
  refine lv_if_ne (tgt := 372) hx hb dX15_isSound_338 (by decide) (fun _ => ?_) (fun c => absurd c (by decide))
  refine lv_iconst (v := 1) hx hb dX15_isSound_372 (by decide) ?_
  refine lv_goto (tgt := 377) hx hb dX15_isSound_373 (by decide) ?_
  exact g_zret hx hb hr hlk w (Nat.le_of_ble_eq_true rfl) (Nat.le_of_ble_eq_true rfl) dX15_isSound_377 rfl rfl
