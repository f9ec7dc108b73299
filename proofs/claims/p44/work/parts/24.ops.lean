theorem dX8_send_0 : decode cX8_send 0 = .ok (.aload_n 1, 1) := by decide +kernel
theorem dX8_send_1 : decode cX8_send 1 = .ok (.iload 4, 2) := by decide +kernel
theorem dX8_send_3 : decode cX8_send 3 = .ok (.invokevirtual 375, 3) := by decide +kernel
theorem dX8_send_6 : decode cX8_send 6 = .ok (.lstore 5, 2) := by decide +kernel
theorem dX8_send_8 : decode cX8_send 8 = .ok (.iload_n 2, 1) := by decide +kernel
theorem dX8_send_9 : decode cX8_send 9 = .ok (.bipush 77, 2) := by decide +kernel
theorem dX8_send_11 : decode cX8_send 11 = .ok (.if_icmp .ne 17, 3) := by decide +kernel
theorem dX8_send_14 : decode cX8_send 14 = .ok (.aload_n 0, 1) := by decide +kernel
theorem dX8_send_15 : decode cX8_send 15 = .ok (.getfield 10, 3) := by decide +kernel
theorem dX8_send_18 : decode cX8_send 18 = .ok (.aload_n 1, 1) := by decide +kernel
theorem dX8_send_19 : decode cX8_send 19 = .ok (.invokevirtual 319, 3) := by decide +kernel
theorem dX8_send_22 : decode cX8_send 22 = .ok (.invokevirtual 184, 3) := by decide +kernel
theorem dX8_send_25 : decode cX8_send 25 = .ok (.goto 12, 3) := by decide +kernel
theorem dX8_send_28 : decode cX8_send 28 = .ok (.aload_n 0, 1) := by decide +kernel
theorem dX8_send_29 : decode cX8_send 29 = .ok (.getfield 40, 3) := by decide +kernel
theorem dX8_send_32 : decode cX8_send 32 = .ok (.lload 5, 2) := by decide +kernel
theorem dX8_send_34 : decode cX8_send 34 = .ok (.invokevirtual 284, 3) := by decide +kernel
theorem dX8_send_37 : decode cX8_send 37 = .ok (.istore 7, 2) := by decide +kernel
theorem dX8_send_39 : decode cX8_send 39 = .ok (.aload_n 0, 1) := by decide +kernel
theorem dX8_send_40 : decode cX8_send 40 = .ok (.iload 7, 2) := by decide +kernel
theorem dX8_send_42 : decode cX8_send 42 = .ok (.iload_n 3, 1) := by decide +kernel
theorem dX8_send_43 : decode cX8_send 43 = .ok (.invokevirtual 166, 3) := by decide +kernel
theorem dX8_send_46 : decode cX8_send 46 = .ok (.astore 8, 2) := by decide +kernel
theorem dX8_send_48 : decode cX8_send 48 = .ok (.aload 8, 2) := by decide +kernel
theorem dX8_send_50 : decode cX8_send 50 = .ok (.ifnull 13, 3) := by decide +kernel
theorem dX8_send_53 : decode cX8_send 53 = .ok (.aload 8, 2) := by decide +kernel
theorem dX8_send_55 : decode cX8_send 55 = .ok (.getfield 287, 3) := by decide +kernel
theorem dX8_send_58 : decode cX8_send 58 = .ok (.iload 4, 2) := by decide +kernel
theorem dX8_send_60 : decode cX8_send 60 = .ok (.if_icmp .eq 10, 3) := by decide +kernel
theorem dX8_send_63 : decode cX8_send 63 = .ok (.aload_n 0, 1) := by decide +kernel
theorem dX8_send_64 : decode cX8_send 64 = .ok (.bipush 117, 2) := by decide +kernel
theorem dX8_send_66 : decode cX8_send 66 = .ok (.invokevirtual 435, 3) := by decide +kernel
theorem dX8_send_69 : decode cX8_send 69 = .ok (.return_, 1) := by decide +kernel
theorem dX8_send_70 : decode cX8_send 70 = .ok (.aload_n 0, 1) := by decide +kernel
theorem dX8_send_71 : decode cX8_send 71 = .ok (.getfield 50, 3) := by decide +kernel
theorem dX8_send_74 : decode cX8_send 74 = .ok (.bipush 12, 2) := by decide +kernel
theorem dX8_send_76 : decode cX8_send 76 = .ok (.if_icmp .lt 10, 3) := by decide +kernel
theorem dX8_send_79 : decode cX8_send 79 = .ok (.aload_n 0, 1) := by decide +kernel
theorem dX8_send_80 : decode cX8_send 80 = .ok (.bipush 100, 2) := by decide +kernel
theorem dX8_send_82 : decode cX8_send 82 = .ok (.invokevirtual 435, 3) := by decide +kernel
theorem dX8_send_85 : decode cX8_send 85 = .ok (.return_, 1) := by decide +kernel
theorem dX8_send_86 : decode cX8_send 86 = .ok (.aload_n 0, 1) := by decide +kernel
theorem dX8_send_87 : decode cX8_send 87 = .ok (.aload 8, 2) := by decide +kernel
theorem dX8_send_89 : decode cX8_send 89 = .ok (.lload 5, 2) := by decide +kernel
theorem dX8_send_91 : decode cX8_send 91 = .ok (.invokevirtual 292, 3) := by decide +kernel
theorem dX8_send_94 : decode cX8_send 94 = .ok (.astore 9, 2) := by decide +kernel
theorem dX8_send_96 : decode cX8_send 96 = .ok (.aload 9, 2) := by decide +kernel
theorem dX8_send_98 : decode cX8_send 98 = .ok (.ifnonnull 4, 3) := by decide +kernel
theorem dX8_send_101 : decode cX8_send 101 = .ok (.return_, 1) := by decide +kernel
theorem dX8_send_102 : decode cX8_send 102 = .ok (.iload 4, 2) := by decide +kernel
theorem dX8_send_104 : decode cX8_send 104 = .ok (.iconst 1, 1) := by decide +kernel
theorem dX8_send_105 : decode cX8_send 105 = .ok (.isub, 1) := by decide +kernel
theorem dX8_send_106 : decode cX8_send 106 = .ok (.istore 10, 2) := by decide +kernel
theorem dX8_send_108 : decode cX8_send 108 = .ok (.iload 10, 2) := by decide +kernel
theorem dX8_send_110 : decode cX8_send 110 = .ok (.ifCond .lt 23, 3) := by decide +kernel
theorem dX8_send_113 : decode cX8_send 113 = .ok (.aload 9, 2) := by decide +kernel
theorem dX8_send_115 : decode cX8_send 115 = .ok (.getfield 296, 3) := by decide +kernel
theorem dX8_send_118 : decode cX8_send 118 = .ok (.iload 10, 2) := by decide +kernel
theorem dX8_send_120 : decode cX8_send 120 = .ok (.aload_n 1, 1) := by decide +kernel
theorem dX8_send_121 : decode cX8_send 121 = .ok (.invokevirtual 409, 3) := by decide +kernel
theorem dX8_send_124 : decode cX8_send 124 = .ok (.invokestatic 203, 3) := by decide +kernel
theorem dX8_send_127 : decode cX8_send 127 = .ok (.iinc 10 (-1), 3) := by decide +kernel
theorem dX8_send_130 : decode cX8_send 130 = .ok (.goto (-22), 3) := by decide +kernel
theorem dX8_send_133 : decode cX8_send 133 = .ok (.aload_n 1, 1) := by decide +kernel
theorem dX8_send_134 : decode cX8_send 134 = .ok (.invokevirtual 409, 3) := by decide +kernel
theorem dX8_send_137 : decode cX8_send 137 = .ok (.pop2, 1) := by decide +kernel
theorem dX8_send_138 : decode cX8_send 138 = .ok (.return_, 1) := by decide +kernel
theorem dX8_begin_0 : decode cX8_begin 0 = .ok (.iload_n 1, 1) := by decide +kernel
theorem dX8_begin_1 : decode cX8_begin 1 = .ok (.bipush 8, 2) := by decide +kernel
theorem dX8_begin_3 : decode cX8_begin 3 = .ok (.invokestatic 97, 3) := by decide +kernel
theorem dX8_begin_6 : decode cX8_begin 6 = .ok (.ifCond .eq 12, 3) := by decide +kernel
theorem dX8_begin_9 : decode cX8_begin 9 = .ok (.iload_n 2, 1) := by decide +kernel
theorem dX8_begin_10 : decode cX8_begin 10 = .ok (.bipush 16, 2) := by decide +kernel
theorem dX8_begin_12 : decode cX8_begin 12 = .ok (.invokestatic 97, 3) := by decide +kernel
theorem dX8_begin_15 : decode cX8_begin 15 = .ok (.ifCond .ne 14, 3) := by decide +kernel
theorem dX8_begin_18 : decode cX8_begin 18 = .ok (.new 87, 3) := by decide +kernel
theorem dX8_begin_21 : decode cX8_begin 21 = .ok (.dup, 1) := by decide +kernel
theorem dX8_begin_22 : decode cX8_begin 22 = .ok (.ldc_w 280, 3) := by decide +kernel
theorem dX8_begin_25 : decode cX8_begin 25 = .ok (.invokespecial 91, 3) := by decide +kernel
theorem dX8_begin_28 : decode cX8_begin 28 = .ok (.athrow, 1) := by decide +kernel
theorem dX8_begin_29 : decode cX8_begin 29 = .ok (.iload_n 3, 1) := by decide +kernel
theorem dX8_begin_30 : decode cX8_begin 30 = .ok (.iconst 3, 1) := by decide +kernel
theorem dX8_begin_31 : decode cX8_begin 31 = .ok (.invokestatic 97, 3) := by decide +kernel
theorem dX8_begin_34 : decode cX8_begin 34 = .ok (.ifCond .ne 13, 3) := by decide +kernel
theorem dX8_begin_37 : decode cX8_begin 37 = .ok (.new 105, 3) := by decide +kernel
theorem dX8_begin_40 : decode cX8_begin 40 = .ok (.dup, 1) := by decide +kernel
theorem dX8_begin_41 : decode cX8_begin 41 = .ok (.ldc 138, 2) := by decide +kernel
theorem dX8_begin_43 : decode cX8_begin 43 = .ok (.invokespecial 109, 3) := by decide +kernel
theorem dX8_begin_46 : decode cX8_begin 46 = .ok (.athrow, 1) := by decide +kernel
theorem dX8_begin_47 : decode cX8_begin 47 = .ok (.aload_n 0, 1) := by decide +kernel
theorem dX8_begin_48 : decode cX8_begin 48 = .ok (.getfield 53, 3) := by decide +kernel
theorem dX8_begin_51 : decode cX8_begin 51 = .ok (.bipush 115, 2) := by decide +kernel
theorem dX8_begin_53 : decode cX8_begin 53 = .ok (.if_icmp .ne 14, 3) := by decide +kernel
theorem dX8_begin_56 : decode cX8_begin 56 = .ok (.new 113, 3) := by decide +kernel
theorem dX8_begin_59 : decode cX8_begin 59 = .ok (.dup, 1) := by decide +kernel
theorem dX8_begin_60 : decode cX8_begin 60 = .ok (.ldc_w 282, 3) := by decide +kernel
theorem dX8_begin_63 : decode cX8_begin 63 = .ok (.invokespecial 117, 3) := by decide +kernel
theorem dX8_begin_66 : decode cX8_begin 66 = .ok (.athrow, 1) := by decide +kernel
theorem dX8_begin_67 : decode cX8_begin 67 = .ok (.aload_n 0, 1) := by decide +kernel
theorem dX8_begin_68 : decode cX8_begin 68 = .ok (.getfield 33, 3) := by decide +kernel
theorem dX8_begin_71 : decode cX8_begin 71 = .ok (.iload_n 1, 1) := by decide +kernel
theorem dX8_begin_72 : decode cX8_begin 72 = .ok (.invokestatic 222, 3) := by decide +kernel
theorem dX8_begin_75 : decode cX8_begin 75 = .ok (.lstore 6, 2) := by decide +kernel
theorem dX8_begin_77 : decode cX8_begin 77 = .ok (.aload_n 0, 1) := by decide +kernel
theorem dX8_begin_78 : decode cX8_begin 78 = .ok (.aload_n 0, 1) := by decide +kernel
theorem dX8_begin_79 : decode cX8_begin 79 = .ok (.getfield 40, 3) := by decide +kernel
theorem dX8_begin_82 : decode cX8_begin 82 = .ok (.lload 6, 2) := by decide +kernel
theorem dX8_begin_84 : decode cX8_begin 84 = .ok (.invokevirtual 284, 3) := by decide +kernel
theorem dX8_begin_87 : decode cX8_begin 87 = .ok (.iload_n 2, 1) := by decide +kernel
theorem dX8_begin_88 : decode cX8_begin 88 = .ok (.invokevirtual 166, 3) := by decide +kernel
theorem dX8_begin_91 : decode cX8_begin 91 = .ok (.astore 8, 2) := by decide +kernel
theorem dX8_begin_93 : decode cX8_begin 93 = .ok (.aload 8, 2) := by decide +kernel
theorem dX8_begin_95 : decode cX8_begin 95 = .ok (.ifnull 12, 3) := by decide +kernel
theorem dX8_begin_98 : decode cX8_begin 98 = .ok (.aload 8, 2) := by decide +kernel
theorem dX8_begin_100 : decode cX8_begin 100 = .ok (.getfield 287, 3) := by decide +kernel
theorem dX8_begin_103 : decode cX8_begin 103 = .ok (.iload_n 3, 1) := by decide +kernel
theorem dX8_begin_104 : decode cX8_begin 104 = .ok (.if_icmp .eq 14, 3) := by decide +kernel
theorem dX8_begin_107 : decode cX8_begin 107 = .ok (.new 147, 3) := by decide +kernel
theorem dX8_begin_110 : decode cX8_begin 110 = .ok (.dup, 1) := by decide +kernel
theorem dX8_begin_111 : decode cX8_begin 111 = .ok (.ldc_w 290, 3) := by decide +kernel
theorem dX8_begin_114 : decode cX8_begin 114 = .ok (.invokespecial 151, 3) := by decide +kernel
theorem dX8_begin_117 : decode cX8_begin 117 = .ok (.athrow, 1) := by decide +kernel
theorem dX8_begin_118 : decode cX8_begin 118 = .ok (.aload_n 0, 1) := by decide +kernel
theorem dX8_begin_119 : decode cX8_begin 119 = .ok (.bipush 115, 2) := by decide +kernel
theorem dX8_begin_121 : decode cX8_begin 121 = .ok (.putfield 53, 3) := by decide +kernel
theorem dX8_begin_124 : decode cX8_begin 124 = .ok (.aload_n 0, 1) := by decide +kernel
theorem dX8_begin_125 : decode cX8_begin 125 = .ok (.iconst 0, 1) := by decide +kernel
theorem dX8_begin_126 : decode cX8_begin 126 = .ok (.putfield 50, 3) := by decide +kernel
theorem dX8_begin_129 : decode cX8_begin 129 = .ok (.aload_n 0, 1) := by decide +kernel
theorem dX8_begin_130 : decode cX8_begin 130 = .ok (.aload 8, 2) := by decide +kernel
theorem dX8_begin_132 : decode cX8_begin 132 = .ok (.lload 6, 2) := by decide +kernel
theorem dX8_begin_134 : decode cX8_begin 134 = .ok (.invokevirtual 292, 3) := by decide +kernel
theorem dX8_begin_137 : decode cX8_begin 137 = .ok (.astore 9, 2) := by decide +kernel
theorem dX8_begin_139 : decode cX8_begin 139 = .ok (.aload 9, 2) := by decide +kernel
theorem dX8_begin_141 : decode cX8_begin 141 = .ok (.ifnull 31, 3) := by decide +kernel
theorem dX8_begin_144 : decode cX8_begin 144 = .ok (.aload 9, 2) := by decide +kernel
theorem dX8_begin_146 : decode cX8_begin 146 = .ok (.getfield 296, 3) := by decide +kernel
theorem dX8_begin_149 : decode cX8_begin 149 = .ok (.iconst 0, 1) := by decide +kernel
theorem dX8_begin_150 : decode cX8_begin 150 = .ok (.iload 4, 2) := by decide +kernel
theorem dX8_begin_152 : decode cX8_begin 152 = .ok (.invokestatic 199, 3) := by decide +kernel
theorem dX8_begin_155 : decode cX8_begin 155 = .ok (.invokestatic 203, 3) := by decide +kernel
theorem dX8_begin_158 : decode cX8_begin 158 = .ok (.aload 9, 2) := by decide +kernel
theorem dX8_begin_160 : decode cX8_begin 160 = .ok (.getfield 296, 3) := by decide +kernel
theorem dX8_begin_163 : decode cX8_begin 163 = .ok (.iconst 1, 1) := by decide +kernel
theorem dX8_begin_164 : decode cX8_begin 164 = .ok (.iload 5, 2) := by decide +kernel
theorem dX8_begin_166 : decode cX8_begin 166 = .ok (.invokestatic 199, 3) := by decide +kernel
theorem dX8_begin_169 : decode cX8_begin 169 = .ok (.invokestatic 203, 3) := by decide +kernel
theorem dX8_begin_172 : decode cX8_begin 172 = .ok (.aload 8, 2) := by decide +kernel
theorem dX8_begin_174 : decode cX8_begin 174 = .ok (.getfield 174, 3) := by decide +kernel
theorem dX8_begin_177 : decode cX8_begin 177 = .ok (.ireturn, 1) := by decide +kernel
theorem dX8_checkGlobal_0 : decode cX8_checkGlobal 0 = .ok (.iload_n 1, 1) := by decide +kernel
theorem dX8_checkGlobal_1 : decode cX8_checkGlobal 1 = .ok (.bipush 8, 2) := by decide +kernel
theorem dX8_checkGlobal_3 : decode cX8_checkGlobal 3 = .ok (.invokestatic 97, 3) := by decide +kernel
theorem dX8_checkGlobal_6 : decode cX8_checkGlobal 6 = .ok (.ifCond .ne 14, 3) := by decide +kernel
theorem dX8_checkGlobal_9 : decode cX8_checkGlobal 9 = .ok (.new 87, 3) := by decide +kernel
theorem dX8_checkGlobal_12 : decode cX8_checkGlobal 12 = .ok (.dup, 1) := by decide +kernel
theorem dX8_checkGlobal_13 : decode cX8_checkGlobal 13 = .ok (.ldc_w 265, 3) := by decide +kernel
theorem dX8_checkGlobal_16 : decode cX8_checkGlobal 16 = .ok (.invokespecial 91, 3) := by decide +kernel
theorem dX8_checkGlobal_19 : decode cX8_checkGlobal 19 = .ok (.athrow, 1) := by decide +kernel
theorem dX8_checkGlobal_20 : decode cX8_checkGlobal 20 = .ok (.return_, 1) := by decide +kernel
theorem dX8_number_0 : decode cX8_number 0 = .ok (.aload_n 0, 1) := by decide +kernel
theorem dX8_number_1 : decode cX8_number 1 = .ok (.iload_n 1, 1) := by decide +kernel
theorem dX8_number_2 : decode cX8_number 2 = .ok (.invokevirtual 195, 3) := by decide +kernel
theorem dX8_number_5 : decode cX8_number 5 = .ok (.aload_n 0, 1) := by decide +kernel
theorem dX8_number_6 : decode cX8_number 6 = .ok (.getfield 33, 3) := by decide +kernel
theorem dX8_number_9 : decode cX8_number 9 = .ok (.iload_n 1, 1) := by decide +kernel
theorem dX8_number_10 : decode cX8_number 10 = .ok (.iload_n 2, 1) := by decide +kernel
theorem dX8_number_11 : decode cX8_number 11 = .ok (.invokestatic 199, 3) := by decide +kernel
theorem dX8_number_14 : decode cX8_number 14 = .ok (.invokestatic 203, 3) := by decide +kernel
theorem dX8_number_17 : decode cX8_number 17 = .ok (.aload_n 0, 1) := by decide +kernel
theorem dX8_number_18 : decode cX8_number 18 = .ok (.getfield 40, 3) := by decide +kernel
theorem dX8_number_21 : decode cX8_number 21 = .ok (.getfield 207, 3) := by decide +kernel
theorem dX8_number_24 : decode cX8_number 24 = .ok (.ireturn, 1) := by decide +kernel
theorem dX8_nothing_0 : decode cX8_nothing 0 = .ok (.aload_n 0, 1) := by decide +kernel
theorem dX8_nothing_1 : decode cX8_nothing 1 = .ok (.iload_n 1, 1) := by decide +kernel
theorem dX8_nothing_2 : decode cX8_nothing 2 = .ok (.invokevirtual 195, 3) := by decide +kernel
theorem dX8_nothing_5 : decode cX8_nothing 5 = .ok (.aload_n 0, 1) := by decide +kernel
theorem dX8_nothing_6 : decode cX8_nothing 6 = .ok (.getfield 33, 3) := by decide +kernel
theorem dX8_nothing_9 : decode cX8_nothing 9 = .ok (.iload_n 1, 1) := by decide +kernel
theorem dX8_nothing_10 : decode cX8_nothing 10 = .ok (.ldc2_w 60, 3) := by decide +kernel
theorem dX8_nothing_13 : decode cX8_nothing 13 = .ok (.invokestatic 203, 3) := by decide +kernel
theorem dX8_nothing_16 : decode cX8_nothing 16 = .ok (.aload_n 0, 1) := by decide +kernel
theorem dX8_nothing_17 : decode cX8_nothing 17 = .ok (.getfield 40, 3) := by decide +kernel
theorem dX8_nothing_20 : decode cX8_nothing 20 = .ok (.getfield 207, 3) := by decide +kernel
theorem dX8_nothing_23 : decode cX8_nothing 23 = .ok (.ireturn, 1) := by decide +kernel
theorem dX8_make_0 : decode cX8_make 0 = .ok (.iload_n 1, 1) := by decide +kernel
theorem dX8_make_1 : decode cX8_make 1 = .ok (.bipush 8, 2) := by decide +kernel
theorem dX8_make_3 : decode cX8_make 3 = .ok (.invokestatic 97, 3) := by decide +kernel
theorem dX8_make_6 : decode cX8_make 6 = .ok (.ifCond .eq 14, 3) := by decide +kernel
theorem dX8_make_9 : decode cX8_make 9 = .ok (.aload_n 0, 1) := by decide +kernel
theorem dX8_make_10 : decode cX8_make 10 = .ok (.getfield 10, 3) := by decide +kernel
theorem dX8_make_13 : decode cX8_make 13 = .ok (.iload_n 2, 1) := by decide +kernel
theorem dX8_make_14 : decode cX8_make 14 = .ok (.invokevirtual 83, 3) := by decide +kernel
theorem dX8_make_17 : decode cX8_make 17 = .ok (.ifCond .ne 13, 3) := by decide +kernel
theorem dX8_make_20 : decode cX8_make 20 = .ok (.new 87, 3) := by decide +kernel
theorem dX8_make_23 : decode cX8_make 23 = .ok (.dup, 1) := by decide +kernel
theorem dX8_make_24 : decode cX8_make 24 = .ok (.ldc 208, 2) := by decide +kernel
theorem dX8_make_26 : decode cX8_make 26 = .ok (.invokespecial 91, 3) := by decide +kernel
theorem dX8_make_29 : decode cX8_make 29 = .ok (.athrow, 1) := by decide +kernel
theorem dX8_make_30 : decode cX8_make 30 = .ok (.iload_n 2, 1) := by decide +kernel
theorem dX8_make_31 : decode cX8_make 31 = .ok (.invokestatic 94, 3) := by decide +kernel
theorem dX8_make_34 : decode cX8_make 34 = .ok (.ifCond .eq 13, 3) := by decide +kernel
theorem dX8_make_37 : decode cX8_make 37 = .ok (.new 105, 3) := by decide +kernel
theorem dX8_make_40 : decode cX8_make 40 = .ok (.dup, 1) := by decide +kernel
theorem dX8_make_41 : decode cX8_make 41 = .ok (.ldc 210, 2) := by decide +kernel
theorem dX8_make_43 : decode cX8_make 43 = .ok (.invokespecial 109, 3) := by decide +kernel
theorem dX8_make_46 : decode cX8_make 46 = .ok (.athrow, 1) := by decide +kernel
theorem dX8_make_47 : decode cX8_make 47 = .ok (.aload_n 0, 1) := by decide +kernel
theorem dX8_make_48 : decode cX8_make 48 = .ok (.getfield 40, 3) := by decide +kernel
theorem dX8_make_51 : decode cX8_make 51 = .ok (.invokevirtual 212, 3) := by decide +kernel
theorem dX8_make_54 : decode cX8_make 54 = .ok (.ifCond .eq 13, 3) := by decide +kernel
theorem dX8_make_57 : decode cX8_make 57 = .ok (.new 113, 3) := by decide +kernel
theorem dX8_make_60 : decode cX8_make 60 = .ok (.dup, 1) := by decide +kernel
theorem dX8_make_61 : decode cX8_make 61 = .ok (.ldc 216, 2) := by decide +kernel
theorem dX8_make_63 : decode cX8_make 63 = .ok (.invokespecial 117, 3) := by decide +kernel
theorem dX8_make_66 : decode cX8_make 66 = .ok (.athrow, 1) := by decide +kernel
theorem dX8_make_67 : decode cX8_make 67 = .ok (.aload_n 0, 1) := by decide +kernel
theorem dX8_make_68 : decode cX8_make 68 = .ok (.getfield 40, 3) := by decide +kernel
theorem dX8_make_71 : decode cX8_make 71 = .ok (.iload_n 2, 1) := by decide +kernel
theorem dX8_make_72 : decode cX8_make 72 = .ok (.aload_n 0, 1) := by decide +kernel
theorem dX8_make_73 : decode cX8_make 73 = .ok (.getfield 10, 3) := by decide +kernel
theorem dX8_make_76 : decode cX8_make 76 = .ok (.iload_n 2, 1) := by decide +kernel
theorem dX8_make_77 : decode cX8_make 77 = .ok (.invokevirtual 101, 3) := by decide +kernel
theorem dX8_make_80 : decode cX8_make 80 = .ok (.invokevirtual 218, 3) := by decide +kernel
theorem dX8_make_83 : decode cX8_make 83 = .ok (.istore_n 3, 1) := by decide +kernel
theorem dX8_make_84 : decode cX8_make 84 = .ok (.aload_n 0, 1) := by decide +kernel
theorem dX8_make_85 : decode cX8_make 85 = .ok (.getfield 33, 3) := by decide +kernel
theorem dX8_make_88 : decode cX8_make 88 = .ok (.iload_n 1, 1) := by decide +kernel
theorem dX8_make_89 : decode cX8_make 89 = .ok (.iload_n 3, 1) := by decide +kernel
theorem dX8_make_90 : decode cX8_make 90 = .ok (.invokestatic 219, 3) := by decide +kernel
theorem dX8_make_93 : decode cX8_make 93 = .ok (.invokestatic 203, 3) := by decide +kernel
theorem dX8_make_96 : decode cX8_make 96 = .ok (.iload_n 3, 1) := by decide +kernel
theorem dX8_make_97 : decode cX8_make 97 = .ok (.ireturn, 1) := by decide +kernel
theorem dX8_kind_0 : decode cX8_kind 0 = .ok (.aload_n 0, 1) := by decide +kernel
theorem dX8_kind_1 : decode cX8_kind 1 = .ok (.iload_n 1, 1) := by decide +kernel
theorem dX8_kind_2 : decode cX8_kind 2 = .ok (.invokevirtual 195, 3) := by decide +kernel
theorem dX8_kind_5 : decode cX8_kind 5 = .ok (.aload_n 0, 1) := by decide +kernel
theorem dX8_kind_6 : decode cX8_kind 6 = .ok (.getfield 33, 3) := by decide +kernel
theorem dX8_kind_9 : decode cX8_kind 9 = .ok (.iload_n 1, 1) := by decide +kernel
theorem dX8_kind_10 : decode cX8_kind 10 = .ok (.invokestatic 222, 3) := by decide +kernel
theorem dX8_kind_13 : decode cX8_kind 13 = .ok (.invokestatic 226, 3) := by decide +kernel
theorem dX8_kind_16 : decode cX8_kind 16 = .ok (.ireturn, 1) := by decide +kernel
theorem dX8_value_0 : decode cX8_value 0 = .ok (.aload_n 0, 1) := by decide +kernel
theorem dX8_value_1 : decode cX8_value 1 = .ok (.iload_n 1, 1) := by decide +kernel
theorem dX8_value_2 : decode cX8_value 2 = .ok (.invokevirtual 195, 3) := by decide +kernel
theorem dX8_value_5 : decode cX8_value 5 = .ok (.aload_n 0, 1) := by decide +kernel
theorem dX8_value_6 : decode cX8_value 6 = .ok (.getfield 33, 3) := by decide +kernel
theorem dX8_value_9 : decode cX8_value 9 = .ok (.iload_n 1, 1) := by decide +kernel
theorem dX8_value_10 : decode cX8_value 10 = .ok (.invokestatic 222, 3) := by decide +kernel
theorem dX8_value_13 : decode cX8_value 13 = .ok (.invokestatic 230, 3) := by decide +kernel
theorem dX8_value_16 : decode cX8_value 16 = .ok (.ireturn, 1) := by decide +kernel
theorem dX8_checkedField_0 : decode cX8_checkedField 0 = .ok (.aload_n 0, 1) := by decide +kernel
theorem dX8_checkedField_1 : decode cX8_checkedField 1 = .ok (.getfield 40, 3) := by decide +kernel
theorem dX8_checkedField_4 : decode cX8_checkedField 4 = .ok (.iload_n 1, 1) := by decide +kernel
theorem dX8_checkedField_5 : decode cX8_checkedField 5 = .ok (.invokevirtual 234, 3) := by decide +kernel
theorem dX8_checkedField_8 : decode cX8_checkedField 8 = .ok (.astore_n 3, 1) := by decide +kernel
theorem dX8_checkedField_9 : decode cX8_checkedField 9 = .ok (.aload_n 3, 1) := by decide +kernel
theorem dX8_checkedField_10 : decode cX8_checkedField 10 = .ok (.ifnull 11, 3) := by decide +kernel
theorem dX8_checkedField_13 : decode cX8_checkedField 13 = .ok (.aload_n 3, 1) := by decide +kernel
theorem dX8_checkedField_14 : decode cX8_checkedField 14 = .ok (.iload_n 2, 1) := by decide +kernel
theorem dX8_checkedField_15 : decode cX8_checkedField 15 = .ok (.invokevirtual 267, 3) := by decide +kernel
theorem dX8_checkedField_18 : decode cX8_checkedField 18 = .ok (.ifCond .ne 14, 3) := by decide +kernel
theorem dX8_checkedField_21 : decode cX8_checkedField 21 = .ok (.new 87, 3) := by decide +kernel
theorem dX8_checkedField_24 : decode cX8_checkedField 24 = .ok (.dup, 1) := by decide +kernel
theorem dX8_checkedField_25 : decode cX8_checkedField 25 = .ok (.ldc_w 270, 3) := by decide +kernel
theorem dX8_checkedField_28 : decode cX8_checkedField 28 = .ok (.invokespecial 91, 3) := by decide +kernel
theorem dX8_checkedField_31 : decode cX8_checkedField 31 = .ok (.athrow, 1) := by decide +kernel
theorem dX8_checkedField_32 : decode cX8_checkedField 32 = .ok (.aload_n 3, 1) := by decide +kernel
theorem dX8_checkedField_33 : decode cX8_checkedField 33 = .ok (.getfield 272, 3) := by decide +kernel
theorem dX8_checkedField_36 : decode cX8_checkedField 36 = .ok (.iload_n 2, 1) := by decide +kernel
theorem dX8_checkedField_37 : decode cX8_checkedField 37 = .ok (.invokestatic 222, 3) := by decide +kernel
theorem dX8_checkedField_40 : decode cX8_checkedField 40 = .ok (.lreturn, 1) := by decide +kernel
theorem dX8_fieldKind_0 : decode cX8_fieldKind 0 = .ok (.aload_n 0, 1) := by decide +kernel
theorem dX8_fieldKind_1 : decode cX8_fieldKind 1 = .ok (.iload_n 1, 1) := by decide +kernel
theorem dX8_fieldKind_2 : decode cX8_fieldKind 2 = .ok (.iload_n 2, 1) := by decide +kernel
theorem dX8_fieldKind_3 : decode cX8_fieldKind 3 = .ok (.invokevirtual 243, 3) := by decide +kernel
theorem dX8_fieldKind_6 : decode cX8_fieldKind 6 = .ok (.invokestatic 226, 3) := by decide +kernel
theorem dX8_fieldKind_9 : decode cX8_fieldKind 9 = .ok (.ireturn, 1) := by decide +kernel
theorem dX8_fieldValue_0 : decode cX8_fieldValue 0 = .ok (.aload_n 0, 1) := by decide +kernel
theorem dX8_fieldValue_1 : decode cX8_fieldValue 1 = .ok (.iload_n 1, 1) := by decide +kernel
theorem dX8_fieldValue_2 : decode cX8_fieldValue 2 = .ok (.iload_n 2, 1) := by decide +kernel
theorem dX8_fieldValue_3 : decode cX8_fieldValue 3 = .ok (.invokevirtual 243, 3) := by decide +kernel
theorem dX8_fieldValue_6 : decode cX8_fieldValue 6 = .ok (.invokestatic 230, 3) := by decide +kernel
theorem dX8_fieldValue_9 : decode cX8_fieldValue 9 = .ok (.ireturn, 1) := by decide +kernel
theorem dX8_things_0 : decode cX8_things 0 = .ok (.aload_n 0, 1) := by decide +kernel
theorem dX8_things_1 : decode cX8_things 1 = .ok (.getfield 40, 3) := by decide +kernel
theorem dX8_things_4 : decode cX8_things 4 = .ok (.getfield 207, 3) := by decide +kernel
theorem dX8_things_7 : decode cX8_things 7 = .ok (.ireturn, 1) := by decide +kernel
theorem dX8_end_0 : decode cX8_end 0 = .ok (.aload_n 0, 1) := by decide +kernel
theorem dX8_end_1 : decode cX8_end 1 = .ok (.getfield 50, 3) := by decide +kernel
theorem dX8_end_4 : decode cX8_end 4 = .ok (.ifCond .ne 14, 3) := by decide +kernel
theorem dX8_end_7 : decode cX8_end 7 = .ok (.new 113, 3) := by decide +kernel
theorem dX8_end_10 : decode cX8_end 10 = .ok (.dup, 1) := by decide +kernel
theorem dX8_end_11 : decode cX8_end 11 = .ok (.ldc_w 308, 3) := by decide +kernel
theorem dX8_end_14 : decode cX8_end 14 = .ok (.invokespecial 117, 3) := by decide +kernel
theorem dX8_end_17 : decode cX8_end 17 = .ok (.athrow, 1) := by decide +kernel
theorem dX8_end_18 : decode cX8_end 18 = .ok (.aload_n 0, 1) := by decide +kernel
theorem dX8_end_19 : decode cX8_end 19 = .ok (.getfield 50, 3) := by decide +kernel
theorem dX8_end_22 : decode cX8_end 22 = .ok (.istore_n 1, 1) := by decide +kernel
theorem dX8_end_23 : decode cX8_end 23 = .ok (.aload_n 0, 1) := by decide +kernel
theorem dX8_end_24 : decode cX8_end 24 = .ok (.iconst 0, 1) := by decide +kernel
theorem dX8_end_25 : decode cX8_end 25 = .ok (.putfield 50, 3) := by decide +kernel
theorem dX8_end_28 : decode cX8_end 28 = .ok (.aload_n 0, 1) := by decide +kernel
theorem dX8_end_29 : decode cX8_end 29 = .ok (.bipush 45, 2) := by decide +kernel
theorem dX8_end_31 : decode cX8_end 31 = .ok (.putfield 53, 3) := by decide +kernel
theorem dX8_end_34 : decode cX8_end 34 = .ok (.iload_n 1, 1) := by decide +kernel
theorem dX8_end_35 : decode cX8_end 35 = .ok (.ireturn, 1) := by decide +kernel
theorem dX8_state_0 : decode cX8_state 0 = .ok (.aload_n 0, 1) := by decide +kernel
theorem dX8_state_1 : decode cX8_state 1 = .ok (.getfield 53, 3) := by decide +kernel
theorem dX8_state_4 : decode cX8_state 4 = .ok (.ireturn, 1) := by decide +kernel
theorem dX8_reason_0 : decode cX8_reason 0 = .ok (.aload_n 0, 1) := by decide +kernel
theorem dX8_reason_1 : decode cX8_reason 1 = .ok (.getfield 53, 3) := by decide +kernel
theorem dX8_reason_4 : decode cX8_reason 4 = .ok (.bipush 120, 2) := by decide +kernel
theorem dX8_reason_6 : decode cX8_reason 6 = .ok (.if_icmp .eq 14, 3) := by decide +kernel
theorem dX8_reason_9 : decode cX8_reason 9 = .ok (.new 169, 3) := by decide +kernel
theorem dX8_reason_12 : decode cX8_reason 12 = .ok (.dup, 1) := by decide +kernel
theorem dX8_reason_13 : decode cX8_reason 13 = .ok (.ldc_w 310, 3) := by decide +kernel
theorem dX8_reason_16 : decode cX8_reason 16 = .ok (.invokespecial 173, 3) := by decide +kernel
theorem dX8_reason_19 : decode cX8_reason 19 = .ok (.athrow, 1) := by decide +kernel
theorem dX8_reason_20 : decode cX8_reason 20 = .ok (.aload_n 0, 1) := by decide +kernel
theorem dX8_reason_21 : decode cX8_reason 21 = .ok (.getfield 57, 3) := by decide +kernel
theorem dX8_reason_24 : decode cX8_reason 24 = .ok (.ireturn, 1) := by decide +kernel
theorem dX8_checkedAnswer_0 : decode cX8_checkedAnswer 0 = .ok (.aload_n 0, 1) := by decide +kernel
theorem dX8_checkedAnswer_1 : decode cX8_checkedAnswer 1 = .ok (.getfield 53, 3) := by decide +kernel
theorem dX8_checkedAnswer_4 : decode cX8_checkedAnswer 4 = .ok (.bipush 114, 2) := by decide +kernel
theorem dX8_checkedAnswer_6 : decode cX8_checkedAnswer 6 = .ok (.if_icmp .eq 14, 3) := by decide +kernel
theorem dX8_checkedAnswer_9 : decode cX8_checkedAnswer 9 = .ok (.new 169, 3) := by decide +kernel
theorem dX8_checkedAnswer_12 : decode cX8_checkedAnswer 12 = .ok (.dup, 1) := by decide +kernel
theorem dX8_checkedAnswer_13 : decode cX8_checkedAnswer 13 = .ok (.ldc_w 340, 3) := by decide +kernel
theorem dX8_checkedAnswer_16 : decode cX8_checkedAnswer 16 = .ok (.invokespecial 173, 3) := by decide +kernel
theorem dX8_checkedAnswer_19 : decode cX8_checkedAnswer 19 = .ok (.athrow, 1) := by decide +kernel
theorem dX8_checkedAnswer_20 : decode cX8_checkedAnswer 20 = .ok (.aload_n 0, 1) := by decide +kernel
theorem dX8_checkedAnswer_21 : decode cX8_checkedAnswer 21 = .ok (.getfield 62, 3) := by decide +kernel
theorem dX8_checkedAnswer_24 : decode cX8_checkedAnswer 24 = .ok (.lreturn, 1) := by decide +kernel
theorem dX8_answerKind_0 : decode cX8_answerKind 0 = .ok (.aload_n 0, 1) := by decide +kernel
theorem dX8_answerKind_1 : decode cX8_answerKind 1 = .ok (.invokevirtual 312, 3) := by decide +kernel
theorem dX8_answerKind_4 : decode cX8_answerKind 4 = .ok (.invokestatic 226, 3) := by decide +kernel
theorem dX8_answerKind_7 : decode cX8_answerKind 7 = .ok (.ireturn, 1) := by decide +kernel
theorem dX8_answer_0 : decode cX8_answer 0 = .ok (.aload_n 0, 1) := by decide +kernel
theorem dX8_answer_1 : decode cX8_answer 1 = .ok (.invokevirtual 312, 3) := by decide +kernel
theorem dX8_answer_4 : decode cX8_answer 4 = .ok (.invokestatic 230, 3) := by decide +kernel
theorem dX8_answer_7 : decode cX8_answer 7 = .ok (.ireturn, 1) := by decide +kernel
theorem dX8_frames_0 : decode cX8_frames 0 = .ok (.aload_n 0, 1) := by decide +kernel
theorem dX8_frames_1 : decode cX8_frames 1 = .ok (.getfield 50, 3) := by decide +kernel
theorem dX8_frames_4 : decode cX8_frames 4 = .ok (.ireturn, 1) := by decide +kernel
theorem dX8_checkedFrame_0 : decode cX8_checkedFrame 0 = .ok (.iload_n 1, 1) := by decide +kernel
theorem dX8_checkedFrame_1 : decode cX8_checkedFrame 1 = .ok (.aload_n 0, 1) := by decide +kernel
theorem dX8_checkedFrame_2 : decode cX8_checkedFrame 2 = .ok (.getfield 50, 3) := by decide +kernel
theorem dX8_checkedFrame_5 : decode cX8_checkedFrame 5 = .ok (.invokestatic 97, 3) := by decide +kernel
theorem dX8_checkedFrame_8 : decode cX8_checkedFrame 8 = .ok (.ifCond .eq 11, 3) := by decide +kernel
theorem dX8_checkedFrame_11 : decode cX8_checkedFrame 11 = .ok (.aload_n 0, 1) := by decide +kernel
theorem dX8_checkedFrame_12 : decode cX8_checkedFrame 12 = .ok (.iload_n 1, 1) := by decide +kernel
theorem dX8_checkedFrame_13 : decode cX8_checkedFrame 13 = .ok (.invokevirtual 251, 3) := by decide +kernel
theorem dX8_checkedFrame_16 : decode cX8_checkedFrame 16 = .ok (.goto 4, 3) := by decide +kernel
theorem dX8_checkedFrame_19 : decode cX8_checkedFrame 19 = .ok (.aconst_null, 1) := by decide +kernel
theorem dX8_checkedFrame_20 : decode cX8_checkedFrame 20 = .ok (.astore_n 2, 1) := by decide +kernel
theorem dX8_checkedFrame_21 : decode cX8_checkedFrame 21 = .ok (.aload_n 2, 1) := by decide +kernel
theorem dX8_checkedFrame_22 : decode cX8_checkedFrame 22 = .ok (.ifnonnull 14, 3) := by decide +kernel
theorem dX8_checkedFrame_25 : decode cX8_checkedFrame 25 = .ok (.new 87, 3) := by decide +kernel
theorem dX8_checkedFrame_28 : decode cX8_checkedFrame 28 = .ok (.dup, 1) := by decide +kernel
theorem dX8_checkedFrame_29 : decode cX8_checkedFrame 29 = .ok (.ldc_w 342, 3) := by decide +kernel
theorem dX8_checkedFrame_32 : decode cX8_checkedFrame 32 = .ok (.invokespecial 91, 3) := by decide +kernel
theorem dX8_checkedFrame_35 : decode cX8_checkedFrame 35 = .ok (.athrow, 1) := by decide +kernel
theorem dX8_checkedFrame_36 : decode cX8_checkedFrame 36 = .ok (.aload_n 2, 1) := by decide +kernel
theorem dX8_checkedFrame_37 : decode cX8_checkedFrame 37 = .ok (.areturn, 1) := by decide +kernel
theorem dX8_checkedSlot_0 : decode cX8_checkedSlot 0 = .ok (.aload_n 0, 1) := by decide +kernel
theorem dX8_checkedSlot_1 : decode cX8_checkedSlot 1 = .ok (.iload_n 1, 1) := by decide +kernel
theorem dX8_checkedSlot_2 : decode cX8_checkedSlot 2 = .ok (.invokevirtual 316, 3) := by decide +kernel
theorem dX8_checkedSlot_5 : decode cX8_checkedSlot 5 = .ok (.astore 4, 2) := by decide +kernel
theorem dX8_checkedSlot_7 : decode cX8_checkedSlot 7 = .ok (.iload_n 2, 1) := by decide +kernel
theorem dX8_checkedSlot_8 : decode cX8_checkedSlot 8 = .ok (.bipush 115, 2) := by decide +kernel
theorem dX8_checkedSlot_10 : decode cX8_checkedSlot 10 = .ok (.if_icmp .eq 31, 3) := by decide +kernel
theorem dX8_checkedSlot_13 : decode cX8_checkedSlot 13 = .ok (.iload_n 2, 1) := by decide +kernel
theorem dX8_checkedSlot_14 : decode cX8_checkedSlot 14 = .ok (.bipush 97, 2) := by decide +kernel
theorem dX8_checkedSlot_16 : decode cX8_checkedSlot 16 = .ok (.if_icmp .eq 25, 3) := by decide +kernel
theorem dX8_checkedSlot_19 : decode cX8_checkedSlot 19 = .ok (.iload_n 2, 1) := by decide +kernel
theorem dX8_checkedSlot_20 : decode cX8_checkedSlot 20 = .ok (.bipush 116, 2) := by decide +kernel
theorem dX8_checkedSlot_22 : decode cX8_checkedSlot 22 = .ok (.if_icmp .eq 19, 3) := by decide +kernel
theorem dX8_checkedSlot_25 : decode cX8_checkedSlot 25 = .ok (.iload_n 2, 1) := by decide +kernel
theorem dX8_checkedSlot_26 : decode cX8_checkedSlot 26 = .ok (.bipush 112, 2) := by decide +kernel
theorem dX8_checkedSlot_28 : decode cX8_checkedSlot 28 = .ok (.if_icmp .eq 13, 3) := by decide +kernel
theorem dX8_checkedSlot_31 : decode cX8_checkedSlot 31 = .ok (.new 105, 3) := by decide +kernel
theorem dX8_checkedSlot_34 : decode cX8_checkedSlot 34 = .ok (.dup, 1) := by decide +kernel
theorem dX8_checkedSlot_35 : decode cX8_checkedSlot 35 = .ok (.ldc 126, 2) := by decide +kernel
theorem dX8_checkedSlot_37 : decode cX8_checkedSlot 37 = .ok (.invokespecial 109, 3) := by decide +kernel
theorem dX8_checkedSlot_40 : decode cX8_checkedSlot 40 = .ok (.athrow, 1) := by decide +kernel
theorem dX8_checkedSlot_41 : decode cX8_checkedSlot 41 = .ok (.iload_n 2, 1) := by decide +kernel
theorem dX8_checkedSlot_42 : decode cX8_checkedSlot 42 = .ok (.bipush 115, 2) := by decide +kernel
theorem dX8_checkedSlot_44 : decode cX8_checkedSlot 44 = .ok (.if_icmp .ne 9, 3) := by decide +kernel
theorem dX8_checkedSlot_47 : decode cX8_checkedSlot 47 = .ok (.aload 4, 2) := by decide +kernel
theorem dX8_checkedSlot_49 : decode cX8_checkedSlot 49 = .ok (.getfield 344, 3) := by decide +kernel
theorem dX8_checkedSlot_52 : decode cX8_checkedSlot 52 = .ok (.lreturn, 1) := by decide +kernel
theorem dX8_checkedSlot_53 : decode cX8_checkedSlot 53 = .ok (.iload_n 3, 1) := by decide +kernel
theorem dX8_checkedSlot_54 : decode cX8_checkedSlot 54 = .ok (.aload 4, 2) := by decide +kernel
theorem dX8_checkedSlot_56 : decode cX8_checkedSlot 56 = .ok (.iload_n 2, 1) := by decide +kernel
theorem dX8_checkedSlot_57 : decode cX8_checkedSlot 57 = .ok (.invokevirtual 347, 3) := by decide +kernel
theorem dX8_checkedSlot_60 : decode cX8_checkedSlot 60 = .ok (.invokestatic 97, 3) := by decide +kernel
theorem dX8_checkedSlot_63 : decode cX8_checkedSlot 63 = .ok (.ifCond .ne 14, 3) := by decide +kernel
theorem dX8_checkedSlot_66 : decode cX8_checkedSlot 66 = .ok (.new 169, 3) := by decide +kernel
theorem dX8_checkedSlot_69 : decode cX8_checkedSlot 69 = .ok (.dup, 1) := by decide +kernel
theorem dX8_checkedSlot_70 : decode cX8_checkedSlot 70 = .ok (.ldc_w 351, 3) := by decide +kernel
theorem dX8_checkedSlot_73 : decode cX8_checkedSlot 73 = .ok (.invokespecial 173, 3) := by decide +kernel
theorem dX8_checkedSlot_76 : decode cX8_checkedSlot 76 = .ok (.athrow, 1) := by decide +kernel
theorem dX8_checkedSlot_77 : decode cX8_checkedSlot 77 = .ok (.aload 4, 2) := by decide +kernel
theorem dX8_checkedSlot_79 : decode cX8_checkedSlot 79 = .ok (.iload_n 2, 1) := by decide +kernel
theorem dX8_checkedSlot_80 : decode cX8_checkedSlot 80 = .ok (.iload_n 3, 1) := by decide +kernel
theorem dX8_checkedSlot_81 : decode cX8_checkedSlot 81 = .ok (.invokevirtual 353, 3) := by decide +kernel
theorem dX8_checkedSlot_84 : decode cX8_checkedSlot 84 = .ok (.lreturn, 1) := by decide +kernel
theorem dX8_slotKind_0 : decode cX8_slotKind 0 = .ok (.aload_n 0, 1) := by decide +kernel
theorem dX8_slotKind_1 : decode cX8_slotKind 1 = .ok (.iload_n 1, 1) := by decide +kernel
theorem dX8_slotKind_2 : decode cX8_slotKind 2 = .ok (.iload_n 2, 1) := by decide +kernel
theorem dX8_slotKind_3 : decode cX8_slotKind 3 = .ok (.iload_n 3, 1) := by decide +kernel
theorem dX8_slotKind_4 : decode cX8_slotKind 4 = .ok (.invokevirtual 332, 3) := by decide +kernel
theorem dX8_slotKind_7 : decode cX8_slotKind 7 = .ok (.invokestatic 226, 3) := by decide +kernel
theorem dX8_slotKind_10 : decode cX8_slotKind 10 = .ok (.ireturn, 1) := by decide +kernel
theorem dX8_slot_0 : decode cX8_slot 0 = .ok (.aload_n 0, 1) := by decide +kernel
theorem dX8_slot_1 : decode cX8_slot 1 = .ok (.iload_n 1, 1) := by decide +kernel
theorem dX8_slot_2 : decode cX8_slot 2 = .ok (.iload_n 2, 1) := by decide +kernel
theorem dX8_slot_3 : decode cX8_slot 3 = .ok (.iload_n 3, 1) := by decide +kernel
theorem dX8_slot_4 : decode cX8_slot 4 = .ok (.invokevirtual 332, 3) := by decide +kernel
theorem dX8_slot_7 : decode cX8_slot 7 = .ok (.invokestatic 230, 3) := by decide +kernel
theorem dX8_slot_10 : decode cX8_slot 10 = .ok (.ireturn, 1) := by decide +kernel
section SITES
variable {p : Program} {l : Launch} {e : Env} {R : Room} {s : State} {m : MethodId} {args : Array Value} {below : List Frame} {meth : Method} {c : Code} {H : Heap} {locs : List Loc} {cells slots : Nat} {Q : State → Prop}
variable {pc : Nat} {ls : Array Slot} {rest : List Value} {D : va_G} {ar : Nat → ClassId} {κ : Nat → Nat} {A : Nat → Prop} {a : Nat} {H0 : Heap} {G : gW} {nz nL : Nat} {cc : ByteArray}
theorem m_3_78 : (Cond.code yX5_classOfValue cX5_classOfValue 4 (some .int)) ∈ lwA := lwA_mk (ck_3 _ (List.mem_of_getElem? (i := 78) rfl)) rfl
theorem m_3_75 : (Cond.methodLink RX8 284 yX5_classOfValue) ∈ lwA := lwA_mk (ck_3 _ (List.mem_of_getElem? (i := 75) rfl)) rfl
theorem m_3_76 : (Cond.instanceMethod yX5_classOfValue) ∈ lwA := lwA_mk (ck_3 _ (List.mem_of_getElem? (i := 76) rfl)) rfl
theorem m_3_77 : (Cond.selects RX5 yX5_classOfValue yX5_classOfValue) ∈ lwA := lwA_mk (ck_3 _ (List.mem_of_getElem? (i := 77) rfl)) rfl
theorem k_RX8_284 {args : Array Value} {s : State} {R rm : Room} (hts : ∀ w ∈ lwA, w.before args s = true) (hR : rm.frames + 1 ≤ R.frames ∧ 8 + (4 + 11) + rm.locals ≤ R.locals) : CallW R s args RX8 RX5 284 yX5_classOfValue cX5_classOfValue 4 (some .int) (lwC yX5_classOfValue cX5_classOfValue 4 (some .int)) rm rm.cells rm.slots 1 := cwV 1 hts (gdV m_3_75 m_3_76 m_3_77 m_1_4 m_3_78) rfl rfl rfl (by decide +kernel) hR
theorem m_3_85 : (Cond.code yX8_lookUp cX8_lookUp 6 (some (.object "Sendhouse$Told"))) ∈ lwA := lwA_mk (ck_3 _ (List.mem_of_getElem? (i := 85) rfl)) rfl
theorem m_3_82 : (Cond.methodLink RX8 166 yX8_lookUp) ∈ lwA := lwA_mk (ck_3 _ (List.mem_of_getElem? (i := 82) rfl)) rfl
theorem m_3_84 : (Cond.instanceMethod yX8_lookUp) ∈ lwA := lwA_mk (ck_3 _ (List.mem_of_getElem? (i := 84) rfl)) rfl
theorem ms_7 : (Cond.selects RX8 yX8_lookUp yX8_lookUp) ∈ lwA := lwA_mk (List.mem_append_left _ (List.mem_of_getElem? (i := 7) rfl)) rfl
theorem k_RX8_166 {args : Array Value} {s : State} {R rm : Room} (hts : ∀ w ∈ lwA, w.before args s = true) (hR : rm.frames + 1 ≤ R.frames ∧ 8 + (6 + 11) + rm.locals ≤ R.locals) : CallW R s args RX8 RX8 166 yX8_lookUp cX8_lookUp 6 (some (.object "Sendhouse$Told")) (lwC yX8_lookUp cX8_lookUp 6 (some (.object "Sendhouse$Told"))) rm rm.cells rm.slots 2 := cwV 2 hts (gdV m_3_82 m_3_84 ms_7 m_1_1 m_3_85) rfl rfl rfl (by decide +kernel) hR
theorem gf_RX8_287_12 {A9 : Nat → Prop} {H9 : Heap} {fs : List Value} {v : Value} (S : CallFix p m c cc nL s args lwA RX8) (hE : g_E D vwCl (gT ar) (EX1 κ) A9 s H9) (w : g_S D vwCl A H0 G H locs nz) (ha : G a = some (.inr (12, fs))) (hv : fs[2]? = some v) (hdg : decode cc pc = .ok (.getfield 287, 3)) (kk : W p l e R s m args below meth c H locs cells slots Q (F0 m (pc + 3) ls (v :: rest))) : W p l e R s m args below meth c H locs cells slots Q (F0 m pc ls (.ref a :: rest)) :=
  va_getN (ci := 12) (C := RX6) (T := TX6) (N := 7) S.1 S.2.1 S.2.2.2.2 inA_RX6 S.2.2.2.1 hE.1 (g_1 w.1 ha) 0 rfl rfl 2 (by decide) (va_Nw.use rfl (hE.2.1.1 _ (ckN_1 _ (List.mem_of_getElem? (i := 31) rfl)))) (fun _ h => h) hv hdg kk
theorem m_3_109 : (Cond.code yX8_openFrame cX8_openFrame 5 (some (.object "Sendhouse$Frame"))) ∈ lwA := lwA_mk (ck_3 _ (List.mem_of_getElem? (i := 109) rfl)) rfl
theorem m_3_106 : (Cond.methodLink RX8 292 yX8_openFrame) ∈ lwA := lwA_mk (ck_3 _ (List.mem_of_getElem? (i := 106) rfl)) rfl
theorem m_3_108 : (Cond.instanceMethod yX8_openFrame) ∈ lwA := lwA_mk (ck_3 _ (List.mem_of_getElem? (i := 108) rfl)) rfl
theorem ms_8 : (Cond.selects RX8 yX8_openFrame yX8_openFrame) ∈ lwA := lwA_mk (List.mem_append_left _ (List.mem_of_getElem? (i := 8) rfl)) rfl
theorem k_RX8_292 {args : Array Value} {s : State} {R rm : Room} (hts : ∀ w ∈ lwA, w.before args s = true) (hR : rm.frames + 1 ≤ R.frames ∧ 8 + (5 + 11) + rm.locals ≤ R.locals) : CallW R s args RX8 RX8 292 yX8_openFrame cX8_openFrame 5 (some (.object "Sendhouse$Frame")) (lwC yX8_openFrame cX8_openFrame 5 (some (.object "Sendhouse$Frame"))) rm rm.cells rm.slots 2 := cwV 2 hts (gdV m_3_106 m_3_108 ms_8 m_1_1 m_3_109) rfl rfl rfl (by decide +kernel) hR
theorem Fr_t_sa {v9 : Fr} {y9 : Nat → Int64} : (v9.sa y9).t = v9.t := rfl
theorem Fr_p_sa {v9 : Fr} {y9 : Nat → Int64} : (v9.sa y9).p = v9.p := rfl
theorem Fr_o_sa {v9 : Fr} {y9 : Nat → Int64} : (v9.sa y9).o = v9.o := rfl
theorem Fr_v_sa {v9 : Fr} {y9 : Nat → Int64} : (v9.sa y9).v = v9.v := rfl
theorem Fr_w_sa {v9 : Fr} {y9 : Nat → Int64} : (v9.sa y9).w = v9.w := rfl
theorem Fr_d_sa {v9 : Fr} {y9 : Nat → Int64} : (v9.sa y9).d = v9.d := rfl
theorem m_4_7 : (Cond.code yX1_cls cX1_cls 1 (some .int)) ∈ lwA := lwA_mk (ck_4 _ (List.mem_of_getElem? (i := 7) rfl)) rfl
theorem m_4_4 : (Cond.methodLink RX8 319 yX1_cls) ∈ lwA := lwA_mk (ck_4 _ (List.mem_of_getElem? (i := 4) rfl)) rfl
theorem m_4_5 : (Cond.instanceMethod yX1_cls) ∈ lwA := lwA_mk (ck_4 _ (List.mem_of_getElem? (i := 5) rfl)) rfl
theorem m_4_6 : (Cond.selects RX1 yX1_cls yX1_cls) ∈ lwA := lwA_mk (ck_4 _ (List.mem_of_getElem? (i := 6) rfl)) rfl
theorem k_RX8_319 {args : Array Value} {s : State} {R rm : Room} (hts : ∀ w ∈ lwA, w.before args s = true) (hR : rm.frames + 1 ≤ R.frames ∧ 8 + (1 + 11) + rm.locals ≤ R.locals) : CallW R s args RX8 RX1 319 yX1_cls cX1_cls 1 (some .int) (lwC yX1_cls cX1_cls 1 (some .int)) rm rm.cells rm.slots 0 := cwV 0 hts (gdV m_4_4 m_4_5 m_4_6 m_1_11 m_4_7) rfl rfl rfl (by decide +kernel) hR
theorem m_2_159 : (Cond.classLink RX8 87 "java/lang/IndexOutOfBoundsException") ∈ lwA := lwA_mk (ck_2 _ (List.mem_of_getElem? (i := 159) rfl)) rfl
theorem m_1_15 : (Cond.initialized "java/lang/IndexOutOfBoundsException") ∈ lwA := lwA_mk (ck_1 _ (List.mem_of_getElem? (i := 15) rfl)) rfl
theorem th_RX8_87_91_1 : ∀ w ∈ (vx_atS RX8 91 "java/lang/IndexOutOfBoundsException" ["java/lang/RuntimeException", "java/lang/Exception"]).filter goodWord, w ∈ lwA := gA_f (by decide +kernel)
theorem th_RX8_87_91_2 : ∀ w ∈ (vx_atS RX8 91 "java/lang/IndexOutOfBoundsException" ["java/lang/RuntimeException", "java/lang/Exception"]).filter (fun w => !goodWord w), w ∈ lwN ∧ w.onTables = true := by decide +kernel
theorem th_RX8_87_91_3 : ∀ w ∈ Cond.classLink RX8 87 "java/lang/IndexOutOfBoundsException" :: Cond.initialized "java/lang/IndexOutOfBoundsException" :: vx_atS RX8 91 "java/lang/IndexOutOfBoundsException" ["java/lang/RuntimeException", "java/lang/Exception"], vx_ot w = true := by decide +kernel
theorem gf_RX8_53_14 {A9 : Nat → Prop} {H9 : Heap} {fs : List Value} {v : Value} (S : CallFix p m c cc nL s args lwA RX8) (hE : g_E D vwCl (gT ar) (EX1 κ) A9 s H9) (w : g_S D vwCl A H0 G H locs nz) (ha : G a = some (.inr (14, fs))) (hv : fs[8]? = some v) (hdg : decode cc pc = .ok (.getfield 53, 3)) (kk : W p l e R s m args below meth c H locs cells slots Q (F0 m (pc + 3) ls (v :: rest))) : W p l e R s m args below meth c H locs cells slots Q (F0 m pc ls (.ref a :: rest)) :=
  va_get (ci := 14) (C := RX8) (T := TX8) (N := 13) S.1 S.2.1 S.2.2.2.2 inA_RX8 S.2.2.2.1 hE.1 (g_1 w.1 ha) 0 rfl rfl 8 (by decide) (S.2.2.2.2 _ m_2_13) (fun _ h => h) hv hdg kk
theorem m_3_90 : (Cond.classLink RX8 147 "java/lang/UnsupportedOperationException") ∈ lwA := lwA_mk (ck_3 _ (List.mem_of_getElem? (i := 90) rfl)) rfl
theorem m_1_37 : (Cond.initialized "java/lang/UnsupportedOperationException") ∈ lwA := lwA_mk (ck_1 _ (List.mem_of_getElem? (i := 37) rfl)) rfl
theorem th_RX8_147_151_1 : ∀ w ∈ (vx_atS RX8 151 "java/lang/UnsupportedOperationException" ["java/lang/RuntimeException", "java/lang/Exception"]).filter goodWord, w ∈ lwA := gA_f (by decide +kernel)
theorem th_RX8_147_151_2 : ∀ w ∈ (vx_atS RX8 151 "java/lang/UnsupportedOperationException" ["java/lang/RuntimeException", "java/lang/Exception"]).filter (fun w => !goodWord w), w ∈ lwN ∧ w.onTables = true := by decide +kernel
theorem th_RX8_147_151_3 : ∀ w ∈ Cond.classLink RX8 147 "java/lang/UnsupportedOperationException" :: Cond.initialized "java/lang/UnsupportedOperationException" :: vx_atS RX8 151 "java/lang/UnsupportedOperationException" ["java/lang/RuntimeException", "java/lang/Exception"], vx_ot w = true := by decide +kernel
theorem gf_RX8_174_12 {A9 : Nat → Prop} {H9 : Heap} {fs : List Value} {v : Value} (S : CallFix p m c cc nL s args lwA RX8) (hE : g_E D vwCl (gT ar) (EX1 κ) A9 s H9) (w : g_S D vwCl A H0 G H locs nz) (ha : G a = some (.inr (12, fs))) (hv : fs[0]? = some v) (hdg : decode cc pc = .ok (.getfield 174, 3)) (kk : W p l e R s m args below meth c H locs cells slots Q (F0 m (pc + 3) ls (v :: rest))) : W p l e R s m args below meth c H locs cells slots Q (F0 m pc ls (.ref a :: rest)) :=
  va_getN (ci := 12) (C := RX6) (T := TX6) (N := 7) S.1 S.2.1 S.2.2.2.2 inA_RX6 S.2.2.2.1 hE.1 (g_1 w.1 ha) 0 rfl rfl 0 (by decide) (va_Nw.use rfl (hE.2.1.1 _ (ckN_1 _ (List.mem_of_getElem? (i := 28) rfl)))) (fun _ h => h) hv hdg kk
theorem m_3_58 : (Cond.classLink RX8 113 "java/lang/IllegalStateException") ∈ lwA := lwA_mk (ck_3 _ (List.mem_of_getElem? (i := 58) rfl)) rfl
theorem m_1_19 : (Cond.initialized "java/lang/IllegalStateException") ∈ lwA := lwA_mk (ck_1 _ (List.mem_of_getElem? (i := 19) rfl)) rfl
theorem th_RX8_113_117_1 : ∀ w ∈ (vx_atS RX8 117 "java/lang/IllegalStateException" ["java/lang/RuntimeException", "java/lang/Exception"]).filter goodWord, w ∈ lwA := gA_f (by decide +kernel)
theorem th_RX8_113_117_2 : ∀ w ∈ (vx_atS RX8 117 "java/lang/IllegalStateException" ["java/lang/RuntimeException", "java/lang/Exception"]).filter (fun w => !goodWord w), w ∈ lwN ∧ w.onTables = true := by decide +kernel
theorem th_RX8_113_117_3 : ∀ w ∈ Cond.classLink RX8 113 "java/lang/IllegalStateException" :: Cond.initialized "java/lang/IllegalStateException" :: vx_atS RX8 117 "java/lang/IllegalStateException" ["java/lang/RuntimeException", "java/lang/Exception"], vx_ot w = true := by decide +kernel
theorem m_3_42 : (Cond.classLink RX8 105 "java/lang/IllegalArgumentException") ∈ lwA := lwA_mk (ck_3 _ (List.mem_of_getElem? (i := 42) rfl)) rfl
theorem m_1_18 : (Cond.initialized "java/lang/IllegalArgumentException") ∈ lwA := lwA_mk (ck_1 _ (List.mem_of_getElem? (i := 18) rfl)) rfl
theorem th_RX8_105_109_1 : ∀ w ∈ (vx_atS RX8 109 "java/lang/IllegalArgumentException" ["java/lang/RuntimeException", "java/lang/Exception"]).filter goodWord, w ∈ lwA := gA_f (by decide +kernel)
theorem th_RX8_105_109_2 : ∀ w ∈ (vx_atS RX8 109 "java/lang/IllegalArgumentException" ["java/lang/RuntimeException", "java/lang/Exception"]).filter (fun w => !goodWord w), w ∈ lwN ∧ w.onTables = true := by decide +kernel
theorem th_RX8_105_109_3 : ∀ w ∈ Cond.classLink RX8 105 "java/lang/IllegalArgumentException" :: Cond.initialized "java/lang/IllegalArgumentException" :: vx_atS RX8 109 "java/lang/IllegalArgumentException" ["java/lang/RuntimeException", "java/lang/Exception"], vx_ot w = true := by decide +kernel
theorem m_7_109 : (Cond.code yX8_checkGlobal cX8_checkGlobal 2 none) ∈ lwA := lwA_mk (ck_7 _ (List.mem_of_getElem? (i := 109) rfl)) rfl
theorem m_7_106 : (Cond.methodLink RX8 195 yX8_checkGlobal) ∈ lwA := lwA_mk (ck_7 _ (List.mem_of_getElem? (i := 106) rfl)) rfl
theorem m_7_108 : (Cond.instanceMethod yX8_checkGlobal) ∈ lwA := lwA_mk (ck_7 _ (List.mem_of_getElem? (i := 108) rfl)) rfl
theorem ms_30 : (Cond.selects RX8 yX8_checkGlobal yX8_checkGlobal) ∈ lwA := lwA_mk (List.mem_append_left _ (List.mem_of_getElem? (i := 30) rfl)) rfl
theorem k_RX8_195 {args : Array Value} {s : State} {R rm : Room} (hts : ∀ w ∈ lwA, w.before args s = true) (hR : rm.frames + 1 ≤ R.frames ∧ 8 + (2 + 11) + rm.locals ≤ R.locals) : CallW R s args RX8 RX8 195 yX8_checkGlobal cX8_checkGlobal 2 none (lwC yX8_checkGlobal cX8_checkGlobal 2 none) rm rm.cells rm.slots 1 := cwV 1 hts (gdV m_7_106 m_7_108 ms_30 m_1_1 m_7_109) rfl rfl rfl (by decide +kernel) hR
theorem Ho_ab_sgl {v9 : Ho} {y9 : Nat → Int64} : (v9.sgl y9).ab = v9.ab := rfl
theorem Ho_fc_sgl {v9 : Ho} {y9 : Nat → Int64} : (v9.sgl y9).fc = v9.fc := rfl
theorem Ho_cn_sgl {v9 : Ho} {y9 : Nat → Int64} : (v9.sgl y9).cn = v9.cn := rfl
theorem Ho_me_sgl {v9 : Ho} {y9 : Nat → Int64} : (v9.sgl y9).me = v9.me := rfl
theorem Ho_nt_sgl {v9 : Ho} {y9 : Nat → Int64} : (v9.sgl y9).nt = v9.nt := rfl
theorem Ho_nr_sgl {v9 : Ho} {y9 : Nat → Int64} : (v9.sgl y9).nr = v9.nr := rfl
theorem Ho_ty_sgl {v9 : Ho} {y9 : Nat → Int64} : (v9.sgl y9).ty = v9.ty := rfl
theorem Ho_to_sgl {v9 : Ho} {y9 : Nat → Int64} : (v9.sgl y9).to = v9.to := rfl
theorem Ho_ro_sgl {v9 : Ho} {y9 : Nat → Int64} : (v9.sgl y9).ro = v9.ro := rfl
theorem Ho_al_sgl {v9 : Ho} {y9 : Nat → Int64} : (v9.sgl y9).al = v9.al := rfl
theorem Ho_re_sgl {v9 : Ho} {y9 : Nat → Int64} : (v9.sgl y9).re = v9.re := rfl
theorem Ho_th_sgl {v9 : Ho} {y9 : Nat → Int64} : (v9.sgl y9).th = v9.th := rfl
theorem Ho_tc_sgl {v9 : Ho} {y9 : Nat → Int64} : (v9.sgl y9).tc = v9.tc := rfl
theorem Ho_rc_sgl {v9 : Ho} {y9 : Nat → Int64} : (v9.sgl y9).rc = v9.rc := rfl
theorem Ho_mk_sgl {v9 : Ho} {y9 : Nat → Int64} : (v9.sgl y9).mk = v9.mk := rfl
theorem Ho_fr_sgl {v9 : Ho} {y9 : Nat → Int64} : (v9.sgl y9).fr = v9.fr := rfl
theorem Ho_fn_sgl {v9 : Ho} {y9 : Nat → Int64} : (v9.sgl y9).fn = v9.fn := rfl
theorem Ho_st_sgl {v9 : Ho} {y9 : Nat → Int64} : (v9.sgl y9).st = v9.st := rfl
theorem Ho_rs_sgl {v9 : Ho} {y9 : Nat → Int64} : (v9.sgl y9).rs = v9.rs := rfl
theorem Ho_an_sgl {v9 : Ho} {y9 : Nat → Int64} : (v9.sgl y9).an = v9.an := rfl
theorem Ho_sp_sgl {v9 : Ho} {y9 : Nat → Int64} : (v9.sgl y9).sp = v9.sp := rfl
theorem Ho_np_sgl {v9 : Ho} {y9 : Nat → Int64} : (v9.sgl y9).np = v9.np := rfl
theorem Ho_pg_sgl {v9 : Ho} {y9 : Nat → Int64} : (v9.sgl y9).pg = v9.pg := rfl
theorem Ho_wc_sgl {v9 : Ho} {y9 : Nat → Int64} : (v9.sgl y9).wc = v9.wc := rfl
theorem Ho_ws_sgl {v9 : Ho} {y9 : Nat → Int64} : (v9.sgl y9).ws = v9.ws := rfl
theorem Ho_wp_sgl {v9 : Ho} {y9 : Nat → Int64} : (v9.sgl y9).wp = v9.wp := rfl
theorem gf_RX8_207_11 {A9 : Nat → Prop} {H9 : Heap} {fs : List Value} {v : Value} (S : CallFix p m c cc nL s args lwA RX8) (hE : g_E D vwCl (gT ar) (EX1 κ) A9 s H9) (w : g_S D vwCl A H0 G H locs nz) (ha : G a = some (.inr (11, fs))) (hv : fs[2]? = some v) (hdg : decode cc pc = .ok (.getfield 207, 3)) (kk : W p l e R s m args below meth c H locs cells slots Q (F0 m (pc + 3) ls (v :: rest))) : W p l e R s m args below meth c H locs cells slots Q (F0 m pc ls (.ref a :: rest)) :=
  va_getN (ci := 11) (C := RX5) (T := TX5) (N := 5) S.1 S.2.1 S.2.2.2.2 inA_RX5 S.2.2.2.1 hE.1 (g_1 w.1 ha) 0 rfl rfl 2 (by decide) (va_Nw.use rfl (hE.2.1.1 _ (ckN_0 _ (List.mem_of_getElem? (i := 16) rfl)))) (fun _ h => h) hv hdg kk
theorem m_2_151 : (Cond.methodLink RX8 83 yX0_has) ∈ lwA := lwA_mk (ck_2 _ (List.mem_of_getElem? (i := 151) rfl)) rfl
theorem k_RX8_83 {args : Array Value} {s : State} {R rm : Room} (hts : ∀ w ∈ lwA, w.before args s = true) (hR : rm.frames + 1 ≤ R.frames ∧ 8 + (2 + 11) + rm.locals ≤ R.locals) : CallW R s args RX8 RX0 83 yX0_has cX0_has 2 (some .boolean) (lwC yX0_has cX0_has 2 (some .boolean)) rm rm.cells rm.slots 1 := cwV 1 hts (gdV m_2_151 m_2_152 m_2_153 m_1_2 m_2_154) rfl rfl rfl (by decide +kernel) hR
theorem m_7_88 : (Cond.methodLink RX8 94 yX8_isOfPlainValues) ∈ lwA := lwA_mk (ck_7 _ (List.mem_of_getElem? (i := 88) rfl)) rfl
theorem k_RX8_94 {args : Array Value} {s : State} {R rm : Room} (hts : ∀ w ∈ lwA, w.before args s = true) (hR : rm.frames + 1 ≤ R.frames ∧ 8 + (1 + 11) + rm.locals ≤ R.locals) : CallB R s args RX8 94 yX8_isOfPlainValues cX8_isOfPlainValues 1 (some .boolean) (lwC yX8_isOfPlainValues cX8_isOfPlainValues 1 (some .boolean)) rm rm.cells rm.slots 1 ∧ (Cond.static yX8_isOfPlainValues).before args s = true := cwS 1 hts (gdS m_7_88 m_7_33 m_1_1 m_7_34) rfl rfl rfl (by decide +kernel) hR
theorem m_7_230 : (Cond.methodLink RX8 234 yX5_withNumber) ∈ lwA := lwA_mk (ck_7 _ (List.mem_of_getElem? (i := 230) rfl)) rfl
theorem k_RX8_234 {args : Array Value} {s : State} {R rm : Room} (hts : ∀ w ∈ lwA, w.before args s = true) (hR : rm.frames + 1 ≤ R.frames ∧ 8 + (7 + 11) + rm.locals ≤ R.locals) : CallW R s args RX8 RX5 234 yX5_withNumber cX5_withNumber 7 (some (.object "Sendhouse$Thing")) (lwC yX5_withNumber cX5_withNumber 7 (some (.object "Sendhouse$Thing"))) rm rm.cells rm.slots 1 := cwV 1 hts (gdV m_7_230 m_2_230 m_2_231 m_1_4 m_2_232) rfl rfl rfl (by decide +kernel) hR
theorem m_7_229 : (Cond.code yX8_checkedField cX8_checkedField 4 (some .long)) ∈ lwA := lwA_mk (ck_7 _ (List.mem_of_getElem? (i := 229) rfl)) rfl
theorem m_7_226 : (Cond.methodLink RX8 243 yX8_checkedField) ∈ lwA := lwA_mk (ck_7 _ (List.mem_of_getElem? (i := 226) rfl)) rfl
theorem m_7_228 : (Cond.instanceMethod yX8_checkedField) ∈ lwA := lwA_mk (ck_7 _ (List.mem_of_getElem? (i := 228) rfl)) rfl
theorem ms_35 : (Cond.selects RX8 yX8_checkedField yX8_checkedField) ∈ lwA := lwA_mk (List.mem_append_left _ (List.mem_of_getElem? (i := 35) rfl)) rfl
theorem k_RX8_243 {args : Array Value} {s : State} {R rm : Room} (hts : ∀ w ∈ lwA, w.before args s = true) (hR : rm.frames + 1 ≤ R.frames ∧ 8 + (4 + 11) + rm.locals ≤ R.locals) : CallW R s args RX8 RX8 243 yX8_checkedField cX8_checkedField 4 (some .long) (lwC yX8_checkedField cX8_checkedField 4 (some .long)) rm rm.cells rm.slots 2 := cwV 2 hts (gdV m_7_226 m_7_228 ms_35 m_1_1 m_7_229) rfl rfl rfl (by decide +kernel) hR
theorem gf_RX8_57_14 {A9 : Nat → Prop} {H9 : Heap} {fs : List Value} {v : Value} (S : CallFix p m c cc nL s args lwA RX8) (hE : g_E D vwCl (gT ar) (EX1 κ) A9 s H9) (w : g_S D vwCl A H0 G H locs nz) (ha : G a = some (.inr (14, fs))) (hv : fs[9]? = some v) (hdg : decode cc pc = .ok (.getfield 57, 3)) (kk : W p l e R s m args below meth c H locs cells slots Q (F0 m (pc + 3) ls (v :: rest))) : W p l e R s m args below meth c H locs cells slots Q (F0 m pc ls (.ref a :: rest)) :=
  va_get (ci := 14) (C := RX8) (T := TX8) (N := 13) S.1 S.2.1 S.2.2.2.2 inA_RX8 S.2.2.2.1 hE.1 (g_1 w.1 ha) 0 rfl rfl 9 (by decide) (S.2.2.2.2 _ m_2_14) (fun _ h => h) hv hdg kk
theorem m_2_176 : (Cond.classLink RX8 169 "java/util/NoSuchElementException") ∈ lwA := lwA_mk (ck_2 _ (List.mem_of_getElem? (i := 176) rfl)) rfl
theorem m_1_38 : (Cond.initialized "java/util/NoSuchElementException") ∈ lwA := lwA_mk (ck_1 _ (List.mem_of_getElem? (i := 38) rfl)) rfl
theorem gf_RX8_62_14 {A9 : Nat → Prop} {H9 : Heap} {fs : List Value} {v : Value} (S : CallFix p m c cc nL s args lwA RX8) (hE : g_E D vwCl (gT ar) (EX1 κ) A9 s H9) (w : g_S D vwCl A H0 G H locs nz) (ha : G a = some (.inr (14, fs))) (hv : fs[10]? = some v) (hdg : decode cc pc = .ok (.getfield 62, 3)) (kk : W p l e R s m args below meth c H locs cells slots Q (F0 m (pc + 3) ls (v :: rest))) : W p l e R s m args below meth c H locs cells slots Q (F0 m pc ls (.ref a :: rest)) :=
  va_get (ci := 14) (C := RX8) (T := TX8) (N := 13) S.1 S.2.1 S.2.2.2.2 inA_RX8 S.2.2.2.1 hE.1 (g_1 w.1 ha) 0 rfl rfl 10 (by decide) (S.2.2.2.2 _ m_2_15) (fun _ h => h) hv hdg kk
theorem m_7_177 : (Cond.code yX8_checkedAnswer cX8_checkedAnswer 1 (some .long)) ∈ lwA := lwA_mk (ck_7 _ (List.mem_of_getElem? (i := 177) rfl)) rfl
theorem m_7_174 : (Cond.methodLink RX8 312 yX8_checkedAnswer) ∈ lwA := lwA_mk (ck_7 _ (List.mem_of_getElem? (i := 174) rfl)) rfl
theorem m_7_176 : (Cond.instanceMethod yX8_checkedAnswer) ∈ lwA := lwA_mk (ck_7 _ (List.mem_of_getElem? (i := 176) rfl)) rfl
theorem ms_32 : (Cond.selects RX8 yX8_checkedAnswer yX8_checkedAnswer) ∈ lwA := lwA_mk (List.mem_append_left _ (List.mem_of_getElem? (i := 32) rfl)) rfl
theorem k_RX8_312 {args : Array Value} {s : State} {R rm : Room} (hts : ∀ w ∈ lwA, w.before args s = true) (hR : rm.frames + 1 ≤ R.frames ∧ 8 + (1 + 11) + rm.locals ≤ R.locals) : CallW R s args RX8 RX8 312 yX8_checkedAnswer cX8_checkedAnswer 1 (some .long) (lwC yX8_checkedAnswer cX8_checkedAnswer 1 (some .long)) rm rm.cells rm.slots 0 := cwV 0 hts (gdV m_7_174 m_7_176 ms_32 m_1_1 m_7_177) rfl rfl rfl (by decide +kernel) hR
theorem m_7_207 : (Cond.code yX8_checkedFrame cX8_checkedFrame 3 (some (.object "Sendhouse$Frame"))) ∈ lwA := lwA_mk (ck_7 _ (List.mem_of_getElem? (i := 207) rfl)) rfl
theorem m_7_204 : (Cond.methodLink RX8 316 yX8_checkedFrame) ∈ lwA := lwA_mk (ck_7 _ (List.mem_of_getElem? (i := 204) rfl)) rfl
theorem m_7_206 : (Cond.instanceMethod yX8_checkedFrame) ∈ lwA := lwA_mk (ck_7 _ (List.mem_of_getElem? (i := 206) rfl)) rfl
theorem ms_34 : (Cond.selects RX8 yX8_checkedFrame yX8_checkedFrame) ∈ lwA := lwA_mk (List.mem_append_left _ (List.mem_of_getElem? (i := 34) rfl)) rfl
theorem k_RX8_316 {args : Array Value} {s : State} {R rm : Room} (hts : ∀ w ∈ lwA, w.before args s = true) (hR : rm.frames + 1 ≤ R.frames ∧ 8 + (3 + 11) + rm.locals ≤ R.locals) : CallW R s args RX8 RX8 316 yX8_checkedFrame cX8_checkedFrame 3 (some (.object "Sendhouse$Frame")) (lwC yX8_checkedFrame cX8_checkedFrame 3 (some (.object "Sendhouse$Frame"))) rm rm.cells rm.slots 1 := cwV 1 hts (gdV m_7_204 m_7_206 ms_34 m_1_1 m_7_207) rfl rfl rfl (by decide +kernel) hR
theorem m_7_209 : (Cond.methodLink RX8 347 yX1_placesOf) ∈ lwA := lwA_mk (ck_7 _ (List.mem_of_getElem? (i := 209) rfl)) rfl
theorem k_RX8_347 {args : Array Value} {s : State} {R rm : Room} (hts : ∀ w ∈ lwA, w.before args s = true) (hR : rm.frames + 1 ≤ R.frames ∧ 8 + (2 + 11) + rm.locals ≤ R.locals) : CallW R s args RX8 RX1 347 yX1_placesOf cX1_placesOf 2 (some .int) (lwC yX1_placesOf cX1_placesOf 2 (some .int)) rm rm.cells rm.slots 1 := cwV 1 hts (gdV m_7_209 m_3_7 m_3_8 m_1_11 m_3_9) rfl rfl rfl (by decide +kernel) hR
theorem m_7_211 : (Cond.methodLink RX8 353 yX1_placeOf) ∈ lwA := lwA_mk (ck_7 _ (List.mem_of_getElem? (i := 211) rfl)) rfl
theorem k_RX8_353 {args : Array Value} {s : State} {R rm : Room} (hts : ∀ w ∈ lwA, w.before args s = true) (hR : rm.frames + 1 ≤ R.frames ∧ 8 + (3 + 11) + rm.locals ≤ R.locals) : CallW R s args RX8 RX1 353 yX1_placeOf cX1_placeOf 3 (some .long) (lwC yX1_placeOf cX1_placeOf 3 (some .long)) rm rm.cells rm.slots 2 := cwV 2 hts (gdV m_7_211 m_3_15 m_3_16 m_1_11 m_3_17) rfl rfl rfl (by decide +kernel) hR
theorem m_7_203 : (Cond.code yX8_checkedSlot cX8_checkedSlot 5 (some .long)) ∈ lwA := lwA_mk (ck_7 _ (List.mem_of_getElem? (i := 203) rfl)) rfl
theorem m_7_200 : (Cond.methodLink RX8 332 yX8_checkedSlot) ∈ lwA := lwA_mk (ck_7 _ (List.mem_of_getElem? (i := 200) rfl)) rfl
theorem m_7_202 : (Cond.instanceMethod yX8_checkedSlot) ∈ lwA := lwA_mk (ck_7 _ (List.mem_of_getElem? (i := 202) rfl)) rfl
theorem ms_33 : (Cond.selects RX8 yX8_checkedSlot yX8_checkedSlot) ∈ lwA := lwA_mk (List.mem_append_left _ (List.mem_of_getElem? (i := 33) rfl)) rfl
theorem k_RX8_332 {args : Array Value} {s : State} {R rm : Room} (hts : ∀ w ∈ lwA, w.before args s = true) (hR : rm.frames + 1 ≤ R.frames ∧ 8 + (5 + 11) + rm.locals ≤ R.locals) : CallW R s args RX8 RX8 332 yX8_checkedSlot cX8_checkedSlot 5 (some .long) (lwC yX8_checkedSlot cX8_checkedSlot 5 (some .long)) rm rm.cells rm.slots 3 := cwV 3 hts (gdV m_7_200 m_7_202 ms_33 m_1_1 m_7_203) rfl rfl rfl (by decide +kernel) hR
end SITES
noncomputable def LX8_send_108 (i0 : Fin 12) (k18 : Fin 12) : Nat → Int32 → Ho → Ho
  | 0, _, S21 => S21
  | nx20 + 1, x20, S21 => if x20 < 0 then (pc (sX1_pop S21 i0) (fun r31 T32 => T32)) else (pc (sX1_pop S21 i0) (fun r36 T37 => vc ((T37.frS k18 ((T37.fr k18).sa (pU ((T37.fr k18).a) 2 x20 r36)))) (fun T41 => LX8_send_108 i0 k18 nx20 (x20 + (-1)) T41)))
theorem LX8_send_108_u (i0 : Fin 12) (k18 : Fin 12) (nx20 : Nat) (x20 : Int32) (S21 : Ho) : LX8_send_108 i0 k18 (nx20 + 1) x20 S21 = if x20 < 0 then (pc (sX1_pop S21 i0) (fun r31 T32 => T32)) else (pc (sX1_pop S21 i0) (fun r36 T37 => vc ((T37.frS k18 ((T37.fr k18).sa (pU ((T37.fr k18).a) 2 x20 r36)))) (fun T41 => LX8_send_108 i0 k18 nx20 (x20 + (-1)) T41))) := rfl
noncomputable def LX8_send_108_1 (i0 : Fin 12) (k72 : Fin 12) : Nat → Int32 → Ho → Ho
  | 0, _, S75 => S75
  | nx74 + 1, x74, S75 => if x74 < 0 then (pc (sX1_pop S75 i0) (fun r85 T86 => T86)) else (pc (sX1_pop S75 i0) (fun r90 T91 => vc ((T91.frS k72 ((T91.fr k72).sa (pU ((T91.fr k72).a) 2 x74 r90)))) (fun T95 => LX8_send_108_1 i0 k72 nx74 (x74 + (-1)) T95)))
theorem LX8_send_108_1_u (i0 : Fin 12) (k72 : Fin 12) (nx74 : Nat) (x74 : Int32) (S75 : Ho) : LX8_send_108_1 i0 k72 (nx74 + 1) x74 S75 = if x74 < 0 then (pc (sX1_pop S75 i0) (fun r85 T86 => T86)) else (pc (sX1_pop S75 i0) (fun r90 T91 => vc ((T91.frS k72 ((T91.fr k72).sa (pU ((T91.fr k72).a) 2 x74 r90)))) (fun T95 => LX8_send_108_1 i0 k72 nx74 (x74 + (-1)) T95))) := rfl
noncomputable def sX8_send (Z : Ho) (i0 : Fin 12) (c0 : Int32) (j0 : Int32) (n0 : Int32) : Ho := if c0 = 77 then (oc (sX8_lookUp Z (aA Z.ab (-1) (sX1_cls Z i0)) j0) (vc (sX8_fault Z 117) (fun T57 => T57)) (fun k55 => if (Z.to k55).a = n0 then (if Z.fn < 12 then (pc (sX8_openFrame Z k55 (sX1_fromTop Z i0 n0)) (fun r64 T61 => oc (r64) (T61) (fun k72 => LX8_send_108_1 i0 k72 (FU + 1) (n0 - 1) T61))) else (vc (sX8_fault Z 100) (fun T99 => T99))) else (vc (sX8_fault Z 117) (fun T104 => T104)))) else (oc (sX8_lookUp Z (sX5_classOfValue Z (sX1_fromTop Z i0 n0)) j0) (vc (sX8_fault Z 117) (fun T3 => T3)) (fun k1 => if (Z.to k1).a = n0 then (if Z.fn < 12 then (pc (sX8_openFrame Z k1 (sX1_fromTop Z i0 n0)) (fun r10 T7 => oc (r10) (T7) (fun k18 => LX8_send_108 i0 k18 (FU + 1) (n0 - 1) T7))) else (vc (sX8_fault Z 100) (fun T45 => T45))) else (vc (sX8_fault Z 117) (fun T50 => T50))))
theorem sX8_send_u (Z : Ho) (i0 : Fin 12) (c0 : Int32) (j0 : Int32) (n0 : Int32) : sX8_send Z i0 c0 j0 n0 = if c0 = 77 then (oc (sX8_lookUp Z (aA Z.ab (-1) (sX1_cls Z i0)) j0) (vc (sX8_fault Z 117) (fun T57 => T57)) (fun k55 => if (Z.to k55).a = n0 then (if Z.fn < 12 then (pc (sX8_openFrame Z k55 (sX1_fromTop Z i0 n0)) (fun r64 T61 => oc (r64) (T61) (fun k72 => LX8_send_108_1 i0 k72 (FU + 1) (n0 - 1) T61))) else (vc (sX8_fault Z 100) (fun T99 => T99))) else (vc (sX8_fault Z 117) (fun T104 => T104)))) else (oc (sX8_lookUp Z (sX5_classOfValue Z (sX1_fromTop Z i0 n0)) j0) (vc (sX8_fault Z 117) (fun T3 => T3)) (fun k1 => if (Z.to k1).a = n0 then (if Z.fn < 12 then (pc (sX8_openFrame Z k1 (sX1_fromTop Z i0 n0)) (fun r10 T7 => oc (r10) (T7) (fun k18 => LX8_send_108 i0 k18 (FU + 1) (n0 - 1) T7))) else (vc (sX8_fault Z 100) (fun T45 => T45))) else (vc (sX8_fault Z 117) (fun T50 => T50)))) := rfl
set_option maxHeartbeats 4000000 in
set_option maxRecDepth 100000 in
theorem hX8_send (l : Launch) (D : va_G) (ar : Nat → ClassId) (κ : Nat → Nat) (G : gW) (x : Xo) (Z : Ho) (sz : Nat) (i0 : Fin 12) (c0 : Int32) (j0 : Int32) (n0 : Int32) (hk : OK x Z) : Met l yX8_send (lwC yX8_send cX8_send 11 none) (rD 9 0 0) (g_Pc D vwCl (gT ar) (EX1 κ) (ov κ ar x Z G) sz [.ref (x.f .ho), .ref (x.f (.fr i0)), .int c0, .int j0, .int n0]) (g_Qv D vwCl (g_A (ov κ ar x Z G) sz) (fun u => ∃ z9 : Zo, ∃ T9 : Ho, sX8_send Z i0 c0 j0 n0 = T9 ∧ u.1 = ov κ ar (x.pgs z9) T9 G ∧ OK (x.pgs z9) T9 ∧ BX x z9 sz ∧ SZ T9 Z)) 0 0 (g_A (ov κ ar x Z G) sz) := by
  refine g_ofW (by decide +kernel) (Nat.le_of_ble_eq_true rfl) ?_
  intro p e s m below meth c ls S hr hlk hin hE w hl
  have hx := S.1
  have hb := S.2.1
  have hl : lv_has ls 11 [(0, .ref (x.f .ho)), (1, .ref (x.f (.fr i0))), (2, .int c0), (3, .int j0), (4, .int n0)] := hl
  refine lv_aload_n hx hb dX8_send_0 rfl (lv_at hl 1 rfl) ?_
  refine lv_iload hx hb dX8_send_1 (lv_at hl 4 rfl) ?_
  refine g_calll w (g_runV (As := [.int n0]) (rest := []) S hE w hl (hX1_fromTop l D ar κ G x Z sz i0 n0 hk ) (k_RX8_375 S.2.2.2.2 ⟨Nat.le_of_ble_eq_true rfl, Nat.le_of_ble_eq_true rfl⟩) (ov_r (t := .fr i0) (hk.e (.fr i0) rfl)) rfl rfl rfl rfl (Nat.le_of_ble_eq_true rfl) dX8_send_3 ⟨Nat.le_of_ble_eq_true rfl, Nat.le_of_ble_eq_true rfl⟩) (fun r u H locs hp hnz w => ?_)
  obtain ⟨rfl, rfl⟩ := hp
  dsimp only at w
  refine lv_lstore (lv' := [(5, .long (sX1_fromTop Z i0 n0)), (0, .ref (x.f .ho)), (1, .ref (x.f (.fr i0))), (2, .int c0), (3, .int j0), (4, .int n0)]) hx hb dX8_send_6 hl (by decide) rfl (fun ls hl => ?_)
  refine lv_iload_n hx hb dX8_send_8 rfl (lv_at hl 3 rfl) ?_
  refine lv_bipush (v := 77) hx hb dX8_send_9 (by decide) ?_
  refine lv_icmp_ne (tgt := 28) hx hb dX8_send_11 (by decide) (fun c_11 => ?_) (fun c_11 => ?_)
  · refine lv_aload_n hx hb dX8_send_28 rfl (lv_at hl 1 rfl) ?_
    refine gf_RX8_40_14 (v := .ref (x.f .ts)) S hE w (ov_r (t := .ho) (hk.e (.ho) rfl)) rfl dX8_send_29 ?_
    refine lv_lload hx hb dX8_send_32 (lv_at hl 0 rfl) ?_
    refine g_calli w (g_runV (As := [.long (sX1_fromTop Z i0 n0)]) (rest := []) S hE w hl (hX5_classOfValue l D ar κ G x Z sz (sX1_fromTop Z i0 n0) hk ) (k_RX8_284 S.2.2.2.2 ⟨Nat.le_of_ble_eq_true rfl, Nat.le_of_ble_eq_true rfl⟩) (ov_r (t := .ts) (hk.e (.ts) rfl)) rfl rfl rfl rfl (Nat.le_of_ble_eq_true rfl) dX8_send_34 ⟨Nat.le_of_ble_eq_true rfl, Nat.le_of_ble_eq_true rfl⟩) (fun r u H locs hp hnz w => ?_)
    obtain ⟨rfl, rfl⟩ := hp
    dsimp only at w
    refine lv_istore (lv' := [(7, .int (sX5_classOfValue Z (sX1_fromTop Z i0 n0))), (5, .long (sX1_fromTop Z i0 n0)), (0, .ref (x.f .ho)), (1, .ref (x.f (.fr i0))), (2, .int c0), (3, .int j0), (4, .int n0)]) hx hb dX8_send_37 hl (by decide) rfl (fun ls hl => ?_)
    refine lv_aload_n hx hb dX8_send_39 rfl (lv_at hl 2 rfl) ?_
    refine lv_iload hx hb dX8_send_40 (lv_at hl 0 rfl) ?_
    refine lv_iload_n hx hb dX8_send_42 rfl (lv_at hl 5 rfl) ?_
    refine g_callq w (g_runV (As := [.int (sX5_classOfValue Z (sX1_fromTop Z i0 n0)), .int j0]) (rest := []) S hE w hl (hX8_lookUp l D ar κ G x Z sz (sX5_classOfValue Z (sX1_fromTop Z i0 n0)) j0 hk ) (k_RX8_166 S.2.2.2.2 ⟨Nat.le_of_ble_eq_true rfl, Nat.le_of_ble_eq_true rfl⟩) (ov_r (t := .ho) (hk.e (.ho) rfl)) rfl rfl rfl rfl (Nat.le_of_ble_eq_true rfl) dX8_send_43 ⟨Nat.le_of_ble_eq_true rfl, Nat.le_of_ble_eq_true rfl⟩) (fun r u H locs hp hnz w => ?_)
    obtain ⟨rfl, rfl⟩ := hp
    dsimp only at w
    refine lv_astoreQ (lv' := [(8, va_rf ((sX8_lookUp Z (sX5_classOfValue Z (sX1_fromTop Z i0 n0)) j0).map (fun k9 => x.f (.to k9)))), (7, .int (sX5_classOfValue Z (sX1_fromTop Z i0 n0))), (5, .long (sX1_fromTop Z i0 n0)), (0, .ref (x.f .ho)), (1, .ref (x.f (.fr i0))), (2, .int c0), (3, .int j0), (4, .int n0)]) hx hb dX8_send_46 hl (by decide) rfl (fun ls hl => ?_)
    refine lv_aloadQ hx hb dX8_send_48 (lv_at hl 0 rfl) ?_
    rcases he2 : sX8_lookUp Z (sX5_classOfValue Z (sX1_fromTop Z i0 n0)) j0 with _ | k1
    · have hl : lv_has ls 11 [(8, .null), (7, .int (sX5_classOfValue Z (sX1_fromTop Z i0 n0))), (5, .long (sX1_fromTop Z i0 n0)), (0, .ref (x.f .ho)), (1, .ref (x.f (.fr i0))), (2, .int c0), (3, .int j0), (4, .int n0)] := by rw [he2] at hl; exact hl
      show W p l e _ s m _ below meth c _ _ _ _ _ (F0 m 50 ls [.null])
      refine lv_ifnullN (tgt := 63) hx hb dX8_send_50 (by decide) ?_
      refine lv_aload_n hx hb dX8_send_63 rfl (lv_at hl 3 rfl) ?_
      refine lv_bipush (v := 117) hx hb dX8_send_64 (by decide) ?_
      refine g_callv w (g_runV (As := [.int 117]) (rest := []) S hE w hl (hX8_fault l D ar κ G x Z sz 117 hk rfl rfl) (k_RX8_435 S.2.2.2.2 ⟨Nat.le_of_ble_eq_true rfl, Nat.le_of_ble_eq_true rfl⟩) (ov_r (t := .ho) (hk.e (.ho) rfl)) rfl rfl rfl rfl (Nat.le_of_ble_eq_true rfl) dX8_send_66 ⟨Nat.le_of_ble_eq_true rfl, Nat.le_of_ble_eq_true rfl⟩) (fun u H locs hp hnz w => ?_)
      obtain ⟨T3, e4, hu9, hk5, sq6⟩ := hp
      subst hu9
      dsimp only at w
      exact g_vret hx hb hr hlk w (Nat.le_of_ble_eq_true rfl) (Nat.le_of_ble_eq_true rfl) dX8_send_69 ⟨x.z, _, ((sX8_send_u Z i0 c0 j0 n0).trans ((if_neg c_11).trans ((oc_n he2).trans (vc_e e4)))), rfl, hk5, (fun a9 t9 h9 => Or.inl h9), (SZ.t sq6 ⟨rfl, rfl, rfl, rfl⟩)⟩
    · have hl : lv_has ls 11 [(8, .ref (x.f (.to k1))), (7, .int (sX5_classOfValue Z (sX1_fromTop Z i0 n0))), (5, .long (sX1_fromTop Z i0 n0)), (0, .ref (x.f .ho)), (1, .ref (x.f (.fr i0))), (2, .int c0), (3, .int j0), (4, .int n0)] := by rw [he2] at hl; exact hl
      show W p l e _ s m _ below meth c _ _ _ _ _ (F0 m 50 ls [.ref (x.f (.to k1))])
      refine lv_ifnull hx hb dX8_send_50 ?_
      refine lv_aload hx hb dX8_send_53 (lv_at hl 0 rfl) ?_
      refine gf_RX8_287_12 (v := .int ((Z.to k1).a)) S hE w (ov_r (t := .to k1) (hk.e_to (v_lookUp hk he2))) rfl dX8_send_55 ?_
      refine lv_iload hx hb dX8_send_58 (lv_at hl 7 rfl) ?_
      refine lv_icmp_eq (tgt := 70) hx hb dX8_send_60 (by decide) (fun c_60 => ?_) (fun c_60 => ?_)
      · refine lv_aload_n hx hb dX8_send_70 rfl (lv_at hl 3 rfl) ?_
        refine gf_RX8_50_14 (v := .int Z.fn) S hE w (ov_r (t := .ho) (hk.e (.ho) rfl)) rfl dX8_send_71 ?_
        refine lv_bipush (v := 12) hx hb dX8_send_74 (by decide) ?_
        refine lv_icmp_lt (tgt := 86) hx hb dX8_send_76 (by decide) (fun c_76 => ?_) (fun c_76 => ?_)
        · refine lv_aload_n hx hb dX8_send_86 rfl (lv_at hl 3 rfl) ?_
          refine lv_aload hx hb dX8_send_87 (lv_at hl 0 rfl) ?_
          refine lv_lload hx hb dX8_send_89 (lv_at hl 2 rfl) ?_
          refine g_callq w (g_runV (As := [.ref (x.f (.to k1)), .long (sX1_fromTop Z i0 n0)]) (rest := []) S hE w hl (hX8_openFrame l D ar κ G x Z sz k1 (sX1_fromTop Z i0 n0) hk (v_lookUp hk he2)) (k_RX8_292 S.2.2.2.2 ⟨Nat.le_of_ble_eq_true rfl, Nat.le_of_ble_eq_true rfl⟩) (ov_r (t := .ho) (hk.e (.ho) rfl)) rfl rfl rfl rfl (Nat.le_of_ble_eq_true rfl) dX8_send_91 ⟨Nat.le_of_ble_eq_true rfl, Nat.le_of_ble_eq_true rfl⟩) (fun r u H locs hp hnz w => ?_)
          obtain ⟨z11, r10, T7, e8, hr9, hu9, hk9, bx12, sq13⟩ := hp
          subst hr9
          obtain ⟨u15, n14⟩ := u
          dsimp only at hu9 w hnz
          subst hu9
          have hz16 := hnz
          have vk17 : k1 < T7.nt := SZ.to sq13 (v_lookUp hk he2)
          refine lv_astoreQ (lv' := [(9, va_rf ((r10).map (fun k9 => x.f (.fr k9)))), (8, .ref (x.f (.to k1))), (7, .int (sX5_classOfValue Z (sX1_fromTop Z i0 n0))), (5, .long (sX1_fromTop Z i0 n0)), (0, .ref (x.f .ho)), (1, .ref (x.f (.fr i0))), (2, .int c0), (3, .int j0), (4, .int n0)]) hx hb dX8_send_94 hl (by decide) rfl (fun ls hl => ?_)
          refine lv_aloadQ hx hb dX8_send_96 (lv_at hl 0 rfl) ?_
          rcases he19 : r10 with _ | k18
          · have hl : lv_has ls 11 [(9, .null), (8, .ref (x.f (.to k1))), (7, .int (sX5_classOfValue Z (sX1_fromTop Z i0 n0))), (5, .long (sX1_fromTop Z i0 n0)), (0, .ref (x.f .ho)), (1, .ref (x.f (.fr i0))), (2, .int c0), (3, .int j0), (4, .int n0)] := by rw [he19] at hl; exact hl
            show W p l e _ s m _ below meth c _ _ _ _ _ (F0 m 98 ls [.null])
            refine lv_ifnonnullN hx hb dX8_send_98 ?_
            exact g_vret hx hb hr hlk w (Nat.le_of_ble_eq_true rfl) (Nat.le_of_ble_eq_true rfl) dX8_send_101 ⟨z11, _, ((sX8_send_u Z i0 c0 j0 n0).trans ((if_neg c_11).trans ((oc_s he2).trans ((if_pos c_60).trans ((if_pos c_76).trans ((pc_e e8).trans (oc_n he19))))))), rfl, hk9, bx12, (SZ.t sq13 ⟨rfl, rfl, rfl, rfl⟩)⟩
          · have hl : lv_has ls 11 [(9, .ref (x.f (.fr k18))), (8, .ref (x.f (.to k1))), (7, .int (sX5_classOfValue Z (sX1_fromTop Z i0 n0))), (5, .long (sX1_fromTop Z i0 n0)), (0, .ref (x.f .ho)), (1, .ref (x.f (.fr i0))), (2, .int c0), (3, .int j0), (4, .int n0)] := by rw [he19] at hl; exact hl
            show W p l e _ s m _ below meth c _ _ _ _ _ (F0 m 98 ls [.ref (x.f (.fr k18))])
            refine lv_ifnonnull (tgt := 102) hx hb dX8_send_98 (by decide) ?_
            refine lv_iload hx hb dX8_send_102 (lv_at hl 8 rfl) ?_
            refine lv_iconst (v := 1) hx hb dX8_send_104 (by decide) ?_
            refine lv_isub hx hb dX8_send_105 ?_
            refine lv_istore (lv' := [(10, .int (n0 - 1)), (9, .ref (x.f (.fr k18))), (8, .ref (x.f (.to k1))), (7, .int (sX5_classOfValue Z (sX1_fromTop Z i0 n0))), (5, .long (sX1_fromTop Z i0 n0)), (0, .ref (x.f .ho)), (1, .ref (x.f (.fr i0))), (2, .int c0), (3, .int j0), (4, .int n0)]) hx hb dX8_send_106 hl (by decide) rfl (fun ls hl => ?_)
            have key30 : ∀ (nx20 : Nat) (x20 : Int32), x20.toInt + 2 ≤ nx20 ∧ 1 ≤ nx20 → ∀ (z24 : Zo) (n26 : Nat), BX x z24 sz → sz ≤ n26 → ∀ (S21 : Ho), OK (x.pgs z24) S21 → SZ S21 Z → sX8_send Z i0 c0 j0 n0 = LX8_send_108 i0 k18 nx20 x20 S21 → ∀ (H : Heap) (locs : List Loc) (ls : Array Slot), g_S D vwCl (g_A (ov κ ar x Z G) sz) s.heap (ov κ ar (x.pgs z24) S21 G) H locs n26 → lv_has ls 11 [(10, .int x20), (9, .ref (x.f (.fr k18))), (8, .ref (x.f (.to k1))), (7, .int (sX5_classOfValue Z (sX1_fromTop Z i0 n0))), (5, .long (sX1_fromTop Z i0 n0)), (0, .ref (x.f .ho)), (1, .ref (x.f (.fr i0))), (2, .int c0), (3, .int j0), (4, .int n0)] → W p l e (rD 9 0 0) s m ([.ref (x.f .ho), .ref (x.f (.fr i0)), .int c0, .int j0, .int n0] : List Value).toArray below meth c H locs 0 0 (MQ below (g_Qv D vwCl (g_A (ov κ ar x Z G) sz) (fun u => ∃ z9 : Zo, ∃ T9 : Ho, sX8_send Z i0 c0 j0 n0 = T9 ∧ u.1 = ov κ ar (x.pgs z9) T9 G ∧ OK (x.pgs z9) T9 ∧ BX x z9 sz ∧ SZ T9 Z)) ([.ref (x.f .ho), .ref (x.f (.fr i0)), .int c0, .int j0, .int n0] : List Value).toArray s 0 0 (g_A (ov κ ar x Z G) sz)) (F0 m 108 ls []) := by
              intro nx20
              induction nx20 with
              | zero => intro x20 hix20; exact absurd hix20.2 (by omega)
              | succ nx20 ihx20 =>
                intro x20 hix20 z24 n26 bx25 hz27 S21 hk22 sq23 hsp29 H locs ls w hl
                refine lv_iload hx hb dX8_send_108 (lv_at hl 0 rfl) ?_
                refine lv_if_lt (tgt := 133) hx hb dX8_send_110 (by decide) (fun c_110 => ?_) (fun c_110 => ?_)
                · refine lv_aload_n hx hb dX8_send_133 rfl (lv_at hl 6 rfl) ?_
                  refine g_calll w (g_runV (As := []) (rest := []) S hE w hl (hX1_pop l D ar κ G (x.pgs z24) S21 n26 i0 hk22 ) (k_RX8_409 S.2.2.2.2 ⟨Nat.le_of_ble_eq_true rfl, Nat.le_of_ble_eq_true rfl⟩) (ov_r (t := .fr i0) (hk22.e (.fr i0) rfl)) rfl rfl rfl rfl (Nat.le_of_ble_eq_true rfl) dX8_send_134 ⟨Nat.le_of_ble_eq_true rfl, Nat.le_of_ble_eq_true rfl⟩) (fun r31 u H locs hp hnz w => ?_)
                  obtain ⟨T32, e33, hu9, hk34, sq35⟩ := hp
                  subst hu9
                  dsimp only at w
                  refine lv_pop2_2 hx hb dX8_send_137 rfl ?_
                  exact g_vret hx hb hr hlk w (Nat.le_of_ble_eq_true rfl) (Nat.le_of_ble_eq_true rfl) dX8_send_138 ⟨z24, _, ((hsp29).trans ((LX8_send_108_u i0 k18 nx20 x20 S21).trans ((if_pos c_110).trans (pc_e e33)))), rfl, hk34, bx25, (SZ.t sq35 sq23)⟩
                · refine lv_aload hx hb dX8_send_113 (lv_at hl 1 rfl) ?_
                  refine gf_RX8_296_7 (v := .ref (x.f (.fa k18))) S hE w (ov_r (t := .fr k18) (hk22.e (.fr k18) rfl)) rfl dX8_send_115 ?_
                  refine lv_iload hx hb dX8_send_118 (lv_at hl 0 rfl) ?_
                  refine lv_aload_n hx hb dX8_send_120 rfl (lv_at hl 6 rfl) ?_
                  refine g_calll w (g_runV (As := []) (rest := [.int x20, .ref (x.f (.fa k18))]) S hE w hl (hX1_pop l D ar κ G (x.pgs z24) S21 n26 i0 hk22 ) (k_RX8_409 S.2.2.2.2 ⟨Nat.le_of_ble_eq_true rfl, Nat.le_of_ble_eq_true rfl⟩) (ov_r (t := .fr i0) (hk22.e (.fr i0) rfl)) rfl rfl rfl rfl (Nat.le_of_ble_eq_true rfl) dX8_send_121 ⟨Nat.le_of_ble_eq_true rfl, Nat.le_of_ble_eq_true rfl⟩) (fun r36 u H locs hp hnz w => ?_)
                  obtain ⟨T37, e38, hu9, hk39, sq40⟩ := hp
                  subst hu9
                  dsimp only at w
                  refine g_callv w (g_runS (As := [.ref (x.f (.fa k18)), .int x20, .long r36]) (rest := []) S hE w hl (c_putAt l D ar κ (ov κ ar (x.pgs z24) T37 G) n26 (x.f (.fa k18)) x20 r36 2 ((T37.fr k18).a) (ov_r (t := .fa k18) (hk39.e (.fa k18) rfl)) (by decide)) (k_RX8_203 S.2.2.2.2 ⟨Nat.le_of_ble_eq_true rfl, Nat.le_of_ble_eq_true rfl⟩) rfl rfl (Nat.le_of_ble_eq_true rfl) dX8_send_124 ⟨Nat.le_of_ble_eq_true rfl, Nat.le_of_ble_eq_true rfl⟩) (fun u H locs hp hnz w => ?_)
                  obtain rfl := hp
                  dsimp only at w
                  have w := g_eqw w (congrArg (fun Z9 => g_up (ov κ ar (x.pgs z24) Z9 G) (x.f (.fa k18)) (.inl (ar 1, 2, .inr (.inl (pU ((T37.fr k18).a) 2 x20 r36))))) (frS_id (S := T37) (i := k18)).symm)
                  have w : g_S D vwCl (g_A (ov κ ar x Z G) sz) s.heap (ov κ ar (x.pgs z24) (T37.frS k18 ((T37.fr k18).sa (pU ((T37.fr k18).a) 2 x20 r36))) G) H _ n26 := g_eqw w (ov_wfa (S := T37) (v := (T37.fr k18)) (v' := ((T37.fr k18).sa (pU ((T37.fr k18).a) 2 x20 r36))) hk39.v (hk39.e (.fa k18) rfl) rfl Fr_t_sa Fr_p_sa Fr_o_sa Fr_v_sa Fr_w_sa Fr_d_sa)
                  refine lv_iinc (v := x20 + (-1)) (lv' := [(10, .int (x20 + (-1))), (9, .ref (x.f (.fr k18))), (8, .ref (x.f (.to k1))), (7, .int (sX5_classOfValue Z (sX1_fromTop Z i0 n0))), (5, .long (sX1_fromTop Z i0 n0)), (0, .ref (x.f .ho)), (1, .ref (x.f (.fr i0))), (2, .int c0), (3, .int j0), (4, .int n0)]) hx hb dX8_send_127 hl (k := 0) rfl rfl (by decide) rfl (fun ls hl => ?_)
                  refine lv_goto (tgt := 108) hx hb dX8_send_130 (by decide) ?_
                  have hk430 : OK (x.pgs z24) (T37.frS k18 ((T37.fr k18).sa (pU ((T37.fr k18).a) 2 x20 r36))) := (OK.frS (S := T37) hk39 (fun k9 q9 => hk39.o (i := k18) q9))
                  obtain ⟨T41, eT42⟩ : ∃ T9 : Ho, (T37.frS k18 ((T37.fr k18).sa (pU ((T37.fr k18).a) 2 x20 r36))) = T9 := ⟨_, rfl⟩
                  have hk43 : OK (x.pgs z24) T41 := eT42 ▸ hk430
                  have sq44 : SZ T41 Z := eT42 ▸ (show SZ (T37.frS k18 ((T37.fr k18).sa (pU ((T37.fr k18).a) 2 x20 r36))) Z from (SZ.t sq40 sq23))
                  have w := g_eqw w (congrArg (fun Z9 => ov κ ar (x.pgs z24) Z9 G) eT42)
                  exact ihx20 (x20 + (-1)) (dn_m c_110 hix20) z24 n26 bx25 (by omega) T41 hk43 sq44 ((hsp29).trans ((LX8_send_108_u i0 k18 nx20 x20 S21).trans ((if_neg c_110).trans ((pc_e e38).trans (vc_e eT42))))) H _ ls w (lv_sub hl [0, 1, 2, 3, 4, 5, 6, 7, 8, 9] rfl)
            exact key30 (FU + 1) (n0 - 1) (dn_0 _) z11 n14 bx12 (by omega) T7 hk9 (SZ.t sq13 ⟨rfl, rfl, rfl, rfl⟩) ((sX8_send_u Z i0 c0 j0 n0).trans ((if_neg c_11).trans ((oc_s he2).trans ((if_pos c_60).trans ((if_pos c_76).trans ((pc_e e8).trans (oc_s he19))))))) _ _ _ w (lv_sub hl [0, 1, 2, 3, 4, 5, 6, 7, 8, 9] rfl)
        · refine lv_aload_n hx hb dX8_send_79 rfl (lv_at hl 3 rfl) ?_
          refine lv_bipush (v := 100) hx hb dX8_send_80 (by decide) ?_
          refine g_callv w (g_runV (As := [.int 100]) (rest := []) S hE w hl (hX8_fault l D ar κ G x Z sz 100 hk rfl rfl) (k_RX8_435 S.2.2.2.2 ⟨Nat.le_of_ble_eq_true rfl, Nat.le_of_ble_eq_true rfl⟩) (ov_r (t := .ho) (hk.e (.ho) rfl)) rfl rfl rfl rfl (Nat.le_of_ble_eq_true rfl) dX8_send_82 ⟨Nat.le_of_ble_eq_true rfl, Nat.le_of_ble_eq_true rfl⟩) (fun u H locs hp hnz w => ?_)
          obtain ⟨T45, e46, hu9, hk47, sq48⟩ := hp
          subst hu9
          dsimp only at w
          have vk49 : k1 < T45.nt := SZ.to sq48 (v_lookUp hk he2)
          exact g_vret hx hb hr hlk w (Nat.le_of_ble_eq_true rfl) (Nat.le_of_ble_eq_true rfl) dX8_send_85 ⟨x.z, _, ((sX8_send_u Z i0 c0 j0 n0).trans ((if_neg c_11).trans ((oc_s he2).trans ((if_pos c_60).trans ((if_neg c_76).trans (vc_e e46)))))), rfl, hk47, (fun a9 t9 h9 => Or.inl h9), (SZ.t sq48 ⟨rfl, rfl, rfl, rfl⟩)⟩
      · refine lv_aload_n hx hb dX8_send_63 rfl (lv_at hl 3 rfl) ?_
        refine lv_bipush (v := 117) hx hb dX8_send_64 (by decide) ?_
        refine g_callv w (g_runV (As := [.int 117]) (rest := []) S hE w hl (hX8_fault l D ar κ G x Z sz 117 hk rfl rfl) (k_RX8_435 S.2.2.2.2 ⟨Nat.le_of_ble_eq_true rfl, Nat.le_of_ble_eq_true rfl⟩) (ov_r (t := .ho) (hk.e (.ho) rfl)) rfl rfl rfl rfl (Nat.le_of_ble_eq_true rfl) dX8_send_66 ⟨Nat.le_of_ble_eq_true rfl, Nat.le_of_ble_eq_true rfl⟩) (fun u H locs hp hnz w => ?_)
        obtain ⟨T50, e51, hu9, hk52, sq53⟩ := hp
        subst hu9
        dsimp only at w
        have vk54 : k1 < T50.nt := SZ.to sq53 (v_lookUp hk he2)
        exact g_vret hx hb hr hlk w (Nat.le_of_ble_eq_true rfl) (Nat.le_of_ble_eq_true rfl) dX8_send_69 ⟨x.z, _, ((sX8_send_u Z i0 c0 j0 n0).trans ((if_neg c_11).trans ((oc_s he2).trans ((if_neg c_60).trans (vc_e e51))))), rfl, hk52, (fun a9 t9 h9 => Or.inl h9), (SZ.t sq53 ⟨rfl, rfl, rfl, rfl⟩)⟩
  · refine lv_aload_n hx hb dX8_send_14 rfl (lv_at hl 1 rfl) ?_
    refine gf_RX8_10_14 (v := .ref (x.f .cl)) S hE w (ov_r (t := .ho) (hk.e (.ho) rfl)) rfl dX8_send_15 ?_
    refine lv_aload_n hx hb dX8_send_18 rfl (lv_at hl 2 rfl) ?_
    refine g_calli w (g_runV (As := []) (rest := [.ref (x.f .cl)]) S hE w hl (hX1_cls l D ar κ G x Z sz i0 hk ) (k_RX8_319 S.2.2.2.2 ⟨Nat.le_of_ble_eq_true rfl, Nat.le_of_ble_eq_true rfl⟩) (ov_r (t := .fr i0) (hk.e (.fr i0) rfl)) rfl rfl rfl rfl (Nat.le_of_ble_eq_true rfl) dX8_send_19 ⟨Nat.le_of_ble_eq_true rfl, Nat.le_of_ble_eq_true rfl⟩) (fun r u H locs hp hnz w => ?_)
    obtain ⟨rfl, rfl⟩ := hp
    dsimp only at w
    refine g_calli w (g_runV (As := [.int (sX1_cls Z i0)]) (rest := []) S hE w hl (c_X0_aboveOf l D ar κ (ov κ ar x Z G) sz (x.f .cl) (sX1_cls Z i0) (x.f .ab) (x.f .fc) Z.cn Z.ab (ov_r (t := .cl) (hk.e (.cl) rfl)) (ov_r (t := .ab) (hk.e (.ab) rfl))) (k_RX8_184 S.2.2.2.2 ⟨Nat.le_of_ble_eq_true rfl, Nat.le_of_ble_eq_true rfl⟩) (ov_r (t := .cl) (hk.e (.cl) rfl)) rfl rfl rfl rfl (Nat.le_of_ble_eq_true rfl) dX8_send_22 ⟨Nat.le_of_ble_eq_true rfl, Nat.le_of_ble_eq_true rfl⟩) (fun r u H locs hp hnz w => ?_)
    obtain ⟨rfl, rfl⟩ := hp
    dsimp only at w
    refine lv_goto (tgt := 37) hx hb dX8_send_25 (by decide) ?_
    refine lv_istore (lv' := [(7, .int (aA Z.ab (-1) (sX1_cls Z i0))), (5, .long (sX1_fromTop Z i0 n0)), (0, .ref (x.f .ho)), (1, .ref (x.f (.fr i0))), (2, .int c0), (3, .int j0), (4, .int n0)]) hx hb dX8_send_37 hl (by decide) rfl (fun ls hl => ?_)
    refine lv_aload_n hx hb dX8_send_39 rfl (lv_at hl 2 rfl) ?_
    refine lv_iload hx hb dX8_send_40 (lv_at hl 0 rfl) ?_
    refine lv_iload_n hx hb dX8_send_42 rfl (lv_at hl 5 rfl) ?_
    refine g_callq w (g_runV (As := [.int (aA Z.ab (-1) (sX1_cls Z i0)), .int j0]) (rest := []) S hE w hl (hX8_lookUp l D ar κ G x Z sz (aA Z.ab (-1) (sX1_cls Z i0)) j0 hk ) (k_RX8_166 S.2.2.2.2 ⟨Nat.le_of_ble_eq_true rfl, Nat.le_of_ble_eq_true rfl⟩) (ov_r (t := .ho) (hk.e (.ho) rfl)) rfl rfl rfl rfl (Nat.le_of_ble_eq_true rfl) dX8_send_43 ⟨Nat.le_of_ble_eq_true rfl, Nat.le_of_ble_eq_true rfl⟩) (fun r u H locs hp hnz w => ?_)
    obtain ⟨rfl, rfl⟩ := hp
    dsimp only at w
    refine lv_astoreQ (lv' := [(8, va_rf ((sX8_lookUp Z (aA Z.ab (-1) (sX1_cls Z i0)) j0).map (fun k9 => x.f (.to k9)))), (7, .int (aA Z.ab (-1) (sX1_cls Z i0))), (5, .long (sX1_fromTop Z i0 n0)), (0, .ref (x.f .ho)), (1, .ref (x.f (.fr i0))), (2, .int c0), (3, .int j0), (4, .int n0)]) hx hb dX8_send_46 hl (by decide) rfl (fun ls hl => ?_)
    refine lv_aloadQ hx hb dX8_send_48 (lv_at hl 0 rfl) ?_
    rcases he56 : sX8_lookUp Z (aA Z.ab (-1) (sX1_cls Z i0)) j0 with _ | k55
    · have hl : lv_has ls 11 [(8, .null), (7, .int (aA Z.ab (-1) (sX1_cls Z i0))), (5, .long (sX1_fromTop Z i0 n0)), (0, .ref (x.f .ho)), (1, .ref (x.f (.fr i0))), (2, .int c0), (3, .int j0), (4, .int n0)] := by rw [he56] at hl; exact hl
      show W p l e _ s m _ below meth c _ _ _ _ _ (F0 m 50 ls [.null])
      refine lv_ifnullN (tgt := 63) hx hb dX8_send_50 (by decide) ?_
      refine lv_aload_n hx hb dX8_send_63 rfl (lv_at hl 3 rfl) ?_
      refine lv_bipush (v := 117) hx hb dX8_send_64 (by decide) ?_
      refine g_callv w (g_runV (As := [.int 117]) (rest := []) S hE w hl (hX8_fault l D ar κ G x Z sz 117 hk rfl rfl) (k_RX8_435 S.2.2.2.2 ⟨Nat.le_of_ble_eq_true rfl, Nat.le_of_ble_eq_true rfl⟩) (ov_r (t := .ho) (hk.e (.ho) rfl)) rfl rfl rfl rfl (Nat.le_of_ble_eq_true rfl) dX8_send_66 ⟨Nat.le_of_ble_eq_true rfl, Nat.le_of_ble_eq_true rfl⟩) (fun u H locs hp hnz w => ?_)
      obtain ⟨T57, e58, hu9, hk59, sq60⟩ := hp
      subst hu9
      dsimp only at w
      exact g_vret hx hb hr hlk w (Nat.le_of_ble_eq_true rfl) (Nat.le_of_ble_eq_true rfl) dX8_send_69 ⟨x.z, _, ((sX8_send_u Z i0 c0 j0 n0).trans ((if_pos c_11).trans ((oc_n he56).trans (vc_e e58)))), rfl, hk59, (fun a9 t9 h9 => Or.inl h9), (SZ.t sq60 ⟨rfl, rfl, rfl, rfl⟩)⟩
    · have hl : lv_has ls 11 [(8, .ref (x.f (.to k55))), (7, .int (aA Z.ab (-1) (sX1_cls Z i0))), (5, .long (sX1_fromTop Z i0 n0)), (0, .ref (x.f .ho)), (1, .ref (x.f (.fr i0))), (2, .int c0), (3, .int j0), (4, .int n0)] := by rw [he56] at hl; exact hl
      show W p l e _ s m _ below meth c _ _ _ _ _ (F0 m 50 ls [.ref (x.f (.to k55))])
      refine lv_ifnull hx hb dX8_send_50 ?_
      refine lv_aload hx hb dX8_send_53 (lv_at hl 0 rfl) ?_
      refine gf_RX8_287_12 (v := .int ((Z.to k55).a)) S hE w (ov_r (t := .to k55) (hk.e_to (v_lookUp hk he56))) rfl dX8_send_55 ?_
      refine lv_iload hx hb dX8_send_58 (lv_at hl 7 rfl) ?_
      refine lv_icmp_eq (tgt := 70) hx hb dX8_send_60 (by decide) (fun c_60_1 => ?_) (fun c_60_1 => ?_)
      · refine lv_aload_n hx hb dX8_send_70 rfl (lv_at hl 3 rfl) ?_
        refine gf_RX8_50_14 (v := .int Z.fn) S hE w (ov_r (t := .ho) (hk.e (.ho) rfl)) rfl dX8_send_71 ?_
        refine lv_bipush (v := 12) hx hb dX8_send_74 (by decide) ?_
        refine lv_icmp_lt (tgt := 86) hx hb dX8_send_76 (by decide) (fun c_76_1 => ?_) (fun c_76_1 => ?_)
        · refine lv_aload_n hx hb dX8_send_86 rfl (lv_at hl 3 rfl) ?_
          refine lv_aload hx hb dX8_send_87 (lv_at hl 0 rfl) ?_
          refine lv_lload hx hb dX8_send_89 (lv_at hl 2 rfl) ?_
          refine g_callq w (g_runV (As := [.ref (x.f (.to k55)), .long (sX1_fromTop Z i0 n0)]) (rest := []) S hE w hl (hX8_openFrame l D ar κ G x Z sz k55 (sX1_fromTop Z i0 n0) hk (v_lookUp hk he56)) (k_RX8_292 S.2.2.2.2 ⟨Nat.le_of_ble_eq_true rfl, Nat.le_of_ble_eq_true rfl⟩) (ov_r (t := .ho) (hk.e (.ho) rfl)) rfl rfl rfl rfl (Nat.le_of_ble_eq_true rfl) dX8_send_91 ⟨Nat.le_of_ble_eq_true rfl, Nat.le_of_ble_eq_true rfl⟩) (fun r u H locs hp hnz w => ?_)
          obtain ⟨z65, r64, T61, e62, hr9, hu9, hk63, bx66, sq67⟩ := hp
          subst hr9
          obtain ⟨u69, n68⟩ := u
          dsimp only at hu9 w hnz
          subst hu9
          have hz70 := hnz
          have vk71 : k55 < T61.nt := SZ.to sq67 (v_lookUp hk he56)
          refine lv_astoreQ (lv' := [(9, va_rf ((r64).map (fun k9 => x.f (.fr k9)))), (8, .ref (x.f (.to k55))), (7, .int (aA Z.ab (-1) (sX1_cls Z i0))), (5, .long (sX1_fromTop Z i0 n0)), (0, .ref (x.f .ho)), (1, .ref (x.f (.fr i0))), (2, .int c0), (3, .int j0), (4, .int n0)]) hx hb dX8_send_94 hl (by decide) rfl (fun ls hl => ?_)
          refine lv_aloadQ hx hb dX8_send_96 (lv_at hl 0 rfl) ?_
          rcases he73 : r64 with _ | k72
          · have hl : lv_has ls 11 [(9, .null), (8, .ref (x.f (.to k55))), (7, .int (aA Z.ab (-1) (sX1_cls Z i0))), (5, .long (sX1_fromTop Z i0 n0)), (0, .ref (x.f .ho)), (1, .ref (x.f (.fr i0))), (2, .int c0), (3, .int j0), (4, .int n0)] := by rw [he73] at hl; exact hl
            show W p l e _ s m _ below meth c _ _ _ _ _ (F0 m 98 ls [.null])
            refine lv_ifnonnullN hx hb dX8_send_98 ?_
            exact g_vret hx hb hr hlk w (Nat.le_of_ble_eq_true rfl) (Nat.le_of_ble_eq_true rfl) dX8_send_101 ⟨z65, _, ((sX8_send_u Z i0 c0 j0 n0).trans ((if_pos c_11).trans ((oc_s he56).trans ((if_pos c_60_1).trans ((if_pos c_76_1).trans ((pc_e e62).trans (oc_n he73))))))), rfl, hk63, bx66, (SZ.t sq67 ⟨rfl, rfl, rfl, rfl⟩)⟩
          · have hl : lv_has ls 11 [(9, .ref (x.f (.fr k72))), (8, .ref (x.f (.to k55))), (7, .int (aA Z.ab (-1) (sX1_cls Z i0))), (5, .long (sX1_fromTop Z i0 n0)), (0, .ref (x.f .ho)), (1, .ref (x.f (.fr i0))), (2, .int c0), (3, .int j0), (4, .int n0)] := by rw [he73] at hl; exact hl
            show W p l e _ s m _ below meth c _ _ _ _ _ (F0 m 98 ls [.ref (x.f (.fr k72))])
            refine lv_ifnonnull (tgt := 102) hx hb dX8_send_98 (by decide) ?_
            refine lv_iload hx hb dX8_send_102 (lv_at hl 8 rfl) ?_
            refine lv_iconst (v := 1) hx hb dX8_send_104 (by decide) ?_
            refine lv_isub hx hb dX8_send_105 ?_
            refine lv_istore (lv' := [(10, .int (n0 - 1)), (9, .ref (x.f (.fr k72))), (8, .ref (x.f (.to k55))), (7, .int (aA Z.ab (-1) (sX1_cls Z i0))), (5, .long (sX1_fromTop Z i0 n0)), (0, .ref (x.f .ho)), (1, .ref (x.f (.fr i0))), (2, .int c0), (3, .int j0), (4, .int n0)]) hx hb dX8_send_106 hl (by decide) rfl (fun ls hl => ?_)
            have key84 : ∀ (nx74 : Nat) (x74 : Int32), x74.toInt + 2 ≤ nx74 ∧ 1 ≤ nx74 → ∀ (z78 : Zo) (n80 : Nat), BX x z78 sz → sz ≤ n80 → ∀ (S75 : Ho), OK (x.pgs z78) S75 → SZ S75 Z → sX8_send Z i0 c0 j0 n0 = LX8_send_108_1 i0 k72 nx74 x74 S75 → ∀ (H : Heap) (locs : List Loc) (ls : Array Slot), g_S D vwCl (g_A (ov κ ar x Z G) sz) s.heap (ov κ ar (x.pgs z78) S75 G) H locs n80 → lv_has ls 11 [(10, .int x74), (9, .ref (x.f (.fr k72))), (8, .ref (x.f (.to k55))), (7, .int (aA Z.ab (-1) (sX1_cls Z i0))), (5, .long (sX1_fromTop Z i0 n0)), (0, .ref (x.f .ho)), (1, .ref (x.f (.fr i0))), (2, .int c0), (3, .int j0), (4, .int n0)] → W p l e (rD 9 0 0) s m ([.ref (x.f .ho), .ref (x.f (.fr i0)), .int c0, .int j0, .int n0] : List Value).toArray below meth c H locs 0 0 (MQ below (g_Qv D vwCl (g_A (ov κ ar x Z G) sz) (fun u => ∃ z9 : Zo, ∃ T9 : Ho, sX8_send Z i0 c0 j0 n0 = T9 ∧ u.1 = ov κ ar (x.pgs z9) T9 G ∧ OK (x.pgs z9) T9 ∧ BX x z9 sz ∧ SZ T9 Z)) ([.ref (x.f .ho), .ref (x.f (.fr i0)), .int c0, .int j0, .int n0] : List Value).toArray s 0 0 (g_A (ov κ ar x Z G) sz)) (F0 m 108 ls []) := by
              intro nx74
              induction nx74 with
              | zero => intro x74 hix74; exact absurd hix74.2 (by omega)
              | succ nx74 ihx74 =>
                intro x74 hix74 z78 n80 bx79 hz81 S75 hk76 sq77 hsp83 H locs ls w hl
                refine lv_iload hx hb dX8_send_108 (lv_at hl 0 rfl) ?_
                refine lv_if_lt (tgt := 133) hx hb dX8_send_110 (by decide) (fun c_110_1 => ?_) (fun c_110_1 => ?_)
                · refine lv_aload_n hx hb dX8_send_133 rfl (lv_at hl 6 rfl) ?_
                  refine g_calll w (g_runV (As := []) (rest := []) S hE w hl (hX1_pop l D ar κ G (x.pgs z78) S75 n80 i0 hk76 ) (k_RX8_409 S.2.2.2.2 ⟨Nat.le_of_ble_eq_true rfl, Nat.le_of_ble_eq_true rfl⟩) (ov_r (t := .fr i0) (hk76.e (.fr i0) rfl)) rfl rfl rfl rfl (Nat.le_of_ble_eq_true rfl) dX8_send_134 ⟨Nat.le_of_ble_eq_true rfl, Nat.le_of_ble_eq_true rfl⟩) (fun r85 u H locs hp hnz w => ?_)
                  obtain ⟨T86, e87, hu9, hk88, sq89⟩ := hp
                  subst hu9
                  dsimp only at w
                  refine lv_pop2_2 hx hb dX8_send_137 rfl ?_
                  exact g_vret hx hb hr hlk w (Nat.le_of_ble_eq_true rfl) (Nat.le_of_ble_eq_true rfl) dX8_send_138 ⟨z78, _, ((hsp83).trans ((LX8_send_108_1_u i0 k72 nx74 x74 S75).trans ((if_pos c_110_1).trans (pc_e e87)))), rfl, hk88, bx79, (SZ.t sq89 sq77)⟩
                · refine lv_aload hx hb dX8_send_113 (lv_at hl 1 rfl) ?_
                  refine gf_RX8_296_7 (v := .ref (x.f (.fa k72))) S hE w (ov_r (t := .fr k72) (hk76.e (.fr k72) rfl)) rfl dX8_send_115 ?_
                  refine lv_iload hx hb dX8_send_118 (lv_at hl 0 rfl) ?_
                  refine lv_aload_n hx hb dX8_send_120 rfl (lv_at hl 6 rfl) ?_
                  refine g_calll w (g_runV (As := []) (rest := [.int x74, .ref (x.f (.fa k72))]) S hE w hl (hX1_pop l D ar κ G (x.pgs z78) S75 n80 i0 hk76 ) (k_RX8_409 S.2.2.2.2 ⟨Nat.le_of_ble_eq_true rfl, Nat.le_of_ble_eq_true rfl⟩) (ov_r (t := .fr i0) (hk76.e (.fr i0) rfl)) rfl rfl rfl rfl (Nat.le_of_ble_eq_true rfl) dX8_send_121 ⟨Nat.le_of_ble_eq_true rfl, Nat.le_of_ble_eq_true rfl⟩) (fun r90 u H locs hp hnz w => ?_)
                  obtain ⟨T91, e92, hu9, hk93, sq94⟩ := hp
                  subst hu9
                  dsimp only at w
                  refine g_callv w (g_runS (As := [.ref (x.f (.fa k72)), .int x74, .long r90]) (rest := []) S hE w hl (c_putAt l D ar κ (ov κ ar (x.pgs z78) T91 G) n80 (x.f (.fa k72)) x74 r90 2 ((T91.fr k72).a) (ov_r (t := .fa k72) (hk93.e (.fa k72) rfl)) (by decide)) (k_RX8_203 S.2.2.2.2 ⟨Nat.le_of_ble_eq_true rfl, Nat.le_of_ble_eq_true rfl⟩) rfl rfl (Nat.le_of_ble_eq_true rfl) dX8_send_124 ⟨Nat.le_of_ble_eq_true rfl, Nat.le_of_ble_eq_true rfl⟩) (fun u H locs hp hnz w => ?_)
                  obtain rfl := hp
                  dsimp only at w
                  have w := g_eqw w (congrArg (fun Z9 => g_up (ov κ ar (x.pgs z78) Z9 G) (x.f (.fa k72)) (.inl (ar 1, 2, .inr (.inl (pU ((T91.fr k72).a) 2 x74 r90))))) (frS_id (S := T91) (i := k72)).symm)
                  have w : g_S D vwCl (g_A (ov κ ar x Z G) sz) s.heap (ov κ ar (x.pgs z78) (T91.frS k72 ((T91.fr k72).sa (pU ((T91.fr k72).a) 2 x74 r90))) G) H _ n80 := g_eqw w (ov_wfa (S := T91) (v := (T91.fr k72)) (v' := ((T91.fr k72).sa (pU ((T91.fr k72).a) 2 x74 r90))) hk93.v (hk93.e (.fa k72) rfl) rfl Fr_t_sa Fr_p_sa Fr_o_sa Fr_v_sa Fr_w_sa Fr_d_sa)
                  refine lv_iinc (v := x74 + (-1)) (lv' := [(10, .int (x74 + (-1))), (9, .ref (x.f (.fr k72))), (8, .ref (x.f (.to k55))), (7, .int (aA Z.ab (-1) (sX1_cls Z i0))), (5, .long (sX1_fromTop Z i0 n0)), (0, .ref (x.f .ho)), (1, .ref (x.f (.fr i0))), (2, .int c0), (3, .int j0), (4, .int n0)]) hx hb dX8_send_127 hl (k := 0) rfl rfl (by decide) rfl (fun ls hl => ?_)
                  refine lv_goto (tgt := 108) hx hb dX8_send_130 (by decide) ?_
                  have hk970 : OK (x.pgs z78) (T91.frS k72 ((T91.fr k72).sa (pU ((T91.fr k72).a) 2 x74 r90))) := (OK.frS (S := T91) hk93 (fun k9 q9 => hk93.o (i := k72) q9))
                  obtain ⟨T95, eT96⟩ : ∃ T9 : Ho, (T91.frS k72 ((T91.fr k72).sa (pU ((T91.fr k72).a) 2 x74 r90))) = T9 := ⟨_, rfl⟩
                  have hk97 : OK (x.pgs z78) T95 := eT96 ▸ hk970
                  have sq98 : SZ T95 Z := eT96 ▸ (show SZ (T91.frS k72 ((T91.fr k72).sa (pU ((T91.fr k72).a) 2 x74 r90))) Z from (SZ.t sq94 sq77))
                  have w := g_eqw w (congrArg (fun Z9 => ov κ ar (x.pgs z78) Z9 G) eT96)
                  exact ihx74 (x74 + (-1)) (dn_m c_110_1 hix74) z78 n80 bx79 (by omega) T95 hk97 sq98 ((hsp83).trans ((LX8_send_108_1_u i0 k72 nx74 x74 S75).trans ((if_neg c_110_1).trans ((pc_e e92).trans (vc_e eT96))))) H _ ls w (lv_sub hl [0, 1, 2, 3, 4, 5, 6, 7, 8, 9] rfl)
            exact key84 (FU + 1) (n0 - 1) (dn_0 _) z65 n68 bx66 (by omega) T61 hk63 (SZ.t sq67 ⟨rfl, rfl, rfl, rfl⟩) ((sX8_send_u Z i0 c0 j0 n0).trans ((if_pos c_11).trans ((oc_s he56).trans ((if_pos c_60_1).trans ((if_pos c_76_1).trans ((pc_e e62).trans (oc_s he73))))))) _ _ _ w (lv_sub hl [0, 1, 2, 3, 4, 5, 6, 7, 8, 9] rfl)
        · refine lv_aload_n hx hb dX8_send_79 rfl (lv_at hl 3 rfl) ?_
          refine lv_bipush (v := 100) hx hb dX8_send_80 (by decide) ?_
          refine g_callv w (g_runV (As := [.int 100]) (rest := []) S hE w hl (hX8_fault l D ar κ G x Z sz 100 hk rfl rfl) (k_RX8_435 S.2.2.2.2 ⟨Nat.le_of_ble_eq_true rfl, Nat.le_of_ble_eq_true rfl⟩) (ov_r (t := .ho) (hk.e (.ho) rfl)) rfl rfl rfl rfl (Nat.le_of_ble_eq_true rfl) dX8_send_82 ⟨Nat.le_of_ble_eq_true rfl, Nat.le_of_ble_eq_true rfl⟩) (fun u H locs hp hnz w => ?_)
          obtain ⟨T99, e100, hu9, hk101, sq102⟩ := hp
          subst hu9
          dsimp only at w
          have vk103 : k55 < T99.nt := SZ.to sq102 (v_lookUp hk he56)
          exact g_vret hx hb hr hlk w (Nat.le_of_ble_eq_true rfl) (Nat.le_of_ble_eq_true rfl) dX8_send_85 ⟨x.z, _, ((sX8_send_u Z i0 c0 j0 n0).trans ((if_pos c_11).trans ((oc_s he56).trans ((if_pos c_60_1).trans ((if_neg c_76_1).trans (vc_e e100)))))), rfl, hk101, (fun a9 t9 h9 => Or.inl h9), (SZ.t sq102 ⟨rfl, rfl, rfl, rfl⟩)⟩
      · refine lv_aload_n hx hb dX8_send_63 rfl (lv_at hl 3 rfl) ?_
        refine lv_bipush (v := 117) hx hb dX8_send_64 (by decide) ?_
        refine g_callv w (g_runV (As := [.int 117]) (rest := []) S hE w hl (hX8_fault l D ar κ G x Z sz 117 hk rfl rfl) (k_RX8_435 S.2.2.2.2 ⟨Nat.le_of_ble_eq_true rfl, Nat.le_of_ble_eq_true rfl⟩) (ov_r (t := .ho) (hk.e (.ho) rfl)) rfl rfl rfl rfl (Nat.le_of_ble_eq_true rfl) dX8_send_66 ⟨Nat.le_of_ble_eq_true rfl, Nat.le_of_ble_eq_true rfl⟩) (fun u H locs hp hnz w => ?_)
        obtain ⟨T104, e105, hu9, hk106, sq107⟩ := hp
        subst hu9
        dsimp only at w
        have vk108 : k55 < T104.nt := SZ.to sq107 (v_lookUp hk he56)
        exact g_vret hx hb hr hlk w (Nat.le_of_ble_eq_true rfl) (Nat.le_of_ble_eq_true rfl) dX8_send_69 ⟨x.z, _, ((sX8_send_u Z i0 c0 j0 n0).trans ((if_pos c_11).trans ((oc_s he56).trans ((if_neg c_60_1).trans (vc_e e105))))), rfl, hk106, (fun a9 t9 h9 => Or.inl h9), (SZ.t sq107 ⟨rfl, rfl, rfl, rfl⟩)⟩
def sX8_begin (Z : Ho) (g0 : Int32) (s0 : Int32) (n0 : Int32) (u0 : Int32) (v0 : Int32) : Rs Int32 := if isB g0 8 = 0 then (.inr ("java/lang/IndexOutOfBoundsException", Z)) else (if isB s0 16 = 0 then (.inr ("java/lang/IndexOutOfBoundsException", Z)) else (if isB n0 3 = 0 then (.inr ("java/lang/IllegalArgumentException", Z)) else (if Z.st = 115 then (.inr ("java/lang/IllegalStateException", Z)) else (oc (sX8_lookUp Z (sX5_classOfValue Z (pA Z.gl 8 g0)) s0) (.inr ("java/lang/UnsupportedOperationException", Z)) (fun k1 => if (Z.to k1).a = n0 then (pc (sX8_openFrame ((Z.sst 115).sfn 0) k1 (pA Z.gl 8 g0)) (fun r6 T3 => oc (r6) (.inl ((T3.to k1).c, T3)) (fun k14 => .inl ((T3.to k1).c, (T3.frS k14 ((T3.fr k14).sa (pU (pU ((T3.fr k14).a) 2 0 (sX8_ofNumber T3 u0)) 2 1 (sX8_ofNumber (T3.frS k14 ((T3.fr k14).sa (pU ((T3.fr k14).a) 2 0 (sX8_ofNumber T3 u0)))) v0)))))))) else (.inr ("java/lang/UnsupportedOperationException", Z)))))))
theorem sX8_begin_u (Z : Ho) (g0 : Int32) (s0 : Int32) (n0 : Int32) (u0 : Int32) (v0 : Int32) : sX8_begin Z g0 s0 n0 u0 v0 = if isB g0 8 = 0 then (.inr ("java/lang/IndexOutOfBoundsException", Z)) else (if isB s0 16 = 0 then (.inr ("java/lang/IndexOutOfBoundsException", Z)) else (if isB n0 3 = 0 then (.inr ("java/lang/IllegalArgumentException", Z)) else (if Z.st = 115 then (.inr ("java/lang/IllegalStateException", Z)) else (oc (sX8_lookUp Z (sX5_classOfValue Z (pA Z.gl 8 g0)) s0) (.inr ("java/lang/UnsupportedOperationException", Z)) (fun k1 => if (Z.to k1).a = n0 then (pc (sX8_openFrame ((Z.sst 115).sfn 0) k1 (pA Z.gl 8 g0)) (fun r6 T3 => oc (r6) (.inl ((T3.to k1).c, T3)) (fun k14 => .inl ((T3.to k1).c, (T3.frS k14 ((T3.fr k14).sa (pU (pU ((T3.fr k14).a) 2 0 (sX8_ofNumber T3 u0)) 2 1 (sX8_ofNumber (T3.frS k14 ((T3.fr k14).sa (pU ((T3.fr k14).a) 2 0 (sX8_ofNumber T3 u0)))) v0)))))))) else (.inr ("java/lang/UnsupportedOperationException", Z))))))) := rfl
set_option maxHeartbeats 4000000 in
set_option maxRecDepth 100000 in
theorem hX8_begin (l : Launch) (D : va_G) (ar : Nat → ClassId) (κ : Nat → Nat) (G : gW) (x : Xo) (Z : Ho) (sz : Nat) (g0 : Int32) (s0 : Int32) (n0 : Int32) (u0 : Int32) (v0 : Int32) (hk : OK x Z) (hlt : l.stackTraces = false) : vx_Met l yX8_begin (lwC yX8_begin cX8_begin 10 (some .int)) (rD 14 1 6) (g_Pc D vwCl (gT ar) (EX1 κ) (ov κ ar x Z G) sz [.ref (x.f .ho), .int g0, .int s0, .int n0, .int u0, .int v0]) (g_Qi D vwCl (g_A (ov κ ar x Z G) sz) (fun r u => ∃ z9 : Zo, ∃ T9 : Ho, sX8_begin Z g0 s0 n0 u0 v0 = .inl (r, T9) ∧ u.1 = ov κ ar (x.pgs z9) T9 G ∧ OK (x.pgs z9) T9 ∧ BX x z9 sz ∧ SZ T9 Z)) (gX D (g_A (ov κ ar x Z G) sz) (fun E u => ∃ z9 : Zo, ∃ T9 : Ho, sX8_begin Z g0 s0 n0 u0 v0 = .inr (E, T9) ∧ u.1 = ov κ ar (x.pgs z9) T9 G ∧ OK (x.pgs z9) T9 ∧ BX x z9 sz ∧ SZ T9 Z)) 1 6 (g_A (ov κ ar x Z G) sz) := by
  refine gx_ofW (by decide +kernel) (Nat.le_of_ble_eq_true rfl) ?_
  intro p e s m below meth c ls S hr hlk ht hE w hl
  have hx := S.1
  have hb := S.2.1
  have hl : lv_has ls 10 [(0, .ref (x.f .ho)), (1, .int g0), (2, .int s0), (3, .int n0), (4, .int u0), (5, .int v0)] := hl
  refine lv_iload_n hx hb dX8_begin_0 rfl (lv_at hl 1 rfl) ?_
  refine lv_bipush (v := 8) hx hb dX8_begin_1 (by decide) ?_
  refine g_calli w (g_runS (As := [.int g0, .int 8]) (rest := []) S hE w hl (c_X8_isBelow l D ar κ (ov κ ar x Z G) sz g0 8) (k_RX8_97 S.2.2.2.2 ⟨Nat.le_of_ble_eq_true rfl, Nat.le_of_ble_eq_true rfl⟩) rfl rfl (Nat.le_of_ble_eq_true rfl) dX8_begin_3 ⟨Nat.le_of_ble_eq_true rfl, Nat.le_of_ble_eq_true rfl⟩) (fun r u H locs hp hnz w => ?_)
  obtain ⟨rfl, rfl⟩ := hp
  dsimp only at w
  refine lv_if_eq (tgt := 18) hx hb dX8_begin_6 (by decide) (fun c_6 => ?_) (fun c_6 => ?_)
  · exact g_throwSW (names := ["java/lang/RuntimeException", "java/lang/Exception"]) hlt S hE w hl ht hlk (by decide +kernel) (by decide +kernel) m_2_159 m_1_15 (List.mem_of_getElem? (i := 2) rfl) th_RX8_87_91_1 th_RX8_87_91_2 th_RX8_87_91_3 dX8_begin_18 dX8_begin_21 dX8_begin_22 dX8_begin_25 dX8_begin_28 (Nat.le_of_ble_eq_true rfl) (Nat.le_of_ble_eq_true rfl) (Nat.le_of_ble_eq_true rfl) (Nat.le_of_ble_eq_true rfl) (Nat.le_of_ble_eq_true rfl) (Nat.le_of_ble_eq_true rfl) (fun n9 hn9 => ⟨x.z, _, ((sX8_begin_u Z g0 s0 n0 u0 v0).trans (if_pos c_6)), rfl, hk, (fun a9 t9 h9 => Or.inl h9), ⟨rfl, rfl, rfl, rfl⟩⟩)
  · refine lv_iload_n hx hb dX8_begin_9 rfl (lv_at hl 2 rfl) ?_
    refine lv_bipush (v := 16) hx hb dX8_begin_10 (by decide) ?_
    refine g_calli w (g_runS (As := [.int s0, .int 16]) (rest := []) S hE w hl (c_X8_isBelow l D ar κ (ov κ ar x Z G) sz s0 16) (k_RX8_97 S.2.2.2.2 ⟨Nat.le_of_ble_eq_true rfl, Nat.le_of_ble_eq_true rfl⟩) rfl rfl (Nat.le_of_ble_eq_true rfl) dX8_begin_12 ⟨Nat.le_of_ble_eq_true rfl, Nat.le_of_ble_eq_true rfl⟩) (fun r u H locs hp hnz w => ?_)
    obtain ⟨rfl, rfl⟩ := hp
    dsimp only at w
    refine lv_if_ne (tgt := 29) hx hb dX8_begin_15 (by decide) (fun c_15 => ?_) (fun c_15 => ?_)
    · refine lv_iload_n hx hb dX8_begin_29 rfl (lv_at hl 3 rfl) ?_
      refine lv_iconst (v := 3) hx hb dX8_begin_30 (by decide) ?_
      refine g_calli w (g_runS (As := [.int n0, .int 3]) (rest := []) S hE w hl (c_X8_isBelow l D ar κ (ov κ ar x Z G) sz n0 3) (k_RX8_97 S.2.2.2.2 ⟨Nat.le_of_ble_eq_true rfl, Nat.le_of_ble_eq_true rfl⟩) rfl rfl (Nat.le_of_ble_eq_true rfl) dX8_begin_31 ⟨Nat.le_of_ble_eq_true rfl, Nat.le_of_ble_eq_true rfl⟩) (fun r u H locs hp hnz w => ?_)
      obtain ⟨rfl, rfl⟩ := hp
      dsimp only at w
      refine lv_if_ne (tgt := 47) hx hb dX8_begin_34 (by decide) (fun c_34 => ?_) (fun c_34 => ?_)
      · refine lv_aload_n hx hb dX8_begin_47 rfl (lv_at hl 0 rfl) ?_
        refine gf_RX8_53_14 (v := .int Z.st) S hE w (ov_r (t := .ho) (hk.e (.ho) rfl)) rfl dX8_begin_48 ?_
        refine lv_bipush (v := 115) hx hb dX8_begin_51 (by decide) ?_
        refine lv_icmp_ne (tgt := 67) hx hb dX8_begin_53 (by decide) (fun c_53 => ?_) (fun c_53 => ?_)
        · refine lv_aload_n hx hb dX8_begin_67 rfl (lv_at hl 0 rfl) ?_
          refine gf_RX8_33_14 (v := .ref (x.f .gl)) S hE w (ov_r (t := .ho) (hk.e (.ho) rfl)) rfl dX8_begin_68 ?_
          refine lv_iload_n hx hb dX8_begin_71 rfl (lv_at hl 1 rfl) ?_
          refine g_calll w (g_runS (As := [.ref (x.f .gl), .int g0]) (rest := []) S hE w hl (c_X8_placeAt l D ar κ (ov κ ar x Z G) sz (x.f .gl) g0 8 Z.gl (ov_r (t := .gl) (hk.e (.gl) rfl)) (by decide)) (k_RX8_222 S.2.2.2.2 ⟨Nat.le_of_ble_eq_true rfl, Nat.le_of_ble_eq_true rfl⟩) rfl rfl (Nat.le_of_ble_eq_true rfl) dX8_begin_72 ⟨Nat.le_of_ble_eq_true rfl, Nat.le_of_ble_eq_true rfl⟩) (fun r u H locs hp hnz w => ?_)
          obtain ⟨rfl, rfl⟩ := hp
          dsimp only at w
          refine lv_lstore (lv' := [(6, .long (pA Z.gl 8 g0)), (0, .ref (x.f .ho)), (1, .int g0), (2, .int s0), (3, .int n0), (4, .int u0), (5, .int v0)]) hx hb dX8_begin_75 hl (by decide) rfl (fun ls hl => ?_)
          refine lv_aload_n hx hb dX8_begin_77 rfl (lv_at hl 1 rfl) ?_
          refine lv_aload_n hx hb dX8_begin_78 rfl (lv_at hl 1 rfl) ?_
          refine gf_RX8_40_14 (v := .ref (x.f .ts)) S hE w (ov_r (t := .ho) (hk.e (.ho) rfl)) rfl dX8_begin_79 ?_
          refine lv_lload hx hb dX8_begin_82 (lv_at hl 0 rfl) ?_
          refine g_calli w (g_runV (As := [.long (pA Z.gl 8 g0)]) (rest := [.ref (x.f .ho)]) S hE w hl (hX5_classOfValue l D ar κ G x Z sz (pA Z.gl 8 g0) hk ) (k_RX8_284 S.2.2.2.2 ⟨Nat.le_of_ble_eq_true rfl, Nat.le_of_ble_eq_true rfl⟩) (ov_r (t := .ts) (hk.e (.ts) rfl)) rfl rfl rfl rfl (Nat.le_of_ble_eq_true rfl) dX8_begin_84 ⟨Nat.le_of_ble_eq_true rfl, Nat.le_of_ble_eq_true rfl⟩) (fun r u H locs hp hnz w => ?_)
          obtain ⟨rfl, rfl⟩ := hp
          dsimp only at w
          refine lv_iload_n hx hb dX8_begin_87 rfl (lv_at hl 3 rfl) ?_
          refine g_callq w (g_runV (As := [.int (sX5_classOfValue Z (pA Z.gl 8 g0)), .int s0]) (rest := []) S hE w hl (hX8_lookUp l D ar κ G x Z sz (sX5_classOfValue Z (pA Z.gl 8 g0)) s0 hk ) (k_RX8_166 S.2.2.2.2 ⟨Nat.le_of_ble_eq_true rfl, Nat.le_of_ble_eq_true rfl⟩) (ov_r (t := .ho) (hk.e (.ho) rfl)) rfl rfl rfl rfl (Nat.le_of_ble_eq_true rfl) dX8_begin_88 ⟨Nat.le_of_ble_eq_true rfl, Nat.le_of_ble_eq_true rfl⟩) (fun r u H locs hp hnz w => ?_)
          obtain ⟨rfl, rfl⟩ := hp
          dsimp only at w
          refine lv_astoreQ (lv' := [(8, va_rf ((sX8_lookUp Z (sX5_classOfValue Z (pA Z.gl 8 g0)) s0).map (fun k9 => x.f (.to k9)))), (6, .long (pA Z.gl 8 g0)), (0, .ref (x.f .ho)), (1, .int g0), (2, .int s0), (3, .int n0), (4, .int u0), (5, .int v0)]) hx hb dX8_begin_91 hl (by decide) rfl (fun ls hl => ?_)
          refine lv_aloadQ hx hb dX8_begin_93 (lv_at hl 0 rfl) ?_
          rcases he2 : sX8_lookUp Z (sX5_classOfValue Z (pA Z.gl 8 g0)) s0 with _ | k1
          · have hl : lv_has ls 10 [(8, .null), (6, .long (pA Z.gl 8 g0)), (0, .ref (x.f .ho)), (1, .int g0), (2, .int s0), (3, .int n0), (4, .int u0), (5, .int v0)] := by rw [he2] at hl; exact hl
            show W p l e _ s m _ below meth c _ _ _ _ _ (F0 m 95 ls [.null])
            refine lv_ifnullN (tgt := 107) hx hb dX8_begin_95 (by decide) ?_
            exact g_throwSW (names := ["java/lang/RuntimeException", "java/lang/Exception"]) hlt S hE w hl ht hlk (by decide +kernel) (by decide +kernel) m_3_90 m_1_37 (List.mem_of_getElem? (i := 5) rfl) th_RX8_147_151_1 th_RX8_147_151_2 th_RX8_147_151_3 dX8_begin_107 dX8_begin_110 dX8_begin_111 dX8_begin_114 dX8_begin_117 (Nat.le_of_ble_eq_true rfl) (Nat.le_of_ble_eq_true rfl) (Nat.le_of_ble_eq_true rfl) (Nat.le_of_ble_eq_true rfl) (Nat.le_of_ble_eq_true rfl) (Nat.le_of_ble_eq_true rfl) (fun n9 hn9 => ⟨x.z, _, ((sX8_begin_u Z g0 s0 n0 u0 v0).trans ((if_neg c_6).trans ((if_neg c_15).trans ((if_neg c_34).trans ((if_neg c_53).trans (oc_n he2)))))), rfl, hk, (fun a9 t9 h9 => Or.inl h9), ⟨rfl, rfl, rfl, rfl⟩⟩)
          · have hl : lv_has ls 10 [(8, .ref (x.f (.to k1))), (6, .long (pA Z.gl 8 g0)), (0, .ref (x.f .ho)), (1, .int g0), (2, .int s0), (3, .int n0), (4, .int u0), (5, .int v0)] := by rw [he2] at hl; exact hl
            show W p l e _ s m _ below meth c _ _ _ _ _ (F0 m 95 ls [.ref (x.f (.to k1))])
            refine lv_ifnull hx hb dX8_begin_95 ?_
            refine lv_aload hx hb dX8_begin_98 (lv_at hl 0 rfl) ?_
            refine gf_RX8_287_12 (v := .int ((Z.to k1).a)) S hE w (ov_r (t := .to k1) (hk.e_to (v_lookUp hk he2))) rfl dX8_begin_100 ?_
            refine lv_iload_n hx hb dX8_begin_103 rfl (lv_at hl 5 rfl) ?_
            refine lv_icmp_eq (tgt := 118) hx hb dX8_begin_104 (by decide) (fun c_104 => ?_) (fun c_104 => ?_)
            · refine lv_aload_n hx hb dX8_begin_118 rfl (lv_at hl 2 rfl) ?_
              refine lv_bipush (v := 115) hx hb dX8_begin_119 (by decide) ?_
              refine pf_RX8_53_14 (fs1 := [.ref (x.f .cl), .ref (x.f .me), .ref (x.f (.ro Z.ty)), .int x.ht, .ref (x.f .gl), .ref (x.f .ts), .ref (x.f .fs), .int Z.fn, .int 115, .int Z.rs, .long Z.an, .int Z.sp, .ref (x.f .wr)]) S hE w (ov_r (t := .ho) (hk.e (.ho) rfl)) rfl rfl (Nat.le_of_ble_eq_true rfl) rfl dX8_begin_121 (fun H locs w => ?_)
              have w : g_S D vwCl (g_A (ov κ ar x Z G) sz) s.heap (ov κ ar x (Z.sst 115) G) H _ sz := g_eqw w (ov_who (S := Z) (T := (Z.sst 115)) hk.v (hk.e (.ho) rfl) rfl Ho_ab_sst Ho_fc_sst Ho_cn_sst Ho_me_sst Ho_nt_sst Ho_nr_sst Ho_to_sst Ho_ro_sst Ho_gl_sst Ho_al_sst Ho_re_sst Ho_th_sst Ho_tc_sst Ho_rc_sst Ho_mk_sst Ho_fr_sst Ho_np_sst Ho_pg_sst Ho_wc_sst Ho_ws_sst Ho_wp_sst)
              refine lv_aload_n hx hb dX8_begin_124 rfl (lv_at hl 2 rfl) ?_
              refine lv_iconst (v := 0) hx hb dX8_begin_125 (by decide) ?_
              refine pf_RX8_50_14 (fs1 := [.ref (x.f .cl), .ref (x.f .me), .ref (x.f (.ro Z.ty)), .int x.ht, .ref (x.f .gl), .ref (x.f .ts), .ref (x.f .fs), .int 0, .int 115, .int Z.rs, .long Z.an, .int Z.sp, .ref (x.f .wr)]) S hE w (ov_r (t := .ho) (hk.e (.ho) rfl)) rfl rfl (Nat.le_of_ble_eq_true rfl) rfl dX8_begin_126 (fun H locs w => ?_)
              have w : g_S D vwCl (g_A (ov κ ar x Z G) sz) s.heap (ov κ ar x ((Z.sst 115).sfn 0) G) H _ sz := g_eqw w (ov_who (S := (Z.sst 115)) (T := ((Z.sst 115).sfn 0)) hk.v (hk.e (.ho) rfl) rfl ((Ho_ab_sfn.trans Ho_ab_sst).trans Ho_ab_sst.symm) ((Ho_fc_sfn.trans Ho_fc_sst).trans Ho_fc_sst.symm) ((Ho_cn_sfn.trans Ho_cn_sst).trans Ho_cn_sst.symm) ((Ho_me_sfn.trans Ho_me_sst).trans Ho_me_sst.symm) ((Ho_nt_sfn.trans Ho_nt_sst).trans Ho_nt_sst.symm) ((Ho_nr_sfn.trans Ho_nr_sst).trans Ho_nr_sst.symm) ((Ho_to_sfn.trans Ho_to_sst).trans Ho_to_sst.symm) ((Ho_ro_sfn.trans Ho_ro_sst).trans Ho_ro_sst.symm) ((Ho_gl_sfn.trans Ho_gl_sst).trans Ho_gl_sst.symm) ((Ho_al_sfn.trans Ho_al_sst).trans Ho_al_sst.symm) ((Ho_re_sfn.trans Ho_re_sst).trans Ho_re_sst.symm) ((Ho_th_sfn.trans Ho_th_sst).trans Ho_th_sst.symm) ((Ho_tc_sfn.trans Ho_tc_sst).trans Ho_tc_sst.symm) ((Ho_rc_sfn.trans Ho_rc_sst).trans Ho_rc_sst.symm) ((Ho_mk_sfn.trans Ho_mk_sst).trans Ho_mk_sst.symm) ((Ho_fr_sfn.trans Ho_fr_sst).trans Ho_fr_sst.symm) ((Ho_np_sfn.trans Ho_np_sst).trans Ho_np_sst.symm) ((Ho_pg_sfn.trans Ho_pg_sst).trans Ho_pg_sst.symm) ((Ho_wc_sfn.trans Ho_wc_sst).trans Ho_wc_sst.symm) ((Ho_ws_sfn.trans Ho_ws_sst).trans Ho_ws_sst.symm) ((Ho_wp_sfn.trans Ho_wp_sst).trans Ho_wp_sst.symm))
              refine lv_aload_n hx hb dX8_begin_129 rfl (lv_at hl 2 rfl) ?_
              refine lv_aload hx hb dX8_begin_130 (lv_at hl 0 rfl) ?_
              refine lv_lload hx hb dX8_begin_132 (lv_at hl 1 rfl) ?_
              refine g_callq w (g_runV (As := [.ref (x.f (.to k1)), .long (pA Z.gl 8 g0)]) (rest := []) S hE w hl (hX8_openFrame l D ar κ G x ((Z.sst 115).sfn 0) sz k1 (pA Z.gl 8 g0) (hk.plain (T := ((Z.sst 115).sfn 0)) rfl rfl rfl rfl rfl rfl rfl) (v_lookUp hk he2)) (k_RX8_292 S.2.2.2.2 ⟨Nat.le_of_ble_eq_true rfl, Nat.le_of_ble_eq_true rfl⟩) (ov_r (t := .ho) (hk.e (.ho) rfl)) rfl rfl rfl rfl (Nat.le_of_ble_eq_true rfl) dX8_begin_134 ⟨Nat.le_of_ble_eq_true rfl, Nat.le_of_ble_eq_true rfl⟩) (fun r u H locs hp hnz w => ?_)
              obtain ⟨z7, r6, T3, e4, hr9, hu9, hk5, bx8, sq9⟩ := hp
              subst hr9
              obtain ⟨u11, n10⟩ := u
              dsimp only at hu9 w hnz
              subst hu9
              have hz12 := hnz
              have vk13 : k1 < T3.nt := SZ.to sq9 (v_lookUp hk he2)
              refine lv_astoreQ (lv' := [(9, va_rf ((r6).map (fun k9 => x.f (.fr k9)))), (8, .ref (x.f (.to k1))), (6, .long (pA Z.gl 8 g0)), (0, .ref (x.f .ho)), (1, .int g0), (2, .int s0), (3, .int n0), (4, .int u0), (5, .int v0)]) hx hb dX8_begin_137 hl (by decide) rfl (fun ls hl => ?_)
              refine lv_aloadQ hx hb dX8_begin_139 (lv_at hl 0 rfl) ?_
              rcases he15 : r6 with _ | k14
              · have hl : lv_has ls 10 [(9, .null), (8, .ref (x.f (.to k1))), (6, .long (pA Z.gl 8 g0)), (0, .ref (x.f .ho)), (1, .int g0), (2, .int s0), (3, .int n0), (4, .int u0), (5, .int v0)] := by rw [he15] at hl; exact hl
                show W p l e _ s m _ below meth c _ _ _ _ _ (F0 m 141 ls [.null])
                refine lv_ifnullN (tgt := 172) hx hb dX8_begin_141 (by decide) ?_
                refine lv_aload hx hb dX8_begin_172 (lv_at hl 1 rfl) ?_
                refine gf_RX8_174_12 (v := .int ((T3.to k1).c)) S hE w (ov_r (t := .to k1) (hk5.e_to vk13)) rfl dX8_begin_174 ?_
                exact vx_ret (g_iret hx hb hr hlk w (Nat.le_of_ble_eq_true rfl) (Nat.le_of_ble_eq_true rfl) dX8_begin_177 ⟨z7, _, ((sX8_begin_u Z g0 s0 n0 u0 v0).trans ((if_neg c_6).trans ((if_neg c_15).trans ((if_neg c_34).trans ((if_neg c_53).trans ((oc_s he2).trans ((if_pos c_104).trans ((pc_e e4).trans (oc_n he15))))))))), rfl, hk5, bx8, (SZ.t sq9 ⟨rfl, rfl, rfl, rfl⟩)⟩)
              · have hl : lv_has ls 10 [(9, .ref (x.f (.fr k14))), (8, .ref (x.f (.to k1))), (6, .long (pA Z.gl 8 g0)), (0, .ref (x.f .ho)), (1, .int g0), (2, .int s0), (3, .int n0), (4, .int u0), (5, .int v0)] := by rw [he15] at hl; exact hl
                show W p l e _ s m _ below meth c _ _ _ _ _ (F0 m 141 ls [.ref (x.f (.fr k14))])
                refine lv_ifnull hx hb dX8_begin_141 ?_
                refine lv_aload hx hb dX8_begin_144 (lv_at hl 0 rfl) ?_
                refine gf_RX8_296_7 (v := .ref (x.f (.fa k14))) S hE w (ov_r (t := .fr k14) (hk5.e (.fr k14) rfl)) rfl dX8_begin_146 ?_
                refine lv_iconst (v := 0) hx hb dX8_begin_149 (by decide) ?_
                refine lv_iload hx hb dX8_begin_150 (lv_at hl 7 rfl) ?_
                refine g_calll w (g_runS (As := [.int u0]) (rest := [.int 0, .ref (x.f (.fa k14))]) S hE w hl (hX8_ofNumber l D ar κ G (x.pgs z7) T3 n10 u0 hk5 ) (k_RX8_199 S.2.2.2.2 ⟨Nat.le_of_ble_eq_true rfl, Nat.le_of_ble_eq_true rfl⟩) rfl rfl (Nat.le_of_ble_eq_true rfl) dX8_begin_152 ⟨Nat.le_of_ble_eq_true rfl, Nat.le_of_ble_eq_true rfl⟩) (fun r u H locs hp hnz w => ?_)
                obtain ⟨rfl, rfl⟩ := hp
                dsimp only at w
                refine g_callv w (g_runS (As := [.ref (x.f (.fa k14)), .int 0, .long (sX8_ofNumber T3 u0)]) (rest := []) S hE w hl (c_putAt l D ar κ (ov κ ar (x.pgs z7) T3 G) n10 (x.f (.fa k14)) 0 (sX8_ofNumber T3 u0) 2 ((T3.fr k14).a) (ov_r (t := .fa k14) (hk5.e (.fa k14) rfl)) (by decide)) (k_RX8_203 S.2.2.2.2 ⟨Nat.le_of_ble_eq_true rfl, Nat.le_of_ble_eq_true rfl⟩) rfl rfl (Nat.le_of_ble_eq_true rfl) dX8_begin_155 ⟨Nat.le_of_ble_eq_true rfl, Nat.le_of_ble_eq_true rfl⟩) (fun u H locs hp hnz w => ?_)
                obtain rfl := hp
                dsimp only at w
                have w := g_eqw w (congrArg (fun Z9 => g_up (ov κ ar (x.pgs z7) Z9 G) (x.f (.fa k14)) (.inl (ar 1, 2, .inr (.inl (pU ((T3.fr k14).a) 2 0 (sX8_ofNumber T3 u0)))))) (frS_id (S := T3) (i := k14)).symm)
                have w : g_S D vwCl (g_A (ov κ ar x Z G) sz) s.heap (ov κ ar (x.pgs z7) (T3.frS k14 ((T3.fr k14).sa (pU ((T3.fr k14).a) 2 0 (sX8_ofNumber T3 u0)))) G) H _ n10 := g_eqw w (ov_wfa (S := T3) (v := (T3.fr k14)) (v' := ((T3.fr k14).sa (pU ((T3.fr k14).a) 2 0 (sX8_ofNumber T3 u0)))) hk5.v (hk5.e (.fa k14) rfl) rfl Fr_t_sa Fr_p_sa Fr_o_sa Fr_v_sa Fr_w_sa Fr_d_sa)
                refine lv_aload hx hb dX8_begin_158 (lv_at hl 0 rfl) ?_
                refine gf_RX8_296_7 (v := .ref (x.f (.fa k14))) S hE w (ov_rfr (hk5.e (.fr k14) rfl)) rfl dX8_begin_160 ?_
                refine lv_iconst (v := 1) hx hb dX8_begin_163 (by decide) ?_
                refine lv_iload hx hb dX8_begin_164 (lv_at hl 8 rfl) ?_
                refine g_calll w (g_runS (As := [.int v0]) (rest := [.int 1, .ref (x.f (.fa k14))]) S hE w hl (hX8_ofNumber l D ar κ G (x.pgs z7) (T3.frS k14 ((T3.fr k14).sa (pU ((T3.fr k14).a) 2 0 (sX8_ofNumber T3 u0)))) n10 v0 (OK.frS (S := T3) hk5 (fun k9 q9 => hk5.o (i := k14) q9)) ) (k_RX8_199 S.2.2.2.2 ⟨Nat.le_of_ble_eq_true rfl, Nat.le_of_ble_eq_true rfl⟩) rfl rfl (Nat.le_of_ble_eq_true rfl) dX8_begin_166 ⟨Nat.le_of_ble_eq_true rfl, Nat.le_of_ble_eq_true rfl⟩) (fun r u H locs hp hnz w => ?_)
                obtain ⟨rfl, rfl⟩ := hp
                dsimp only at w
                refine g_callv w (g_runS (As := [.ref (x.f (.fa k14)), .int 1, .long (sX8_ofNumber (T3.frS k14 ((T3.fr k14).sa (pU ((T3.fr k14).a) 2 0 (sX8_ofNumber T3 u0)))) v0)]) (rest := []) S hE w hl (c_putAt l D ar κ (ov κ ar (x.pgs z7) (T3.frS k14 ((T3.fr k14).sa (pU ((T3.fr k14).a) 2 0 (sX8_ofNumber T3 u0)))) G) n10 (x.f (.fa k14)) 1 (sX8_ofNumber (T3.frS k14 ((T3.fr k14).sa (pU ((T3.fr k14).a) 2 0 (sX8_ofNumber T3 u0)))) v0) 2 (pU ((T3.fr k14).a) 2 0 (sX8_ofNumber T3 u0)) (ov_rfa (hk5.e (.fa k14) rfl)) (by decide)) (k_RX8_203 S.2.2.2.2 ⟨Nat.le_of_ble_eq_true rfl, Nat.le_of_ble_eq_true rfl⟩) rfl rfl (Nat.le_of_ble_eq_true rfl) dX8_begin_169 ⟨Nat.le_of_ble_eq_true rfl, Nat.le_of_ble_eq_true rfl⟩) (fun u H locs hp hnz w => ?_)
                obtain rfl := hp
                dsimp only at w
                have w : g_S D vwCl (g_A (ov κ ar x Z G) sz) s.heap (ov κ ar (x.pgs z7) (T3.frS k14 ((T3.fr k14).sa (pU (pU ((T3.fr k14).a) 2 0 (sX8_ofNumber T3 u0)) 2 1 (sX8_ofNumber (T3.frS k14 ((T3.fr k14).sa (pU ((T3.fr k14).a) 2 0 (sX8_ofNumber T3 u0)))) v0)))) G) H _ n10 := g_eqw w (ov_wfa (S := T3) (v := ((T3.fr k14).sa (pU ((T3.fr k14).a) 2 0 (sX8_ofNumber T3 u0)))) (v' := ((T3.fr k14).sa (pU (pU ((T3.fr k14).a) 2 0 (sX8_ofNumber T3 u0)) 2 1 (sX8_ofNumber (T3.frS k14 ((T3.fr k14).sa (pU ((T3.fr k14).a) 2 0 (sX8_ofNumber T3 u0)))) v0)))) hk5.v (hk5.e (.fa k14) rfl) rfl (Fr_t_sa.trans Fr_t_sa.symm) (Fr_p_sa.trans Fr_p_sa.symm) (Fr_o_sa.trans Fr_o_sa.symm) (Fr_v_sa.trans Fr_v_sa.symm) (Fr_w_sa.trans Fr_w_sa.symm) (Fr_d_sa.trans Fr_d_sa.symm))
                refine lv_aload hx hb dX8_begin_172 (lv_at hl 1 rfl) ?_
                refine gf_RX8_174_12 (v := .int ((T3.to k1).c)) S hE w (ov_r (t := .to k1) (hk5.e_to vk13)) rfl dX8_begin_174 ?_
                exact vx_ret (g_iret hx hb hr hlk w (Nat.le_of_ble_eq_true rfl) (Nat.le_of_ble_eq_true rfl) dX8_begin_177 ⟨z7, _, ((sX8_begin_u Z g0 s0 n0 u0 v0).trans ((if_neg c_6).trans ((if_neg c_15).trans ((if_neg c_34).trans ((if_neg c_53).trans ((oc_s he2).trans ((if_pos c_104).trans ((pc_e e4).trans (oc_s he15))))))))), rfl, (OK.frS (S := T3) hk5 (fun k9 q9 => hk5.o (i := k14) q9)), bx8, (SZ.t sq9 ⟨rfl, rfl, rfl, rfl⟩)⟩)
            · exact g_throwSW (names := ["java/lang/RuntimeException", "java/lang/Exception"]) hlt S hE w hl ht hlk (by decide +kernel) (by decide +kernel) m_3_90 m_1_37 (List.mem_of_getElem? (i := 5) rfl) th_RX8_147_151_1 th_RX8_147_151_2 th_RX8_147_151_3 dX8_begin_107 dX8_begin_110 dX8_begin_111 dX8_begin_114 dX8_begin_117 (Nat.le_of_ble_eq_true rfl) (Nat.le_of_ble_eq_true rfl) (Nat.le_of_ble_eq_true rfl) (Nat.le_of_ble_eq_true rfl) (Nat.le_of_ble_eq_true rfl) (Nat.le_of_ble_eq_true rfl) (fun n9 hn9 => ⟨x.z, _, ((sX8_begin_u Z g0 s0 n0 u0 v0).trans ((if_neg c_6).trans ((if_neg c_15).trans ((if_neg c_34).trans ((if_neg c_53).trans ((oc_s he2).trans (if_neg c_104))))))), rfl, hk, (fun a9 t9 h9 => Or.inl h9), ⟨rfl, rfl, rfl, rfl⟩⟩)
        · exact g_throwSW (names := ["java/lang/RuntimeException", "java/lang/Exception"]) hlt S hE w hl ht hlk (by decide +kernel) (by decide +kernel) m_3_58 m_1_19 (List.mem_of_getElem? (i := 4) rfl) th_RX8_113_117_1 th_RX8_113_117_2 th_RX8_113_117_3 dX8_begin_56 dX8_begin_59 dX8_begin_60 dX8_begin_63 dX8_begin_66 (Nat.le_of_ble_eq_true rfl) (Nat.le_of_ble_eq_true rfl) (Nat.le_of_ble_eq_true rfl) (Nat.le_of_ble_eq_true rfl) (Nat.le_of_ble_eq_true rfl) (Nat.le_of_ble_eq_true rfl) (fun n9 hn9 => ⟨x.z, _, ((sX8_begin_u Z g0 s0 n0 u0 v0).trans ((if_neg c_6).trans ((if_neg c_15).trans ((if_neg c_34).trans (if_pos c_53))))), rfl, hk, (fun a9 t9 h9 => Or.inl h9), ⟨rfl, rfl, rfl, rfl⟩⟩)
      · exact g_throwS (names := ["java/lang/RuntimeException", "java/lang/Exception"]) hlt S hE w hl ht hlk (by decide +kernel) (by decide +kernel) m_3_42 m_1_18 (List.mem_of_getElem? (i := 3) rfl) th_RX8_105_109_1 th_RX8_105_109_2 th_RX8_105_109_3 dX8_begin_37 dX8_begin_40 dX8_begin_41 dX8_begin_43 dX8_begin_46 (Nat.le_of_ble_eq_true rfl) (Nat.le_of_ble_eq_true rfl) (Nat.le_of_ble_eq_true rfl) (Nat.le_of_ble_eq_true rfl) (Nat.le_of_ble_eq_true rfl) (Nat.le_of_ble_eq_true rfl) (fun n9 hn9 => ⟨x.z, _, ((sX8_begin_u Z g0 s0 n0 u0 v0).trans ((if_neg c_6).trans ((if_neg c_15).trans (if_pos c_34)))), rfl, hk, (fun a9 t9 h9 => Or.inl h9), ⟨rfl, rfl, rfl, rfl⟩⟩)
    · exact g_throwSW (names := ["java/lang/RuntimeException", "java/lang/Exception"]) hlt S hE w hl ht hlk (by decide +kernel) (by decide +kernel) m_2_159 m_1_15 (List.mem_of_getElem? (i := 2) rfl) th_RX8_87_91_1 th_RX8_87_91_2 th_RX8_87_91_3 dX8_begin_18 dX8_begin_21 dX8_begin_22 dX8_begin_25 dX8_begin_28 (Nat.le_of_ble_eq_true rfl) (Nat.le_of_ble_eq_true rfl) (Nat.le_of_ble_eq_true rfl) (Nat.le_of_ble_eq_true rfl) (Nat.le_of_ble_eq_true rfl) (Nat.le_of_ble_eq_true rfl) (fun n9 hn9 => ⟨x.z, _, ((sX8_begin_u Z g0 s0 n0 u0 v0).trans ((if_neg c_6).trans (if_pos c_15))), rfl, hk, (fun a9 t9 h9 => Or.inl h9), ⟨rfl, rfl, rfl, rfl⟩⟩)
def sX8_checkGlobal (Z : Ho) (g0 : Int32) : Rs Unit := if isB g0 8 = 0 then (.inr ("java/lang/IndexOutOfBoundsException", Z)) else (.inl ((), Z))
theorem sX8_checkGlobal_u (Z : Ho) (g0 : Int32) : sX8_checkGlobal Z g0 = if isB g0 8 = 0 then (.inr ("java/lang/IndexOutOfBoundsException", Z)) else (.inl ((), Z)) := rfl
set_option maxHeartbeats 4000000 in
set_option maxRecDepth 100000 in
theorem hX8_checkGlobal (l : Launch) (D : va_G) (ar : Nat → ClassId) (κ : Nat → Nat) (G : gW) (x : Xo) (Z : Ho) (sz : Nat) (g0 : Int32) (hk : OK x Z) (hlt : l.stackTraces = false) : vx_Met l yX8_checkGlobal (lwC yX8_checkGlobal cX8_checkGlobal 2 none) (rD 8 1 6) (g_Pc D vwCl (gT ar) (EX1 κ) (ov κ ar x Z G) sz [.ref (x.f .ho), .int g0]) (g_Qv D vwCl (g_A (ov κ ar x Z G) sz) (fun u => ∃ T9 : Ho, sX8_checkGlobal Z g0 = .inl ((), T9) ∧ u = (ov κ ar x T9 G, sz) ∧ OK x T9 ∧ SZ T9 Z)) (gX D (g_A (ov κ ar x Z G) sz) (fun E u => ∃ T9 : Ho, sX8_checkGlobal Z g0 = .inr (E, T9) ∧ u.1 = ov κ ar x T9 G ∧ OK x T9 ∧ SZ T9 Z)) 1 6 (g_A (ov κ ar x Z G) sz) := by
  refine gx_ofW (by decide +kernel) (Nat.le_of_ble_eq_true rfl) ?_
  intro p e s m below meth c ls S hr hlk ht hE w hl
  have hx := S.1
  have hb := S.2.1
  have hl : lv_has ls 2 [(0, .ref (x.f .ho)), (1, .int g0)] := hl
  refine lv_iload_n hx hb dX8_checkGlobal_0 rfl (lv_at hl 1 rfl) ?_
  refine lv_bipush (v := 8) hx hb dX8_checkGlobal_1 (by decide) ?_
  refine g_calli w (g_runS (As := [.int g0, .int 8]) (rest := []) S hE w hl (c_X8_isBelow l D ar κ (ov κ ar x Z G) sz g0 8) (k_RX8_97 S.2.2.2.2 ⟨Nat.le_of_ble_eq_true rfl, Nat.le_of_ble_eq_true rfl⟩) rfl rfl (Nat.le_of_ble_eq_true rfl) dX8_checkGlobal_3 ⟨Nat.le_of_ble_eq_true rfl, Nat.le_of_ble_eq_true rfl⟩) (fun r u H locs hp hnz w => ?_)
  obtain ⟨rfl, rfl⟩ := hp
  dsimp only at w
  refine lv_if_ne (tgt := 20) hx hb dX8_checkGlobal_6 (by decide) (fun c_6 => ?_) (fun c_6 => ?_)
  · exact vx_ret (g_vret hx hb hr hlk w (Nat.le_of_ble_eq_true rfl) (Nat.le_of_ble_eq_true rfl) dX8_checkGlobal_20 ⟨_, ((sX8_checkGlobal_u Z g0).trans (if_neg c_6)), rfl, hk, ⟨rfl, rfl, rfl, rfl⟩⟩)
  · exact g_throwSW (names := ["java/lang/RuntimeException", "java/lang/Exception"]) hlt S hE w hl ht hlk (by decide +kernel) (by decide +kernel) m_2_159 m_1_15 (List.mem_of_getElem? (i := 57) rfl) th_RX8_87_91_1 th_RX8_87_91_2 th_RX8_87_91_3 dX8_checkGlobal_9 dX8_checkGlobal_12 dX8_checkGlobal_13 dX8_checkGlobal_16 dX8_checkGlobal_19 (Nat.le_of_ble_eq_true rfl) (Nat.le_of_ble_eq_true rfl) (Nat.le_of_ble_eq_true rfl) (Nat.le_of_ble_eq_true rfl) (Nat.le_of_ble_eq_true rfl) (Nat.le_of_ble_eq_true rfl) (fun n9 hn9 => ⟨_, ((sX8_checkGlobal_u Z g0).trans (if_pos c_6)), rfl, hk, ⟨rfl, rfl, rfl, rfl⟩⟩)
def sX8_number (Z : Ho) (g0 : Int32) (n0 : Int32) : Rs Int32 := rc (sX8_checkGlobal Z g0) (fun _ T5 => .inl (T5.tc, (T5.sgl (pU T5.gl 8 g0 (sX8_ofNumber T5 n0))))) (fun E9 T9 => .inr (E9, T9))
theorem sX8_number_u (Z : Ho) (g0 : Int32) (n0 : Int32) : sX8_number Z g0 n0 = rc (sX8_checkGlobal Z g0) (fun _ T5 => .inl (T5.tc, (T5.sgl (pU T5.gl 8 g0 (sX8_ofNumber T5 n0))))) (fun E9 T9 => .inr (E9, T9)) := rfl
set_option maxHeartbeats 4000000 in
set_option maxRecDepth 100000 in
theorem hX8_number (l : Launch) (D : va_G) (ar : Nat → ClassId) (κ : Nat → Nat) (G : gW) (x : Xo) (Z : Ho) (sz : Nat) (g0 : Int32) (n0 : Int32) (hk : OK x Z) (hlt : l.stackTraces = false) : vx_Met l yX8_number (lwC yX8_number cX8_number 3 (some .int)) (rD 10 1 6) (g_Pc D vwCl (gT ar) (EX1 κ) (ov κ ar x Z G) sz [.ref (x.f .ho), .int g0, .int n0]) (g_Qi D vwCl (g_A (ov κ ar x Z G) sz) (fun r u => ∃ T9 : Ho, sX8_number Z g0 n0 = .inl (r, T9) ∧ u = (ov κ ar x T9 G, sz) ∧ OK x T9 ∧ SZ T9 Z)) (gX D (g_A (ov κ ar x Z G) sz) (fun E u => ∃ T9 : Ho, sX8_number Z g0 n0 = .inr (E, T9) ∧ u.1 = ov κ ar x T9 G ∧ OK x T9 ∧ SZ T9 Z)) 1 6 (g_A (ov κ ar x Z G) sz) := by
  refine gx_ofW (by decide +kernel) (Nat.le_of_ble_eq_true rfl) ?_
  intro p e s m below meth c ls S hr hlk ht hE w hl
  have hx := S.1
  have hb := S.2.1
  have hl : lv_has ls 3 [(0, .ref (x.f .ho)), (1, .int g0), (2, .int n0)] := hl
  refine lv_aload_n hx hb dX8_number_0 rfl (lv_at hl 0 rfl) ?_
  refine lv_iload_n hx hb dX8_number_1 rfl (lv_at hl 1 rfl) ?_
  refine gx_callv w (gx_runV (As := [.int g0]) (rest := []) S hE w hl (hX8_checkGlobal l D ar κ G x Z sz g0 hk  hlt) (k_RX8_195 S.2.2.2.2 ⟨Nat.le_of_ble_eq_true rfl, Nat.le_of_ble_eq_true rfl⟩) (ov_r (t := .ho) (hk.e (.ho) rfl)) rfl rfl rfl rfl (Nat.le_of_ble_eq_true rfl) dX8_number_2 ⟨Nat.le_of_ble_eq_true rfl, Nat.le_of_ble_eq_true rfl⟩) (fun E ce q9 u H locs hp hnz w hce hv hcl => by obtain ⟨T1, e2, hu9, hk3, sq4⟩ := hp; exact g_pass ht hlk w hce hv hcl ⟨_, ((sX8_number_u Z g0 n0).trans (rc_x e2)), hu9, hk3, (SZ.t sq4 ⟨rfl, rfl, rfl, rfl⟩)⟩ (Nat.le_of_ble_eq_true rfl) (Nat.le_of_ble_eq_true rfl)) (fun u H locs hp hnz w => ?_)
  obtain ⟨T5, e6, hu9, hk7, sq8⟩ := hp
  subst hu9
  dsimp only at w
  refine lv_aload_n hx hb dX8_number_5 rfl (lv_at hl 0 rfl) ?_
  refine gf_RX8_33_14 (v := .ref (x.f .gl)) S hE w (ov_r (t := .ho) (hk7.e (.ho) rfl)) rfl dX8_number_6 ?_
  refine lv_iload_n hx hb dX8_number_9 rfl (lv_at hl 1 rfl) ?_
  refine lv_iload_n hx hb dX8_number_10 rfl (lv_at hl 2 rfl) ?_
  refine g_calll w (g_runS (As := [.int n0]) (rest := [.int g0, .ref (x.f .gl)]) S hE w hl (hX8_ofNumber l D ar κ G x T5 sz n0 hk7 ) (k_RX8_199 S.2.2.2.2 ⟨Nat.le_of_ble_eq_true rfl, Nat.le_of_ble_eq_true rfl⟩) rfl rfl (Nat.le_of_ble_eq_true rfl) dX8_number_11 ⟨Nat.le_of_ble_eq_true rfl, Nat.le_of_ble_eq_true rfl⟩) (fun r u H locs hp hnz w => ?_)
  obtain ⟨rfl, rfl⟩ := hp
  dsimp only at w
  refine g_callv w (g_runS (As := [.ref (x.f .gl), .int g0, .long (sX8_ofNumber T5 n0)]) (rest := []) S hE w hl (c_putAt l D ar κ (ov κ ar x T5 G) sz (x.f .gl) g0 (sX8_ofNumber T5 n0) 8 T5.gl (ov_r (t := .gl) (hk7.e (.gl) rfl)) (by decide)) (k_RX8_203 S.2.2.2.2 ⟨Nat.le_of_ble_eq_true rfl, Nat.le_of_ble_eq_true rfl⟩) rfl rfl (Nat.le_of_ble_eq_true rfl) dX8_number_14 ⟨Nat.le_of_ble_eq_true rfl, Nat.le_of_ble_eq_true rfl⟩) (fun u H locs hp hnz w => ?_)
  obtain rfl := hp
  dsimp only at w
  have w : g_S D vwCl (g_A (ov κ ar x Z G) sz) s.heap (ov κ ar x (T5.sgl (pU T5.gl 8 g0 (sX8_ofNumber T5 n0))) G) H _ sz := g_eqw w (ov_wgl (S := T5) (T := (T5.sgl (pU T5.gl 8 g0 (sX8_ofNumber T5 n0)))) hk7.v (hk7.e (.gl) rfl) rfl Ho_ab_sgl Ho_fc_sgl Ho_cn_sgl Ho_me_sgl Ho_nt_sgl Ho_nr_sgl Ho_ty_sgl Ho_to_sgl Ho_ro_sgl Ho_al_sgl Ho_re_sgl Ho_th_sgl Ho_tc_sgl Ho_rc_sgl Ho_mk_sgl Ho_fr_sgl Ho_fn_sgl Ho_st_sgl Ho_rs_sgl Ho_an_sgl Ho_sp_sgl Ho_np_sgl Ho_pg_sgl Ho_wc_sgl Ho_ws_sgl Ho_wp_sgl)
  refine lv_aload_n hx hb dX8_number_17 rfl (lv_at hl 0 rfl) ?_
  refine gf_RX8_40_14 (v := .ref (x.f .ts)) S hE w (ov_r (t := .ho) (hk7.e (.ho) rfl)) rfl dX8_number_18 ?_
  refine gf_RX8_207_11 (v := .int T5.tc) S hE w (ov_r (t := .ts) (hk7.e (.ts) rfl)) rfl dX8_number_21 ?_
  exact vx_ret (g_iret hx hb hr hlk w (Nat.le_of_ble_eq_true rfl) (Nat.le_of_ble_eq_true rfl) dX8_number_24 ⟨_, ((sX8_number_u Z g0 n0).trans (rc_v e6)), rfl, (hk7.plain (T := (T5.sgl (pU T5.gl 8 g0 (sX8_ofNumber T5 n0)))) rfl rfl rfl rfl rfl rfl rfl), (SZ.t sq8 ⟨rfl, rfl, rfl, rfl⟩)⟩)
def sX8_nothing (Z : Ho) (g0 : Int32) : Rs Int32 := rc (sX8_checkGlobal Z g0) (fun _ T5 => .inl (T5.tc, (T5.sgl (pU T5.gl 8 g0 502511173632)))) (fun E9 T9 => .inr (E9, T9))
theorem sX8_nothing_u (Z : Ho) (g0 : Int32) : sX8_nothing Z g0 = rc (sX8_checkGlobal Z g0) (fun _ T5 => .inl (T5.tc, (T5.sgl (pU T5.gl 8 g0 502511173632)))) (fun E9 T9 => .inr (E9, T9)) := rfl
set_option maxHeartbeats 4000000 in
set_option maxRecDepth 100000 in
theorem hX8_nothing (l : Launch) (D : va_G) (ar : Nat → ClassId) (κ : Nat → Nat) (G : gW) (x : Xo) (Z : Ho) (sz : Nat) (g0 : Int32) (hk : OK x Z) (hlt : l.stackTraces = false) : vx_Met l yX8_nothing (lwC yX8_nothing cX8_nothing 2 (some .int)) (rD 10 1 6) (g_Pc D vwCl (gT ar) (EX1 κ) (ov κ ar x Z G) sz [.ref (x.f .ho), .int g0]) (g_Qi D vwCl (g_A (ov κ ar x Z G) sz) (fun r u => ∃ T9 : Ho, sX8_nothing Z g0 = .inl (r, T9) ∧ u = (ov κ ar x T9 G, sz) ∧ OK x T9 ∧ SZ T9 Z)) (gX D (g_A (ov κ ar x Z G) sz) (fun E u => ∃ T9 : Ho, sX8_nothing Z g0 = .inr (E, T9) ∧ u.1 = ov κ ar x T9 G ∧ OK x T9 ∧ SZ T9 Z)) 1 6 (g_A (ov κ ar x Z G) sz) := by
  refine gx_ofW (by decide +kernel) (Nat.le_of_ble_eq_true rfl) ?_
  intro p e s m below meth c ls S hr hlk ht hE w hl
  have hx := S.1
  have hb := S.2.1
  have hl : lv_has ls 2 [(0, .ref (x.f .ho)), (1, .int g0)] := hl
  refine lv_aload_n hx hb dX8_nothing_0 rfl (lv_at hl 0 rfl) ?_
  refine lv_iload_n hx hb dX8_nothing_1 rfl (lv_at hl 1 rfl) ?_
  refine gx_callv w (gx_runV (As := [.int g0]) (rest := []) S hE w hl (hX8_checkGlobal l D ar κ G x Z sz g0 hk  hlt) (k_RX8_195 S.2.2.2.2 ⟨Nat.le_of_ble_eq_true rfl, Nat.le_of_ble_eq_true rfl⟩) (ov_r (t := .ho) (hk.e (.ho) rfl)) rfl rfl rfl rfl (Nat.le_of_ble_eq_true rfl) dX8_nothing_2 ⟨Nat.le_of_ble_eq_true rfl, Nat.le_of_ble_eq_true rfl⟩) (fun E ce q9 u H locs hp hnz w hce hv hcl => by obtain ⟨T1, e2, hu9, hk3, sq4⟩ := hp; exact g_pass ht hlk w hce hv hcl ⟨_, ((sX8_nothing_u Z g0).trans (rc_x e2)), hu9, hk3, (SZ.t sq4 ⟨rfl, rfl, rfl, rfl⟩)⟩ (Nat.le_of_ble_eq_true rfl) (Nat.le_of_ble_eq_true rfl)) (fun u H locs hp hnz w => ?_)
  obtain ⟨T5, e6, hu9, hk7, sq8⟩ := hp
  subst hu9
  dsimp only at w
  refine lv_aload_n hx hb dX8_nothing_5 rfl (lv_at hl 0 rfl) ?_
  refine gf_RX8_33_14 (v := .ref (x.f .gl)) S hE w (ov_r (t := .ho) (hk7.e (.ho) rfl)) rfl dX8_nothing_6 ?_
  refine lv_iload_n hx hb dX8_nothing_9 rfl (lv_at hl 1 rfl) ?_
  refine lv_ldc2 hx hb S.2.2.2.1 (S.2.2.2.2 _ m_1_157) dX8_nothing_10 ?_
  refine g_callv w (g_runS (As := [.ref (x.f .gl), .int g0, .long 502511173632]) (rest := []) S hE w hl (c_putAt l D ar κ (ov κ ar x T5 G) sz (x.f .gl) g0 502511173632 8 T5.gl (ov_r (t := .gl) (hk7.e (.gl) rfl)) (by decide)) (k_RX8_203 S.2.2.2.2 ⟨Nat.le_of_ble_eq_true rfl, Nat.le_of_ble_eq_true rfl⟩) rfl rfl (Nat.le_of_ble_eq_true rfl) dX8_nothing_13 ⟨Nat.le_of_ble_eq_true rfl, Nat.le_of_ble_eq_true rfl⟩) (fun u H locs hp hnz w => ?_)
  obtain rfl := hp
  dsimp only at w
  have w : g_S D vwCl (g_A (ov κ ar x Z G) sz) s.heap (ov κ ar x (T5.sgl (pU T5.gl 8 g0 502511173632)) G) H _ sz := g_eqw w (ov_wgl (S := T5) (T := (T5.sgl (pU T5.gl 8 g0 502511173632))) hk7.v (hk7.e (.gl) rfl) rfl Ho_ab_sgl Ho_fc_sgl Ho_cn_sgl Ho_me_sgl Ho_nt_sgl Ho_nr_sgl Ho_ty_sgl Ho_to_sgl Ho_ro_sgl Ho_al_sgl Ho_re_sgl Ho_th_sgl Ho_tc_sgl Ho_rc_sgl Ho_mk_sgl Ho_fr_sgl Ho_fn_sgl Ho_st_sgl Ho_rs_sgl Ho_an_sgl Ho_sp_sgl Ho_np_sgl Ho_pg_sgl Ho_wc_sgl Ho_ws_sgl Ho_wp_sgl)
  refine lv_aload_n hx hb dX8_nothing_16 rfl (lv_at hl 0 rfl) ?_
  refine gf_RX8_40_14 (v := .ref (x.f .ts)) S hE w (ov_r (t := .ho) (hk7.e (.ho) rfl)) rfl dX8_nothing_17 ?_
  refine gf_RX8_207_11 (v := .int T5.tc) S hE w (ov_r (t := .ts) (hk7.e (.ts) rfl)) rfl dX8_nothing_20 ?_
  exact vx_ret (g_iret hx hb hr hlk w (Nat.le_of_ble_eq_true rfl) (Nat.le_of_ble_eq_true rfl) dX8_nothing_23 ⟨_, ((sX8_nothing_u Z g0).trans (rc_v e6)), rfl, (hk7.plain (T := (T5.sgl (pU T5.gl 8 g0 502511173632))) rfl rfl rfl rfl rfl rfl rfl), (SZ.t sq8 ⟨rfl, rfl, rfl, rfl⟩)⟩)
def sX8_make (Z : Ho) (g0 : Int32) (n0 : Int32) : Rs Int32 := if isB g0 8 = 0 then (.inr ("java/lang/IndexOutOfBoundsException", Z)) else (if isB n0 Z.cn = 0 then (.inr ("java/lang/IndexOutOfBoundsException", Z)) else (if isPl n0 = 0 then (if sX5_isFull Z = 0 then (pc (sX5_enlist Z n0 (aA Z.fc 0 n0)) (fun r1 T2 => .inl (r1, (T2.sgl (pU T2.gl 8 g0 (sX8_ofThing T2 r1)))))) else (.inr ("java/lang/IllegalStateException", Z))) else (.inr ("java/lang/IllegalArgumentException", Z))))
theorem sX8_make_u (Z : Ho) (g0 : Int32) (n0 : Int32) : sX8_make Z g0 n0 = if isB g0 8 = 0 then (.inr ("java/lang/IndexOutOfBoundsException", Z)) else (if isB n0 Z.cn = 0 then (.inr ("java/lang/IndexOutOfBoundsException", Z)) else (if isPl n0 = 0 then (if sX5_isFull Z = 0 then (pc (sX5_enlist Z n0 (aA Z.fc 0 n0)) (fun r1 T2 => .inl (r1, (T2.sgl (pU T2.gl 8 g0 (sX8_ofThing T2 r1)))))) else (.inr ("java/lang/IllegalStateException", Z))) else (.inr ("java/lang/IllegalArgumentException", Z)))) := rfl
set_option maxHeartbeats 4000000 in
set_option maxRecDepth 100000 in
theorem hX8_make (l : Launch) (D : va_G) (ar : Nat → ClassId) (κ : Nat → Nat) (G : gW) (x : Xo) (Z : Ho) (sz : Nat) (g0 : Int32) (n0 : Int32) (hk : OK x Z) (hlt : l.stackTraces = false) : vx_Met l yX8_make (lwC yX8_make cX8_make 4 (some .int)) (rD 13 1 6) (g_Pc D vwCl (gT ar) (EX1 κ) (ov κ ar x Z G) sz [.ref (x.f .ho), .int g0, .int n0]) (g_Qi D vwCl (g_A (ov κ ar x Z G) sz) (fun r u => ∃ T9 : Ho, sX8_make Z g0 n0 = .inl (r, T9) ∧ u = (ov κ ar x T9 G, sz) ∧ OK x T9 ∧ SZ T9 Z)) (gX D (g_A (ov κ ar x Z G) sz) (fun E u => ∃ T9 : Ho, sX8_make Z g0 n0 = .inr (E, T9) ∧ u.1 = ov κ ar x T9 G ∧ OK x T9 ∧ SZ T9 Z)) 1 6 (g_A (ov κ ar x Z G) sz) := by
  refine gx_ofW (by decide +kernel) (Nat.le_of_ble_eq_true rfl) ?_
  intro p e s m below meth c ls S hr hlk ht hE w hl
  have hx := S.1
  have hb := S.2.1
  have hl : lv_has ls 4 [(0, .ref (x.f .ho)), (1, .int g0), (2, .int n0)] := hl
  refine lv_iload_n hx hb dX8_make_0 rfl (lv_at hl 1 rfl) ?_
  refine lv_bipush (v := 8) hx hb dX8_make_1 (by decide) ?_
  refine g_calli w (g_runS (As := [.int g0, .int 8]) (rest := []) S hE w hl (c_X8_isBelow l D ar κ (ov κ ar x Z G) sz g0 8) (k_RX8_97 S.2.2.2.2 ⟨Nat.le_of_ble_eq_true rfl, Nat.le_of_ble_eq_true rfl⟩) rfl rfl (Nat.le_of_ble_eq_true rfl) dX8_make_3 ⟨Nat.le_of_ble_eq_true rfl, Nat.le_of_ble_eq_true rfl⟩) (fun r u H locs hp hnz w => ?_)
  obtain ⟨rfl, rfl⟩ := hp
  dsimp only at w
  refine lv_if_eq (tgt := 20) hx hb dX8_make_6 (by decide) (fun c_6 => ?_) (fun c_6 => ?_)
  · exact g_throwS (names := ["java/lang/RuntimeException", "java/lang/Exception"]) hlt S hE w hl ht hlk (by decide +kernel) (by decide +kernel) m_2_159 m_1_15 (List.mem_of_getElem? (i := 58) rfl) th_RX8_87_91_1 th_RX8_87_91_2 th_RX8_87_91_3 dX8_make_20 dX8_make_23 dX8_make_24 dX8_make_26 dX8_make_29 (Nat.le_of_ble_eq_true rfl) (Nat.le_of_ble_eq_true rfl) (Nat.le_of_ble_eq_true rfl) (Nat.le_of_ble_eq_true rfl) (Nat.le_of_ble_eq_true rfl) (Nat.le_of_ble_eq_true rfl) (fun n9 hn9 => ⟨_, ((sX8_make_u Z g0 n0).trans (if_pos c_6)), rfl, hk, ⟨rfl, rfl, rfl, rfl⟩⟩)
  · refine lv_aload_n hx hb dX8_make_9 rfl (lv_at hl 0 rfl) ?_
    refine gf_RX8_10_14 (v := .ref (x.f .cl)) S hE w (ov_r (t := .ho) (hk.e (.ho) rfl)) rfl dX8_make_10 ?_
    refine lv_iload_n hx hb dX8_make_13 rfl (lv_at hl 2 rfl) ?_
    refine g_calli w (g_runV (As := [.int n0]) (rest := []) S hE w hl (c_X0_has l D ar κ (ov κ ar x Z G) sz (x.f .cl) n0 (x.f .ab) (x.f .fc) Z.cn (ov_r (t := .cl) (hk.e (.cl) rfl))) (k_RX8_83 S.2.2.2.2 ⟨Nat.le_of_ble_eq_true rfl, Nat.le_of_ble_eq_true rfl⟩) (ov_r (t := .cl) (hk.e (.cl) rfl)) rfl rfl rfl rfl (Nat.le_of_ble_eq_true rfl) dX8_make_14 ⟨Nat.le_of_ble_eq_true rfl, Nat.le_of_ble_eq_true rfl⟩) (fun r u H locs hp hnz w => ?_)
    obtain ⟨rfl, rfl⟩ := hp
    dsimp only at w
    refine lv_if_ne (tgt := 30) hx hb dX8_make_17 (by decide) (fun c_17 => ?_) (fun c_17 => ?_)
    · refine lv_iload_n hx hb dX8_make_30 rfl (lv_at hl 2 rfl) ?_
      refine g_calli w (g_runS (As := [.int n0]) (rest := []) S hE w hl (c_X8_isOfPlainValues l D ar κ (ov κ ar x Z G) sz n0) (k_RX8_94 S.2.2.2.2 ⟨Nat.le_of_ble_eq_true rfl, Nat.le_of_ble_eq_true rfl⟩) rfl rfl (Nat.le_of_ble_eq_true rfl) dX8_make_31 ⟨Nat.le_of_ble_eq_true rfl, Nat.le_of_ble_eq_true rfl⟩) (fun r u H locs hp hnz w => ?_)
      obtain ⟨rfl, rfl⟩ := hp
      dsimp only at w
      refine lv_if_eq (tgt := 47) hx hb dX8_make_34 (by decide) (fun c_34 => ?_) (fun c_34 => ?_)
      · refine lv_aload_n hx hb dX8_make_47 rfl (lv_at hl 0 rfl) ?_
        refine gf_RX8_40_14 (v := .ref (x.f .ts)) S hE w (ov_r (t := .ho) (hk.e (.ho) rfl)) rfl dX8_make_48 ?_
        refine g_calli w (g_runV (As := []) (rest := []) S hE w hl (hX5_isFull l D ar κ G x Z sz  hk ) (k_RX8_212 S.2.2.2.2 ⟨Nat.le_of_ble_eq_true rfl, Nat.le_of_ble_eq_true rfl⟩) (ov_r (t := .ts) (hk.e (.ts) rfl)) rfl rfl rfl rfl (Nat.le_of_ble_eq_true rfl) dX8_make_51 ⟨Nat.le_of_ble_eq_true rfl, Nat.le_of_ble_eq_true rfl⟩) (fun r u H locs hp hnz w => ?_)
        obtain ⟨rfl, rfl⟩ := hp
        dsimp only at w
        refine lv_if_eq (tgt := 67) hx hb dX8_make_54 (by decide) (fun c_54 => ?_) (fun c_54 => ?_)
        · refine lv_aload_n hx hb dX8_make_67 rfl (lv_at hl 0 rfl) ?_
          refine gf_RX8_40_14 (v := .ref (x.f .ts)) S hE w (ov_r (t := .ho) (hk.e (.ho) rfl)) rfl dX8_make_68 ?_
          refine lv_iload_n hx hb dX8_make_71 rfl (lv_at hl 2 rfl) ?_
          refine lv_aload_n hx hb dX8_make_72 rfl (lv_at hl 0 rfl) ?_
          refine gf_RX8_10_14 (v := .ref (x.f .cl)) S hE w (ov_r (t := .ho) (hk.e (.ho) rfl)) rfl dX8_make_73 ?_
          refine lv_iload_n hx hb dX8_make_76 rfl (lv_at hl 2 rfl) ?_
          refine g_calli w (g_runV (As := [.int n0]) (rest := [.int n0, .ref (x.f .ts)]) S hE w hl (c_X0_fieldsOf l D ar κ (ov κ ar x Z G) sz (x.f .cl) n0 (x.f .ab) (x.f .fc) Z.cn Z.fc (ov_r (t := .cl) (hk.e (.cl) rfl)) (ov_r (t := .fc) (hk.e (.fc) rfl))) (k_RX8_101 S.2.2.2.2 ⟨Nat.le_of_ble_eq_true rfl, Nat.le_of_ble_eq_true rfl⟩) (ov_r (t := .cl) (hk.e (.cl) rfl)) rfl rfl rfl rfl (Nat.le_of_ble_eq_true rfl) dX8_make_77 ⟨Nat.le_of_ble_eq_true rfl, Nat.le_of_ble_eq_true rfl⟩) (fun r u H locs hp hnz w => ?_)
          obtain ⟨rfl, rfl⟩ := hp
          dsimp only at w
          refine g_calli w (g_runV (As := [.int n0, .int (aA Z.fc 0 n0)]) (rest := []) S hE w hl (hX5_enlist l D ar κ G x Z sz n0 (aA Z.fc 0 n0) hk ) (k_RX8_218 S.2.2.2.2 ⟨Nat.le_of_ble_eq_true rfl, Nat.le_of_ble_eq_true rfl⟩) (ov_r (t := .ts) (hk.e (.ts) rfl)) rfl rfl rfl rfl (Nat.le_of_ble_eq_true rfl) dX8_make_80 ⟨Nat.le_of_ble_eq_true rfl, Nat.le_of_ble_eq_true rfl⟩) (fun r1 u H locs hp hnz w => ?_)
          obtain ⟨T2, e3, hu9, hk4, sq5⟩ := hp
          subst hu9
          dsimp only at w
          refine lv_istore_n (lv' := [(3, .int r1), (0, .ref (x.f .ho)), (1, .int g0), (2, .int n0)]) hx hb dX8_make_83 rfl hl (by decide) rfl (fun ls hl => ?_)
          refine lv_aload_n hx hb dX8_make_84 rfl (lv_at hl 1 rfl) ?_
          refine gf_RX8_33_14 (v := .ref (x.f .gl)) S hE w (ov_r (t := .ho) (hk4.e (.ho) rfl)) rfl dX8_make_85 ?_
          refine lv_iload_n hx hb dX8_make_88 rfl (lv_at hl 2 rfl) ?_
          refine lv_iload_n hx hb dX8_make_89 rfl (lv_at hl 0 rfl) ?_
          refine g_calll w (g_runS (As := [.int r1]) (rest := [.int g0, .ref (x.f .gl)]) S hE w hl (hX8_ofThing l D ar κ G x T2 sz r1 hk4 ) (k_RX8_219 S.2.2.2.2 ⟨Nat.le_of_ble_eq_true rfl, Nat.le_of_ble_eq_true rfl⟩) rfl rfl (Nat.le_of_ble_eq_true rfl) dX8_make_90 ⟨Nat.le_of_ble_eq_true rfl, Nat.le_of_ble_eq_true rfl⟩) (fun r u H locs hp hnz w => ?_)
          obtain ⟨rfl, rfl⟩ := hp
          dsimp only at w
          refine g_callv w (g_runS (As := [.ref (x.f .gl), .int g0, .long (sX8_ofThing T2 r1)]) (rest := []) S hE w hl (c_putAt l D ar κ (ov κ ar x T2 G) sz (x.f .gl) g0 (sX8_ofThing T2 r1) 8 T2.gl (ov_r (t := .gl) (hk4.e (.gl) rfl)) (by decide)) (k_RX8_203 S.2.2.2.2 ⟨Nat.le_of_ble_eq_true rfl, Nat.le_of_ble_eq_true rfl⟩) rfl rfl (Nat.le_of_ble_eq_true rfl) dX8_make_93 ⟨Nat.le_of_ble_eq_true rfl, Nat.le_of_ble_eq_true rfl⟩) (fun u H locs hp hnz w => ?_)
          obtain rfl := hp
          dsimp only at w
          have w : g_S D vwCl (g_A (ov κ ar x Z G) sz) s.heap (ov κ ar x (T2.sgl (pU T2.gl 8 g0 (sX8_ofThing T2 r1))) G) H _ sz := g_eqw w (ov_wgl (S := T2) (T := (T2.sgl (pU T2.gl 8 g0 (sX8_ofThing T2 r1)))) hk4.v (hk4.e (.gl) rfl) rfl Ho_ab_sgl Ho_fc_sgl Ho_cn_sgl Ho_me_sgl Ho_nt_sgl Ho_nr_sgl Ho_ty_sgl Ho_to_sgl Ho_ro_sgl Ho_al_sgl Ho_re_sgl Ho_th_sgl Ho_tc_sgl Ho_rc_sgl Ho_mk_sgl Ho_fr_sgl Ho_fn_sgl Ho_st_sgl Ho_rs_sgl Ho_an_sgl Ho_sp_sgl Ho_np_sgl Ho_pg_sgl Ho_wc_sgl Ho_ws_sgl Ho_wp_sgl)
          refine lv_iload_n hx hb dX8_make_96 rfl (lv_at hl 0 rfl) ?_
          exact vx_ret (g_iret hx hb hr hlk w (Nat.le_of_ble_eq_true rfl) (Nat.le_of_ble_eq_true rfl) dX8_make_97 ⟨_, ((sX8_make_u Z g0 n0).trans ((if_neg c_6).trans ((if_neg c_17).trans ((if_pos c_34).trans ((if_pos c_54).trans (pc_e e3)))))), rfl, (hk4.plain (T := (T2.sgl (pU T2.gl 8 g0 (sX8_ofThing T2 r1)))) rfl rfl rfl rfl rfl rfl rfl), (SZ.t sq5 ⟨rfl, rfl, rfl, rfl⟩)⟩)
        · exact g_throwS (names := ["java/lang/RuntimeException", "java/lang/Exception"]) hlt S hE w hl ht hlk (by decide +kernel) (by decide +kernel) m_3_58 m_1_19 (List.mem_of_getElem? (i := 60) rfl) th_RX8_113_117_1 th_RX8_113_117_2 th_RX8_113_117_3 dX8_make_57 dX8_make_60 dX8_make_61 dX8_make_63 dX8_make_66 (Nat.le_of_ble_eq_true rfl) (Nat.le_of_ble_eq_true rfl) (Nat.le_of_ble_eq_true rfl) (Nat.le_of_ble_eq_true rfl) (Nat.le_of_ble_eq_true rfl) (Nat.le_of_ble_eq_true rfl) (fun n9 hn9 => ⟨_, ((sX8_make_u Z g0 n0).trans ((if_neg c_6).trans ((if_neg c_17).trans ((if_pos c_34).trans (if_neg c_54))))), rfl, hk, ⟨rfl, rfl, rfl, rfl⟩⟩)
      · exact g_throwS (names := ["java/lang/RuntimeException", "java/lang/Exception"]) hlt S hE w hl ht hlk (by decide +kernel) (by decide +kernel) m_3_42 m_1_18 (List.mem_of_getElem? (i := 59) rfl) th_RX8_105_109_1 th_RX8_105_109_2 th_RX8_105_109_3 dX8_make_37 dX8_make_40 dX8_make_41 dX8_make_43 dX8_make_46 (Nat.le_of_ble_eq_true rfl) (Nat.le_of_ble_eq_true rfl) (Nat.le_of_ble_eq_true rfl) (Nat.le_of_ble_eq_true rfl) (Nat.le_of_ble_eq_true rfl) (Nat.le_of_ble_eq_true rfl) (fun n9 hn9 => ⟨_, ((sX8_make_u Z g0 n0).trans ((if_neg c_6).trans ((if_neg c_17).trans (if_neg c_34)))), rfl, hk, ⟨rfl, rfl, rfl, rfl⟩⟩)
    · exact g_throwS (names := ["java/lang/RuntimeException", "java/lang/Exception"]) hlt S hE w hl ht hlk (by decide +kernel) (by decide +kernel) m_2_159 m_1_15 (List.mem_of_getElem? (i := 58) rfl) th_RX8_87_91_1 th_RX8_87_91_2 th_RX8_87_91_3 dX8_make_20 dX8_make_23 dX8_make_24 dX8_make_26 dX8_make_29 (Nat.le_of_ble_eq_true rfl) (Nat.le_of_ble_eq_true rfl) (Nat.le_of_ble_eq_true rfl) (Nat.le_of_ble_eq_true rfl) (Nat.le_of_ble_eq_true rfl) (Nat.le_of_ble_eq_true rfl) (fun n9 hn9 => ⟨_, ((sX8_make_u Z g0 n0).trans ((if_neg c_6).trans (if_pos c_17))), rfl, hk, ⟨rfl, rfl, rfl, rfl⟩⟩)
def sX8_kind (Z : Ho) (g0 : Int32) : Rs Int32 := rc (sX8_checkGlobal Z g0) (fun _ T5 => .inl (vp_nar .char (kf (pA T5.gl 8 g0)), T5)) (fun E9 T9 => .inr (E9, T9))
theorem sX8_kind_u (Z : Ho) (g0 : Int32) : sX8_kind Z g0 = rc (sX8_checkGlobal Z g0) (fun _ T5 => .inl (vp_nar .char (kf (pA T5.gl 8 g0)), T5)) (fun E9 T9 => .inr (E9, T9)) := rfl
set_option maxHeartbeats 4000000 in
set_option maxRecDepth 100000 in
theorem hX8_kind (l : Launch) (D : va_G) (ar : Nat → ClassId) (κ : Nat → Nat) (G : gW) (x : Xo) (Z : Ho) (sz : Nat) (g0 : Int32) (hk : OK x Z) (hlt : l.stackTraces = false) : vx_Met l yX8_kind (lwC yX8_kind cX8_kind 2 (some .char)) (rD 10 1 6) (g_Pc D vwCl (gT ar) (EX1 κ) (ov κ ar x Z G) sz [.ref (x.f .ho), .int g0]) (g_Qi D vwCl (g_A (ov κ ar x Z G) sz) (fun r u => ∃ T9 : Ho, sX8_kind Z g0 = .inl (r, T9) ∧ u = (ov κ ar x T9 G, sz) ∧ OK x T9 ∧ SZ T9 Z)) (gX D (g_A (ov κ ar x Z G) sz) (fun E u => ∃ T9 : Ho, sX8_kind Z g0 = .inr (E, T9) ∧ u.1 = ov κ ar x T9 G ∧ OK x T9 ∧ SZ T9 Z)) 1 6 (g_A (ov κ ar x Z G) sz) := by
  refine gx_ofW (by decide +kernel) (Nat.le_of_ble_eq_true rfl) ?_
  intro p e s m below meth c ls S hr hlk ht hE w hl
  have hx := S.1
  have hb := S.2.1
  have hl : lv_has ls 2 [(0, .ref (x.f .ho)), (1, .int g0)] := hl
  refine lv_aload_n hx hb dX8_kind_0 rfl (lv_at hl 0 rfl) ?_
  refine lv_iload_n hx hb dX8_kind_1 rfl (lv_at hl 1 rfl) ?_
  refine gx_callv w (gx_runV (As := [.int g0]) (rest := []) S hE w hl (hX8_checkGlobal l D ar κ G x Z sz g0 hk  hlt) (k_RX8_195 S.2.2.2.2 ⟨Nat.le_of_ble_eq_true rfl, Nat.le_of_ble_eq_true rfl⟩) (ov_r (t := .ho) (hk.e (.ho) rfl)) rfl rfl rfl rfl (Nat.le_of_ble_eq_true rfl) dX8_kind_2 ⟨Nat.le_of_ble_eq_true rfl, Nat.le_of_ble_eq_true rfl⟩) (fun E ce q9 u H locs hp hnz w hce hv hcl => by obtain ⟨T1, e2, hu9, hk3, sq4⟩ := hp; exact g_pass ht hlk w hce hv hcl ⟨_, ((sX8_kind_u Z g0).trans (rc_x e2)), hu9, hk3, (SZ.t sq4 ⟨rfl, rfl, rfl, rfl⟩)⟩ (Nat.le_of_ble_eq_true rfl) (Nat.le_of_ble_eq_true rfl)) (fun u H locs hp hnz w => ?_)
  obtain ⟨T5, e6, hu9, hk7, sq8⟩ := hp
  subst hu9
  dsimp only at w
  refine lv_aload_n hx hb dX8_kind_5 rfl (lv_at hl 0 rfl) ?_
  refine gf_RX8_33_14 (v := .ref (x.f .gl)) S hE w (ov_r (t := .ho) (hk7.e (.ho) rfl)) rfl dX8_kind_6 ?_
  refine lv_iload_n hx hb dX8_kind_9 rfl (lv_at hl 1 rfl) ?_
  refine g_calll w (g_runS (As := [.ref (x.f .gl), .int g0]) (rest := []) S hE w hl (c_X8_placeAt l D ar κ (ov κ ar x T5 G) sz (x.f .gl) g0 8 T5.gl (ov_r (t := .gl) (hk7.e (.gl) rfl)) (by decide)) (k_RX8_222 S.2.2.2.2 ⟨Nat.le_of_ble_eq_true rfl, Nat.le_of_ble_eq_true rfl⟩) rfl rfl (Nat.le_of_ble_eq_true rfl) dX8_kind_10 ⟨Nat.le_of_ble_eq_true rfl, Nat.le_of_ble_eq_true rfl⟩) (fun r u H locs hp hnz w => ?_)
  obtain ⟨rfl, rfl⟩ := hp
  dsimp only at w
  refine g_calli w (g_runS (As := [.long (pA T5.gl 8 g0)]) (rest := []) S hE w hl (c_X8_kindOf l D ar κ (ov κ ar x T5 G) sz (pA T5.gl 8 g0)) (k_RX8_226 S.2.2.2.2 ⟨Nat.le_of_ble_eq_true rfl, Nat.le_of_ble_eq_true rfl⟩) rfl rfl (Nat.le_of_ble_eq_true rfl) dX8_kind_13 ⟨Nat.le_of_ble_eq_true rfl, Nat.le_of_ble_eq_true rfl⟩) (fun r u H locs hp hnz w => ?_)
  obtain ⟨rfl, rfl⟩ := hp
  dsimp only at w
  exact vx_ret (g_zretN (v := vp_nar .char (kf (pA T5.gl 8 g0))) hx hb hr hlk w (Nat.le_of_ble_eq_true rfl) (Nat.le_of_ble_eq_true rfl) dX8_kind_16 rfl ⟨_, ((sX8_kind_u Z g0).trans (rc_v e6)), rfl, hk7, (SZ.t sq8 ⟨rfl, rfl, rfl, rfl⟩)⟩)
def sX8_value (Z : Ho) (g0 : Int32) : Rs Int32 := rc (sX8_checkGlobal Z g0) (fun _ T5 => .inl (nf (pA T5.gl 8 g0), T5)) (fun E9 T9 => .inr (E9, T9))
theorem sX8_value_u (Z : Ho) (g0 : Int32) : sX8_value Z g0 = rc (sX8_checkGlobal Z g0) (fun _ T5 => .inl (nf (pA T5.gl 8 g0), T5)) (fun E9 T9 => .inr (E9, T9)) := rfl
set_option maxHeartbeats 4000000 in
set_option maxRecDepth 100000 in
theorem hX8_value (l : Launch) (D : va_G) (ar : Nat → ClassId) (κ : Nat → Nat) (G : gW) (x : Xo) (Z : Ho) (sz : Nat) (g0 : Int32) (hk : OK x Z) (hlt : l.stackTraces = false) : vx_Met l yX8_value (lwC yX8_value cX8_value 2 (some .int)) (rD 10 1 6) (g_Pc D vwCl (gT ar) (EX1 κ) (ov κ ar x Z G) sz [.ref (x.f .ho), .int g0]) (g_Qi D vwCl (g_A (ov κ ar x Z G) sz) (fun r u => ∃ T9 : Ho, sX8_value Z g0 = .inl (r, T9) ∧ u = (ov κ ar x T9 G, sz) ∧ OK x T9 ∧ SZ T9 Z)) (gX D (g_A (ov κ ar x Z G) sz) (fun E u => ∃ T9 : Ho, sX8_value Z g0 = .inr (E, T9) ∧ u.1 = ov κ ar x T9 G ∧ OK x T9 ∧ SZ T9 Z)) 1 6 (g_A (ov κ ar x Z G) sz) := by
  refine gx_ofW (by decide +kernel) (Nat.le_of_ble_eq_true rfl) ?_
  intro p e s m below meth c ls S hr hlk ht hE w hl
  have hx := S.1
  have hb := S.2.1
  have hl : lv_has ls 2 [(0, .ref (x.f .ho)), (1, .int g0)] := hl
  refine lv_aload_n hx hb dX8_value_0 rfl (lv_at hl 0 rfl) ?_
  refine lv_iload_n hx hb dX8_value_1 rfl (lv_at hl 1 rfl) ?_
  refine gx_callv w (gx_runV (As := [.int g0]) (rest := []) S hE w hl (hX8_checkGlobal l D ar κ G x Z sz g0 hk  hlt) (k_RX8_195 S.2.2.2.2 ⟨Nat.le_of_ble_eq_true rfl, Nat.le_of_ble_eq_true rfl⟩) (ov_r (t := .ho) (hk.e (.ho) rfl)) rfl rfl rfl rfl (Nat.le_of_ble_eq_true rfl) dX8_value_2 ⟨Nat.le_of_ble_eq_true rfl, Nat.le_of_ble_eq_true rfl⟩) (fun E ce q9 u H locs hp hnz w hce hv hcl => by obtain ⟨T1, e2, hu9, hk3, sq4⟩ := hp; exact g_pass ht hlk w hce hv hcl ⟨_, ((sX8_value_u Z g0).trans (rc_x e2)), hu9, hk3, (SZ.t sq4 ⟨rfl, rfl, rfl, rfl⟩)⟩ (Nat.le_of_ble_eq_true rfl) (Nat.le_of_ble_eq_true rfl)) (fun u H locs hp hnz w => ?_)
  obtain ⟨T5, e6, hu9, hk7, sq8⟩ := hp
  subst hu9
  dsimp only at w
  refine lv_aload_n hx hb dX8_value_5 rfl (lv_at hl 0 rfl) ?_
  refine gf_RX8_33_14 (v := .ref (x.f .gl)) S hE w (ov_r (t := .ho) (hk7.e (.ho) rfl)) rfl dX8_value_6 ?_
  refine lv_iload_n hx hb dX8_value_9 rfl (lv_at hl 1 rfl) ?_
  refine g_calll w (g_runS (As := [.ref (x.f .gl), .int g0]) (rest := []) S hE w hl (c_X8_placeAt l D ar κ (ov κ ar x T5 G) sz (x.f .gl) g0 8 T5.gl (ov_r (t := .gl) (hk7.e (.gl) rfl)) (by decide)) (k_RX8_222 S.2.2.2.2 ⟨Nat.le_of_ble_eq_true rfl, Nat.le_of_ble_eq_true rfl⟩) rfl rfl (Nat.le_of_ble_eq_true rfl) dX8_value_10 ⟨Nat.le_of_ble_eq_true rfl, Nat.le_of_ble_eq_true rfl⟩) (fun r u H locs hp hnz w => ?_)
  obtain ⟨rfl, rfl⟩ := hp
  dsimp only at w
  refine g_calli w (g_runS (As := [.long (pA T5.gl 8 g0)]) (rest := []) S hE w hl (c_X8_numberOf l D ar κ (ov κ ar x T5 G) sz (pA T5.gl 8 g0)) (k_RX8_230 S.2.2.2.2 ⟨Nat.le_of_ble_eq_true rfl, Nat.le_of_ble_eq_true rfl⟩) rfl rfl (Nat.le_of_ble_eq_true rfl) dX8_value_13 ⟨Nat.le_of_ble_eq_true rfl, Nat.le_of_ble_eq_true rfl⟩) (fun r u H locs hp hnz w => ?_)
  obtain ⟨rfl, rfl⟩ := hp
  dsimp only at w
  exact vx_ret (g_iret hx hb hr hlk w (Nat.le_of_ble_eq_true rfl) (Nat.le_of_ble_eq_true rfl) dX8_value_16 ⟨_, ((sX8_value_u Z g0).trans (rc_v e6)), rfl, hk7, (SZ.t sq8 ⟨rfl, rfl, rfl, rfl⟩)⟩)
def sX8_checkedField (Z : Ho) (t0 : Int32) (j0 : Int32) : Rs Int64 := oc (sX5_withNumber Z t0) (.inr ("java/lang/IndexOutOfBoundsException", Z)) (fun k1 => if sX4_hasField Z k1 j0 = 0 then (.inr ("java/lang/IndexOutOfBoundsException", Z)) else (.inl (pA ((Z.th k1).p) 8 j0, Z)))
theorem sX8_checkedField_u (Z : Ho) (t0 : Int32) (j0 : Int32) : sX8_checkedField Z t0 j0 = oc (sX5_withNumber Z t0) (.inr ("java/lang/IndexOutOfBoundsException", Z)) (fun k1 => if sX4_hasField Z k1 j0 = 0 then (.inr ("java/lang/IndexOutOfBoundsException", Z)) else (.inl (pA ((Z.th k1).p) 8 j0, Z))) := rfl
set_option maxHeartbeats 4000000 in
set_option maxRecDepth 100000 in
theorem hX8_checkedField (l : Launch) (D : va_G) (ar : Nat → ClassId) (κ : Nat → Nat) (G : gW) (x : Xo) (Z : Ho) (sz : Nat) (t0 : Int32) (j0 : Int32) (hk : OK x Z) (hlt : l.stackTraces = false) : vx_Met l yX8_checkedField (lwC yX8_checkedField cX8_checkedField 4 (some .long)) (rD 11 1 6) (g_Pc D vwCl (gT ar) (EX1 κ) (ov κ ar x Z G) sz [.ref (x.f .ho), .int t0, .int j0]) (g_Ql D vwCl (g_A (ov κ ar x Z G) sz) (fun r u => ∃ T9 : Ho, sX8_checkedField Z t0 j0 = .inl (r, T9) ∧ u = (ov κ ar x T9 G, sz) ∧ OK x T9 ∧ SZ T9 Z)) (gX D (g_A (ov κ ar x Z G) sz) (fun E u => ∃ T9 : Ho, sX8_checkedField Z t0 j0 = .inr (E, T9) ∧ u.1 = ov κ ar x T9 G ∧ OK x T9 ∧ SZ T9 Z)) 1 6 (g_A (ov κ ar x Z G) sz) := by
  refine gx_ofW (by decide +kernel) (Nat.le_of_ble_eq_true rfl) ?_
  intro p e s m below meth c ls S hr hlk ht hE w hl
  have hx := S.1
  have hb := S.2.1
  have hl : lv_has ls 4 [(0, .ref (x.f .ho)), (1, .int t0), (2, .int j0)] := hl
  refine lv_aload_n hx hb dX8_checkedField_0 rfl (lv_at hl 0 rfl) ?_
  refine gf_RX8_40_14 (v := .ref (x.f .ts)) S hE w (ov_r (t := .ho) (hk.e (.ho) rfl)) rfl dX8_checkedField_1 ?_
  refine lv_iload_n hx hb dX8_checkedField_4 rfl (lv_at hl 1 rfl) ?_
  refine g_callq w (g_runV (As := [.int t0]) (rest := []) S hE w hl (hX5_withNumber l D ar κ G x Z sz t0 hk ) (k_RX8_234 S.2.2.2.2 ⟨Nat.le_of_ble_eq_true rfl, Nat.le_of_ble_eq_true rfl⟩) (ov_r (t := .ts) (hk.e (.ts) rfl)) rfl rfl rfl rfl (Nat.le_of_ble_eq_true rfl) dX8_checkedField_5 ⟨Nat.le_of_ble_eq_true rfl, Nat.le_of_ble_eq_true rfl⟩) (fun r u H locs hp hnz w => ?_)
  obtain ⟨rfl, rfl⟩ := hp
  dsimp only at w
  refine lv_astore_nQ (lv' := [(3, va_rf ((sX5_withNumber Z t0).map (fun k9 => x.f (.th k9)))), (0, .ref (x.f .ho)), (1, .int t0), (2, .int j0)]) hx hb dX8_checkedField_8 rfl hl (by decide) rfl (fun ls hl => ?_)
  refine lv_aload_nQ hx hb dX8_checkedField_9 rfl (lv_at hl 0 rfl) ?_
  rcases he2 : sX5_withNumber Z t0 with _ | k1
  · have hl : lv_has ls 4 [(3, .null), (0, .ref (x.f .ho)), (1, .int t0), (2, .int j0)] := by rw [he2] at hl; exact hl
    show W p l e _ s m _ below meth c _ _ _ _ _ (F0 m 10 ls [.null])
    refine lv_ifnullN (tgt := 21) hx hb dX8_checkedField_10 (by decide) ?_
    exact g_throwSW (names := ["java/lang/RuntimeException", "java/lang/Exception"]) hlt S hE w hl ht hlk (by decide +kernel) (by decide +kernel) m_2_159 m_1_15 (List.mem_of_getElem? (i := 64) rfl) th_RX8_87_91_1 th_RX8_87_91_2 th_RX8_87_91_3 dX8_checkedField_21 dX8_checkedField_24 dX8_checkedField_25 dX8_checkedField_28 dX8_checkedField_31 (Nat.le_of_ble_eq_true rfl) (Nat.le_of_ble_eq_true rfl) (Nat.le_of_ble_eq_true rfl) (Nat.le_of_ble_eq_true rfl) (Nat.le_of_ble_eq_true rfl) (Nat.le_of_ble_eq_true rfl) (fun n9 hn9 => ⟨_, ((sX8_checkedField_u Z t0 j0).trans (oc_n he2)), rfl, hk, ⟨rfl, rfl, rfl, rfl⟩⟩)
  · have hl : lv_has ls 4 [(3, .ref (x.f (.th k1))), (0, .ref (x.f .ho)), (1, .int t0), (2, .int j0)] := by rw [he2] at hl; exact hl
    show W p l e _ s m _ below meth c _ _ _ _ _ (F0 m 10 ls [.ref (x.f (.th k1))])
    refine lv_ifnull hx hb dX8_checkedField_10 ?_
    refine lv_aload_n hx hb dX8_checkedField_13 rfl (lv_at hl 0 rfl) ?_
    refine lv_iload_n hx hb dX8_checkedField_14 rfl (lv_at hl 3 rfl) ?_
    refine g_calli w (g_runV (As := [.int j0]) (rest := []) S hE w hl (hX4_hasField l D ar κ G x Z sz k1 j0 hk ) (k_RX8_267 S.2.2.2.2 ⟨Nat.le_of_ble_eq_true rfl, Nat.le_of_ble_eq_true rfl⟩) (ov_r (t := .th k1) (hk.e (.th k1) rfl)) rfl rfl rfl rfl (Nat.le_of_ble_eq_true rfl) dX8_checkedField_15 ⟨Nat.le_of_ble_eq_true rfl, Nat.le_of_ble_eq_true rfl⟩) (fun r u H locs hp hnz w => ?_)
    obtain ⟨rfl, rfl⟩ := hp
    dsimp only at w
    refine lv_if_ne (tgt := 32) hx hb dX8_checkedField_18 (by decide) (fun c_18 => ?_) (fun c_18 => ?_)
    · refine lv_aload_n hx hb dX8_checkedField_32 rfl (lv_at hl 0 rfl) ?_
      refine gf_RX8_272_10 (v := .ref (x.f (.tp k1))) S hE w (ov_r (t := .th k1) (hk.e (.th k1) rfl)) rfl dX8_checkedField_33 ?_
      refine lv_iload_n hx hb dX8_checkedField_36 rfl (lv_at hl 3 rfl) ?_
      refine g_calll w (g_runS (As := [.ref (x.f (.tp k1)), .int j0]) (rest := []) S hE w hl (c_X8_placeAt l D ar κ (ov κ ar x Z G) sz (x.f (.tp k1)) j0 8 ((Z.th k1).p) (ov_r (t := .tp k1) (hk.e (.tp k1) rfl)) (by decide)) (k_RX8_222 S.2.2.2.2 ⟨Nat.le_of_ble_eq_true rfl, Nat.le_of_ble_eq_true rfl⟩) rfl rfl (Nat.le_of_ble_eq_true rfl) dX8_checkedField_37 ⟨Nat.le_of_ble_eq_true rfl, Nat.le_of_ble_eq_true rfl⟩) (fun r u H locs hp hnz w => ?_)
      obtain ⟨rfl, rfl⟩ := hp
      dsimp only at w
      exact vx_ret (g_lret hx hb hr hlk w (Nat.le_of_ble_eq_true rfl) (Nat.le_of_ble_eq_true rfl) dX8_checkedField_40 ⟨_, ((sX8_checkedField_u Z t0 j0).trans ((oc_s he2).trans (if_neg c_18))), rfl, hk, ⟨rfl, rfl, rfl, rfl⟩⟩)
    · exact g_throwSW (names := ["java/lang/RuntimeException", "java/lang/Exception"]) hlt S hE w hl ht hlk (by decide +kernel) (by decide +kernel) m_2_159 m_1_15 (List.mem_of_getElem? (i := 64) rfl) th_RX8_87_91_1 th_RX8_87_91_2 th_RX8_87_91_3 dX8_checkedField_21 dX8_checkedField_24 dX8_checkedField_25 dX8_checkedField_28 dX8_checkedField_31 (Nat.le_of_ble_eq_true rfl) (Nat.le_of_ble_eq_true rfl) (Nat.le_of_ble_eq_true rfl) (Nat.le_of_ble_eq_true rfl) (Nat.le_of_ble_eq_true rfl) (Nat.le_of_ble_eq_true rfl) (fun n9 hn9 => ⟨_, ((sX8_checkedField_u Z t0 j0).trans ((oc_s he2).trans (if_pos c_18))), rfl, hk, ⟨rfl, rfl, rfl, rfl⟩⟩)
def sX8_fieldKind (Z : Ho) (t0 : Int32) (j0 : Int32) : Rs Int32 := rc (sX8_checkedField Z t0 j0) (fun r5 T6 => .inl (vp_nar .char (kf r5), T6)) (fun E9 T9 => .inr (E9, T9))
theorem sX8_fieldKind_u (Z : Ho) (t0 : Int32) (j0 : Int32) : sX8_fieldKind Z t0 j0 = rc (sX8_checkedField Z t0 j0) (fun r5 T6 => .inl (vp_nar .char (kf r5), T6)) (fun E9 T9 => .inr (E9, T9)) := rfl
set_option maxHeartbeats 4000000 in
set_option maxRecDepth 100000 in
theorem hX8_fieldKind (l : Launch) (D : va_G) (ar : Nat → ClassId) (κ : Nat → Nat) (G : gW) (x : Xo) (Z : Ho) (sz : Nat) (t0 : Int32) (j0 : Int32) (hk : OK x Z) (hlt : l.stackTraces = false) : vx_Met l yX8_fieldKind (lwC yX8_fieldKind cX8_fieldKind 3 (some .char)) (rD 12 1 6) (g_Pc D vwCl (gT ar) (EX1 κ) (ov κ ar x Z G) sz [.ref (x.f .ho), .int t0, .int j0]) (g_Qi D vwCl (g_A (ov κ ar x Z G) sz) (fun r u => ∃ T9 : Ho, sX8_fieldKind Z t0 j0 = .inl (r, T9) ∧ u = (ov κ ar x T9 G, sz) ∧ OK x T9 ∧ SZ T9 Z)) (gX D (g_A (ov κ ar x Z G) sz) (fun E u => ∃ T9 : Ho, sX8_fieldKind Z t0 j0 = .inr (E, T9) ∧ u.1 = ov κ ar x T9 G ∧ OK x T9 ∧ SZ T9 Z)) 1 6 (g_A (ov κ ar x Z G) sz) := by
  refine gx_ofW (by decide +kernel) (Nat.le_of_ble_eq_true rfl) ?_
  intro p e s m below meth c ls S hr hlk ht hE w hl
  have hx := S.1
  have hb := S.2.1
  have hl : lv_has ls 3 [(0, .ref (x.f .ho)), (1, .int t0), (2, .int j0)] := hl
  refine lv_aload_n hx hb dX8_fieldKind_0 rfl (lv_at hl 0 rfl) ?_
  refine lv_iload_n hx hb dX8_fieldKind_1 rfl (lv_at hl 1 rfl) ?_
  refine lv_iload_n hx hb dX8_fieldKind_2 rfl (lv_at hl 2 rfl) ?_
  refine gx_calll w (gx_runV (As := [.int t0, .int j0]) (rest := []) S hE w hl (hX8_checkedField l D ar κ G x Z sz t0 j0 hk  hlt) (k_RX8_243 S.2.2.2.2 ⟨Nat.le_of_ble_eq_true rfl, Nat.le_of_ble_eq_true rfl⟩) (ov_r (t := .ho) (hk.e (.ho) rfl)) rfl rfl rfl rfl (Nat.le_of_ble_eq_true rfl) dX8_fieldKind_3 ⟨Nat.le_of_ble_eq_true rfl, Nat.le_of_ble_eq_true rfl⟩) (fun E ce q9 u H locs hp hnz w hce hv hcl => by obtain ⟨T1, e2, hu9, hk3, sq4⟩ := hp; exact g_pass ht hlk w hce hv hcl ⟨_, ((sX8_fieldKind_u Z t0 j0).trans (rc_x e2)), hu9, hk3, (SZ.t sq4 ⟨rfl, rfl, rfl, rfl⟩)⟩ (Nat.le_of_ble_eq_true rfl) (Nat.le_of_ble_eq_true rfl)) (fun r5 u H locs hp hnz w => ?_)
  obtain ⟨T6, e7, hu9, hk8, sq9⟩ := hp
  subst hu9
  dsimp only at w
  refine g_calli w (g_runS (As := [.long r5]) (rest := []) S hE w hl (c_X8_kindOf l D ar κ (ov κ ar x T6 G) sz r5) (k_RX8_226 S.2.2.2.2 ⟨Nat.le_of_ble_eq_true rfl, Nat.le_of_ble_eq_true rfl⟩) rfl rfl (Nat.le_of_ble_eq_true rfl) dX8_fieldKind_6 ⟨Nat.le_of_ble_eq_true rfl, Nat.le_of_ble_eq_true rfl⟩) (fun r u H locs hp hnz w => ?_)
  obtain ⟨rfl, rfl⟩ := hp
  dsimp only at w
  exact vx_ret (g_zretN (v := vp_nar .char (kf r5)) hx hb hr hlk w (Nat.le_of_ble_eq_true rfl) (Nat.le_of_ble_eq_true rfl) dX8_fieldKind_9 rfl ⟨_, ((sX8_fieldKind_u Z t0 j0).trans (rc_v e7)), rfl, hk8, (SZ.t sq9 ⟨rfl, rfl, rfl, rfl⟩)⟩)
def sX8_fieldValue (Z : Ho) (t0 : Int32) (j0 : Int32) : Rs Int32 := rc (sX8_checkedField Z t0 j0) (fun r5 T6 => .inl (nf r5, T6)) (fun E9 T9 => .inr (E9, T9))
theorem sX8_fieldValue_u (Z : Ho) (t0 : Int32) (j0 : Int32) : sX8_fieldValue Z t0 j0 = rc (sX8_checkedField Z t0 j0) (fun r5 T6 => .inl (nf r5, T6)) (fun E9 T9 => .inr (E9, T9)) := rfl
set_option maxHeartbeats 4000000 in
set_option maxRecDepth 100000 in
theorem hX8_fieldValue (l : Launch) (D : va_G) (ar : Nat → ClassId) (κ : Nat → Nat) (G : gW) (x : Xo) (Z : Ho) (sz : Nat) (t0 : Int32) (j0 : Int32) (hk : OK x Z) (hlt : l.stackTraces = false) : vx_Met l yX8_fieldValue (lwC yX8_fieldValue cX8_fieldValue 3 (some .int)) (rD 12 1 6) (g_Pc D vwCl (gT ar) (EX1 κ) (ov κ ar x Z G) sz [.ref (x.f .ho), .int t0, .int j0]) (g_Qi D vwCl (g_A (ov κ ar x Z G) sz) (fun r u => ∃ T9 : Ho, sX8_fieldValue Z t0 j0 = .inl (r, T9) ∧ u = (ov κ ar x T9 G, sz) ∧ OK x T9 ∧ SZ T9 Z)) (gX D (g_A (ov κ ar x Z G) sz) (fun E u => ∃ T9 : Ho, sX8_fieldValue Z t0 j0 = .inr (E, T9) ∧ u.1 = ov κ ar x T9 G ∧ OK x T9 ∧ SZ T9 Z)) 1 6 (g_A (ov κ ar x Z G) sz) := by
  refine gx_ofW (by decide +kernel) (Nat.le_of_ble_eq_true rfl) ?_
  intro p e s m below meth c ls S hr hlk ht hE w hl
  have hx := S.1
  have hb := S.2.1
  have hl : lv_has ls 3 [(0, .ref (x.f .ho)), (1, .int t0), (2, .int j0)] := hl
  refine lv_aload_n hx hb dX8_fieldValue_0 rfl (lv_at hl 0 rfl) ?_
  refine lv_iload_n hx hb dX8_fieldValue_1 rfl (lv_at hl 1 rfl) ?_
  refine lv_iload_n hx hb dX8_fieldValue_2 rfl (lv_at hl 2 rfl) ?_
  refine gx_calll w (gx_runV (As := [.int t0, .int j0]) (rest := []) S hE w hl (hX8_checkedField l D ar κ G x Z sz t0 j0 hk  hlt) (k_RX8_243 S.2.2.2.2 ⟨Nat.le_of_ble_eq_true rfl, Nat.le_of_ble_eq_true rfl⟩) (ov_r (t := .ho) (hk.e (.ho) rfl)) rfl rfl rfl rfl (Nat.le_of_ble_eq_true rfl) dX8_fieldValue_3 ⟨Nat.le_of_ble_eq_true rfl, Nat.le_of_ble_eq_true rfl⟩) (fun E ce q9 u H locs hp hnz w hce hv hcl => by obtain ⟨T1, e2, hu9, hk3, sq4⟩ := hp; exact g_pass ht hlk w hce hv hcl ⟨_, ((sX8_fieldValue_u Z t0 j0).trans (rc_x e2)), hu9, hk3, (SZ.t sq4 ⟨rfl, rfl, rfl, rfl⟩)⟩ (Nat.le_of_ble_eq_true rfl) (Nat.le_of_ble_eq_true rfl)) (fun r5 u H locs hp hnz w => ?_)
  obtain ⟨T6, e7, hu9, hk8, sq9⟩ := hp
  subst hu9
  dsimp only at w
  refine g_calli w (g_runS (As := [.long r5]) (rest := []) S hE w hl (c_X8_numberOf l D ar κ (ov κ ar x T6 G) sz r5) (k_RX8_230 S.2.2.2.2 ⟨Nat.le_of_ble_eq_true rfl, Nat.le_of_ble_eq_true rfl⟩) rfl rfl (Nat.le_of_ble_eq_true rfl) dX8_fieldValue_6 ⟨Nat.le_of_ble_eq_true rfl, Nat.le_of_ble_eq_true rfl⟩) (fun r u H locs hp hnz w => ?_)
  obtain ⟨rfl, rfl⟩ := hp
  dsimp only at w
  exact vx_ret (g_iret hx hb hr hlk w (Nat.le_of_ble_eq_true rfl) (Nat.le_of_ble_eq_true rfl) dX8_fieldValue_9 ⟨_, ((sX8_fieldValue_u Z t0 j0).trans (rc_v e7)), rfl, hk8, (SZ.t sq9 ⟨rfl, rfl, rfl, rfl⟩)⟩)
def sX8_things (Z : Ho) : Int32 := Z.tc
theorem sX8_things_u (Z : Ho) : sX8_things Z = Z.tc := rfl
set_option maxHeartbeats 4000000 in
set_option maxRecDepth 100000 in
theorem hX8_things (l : Launch) (D : va_G) (ar : Nat → ClassId) (κ : Nat → Nat) (G : gW) (x : Xo) (Z : Ho) (sz : Nat) (hk : OK x Z) : Met l yX8_things (lwC yX8_things cX8_things 1 (some .int)) (rD 2 0 0) (g_Pc D vwCl (gT ar) (EX1 κ) (ov κ ar x Z G) sz [.ref (x.f .ho)]) (g_Qi D vwCl (g_A (ov κ ar x Z G) sz) (fun r u => r = sX8_things Z ∧ u = (ov κ ar x Z G, sz))) 0 0 (g_A (ov κ ar x Z G) sz) := by
  refine g_ofW (by decide +kernel) (Nat.le_of_ble_eq_true rfl) ?_
  intro p e s m below meth c ls S hr hlk hin hE w hl
  have hx := S.1
  have hb := S.2.1
  have hl : lv_has ls 1 [(0, .ref (x.f .ho))] := hl
  refine lv_aload_n hx hb dX8_things_0 rfl (lv_at hl 0 rfl) ?_
  refine gf_RX8_40_14 (v := .ref (x.f .ts)) S hE w (ov_r (t := .ho) (hk.e (.ho) rfl)) rfl dX8_things_1 ?_
  refine gf_RX8_207_11 (v := .int Z.tc) S hE w (ov_r (t := .ts) (hk.e (.ts) rfl)) rfl dX8_things_4 ?_
  exact g_iret hx hb hr hlk w (Nat.le_of_ble_eq_true rfl) (Nat.le_of_ble_eq_true rfl) dX8_things_7 ⟨((sX8_things_u Z)).symm, rfl⟩
def sX8_end (Z : Ho) : Rs Int32 := if Z.fn = 0 then (.inr ("java/lang/IllegalStateException", Z)) else (.inl (Z.fn, ((Z.sfn 0).sst 45)))
theorem sX8_end_u (Z : Ho) : sX8_end Z = if Z.fn = 0 then (.inr ("java/lang/IllegalStateException", Z)) else (.inl (Z.fn, ((Z.sfn 0).sst 45))) := rfl
set_option maxHeartbeats 4000000 in
set_option maxRecDepth 100000 in
theorem hX8_end (l : Launch) (D : va_G) (ar : Nat → ClassId) (κ : Nat → Nat) (G : gW) (x : Xo) (Z : Ho) (sz : Nat) (hk : OK x Z) (hlt : l.stackTraces = false) : vx_Met l yX8_end (lwC yX8_end cX8_end 2 (some .int)) (rD 8 1 6) (g_Pc D vwCl (gT ar) (EX1 κ) (ov κ ar x Z G) sz [.ref (x.f .ho)]) (g_Qi D vwCl (g_A (ov κ ar x Z G) sz) (fun r u => ∃ T9 : Ho, sX8_end Z = .inl (r, T9) ∧ u = (ov κ ar x T9 G, sz) ∧ OK x T9 ∧ SZ T9 Z)) (gX D (g_A (ov κ ar x Z G) sz) (fun E u => ∃ T9 : Ho, sX8_end Z = .inr (E, T9) ∧ u.1 = ov κ ar x T9 G ∧ OK x T9 ∧ SZ T9 Z)) 1 6 (g_A (ov κ ar x Z G) sz) := by
  refine gx_ofW (by decide +kernel) (Nat.le_of_ble_eq_true rfl) ?_
  intro p e s m below meth c ls S hr hlk ht hE w hl
  have hx := S.1
  have hb := S.2.1
  have hl : lv_has ls 2 [(0, .ref (x.f .ho))] := hl
  refine lv_aload_n hx hb dX8_end_0 rfl (lv_at hl 0 rfl) ?_
  refine gf_RX8_50_14 (v := .int Z.fn) S hE w (ov_r (t := .ho) (hk.e (.ho) rfl)) rfl dX8_end_1 ?_
  refine lv_if_ne (tgt := 18) hx hb dX8_end_4 (by decide) (fun c_4 => ?_) (fun c_4 => ?_)
  · refine lv_aload_n hx hb dX8_end_18 rfl (lv_at hl 0 rfl) ?_
    refine gf_RX8_50_14 (v := .int Z.fn) S hE w (ov_r (t := .ho) (hk.e (.ho) rfl)) rfl dX8_end_19 ?_
    refine lv_istore_n (lv' := [(1, .int Z.fn), (0, .ref (x.f .ho))]) hx hb dX8_end_22 rfl hl (by decide) rfl (fun ls hl => ?_)
    refine lv_aload_n hx hb dX8_end_23 rfl (lv_at hl 1 rfl) ?_
    refine lv_iconst (v := 0) hx hb dX8_end_24 (by decide) ?_
    refine pf_RX8_50_14 (fs1 := [.ref (x.f .cl), .ref (x.f .me), .ref (x.f (.ro Z.ty)), .int x.ht, .ref (x.f .gl), .ref (x.f .ts), .ref (x.f .fs), .int 0, .int Z.st, .int Z.rs, .long Z.an, .int Z.sp, .ref (x.f .wr)]) S hE w (ov_r (t := .ho) (hk.e (.ho) rfl)) rfl rfl (Nat.le_of_ble_eq_true rfl) rfl dX8_end_25 (fun H locs w => ?_)
    have w : g_S D vwCl (g_A (ov κ ar x Z G) sz) s.heap (ov κ ar x (Z.sfn 0) G) H _ sz := g_eqw w (ov_who (S := Z) (T := (Z.sfn 0)) hk.v (hk.e (.ho) rfl) rfl Ho_ab_sfn Ho_fc_sfn Ho_cn_sfn Ho_me_sfn Ho_nt_sfn Ho_nr_sfn Ho_to_sfn Ho_ro_sfn Ho_gl_sfn Ho_al_sfn Ho_re_sfn Ho_th_sfn Ho_tc_sfn Ho_rc_sfn Ho_mk_sfn Ho_fr_sfn Ho_np_sfn Ho_pg_sfn Ho_wc_sfn Ho_ws_sfn Ho_wp_sfn)
    refine lv_aload_n hx hb dX8_end_28 rfl (lv_at hl 1 rfl) ?_
    refine lv_bipush (v := 45) hx hb dX8_end_29 (by decide) ?_
    refine pf_RX8_53_14 (fs1 := [.ref (x.f .cl), .ref (x.f .me), .ref (x.f (.ro Z.ty)), .int x.ht, .ref (x.f .gl), .ref (x.f .ts), .ref (x.f .fs), .int 0, .int 45, .int Z.rs, .long Z.an, .int Z.sp, .ref (x.f .wr)]) S hE w (ov_r (t := .ho) (hk.e (.ho) rfl)) rfl rfl (Nat.le_of_ble_eq_true rfl) rfl dX8_end_31 (fun H locs w => ?_)
    have w : g_S D vwCl (g_A (ov κ ar x Z G) sz) s.heap (ov κ ar x ((Z.sfn 0).sst 45) G) H _ sz := g_eqw w (ov_who (S := (Z.sfn 0)) (T := ((Z.sfn 0).sst 45)) hk.v (hk.e (.ho) rfl) rfl ((Ho_ab_sst.trans Ho_ab_sfn).trans Ho_ab_sfn.symm) ((Ho_fc_sst.trans Ho_fc_sfn).trans Ho_fc_sfn.symm) ((Ho_cn_sst.trans Ho_cn_sfn).trans Ho_cn_sfn.symm) ((Ho_me_sst.trans Ho_me_sfn).trans Ho_me_sfn.symm) ((Ho_nt_sst.trans Ho_nt_sfn).trans Ho_nt_sfn.symm) ((Ho_nr_sst.trans Ho_nr_sfn).trans Ho_nr_sfn.symm) ((Ho_to_sst.trans Ho_to_sfn).trans Ho_to_sfn.symm) ((Ho_ro_sst.trans Ho_ro_sfn).trans Ho_ro_sfn.symm) ((Ho_gl_sst.trans Ho_gl_sfn).trans Ho_gl_sfn.symm) ((Ho_al_sst.trans Ho_al_sfn).trans Ho_al_sfn.symm) ((Ho_re_sst.trans Ho_re_sfn).trans Ho_re_sfn.symm) ((Ho_th_sst.trans Ho_th_sfn).trans Ho_th_sfn.symm) ((Ho_tc_sst.trans Ho_tc_sfn).trans Ho_tc_sfn.symm) ((Ho_rc_sst.trans Ho_rc_sfn).trans Ho_rc_sfn.symm) ((Ho_mk_sst.trans Ho_mk_sfn).trans Ho_mk_sfn.symm) ((Ho_fr_sst.trans Ho_fr_sfn).trans Ho_fr_sfn.symm) ((Ho_np_sst.trans Ho_np_sfn).trans Ho_np_sfn.symm) ((Ho_pg_sst.trans Ho_pg_sfn).trans Ho_pg_sfn.symm) ((Ho_wc_sst.trans Ho_wc_sfn).trans Ho_wc_sfn.symm) ((Ho_ws_sst.trans Ho_ws_sfn).trans Ho_ws_sfn.symm) ((Ho_wp_sst.trans Ho_wp_sfn).trans Ho_wp_sfn.symm))
    refine lv_iload_n hx hb dX8_end_34 rfl (lv_at hl 0 rfl) ?_
    exact vx_ret (g_iret hx hb hr hlk w (Nat.le_of_ble_eq_true rfl) (Nat.le_of_ble_eq_true rfl) dX8_end_35 ⟨_, ((sX8_end_u Z).trans (if_neg c_4)), rfl, (hk.plain (T := ((Z.sfn 0).sst 45)) rfl rfl rfl rfl rfl rfl rfl), ⟨rfl, rfl, rfl, rfl⟩⟩)
  · exact g_throwSW (names := ["java/lang/RuntimeException", "java/lang/Exception"]) hlt S hE w hl ht hlk (by decide +kernel) (by decide +kernel) m_3_58 m_1_19 (List.mem_of_getElem? (i := 7) rfl) th_RX8_113_117_1 th_RX8_113_117_2 th_RX8_113_117_3 dX8_end_7 dX8_end_10 dX8_end_11 dX8_end_14 dX8_end_17 (Nat.le_of_ble_eq_true rfl) (Nat.le_of_ble_eq_true rfl) (Nat.le_of_ble_eq_true rfl) (Nat.le_of_ble_eq_true rfl) (Nat.le_of_ble_eq_true rfl) (Nat.le_of_ble_eq_true rfl) (fun n9 hn9 => ⟨_, ((sX8_end_u Z).trans (if_pos c_4)), rfl, hk, ⟨rfl, rfl, rfl, rfl⟩⟩)
def sX8_state (Z : Ho) : Int32 := vp_nar .char Z.st
theorem sX8_state_u (Z : Ho) : sX8_state Z = vp_nar .char Z.st := rfl
set_option maxHeartbeats 4000000 in
set_option maxRecDepth 100000 in
theorem hX8_state (l : Launch) (D : va_G) (ar : Nat → ClassId) (κ : Nat → Nat) (G : gW) (x : Xo) (Z : Ho) (sz : Nat) (hk : OK x Z) : Met l yX8_state (lwC yX8_state cX8_state 1 (some .char)) (rD 2 0 0) (g_Pc D vwCl (gT ar) (EX1 κ) (ov κ ar x Z G) sz [.ref (x.f .ho)]) (g_Qi D vwCl (g_A (ov κ ar x Z G) sz) (fun r u => r = sX8_state Z ∧ u = (ov κ ar x Z G, sz))) 0 0 (g_A (ov κ ar x Z G) sz) := by
  refine g_ofW (by decide +kernel) (Nat.le_of_ble_eq_true rfl) ?_
  intro p e s m below meth c ls S hr hlk hin hE w hl
  have hx := S.1
  have hb := S.2.1
  have hl : lv_has ls 1 [(0, .ref (x.f .ho))] := hl
  refine lv_aload_n hx hb dX8_state_0 rfl (lv_at hl 0 rfl) ?_
  refine gf_RX8_53_14 (v := .int Z.st) S hE w (ov_r (t := .ho) (hk.e (.ho) rfl)) rfl dX8_state_1 ?_
  exact g_zretN (v := vp_nar .char Z.st) hx hb hr hlk w (Nat.le_of_ble_eq_true rfl) (Nat.le_of_ble_eq_true rfl) dX8_state_4 rfl ⟨((sX8_state_u Z)).symm, rfl⟩
def sX8_reason (Z : Ho) : Rs Int32 := if Z.st = 120 then (.inl (vp_nar .char Z.rs, Z)) else (.inr ("java/util/NoSuchElementException", Z))
theorem sX8_reason_u (Z : Ho) : sX8_reason Z = if Z.st = 120 then (.inl (vp_nar .char Z.rs, Z)) else (.inr ("java/util/NoSuchElementException", Z)) := rfl
set_option maxHeartbeats 4000000 in
set_option maxRecDepth 100000 in
theorem hX8_reason (l : Launch) (D : va_G) (ar : Nat → ClassId) (κ : Nat → Nat) (G : gW) (x : Xo) (Z : Ho) (sz : Nat) (hk : OK x Z) (hlt : l.stackTraces = false) : vx_Met l yX8_reason (lwC yX8_reason cX8_reason 1 (some .char)) (rD 8 1 6) (g_Pc D vwCl (gT ar) (EX1 κ) (ov κ ar x Z G) sz [.ref (x.f .ho)]) (g_Qi D vwCl (g_A (ov κ ar x Z G) sz) (fun r u => ∃ T9 : Ho, sX8_reason Z = .inl (r, T9) ∧ u = (ov κ ar x T9 G, sz) ∧ OK x T9 ∧ SZ T9 Z)) (gX D (g_A (ov κ ar x Z G) sz) (fun E u => ∃ T9 : Ho, sX8_reason Z = .inr (E, T9) ∧ u.1 = ov κ ar x T9 G ∧ OK x T9 ∧ SZ T9 Z)) 1 6 (g_A (ov κ ar x Z G) sz) := by
  refine gx_ofW (by decide +kernel) (Nat.le_of_ble_eq_true rfl) ?_
  intro p e s m below meth c ls S hr hlk ht hE w hl
  have hx := S.1
  have hb := S.2.1
  have hl : lv_has ls 1 [(0, .ref (x.f .ho))] := hl
  refine lv_aload_n hx hb dX8_reason_0 rfl (lv_at hl 0 rfl) ?_
  refine gf_RX8_53_14 (v := .int Z.st) S hE w (ov_r (t := .ho) (hk.e (.ho) rfl)) rfl dX8_reason_1 ?_
  refine lv_bipush (v := 120) hx hb dX8_reason_4 (by decide) ?_
  refine lv_icmp_eq (tgt := 20) hx hb dX8_reason_6 (by decide) (fun c_6 => ?_) (fun c_6 => ?_)
  · refine lv_aload_n hx hb dX8_reason_20 rfl (lv_at hl 0 rfl) ?_
    refine gf_RX8_57_14 (v := .int Z.rs) S hE w (ov_r (t := .ho) (hk.e (.ho) rfl)) rfl dX8_reason_21 ?_
    exact vx_ret (g_zretN (v := vp_nar .char Z.rs) hx hb hr hlk w (Nat.le_of_ble_eq_true rfl) (Nat.le_of_ble_eq_true rfl) dX8_reason_24 rfl ⟨_, ((sX8_reason_u Z).trans (if_pos c_6)), rfl, hk, ⟨rfl, rfl, rfl, rfl⟩⟩)
  · exact g_throwNW (Y := "java/lang/RuntimeException") (r := ["java/lang/Exception"]) hlt S hE w hl ht hlk (by decide +kernel) (by decide +kernel) (by decide +kernel) m_2_176 m_1_38 (List.mem_of_getElem? (i := 65) rfl) nse_1 nse_2 nse_3 dX8_reason_9 dX8_reason_12 dX8_reason_13 dX8_reason_16 dX8_reason_19 (Nat.le_of_ble_eq_true rfl) (Nat.le_of_ble_eq_true rfl) (Nat.le_of_ble_eq_true rfl) (Nat.le_of_ble_eq_true rfl) (Nat.le_of_ble_eq_true rfl) (Nat.le_of_ble_eq_true rfl) (fun n9 hn9 => ⟨_, ((sX8_reason_u Z).trans (if_neg c_6)), rfl, hk, ⟨rfl, rfl, rfl, rfl⟩⟩)
def sX8_checkedAnswer (Z : Ho) : Rs Int64 := if Z.st = 114 then (.inl (Z.an, Z)) else (.inr ("java/util/NoSuchElementException", Z))
theorem sX8_checkedAnswer_u (Z : Ho) : sX8_checkedAnswer Z = if Z.st = 114 then (.inl (Z.an, Z)) else (.inr ("java/util/NoSuchElementException", Z)) := rfl
set_option maxHeartbeats 4000000 in
set_option maxRecDepth 100000 in
theorem hX8_checkedAnswer (l : Launch) (D : va_G) (ar : Nat → ClassId) (κ : Nat → Nat) (G : gW) (x : Xo) (Z : Ho) (sz : Nat) (hk : OK x Z) (hlt : l.stackTraces = false) : vx_Met l yX8_checkedAnswer (lwC yX8_checkedAnswer cX8_checkedAnswer 1 (some .long)) (rD 8 1 6) (g_Pc D vwCl (gT ar) (EX1 κ) (ov κ ar x Z G) sz [.ref (x.f .ho)]) (g_Ql D vwCl (g_A (ov κ ar x Z G) sz) (fun r u => ∃ T9 : Ho, sX8_checkedAnswer Z = .inl (r, T9) ∧ u = (ov κ ar x T9 G, sz) ∧ OK x T9 ∧ SZ T9 Z)) (gX D (g_A (ov κ ar x Z G) sz) (fun E u => ∃ T9 : Ho, sX8_checkedAnswer Z = .inr (E, T9) ∧ u.1 = ov κ ar x T9 G ∧ OK x T9 ∧ SZ T9 Z)) 1 6 (g_A (ov κ ar x Z G) sz) := by
  refine gx_ofW (by decide +kernel) (Nat.le_of_ble_eq_true rfl) ?_
  intro p e s m below meth c ls S hr hlk ht hE w hl
  have hx := S.1
  have hb := S.2.1
  have hl : lv_has ls 1 [(0, .ref (x.f .ho))] := hl
  refine lv_aload_n hx hb dX8_checkedAnswer_0 rfl (lv_at hl 0 rfl) ?_
  refine gf_RX8_53_14 (v := .int Z.st) S hE w (ov_r (t := .ho) (hk.e (.ho) rfl)) rfl dX8_checkedAnswer_1 ?_
  refine lv_bipush (v := 114) hx hb dX8_checkedAnswer_4 (by decide) ?_
  refine lv_icmp_eq (tgt := 20) hx hb dX8_checkedAnswer_6 (by decide) (fun c_6 => ?_) (fun c_6 => ?_)
  · refine lv_aload_n hx hb dX8_checkedAnswer_20 rfl (lv_at hl 0 rfl) ?_
    refine gf_RX8_62_14 (v := .long Z.an) S hE w (ov_r (t := .ho) (hk.e (.ho) rfl)) rfl dX8_checkedAnswer_21 ?_
    exact vx_ret (g_lret hx hb hr hlk w (Nat.le_of_ble_eq_true rfl) (Nat.le_of_ble_eq_true rfl) dX8_checkedAnswer_24 ⟨_, ((sX8_checkedAnswer_u Z).trans (if_pos c_6)), rfl, hk, ⟨rfl, rfl, rfl, rfl⟩⟩)
  · exact g_throwNW (Y := "java/lang/RuntimeException") (r := ["java/lang/Exception"]) hlt S hE w hl ht hlk (by decide +kernel) (by decide +kernel) (by decide +kernel) m_2_176 m_1_38 (List.mem_of_getElem? (i := 61) rfl) nse_1 nse_2 nse_3 dX8_checkedAnswer_9 dX8_checkedAnswer_12 dX8_checkedAnswer_13 dX8_checkedAnswer_16 dX8_checkedAnswer_19 (Nat.le_of_ble_eq_true rfl) (Nat.le_of_ble_eq_true rfl) (Nat.le_of_ble_eq_true rfl) (Nat.le_of_ble_eq_true rfl) (Nat.le_of_ble_eq_true rfl) (Nat.le_of_ble_eq_true rfl) (fun n9 hn9 => ⟨_, ((sX8_checkedAnswer_u Z).trans (if_neg c_6)), rfl, hk, ⟨rfl, rfl, rfl, rfl⟩⟩)
def sX8_answerKind (Z : Ho) : Rs Int32 := rc (sX8_checkedAnswer Z) (fun r5 T6 => .inl (vp_nar .char (kf r5), T6)) (fun E9 T9 => .inr (E9, T9))
theorem sX8_answerKind_u (Z : Ho) : sX8_answerKind Z = rc (sX8_checkedAnswer Z) (fun r5 T6 => .inl (vp_nar .char (kf r5), T6)) (fun E9 T9 => .inr (E9, T9)) := rfl
set_option maxHeartbeats 4000000 in
set_option maxRecDepth 100000 in
theorem hX8_answerKind (l : Launch) (D : va_G) (ar : Nat → ClassId) (κ : Nat → Nat) (G : gW) (x : Xo) (Z : Ho) (sz : Nat) (hk : OK x Z) (hlt : l.stackTraces = false) : vx_Met l yX8_answerKind (lwC yX8_answerKind cX8_answerKind 1 (some .char)) (rD 9 1 6) (g_Pc D vwCl (gT ar) (EX1 κ) (ov κ ar x Z G) sz [.ref (x.f .ho)]) (g_Qi D vwCl (g_A (ov κ ar x Z G) sz) (fun r u => ∃ T9 : Ho, sX8_answerKind Z = .inl (r, T9) ∧ u = (ov κ ar x T9 G, sz) ∧ OK x T9 ∧ SZ T9 Z)) (gX D (g_A (ov κ ar x Z G) sz) (fun E u => ∃ T9 : Ho, sX8_answerKind Z = .inr (E, T9) ∧ u.1 = ov κ ar x T9 G ∧ OK x T9 ∧ SZ T9 Z)) 1 6 (g_A (ov κ ar x Z G) sz) := by
  refine gx_ofW (by decide +kernel) (Nat.le_of_ble_eq_true rfl) ?_
  intro p e s m below meth c ls S hr hlk ht hE w hl
  have hx := S.1
  have hb := S.2.1
  have hl : lv_has ls 1 [(0, .ref (x.f .ho))] := hl
  refine lv_aload_n hx hb dX8_answerKind_0 rfl (lv_at hl 0 rfl) ?_
  refine gx_calll w (gx_runV (As := []) (rest := []) S hE w hl (hX8_checkedAnswer l D ar κ G x Z sz  hk  hlt) (k_RX8_312 S.2.2.2.2 ⟨Nat.le_of_ble_eq_true rfl, Nat.le_of_ble_eq_true rfl⟩) (ov_r (t := .ho) (hk.e (.ho) rfl)) rfl rfl rfl rfl (Nat.le_of_ble_eq_true rfl) dX8_answerKind_1 ⟨Nat.le_of_ble_eq_true rfl, Nat.le_of_ble_eq_true rfl⟩) (fun E ce q9 u H locs hp hnz w hce hv hcl => by obtain ⟨T1, e2, hu9, hk3, sq4⟩ := hp; exact g_pass ht hlk w hce hv hcl ⟨_, ((sX8_answerKind_u Z).trans (rc_x e2)), hu9, hk3, (SZ.t sq4 ⟨rfl, rfl, rfl, rfl⟩)⟩ (Nat.le_of_ble_eq_true rfl) (Nat.le_of_ble_eq_true rfl)) (fun r5 u H locs hp hnz w => ?_)
  obtain ⟨T6, e7, hu9, hk8, sq9⟩ := hp
  subst hu9
  dsimp only at w
  refine g_calli w (g_runS (As := [.long r5]) (rest := []) S hE w hl (c_X8_kindOf l D ar κ (ov κ ar x T6 G) sz r5) (k_RX8_226 S.2.2.2.2 ⟨Nat.le_of_ble_eq_true rfl, Nat.le_of_ble_eq_true rfl⟩) rfl rfl (Nat.le_of_ble_eq_true rfl) dX8_answerKind_4 ⟨Nat.le_of_ble_eq_true rfl, Nat.le_of_ble_eq_true rfl⟩) (fun r u H locs hp hnz w => ?_)
  obtain ⟨rfl, rfl⟩ := hp
  dsimp only at w
  exact vx_ret (g_zretN (v := vp_nar .char (kf r5)) hx hb hr hlk w (Nat.le_of_ble_eq_true rfl) (Nat.le_of_ble_eq_true rfl) dX8_answerKind_7 rfl ⟨_, ((sX8_answerKind_u Z).trans (rc_v e7)), rfl, hk8, (SZ.t sq9 ⟨rfl, rfl, rfl, rfl⟩)⟩)
def sX8_answer (Z : Ho) : Rs Int32 := rc (sX8_checkedAnswer Z) (fun r5 T6 => .inl (nf r5, T6)) (fun E9 T9 => .inr (E9, T9))
theorem sX8_answer_u (Z : Ho) : sX8_answer Z = rc (sX8_checkedAnswer Z) (fun r5 T6 => .inl (nf r5, T6)) (fun E9 T9 => .inr (E9, T9)) := rfl
set_option maxHeartbeats 4000000 in
set_option maxRecDepth 100000 in
theorem hX8_answer (l : Launch) (D : va_G) (ar : Nat → ClassId) (κ : Nat → Nat) (G : gW) (x : Xo) (Z : Ho) (sz : Nat) (hk : OK x Z) (hlt : l.stackTraces = false) : vx_Met l yX8_answer (lwC yX8_answer cX8_answer 1 (some .int)) (rD 9 1 6) (g_Pc D vwCl (gT ar) (EX1 κ) (ov κ ar x Z G) sz [.ref (x.f .ho)]) (g_Qi D vwCl (g_A (ov κ ar x Z G) sz) (fun r u => ∃ T9 : Ho, sX8_answer Z = .inl (r, T9) ∧ u = (ov κ ar x T9 G, sz) ∧ OK x T9 ∧ SZ T9 Z)) (gX D (g_A (ov κ ar x Z G) sz) (fun E u => ∃ T9 : Ho, sX8_answer Z = .inr (E, T9) ∧ u.1 = ov κ ar x T9 G ∧ OK x T9 ∧ SZ T9 Z)) 1 6 (g_A (ov κ ar x Z G) sz) := by
  refine gx_ofW (by decide +kernel) (Nat.le_of_ble_eq_true rfl) ?_
  intro p e s m below meth c ls S hr hlk ht hE w hl
  have hx := S.1
  have hb := S.2.1
  have hl : lv_has ls 1 [(0, .ref (x.f .ho))] := hl
  refine lv_aload_n hx hb dX8_answer_0 rfl (lv_at hl 0 rfl) ?_
  refine gx_calll w (gx_runV (As := []) (rest := []) S hE w hl (hX8_checkedAnswer l D ar κ G x Z sz  hk  hlt) (k_RX8_312 S.2.2.2.2 ⟨Nat.le_of_ble_eq_true rfl, Nat.le_of_ble_eq_true rfl⟩) (ov_r (t := .ho) (hk.e (.ho) rfl)) rfl rfl rfl rfl (Nat.le_of_ble_eq_true rfl) dX8_answer_1 ⟨Nat.le_of_ble_eq_true rfl, Nat.le_of_ble_eq_true rfl⟩) (fun E ce q9 u H locs hp hnz w hce hv hcl => by obtain ⟨T1, e2, hu9, hk3, sq4⟩ := hp; exact g_pass ht hlk w hce hv hcl ⟨_, ((sX8_answer_u Z).trans (rc_x e2)), hu9, hk3, (SZ.t sq4 ⟨rfl, rfl, rfl, rfl⟩)⟩ (Nat.le_of_ble_eq_true rfl) (Nat.le_of_ble_eq_true rfl)) (fun r5 u H locs hp hnz w => ?_)
  obtain ⟨T6, e7, hu9, hk8, sq9⟩ := hp
  subst hu9
  dsimp only at w
  refine g_calli w (g_runS (As := [.long r5]) (rest := []) S hE w hl (c_X8_numberOf l D ar κ (ov κ ar x T6 G) sz r5) (k_RX8_230 S.2.2.2.2 ⟨Nat.le_of_ble_eq_true rfl, Nat.le_of_ble_eq_true rfl⟩) rfl rfl (Nat.le_of_ble_eq_true rfl) dX8_answer_4 ⟨Nat.le_of_ble_eq_true rfl, Nat.le_of_ble_eq_true rfl⟩) (fun r u H locs hp hnz w => ?_)
  obtain ⟨rfl, rfl⟩ := hp
  dsimp only at w
  exact vx_ret (g_iret hx hb hr hlk w (Nat.le_of_ble_eq_true rfl) (Nat.le_of_ble_eq_true rfl) dX8_answer_7 ⟨_, ((sX8_answer_u Z).trans (rc_v e7)), rfl, hk8, (SZ.t sq9 ⟨rfl, rfl, rfl, rfl⟩)⟩)
def sX8_frames (Z : Ho) : Int32 := Z.fn
theorem sX8_frames_u (Z : Ho) : sX8_frames Z = Z.fn := rfl
set_option maxHeartbeats 4000000 in
set_option maxRecDepth 100000 in
theorem hX8_frames (l : Launch) (D : va_G) (ar : Nat → ClassId) (κ : Nat → Nat) (G : gW) (x : Xo) (Z : Ho) (sz : Nat) (hk : OK x Z) : Met l yX8_frames (lwC yX8_frames cX8_frames 1 (some .int)) (rD 2 0 0) (g_Pc D vwCl (gT ar) (EX1 κ) (ov κ ar x Z G) sz [.ref (x.f .ho)]) (g_Qi D vwCl (g_A (ov κ ar x Z G) sz) (fun r u => r = sX8_frames Z ∧ u = (ov κ ar x Z G, sz))) 0 0 (g_A (ov κ ar x Z G) sz) := by
  refine g_ofW (by decide +kernel) (Nat.le_of_ble_eq_true rfl) ?_
  intro p e s m below meth c ls S hr hlk hin hE w hl
  have hx := S.1
  have hb := S.2.1
  have hl : lv_has ls 1 [(0, .ref (x.f .ho))] := hl
  refine lv_aload_n hx hb dX8_frames_0 rfl (lv_at hl 0 rfl) ?_
  refine gf_RX8_50_14 (v := .int Z.fn) S hE w (ov_r (t := .ho) (hk.e (.ho) rfl)) rfl dX8_frames_1 ?_
  exact g_iret hx hb hr hlk w (Nat.le_of_ble_eq_true rfl) (Nat.le_of_ble_eq_true rfl) dX8_frames_4 ⟨((sX8_frames_u Z)).symm, rfl⟩
def sX8_checkedFrame (Z : Ho) (j0 : Int32) : Rs (Fin 12) := if isB j0 Z.fn = 0 then (.inr ("java/lang/IndexOutOfBoundsException", Z)) else (oc (sX8_frameAt Z j0) (.inr ("java/lang/IndexOutOfBoundsException", Z)) (fun k1 => .inl (k1, Z)))
theorem sX8_checkedFrame_u (Z : Ho) (j0 : Int32) : sX8_checkedFrame Z j0 = if isB j0 Z.fn = 0 then (.inr ("java/lang/IndexOutOfBoundsException", Z)) else (oc (sX8_frameAt Z j0) (.inr ("java/lang/IndexOutOfBoundsException", Z)) (fun k1 => .inl (k1, Z))) := rfl
set_option maxHeartbeats 4000000 in
set_option maxRecDepth 100000 in
theorem hX8_checkedFrame (l : Launch) (D : va_G) (ar : Nat → ClassId) (κ : Nat → Nat) (G : gW) (x : Xo) (Z : Ho) (sz : Nat) (j0 : Int32) (hk : OK x Z) (hlt : l.stackTraces = false) : vx_Met l yX8_checkedFrame (lwC yX8_checkedFrame cX8_checkedFrame 3 (some (.object "Sendhouse$Frame"))) (rD 10 1 6) (g_Pc D vwCl (gT ar) (EX1 κ) (ov κ ar x Z G) sz [.ref (x.f .ho), .int j0]) (g_Qq D vwCl (g_A (ov κ ar x Z G) sz) (fun r u => ∃ r9 T9, sX8_checkedFrame Z j0 = .inl (r9, T9) ∧ r = (fun k9 => some (x.f (.fr k9))) r9 ∧ u = (ov κ ar x T9 G, sz) ∧ OK x T9 ∧ SZ T9 Z)) (gX D (g_A (ov κ ar x Z G) sz) (fun E u => ∃ T9 : Ho, sX8_checkedFrame Z j0 = .inr (E, T9) ∧ u.1 = ov κ ar x T9 G ∧ OK x T9 ∧ SZ T9 Z)) 1 6 (g_A (ov κ ar x Z G) sz) := by
  refine gx_ofW (by decide +kernel) (Nat.le_of_ble_eq_true rfl) ?_
  intro p e s m below meth c ls S hr hlk ht hE w hl
  have hx := S.1
  have hb := S.2.1
  have hl : lv_has ls 3 [(0, .ref (x.f .ho)), (1, .int j0)] := hl
  refine lv_iload_n hx hb dX8_checkedFrame_0 rfl (lv_at hl 1 rfl) ?_
  refine lv_aload_n hx hb dX8_checkedFrame_1 rfl (lv_at hl 0 rfl) ?_
  refine gf_RX8_50_14 (v := .int Z.fn) S hE w (ov_r (t := .ho) (hk.e (.ho) rfl)) rfl dX8_checkedFrame_2 ?_
  refine g_calli w (g_runS (As := [.int j0, .int Z.fn]) (rest := []) S hE w hl (c_X8_isBelow l D ar κ (ov κ ar x Z G) sz j0 Z.fn) (k_RX8_97 S.2.2.2.2 ⟨Nat.le_of_ble_eq_true rfl, Nat.le_of_ble_eq_true rfl⟩) rfl rfl (Nat.le_of_ble_eq_true rfl) dX8_checkedFrame_5 ⟨Nat.le_of_ble_eq_true rfl, Nat.le_of_ble_eq_true rfl⟩) (fun r u H locs hp hnz w => ?_)
  obtain ⟨rfl, rfl⟩ := hp
  dsimp only at w
  refine lv_if_eq (tgt := 19) hx hb dX8_checkedFrame_8 (by decide) (fun c_8 => ?_) (fun c_8 => ?_)
  · refine lv_null hx hb dX8_checkedFrame_19 ?_
    refine lv_astore_nN (lv' := [(2, .null), (0, .ref (x.f .ho)), (1, .int j0)]) hx hb dX8_checkedFrame_20 rfl hl (by decide) rfl (fun ls hl => ?_)
    refine lv_aload_nN hx hb dX8_checkedFrame_21 rfl (lv_at hl 0 rfl) ?_
    refine lv_ifnonnullN hx hb dX8_checkedFrame_22 ?_
    exact g_throwSW (names := ["java/lang/RuntimeException", "java/lang/Exception"]) hlt S hE w hl ht hlk (by decide +kernel) (by decide +kernel) m_2_159 m_1_15 (List.mem_of_getElem? (i := 62) rfl) th_RX8_87_91_1 th_RX8_87_91_2 th_RX8_87_91_3 dX8_checkedFrame_25 dX8_checkedFrame_28 dX8_checkedFrame_29 dX8_checkedFrame_32 dX8_checkedFrame_35 (Nat.le_of_ble_eq_true rfl) (Nat.le_of_ble_eq_true rfl) (Nat.le_of_ble_eq_true rfl) (Nat.le_of_ble_eq_true rfl) (Nat.le_of_ble_eq_true rfl) (Nat.le_of_ble_eq_true rfl) (fun n9 hn9 => ⟨_, ((sX8_checkedFrame_u Z j0).trans (if_pos c_8)), rfl, hk, ⟨rfl, rfl, rfl, rfl⟩⟩)
  · refine lv_aload_n hx hb dX8_checkedFrame_11 rfl (lv_at hl 0 rfl) ?_
    refine lv_iload_n hx hb dX8_checkedFrame_12 rfl (lv_at hl 1 rfl) ?_
    refine g_callq w (g_runV (As := [.int j0]) (rest := []) S hE w hl (hX8_frameAt l D ar κ G x Z sz j0 hk ) (k_RX8_251 S.2.2.2.2 ⟨Nat.le_of_ble_eq_true rfl, Nat.le_of_ble_eq_true rfl⟩) (ov_r (t := .ho) (hk.e (.ho) rfl)) rfl rfl rfl rfl (Nat.le_of_ble_eq_true rfl) dX8_checkedFrame_13 ⟨Nat.le_of_ble_eq_true rfl, Nat.le_of_ble_eq_true rfl⟩) (fun r u H locs hp hnz w => ?_)
    obtain ⟨rfl, rfl⟩ := hp
    dsimp only at w
    refine lv_goto (tgt := 20) hx hb dX8_checkedFrame_16 (by decide) ?_
    refine lv_astore_nQ (lv' := [(2, va_rf ((sX8_frameAt Z j0).map (fun k9 => x.f (.fr k9)))), (0, .ref (x.f .ho)), (1, .int j0)]) hx hb dX8_checkedFrame_20 rfl hl (by decide) rfl (fun ls hl => ?_)
    refine lv_aload_nQ hx hb dX8_checkedFrame_21 rfl (lv_at hl 0 rfl) ?_
    rcases he2 : sX8_frameAt Z j0 with _ | k1
    · have hl : lv_has ls 3 [(2, .null), (0, .ref (x.f .ho)), (1, .int j0)] := by rw [he2] at hl; exact hl
      show W p l e _ s m _ below meth c _ _ _ _ _ (F0 m 22 ls [.null])
      refine lv_ifnonnullN hx hb dX8_checkedFrame_22 ?_
      exact g_throwSW (names := ["java/lang/RuntimeException", "java/lang/Exception"]) hlt S hE w hl ht hlk (by decide +kernel) (by decide +kernel) m_2_159 m_1_15 (List.mem_of_getElem? (i := 62) rfl) th_RX8_87_91_1 th_RX8_87_91_2 th_RX8_87_91_3 dX8_checkedFrame_25 dX8_checkedFrame_28 dX8_checkedFrame_29 dX8_checkedFrame_32 dX8_checkedFrame_35 (Nat.le_of_ble_eq_true rfl) (Nat.le_of_ble_eq_true rfl) (Nat.le_of_ble_eq_true rfl) (Nat.le_of_ble_eq_true rfl) (Nat.le_of_ble_eq_true rfl) (Nat.le_of_ble_eq_true rfl) (fun n9 hn9 => ⟨_, ((sX8_checkedFrame_u Z j0).trans ((if_neg c_8).trans (oc_n he2))), rfl, hk, ⟨rfl, rfl, rfl, rfl⟩⟩)
    · have hl : lv_has ls 3 [(2, .ref (x.f (.fr k1))), (0, .ref (x.f .ho)), (1, .int j0)] := by rw [he2] at hl; exact hl
      show W p l e _ s m _ below meth c _ _ _ _ _ (F0 m 22 ls [.ref (x.f (.fr k1))])
      refine lv_ifnonnull (tgt := 36) hx hb dX8_checkedFrame_22 (by decide) ?_
      refine lv_aload_n hx hb dX8_checkedFrame_36 rfl (lv_at hl 0 rfl) ?_
      exact vx_ret (g_qret (r := (some (x.f (.fr k1)))) hx hb hr (Or.inl ⟨_, rfl⟩) hlk w (Nat.le_of_ble_eq_true rfl) (Nat.le_of_ble_eq_true rfl) dX8_checkedFrame_37 ⟨_, _, ((sX8_checkedFrame_u Z j0).trans ((if_neg c_8).trans (oc_s he2))), rfl, rfl, hk, ⟨rfl, rfl, rfl, rfl⟩⟩)
def sX8_checkedSlot (Z : Ho) (j0 : Int32) (c0 : Int32) (n0 : Int32) : Rs Int64 := rc (sX8_checkedFrame Z j0) (fun r8 T5 => if c0 = 115 then (.inl ((T5.fr r8).v, T5)) else (if c0 = 97 then (if isB n0 (sX1_placesOf T5 r8 c0) = 0 then (.inr ("java/util/NoSuchElementException", T5)) else (.inl (sX1_placeOf T5 r8 c0 n0, T5))) else (if c0 = 116 then (if isB n0 (sX1_placesOf T5 r8 c0) = 0 then (.inr ("java/util/NoSuchElementException", T5)) else (.inl (sX1_placeOf T5 r8 c0 n0, T5))) else (if c0 = 112 then (if isB n0 (sX1_placesOf T5 r8 c0) = 0 then (.inr ("java/util/NoSuchElementException", T5)) else (.inl (sX1_placeOf T5 r8 c0 n0, T5))) else (.inr ("java/lang/IllegalArgumentException", T5)))))) (fun E9 T9 => .inr (E9, T9))
theorem sX8_checkedSlot_u (Z : Ho) (j0 : Int32) (c0 : Int32) (n0 : Int32) : sX8_checkedSlot Z j0 c0 n0 = rc (sX8_checkedFrame Z j0) (fun r8 T5 => if c0 = 115 then (.inl ((T5.fr r8).v, T5)) else (if c0 = 97 then (if isB n0 (sX1_placesOf T5 r8 c0) = 0 then (.inr ("java/util/NoSuchElementException", T5)) else (.inl (sX1_placeOf T5 r8 c0 n0, T5))) else (if c0 = 116 then (if isB n0 (sX1_placesOf T5 r8 c0) = 0 then (.inr ("java/util/NoSuchElementException", T5)) else (.inl (sX1_placeOf T5 r8 c0 n0, T5))) else (if c0 = 112 then (if isB n0 (sX1_placesOf T5 r8 c0) = 0 then (.inr ("java/util/NoSuchElementException", T5)) else (.inl (sX1_placeOf T5 r8 c0 n0, T5))) else (.inr ("java/lang/IllegalArgumentException", T5)))))) (fun E9 T9 => .inr (E9, T9)) := rfl
set_option maxHeartbeats 4000000 in
set_option maxRecDepth 100000 in
theorem hX8_checkedSlot (l : Launch) (D : va_G) (ar : Nat → ClassId) (κ : Nat → Nat) (G : gW) (x : Xo) (Z : Ho) (sz : Nat) (j0 : Int32) (c0 : Int32) (n0 : Int32) (hk : OK x Z) (hlt : l.stackTraces = false) : vx_Met l yX8_checkedSlot (lwC yX8_checkedSlot cX8_checkedSlot 5 (some .long)) (rD 12 2 12) (g_Pc D vwCl (gT ar) (EX1 κ) (ov κ ar x Z G) sz [.ref (x.f .ho), .int j0, .int c0, .int n0]) (g_Ql D vwCl (g_A (ov κ ar x Z G) sz) (fun r u => ∃ T9 : Ho, sX8_checkedSlot Z j0 c0 n0 = .inl (r, T9) ∧ u = (ov κ ar x T9 G, sz) ∧ OK x T9 ∧ SZ T9 Z)) (gX D (g_A (ov κ ar x Z G) sz) (fun E u => ∃ T9 : Ho, sX8_checkedSlot Z j0 c0 n0 = .inr (E, T9) ∧ u.1 = ov κ ar x T9 G ∧ OK x T9 ∧ SZ T9 Z)) 2 12 (g_A (ov κ ar x Z G) sz) := by
  refine gx_ofW (by decide +kernel) (Nat.le_of_ble_eq_true rfl) ?_
  intro p e s m below meth c ls S hr hlk ht hE w hl
  have hx := S.1
  have hb := S.2.1
  have hl : lv_has ls 5 [(0, .ref (x.f .ho)), (1, .int j0), (2, .int c0), (3, .int n0)] := hl
  refine lv_aload_n hx hb dX8_checkedSlot_0 rfl (lv_at hl 0 rfl) ?_
  refine lv_iload_n hx hb dX8_checkedSlot_1 rfl (lv_at hl 1 rfl) ?_
  refine gx_callq w (gx_runV (As := [.int j0]) (rest := []) S hE w hl (hX8_checkedFrame l D ar κ G x Z sz j0 hk  hlt) (k_RX8_316 S.2.2.2.2 ⟨Nat.le_of_ble_eq_true rfl, Nat.le_of_ble_eq_true rfl⟩) (ov_r (t := .ho) (hk.e (.ho) rfl)) rfl rfl rfl rfl (Nat.le_of_ble_eq_true rfl) dX8_checkedSlot_2 ⟨Nat.le_of_ble_eq_true rfl, Nat.le_of_ble_eq_true rfl⟩) (fun E ce q9 u H locs hp hnz w hce hv hcl => by obtain ⟨T1, e2, hu9, hk3, sq4⟩ := hp; exact g_pass ht hlk w hce hv hcl ⟨_, ((sX8_checkedSlot_u Z j0 c0 n0).trans (rc_x e2)), hu9, hk3, (SZ.t sq4 ⟨rfl, rfl, rfl, rfl⟩)⟩ (Nat.le_of_ble_eq_true rfl) (Nat.le_of_ble_eq_true rfl)) (fun r u H locs hp hnz w => ?_)
  obtain ⟨r8, T5, e6, hr9, hu9, hk7, sq9⟩ := hp
  subst hr9
  subst hu9
  dsimp only at w
  show W p l e _ s m _ below meth c _ _ _ _ _ (F0 m 5 ls [.ref (x.f (.fr r8))])
  refine lv_astore (lv' := [(4, .ref (x.f (.fr r8))), (0, .ref (x.f .ho)), (1, .int j0), (2, .int c0), (3, .int n0)]) hx hb dX8_checkedSlot_5 hl (by decide) rfl (fun ls hl => ?_)
  refine lv_iload_n hx hb dX8_checkedSlot_7 rfl (lv_at hl 3 rfl) ?_
  refine lv_bipush (v := 115) hx hb dX8_checkedSlot_8 (by decide) ?_
  refine lv_icmp_eq (tgt := 41) hx hb dX8_checkedSlot_10 (by decide) (fun c_10 => ?_) (fun c_10 => ?_)
  · refine lv_iload_n hx hb dX8_checkedSlot_41 rfl (lv_at hl 3 rfl) ?_
    refine lv_bipush (v := 115) hx hb dX8_checkedSlot_42 (by decide) ?_
    refine lv_icmp_ne (tgt := 53) hx hb dX8_checkedSlot_44 (by decide) (fun c_44 => absurd c_10 c_44) (fun _ => ?_)
    refine lv_aload hx hb dX8_checkedSlot_47 (lv_at hl 0 rfl) ?_
    refine gf_RX8_344_7 (v := .long ((T5.fr r8).v)) S hE w (ov_r (t := .fr r8) (hk7.e (.fr r8) rfl)) rfl dX8_checkedSlot_49 ?_
    exact vx_ret (g_lret hx hb hr hlk w (Nat.le_of_ble_eq_true rfl) (Nat.le_of_ble_eq_true rfl) dX8_checkedSlot_52 ⟨_, ((sX8_checkedSlot_u Z j0 c0 n0).trans ((rc_v e6).trans (if_pos c_10))), rfl, hk7, (SZ.t sq9 ⟨rfl, rfl, rfl, rfl⟩)⟩)
  · refine lv_iload_n hx hb dX8_checkedSlot_13 rfl (lv_at hl 3 rfl) ?_
    refine lv_bipush (v := 97) hx hb dX8_checkedSlot_14 (by decide) ?_
    refine lv_icmp_eq (tgt := 41) hx hb dX8_checkedSlot_16 (by decide) (fun c_16 => ?_) (fun c_16 => ?_)
    · refine lv_iload_n hx hb dX8_checkedSlot_41 rfl (lv_at hl 3 rfl) ?_
      refine lv_bipush (v := 115) hx hb dX8_checkedSlot_42 (by decide) ?_
      refine lv_icmp_ne (tgt := 53) hx hb dX8_checkedSlot_44 (by decide) (fun _ => ?_) (fun c_44_1 => absurd c_44_1 c_10)
      refine lv_iload_n hx hb dX8_checkedSlot_53 rfl (lv_at hl 4 rfl) ?_
      refine lv_aload hx hb dX8_checkedSlot_54 (lv_at hl 0 rfl) ?_
      refine lv_iload_n hx hb dX8_checkedSlot_56 rfl (lv_at hl 3 rfl) ?_
      refine g_calli w (g_runV (As := [.int c0]) (rest := [.int n0]) S hE w hl (hX1_placesOf l D ar κ G x T5 sz r8 c0 hk7 ) (k_RX8_347 S.2.2.2.2 ⟨Nat.le_of_ble_eq_true rfl, Nat.le_of_ble_eq_true rfl⟩) (ov_r (t := .fr r8) (hk7.e (.fr r8) rfl)) rfl rfl rfl rfl (Nat.le_of_ble_eq_true rfl) dX8_checkedSlot_57 ⟨Nat.le_of_ble_eq_true rfl, Nat.le_of_ble_eq_true rfl⟩) (fun r u H locs hp hnz w => ?_)
      obtain ⟨rfl, rfl⟩ := hp
      dsimp only at w
      refine g_calli w (g_runS (As := [.int n0, .int (sX1_placesOf T5 r8 c0)]) (rest := []) S hE w hl (c_X8_isBelow l D ar κ (ov κ ar x T5 G) sz n0 (sX1_placesOf T5 r8 c0)) (k_RX8_97 S.2.2.2.2 ⟨Nat.le_of_ble_eq_true rfl, Nat.le_of_ble_eq_true rfl⟩) rfl rfl (Nat.le_of_ble_eq_true rfl) dX8_checkedSlot_60 ⟨Nat.le_of_ble_eq_true rfl, Nat.le_of_ble_eq_true rfl⟩) (fun r u H locs hp hnz w => ?_)
      obtain ⟨rfl, rfl⟩ := hp
      dsimp only at w
      refine lv_if_ne (tgt := 77) hx hb dX8_checkedSlot_63 (by decide) (fun c_63 => ?_) (fun c_63 => ?_)
      · refine lv_aload hx hb dX8_checkedSlot_77 (lv_at hl 0 rfl) ?_
        refine lv_iload_n hx hb dX8_checkedSlot_79 rfl (lv_at hl 3 rfl) ?_
        refine lv_iload_n hx hb dX8_checkedSlot_80 rfl (lv_at hl 4 rfl) ?_
        refine g_calll w (g_runV (As := [.int c0, .int n0]) (rest := []) S hE w hl (hX1_placeOf l D ar κ G x T5 sz r8 c0 n0 hk7 ) (k_RX8_353 S.2.2.2.2 ⟨Nat.le_of_ble_eq_true rfl, Nat.le_of_ble_eq_true rfl⟩) (ov_r (t := .fr r8) (hk7.e (.fr r8) rfl)) rfl rfl rfl rfl (Nat.le_of_ble_eq_true rfl) dX8_checkedSlot_81 ⟨Nat.le_of_ble_eq_true rfl, Nat.le_of_ble_eq_true rfl⟩) (fun r u H locs hp hnz w => ?_)
        obtain ⟨rfl, rfl⟩ := hp
        dsimp only at w
        exact vx_ret (g_lret hx hb hr hlk w (Nat.le_of_ble_eq_true rfl) (Nat.le_of_ble_eq_true rfl) dX8_checkedSlot_84 ⟨_, ((sX8_checkedSlot_u Z j0 c0 n0).trans ((rc_v e6).trans ((if_neg c_10).trans ((if_pos c_16).trans (if_neg c_63))))), rfl, hk7, (SZ.t sq9 ⟨rfl, rfl, rfl, rfl⟩)⟩)
      · exact g_throwNW (Y := "java/lang/RuntimeException") (r := ["java/lang/Exception"]) hlt S hE w hl ht hlk (by decide +kernel) (by decide +kernel) (by decide +kernel) m_2_176 m_1_38 (List.mem_of_getElem? (i := 63) rfl) nse_1 nse_2 nse_3 dX8_checkedSlot_66 dX8_checkedSlot_69 dX8_checkedSlot_70 dX8_checkedSlot_73 dX8_checkedSlot_76 (Nat.le_of_ble_eq_true rfl) (Nat.le_of_ble_eq_true rfl) (Nat.le_of_ble_eq_true rfl) (Nat.le_of_ble_eq_true rfl) (Nat.le_of_ble_eq_true rfl) (Nat.le_of_ble_eq_true rfl) (fun n9 hn9 => ⟨_, ((sX8_checkedSlot_u Z j0 c0 n0).trans ((rc_v e6).trans ((if_neg c_10).trans ((if_pos c_16).trans (if_pos c_63))))), rfl, hk7, (SZ.t sq9 ⟨rfl, rfl, rfl, rfl⟩)⟩)
    · refine lv_iload_n hx hb dX8_checkedSlot_19 rfl (lv_at hl 3 rfl) ?_
      refine lv_bipush (v := 116) hx hb dX8_checkedSlot_20 (by decide) ?_
      refine lv_icmp_eq (tgt := 41) hx hb dX8_checkedSlot_22 (by decide) (fun c_22 => ?_) (fun c_22 => ?_)
      · refine lv_iload_n hx hb dX8_checkedSlot_41 rfl (lv_at hl 3 rfl) ?_
        refine lv_bipush (v := 115) hx hb dX8_checkedSlot_42 (by decide) ?_
        refine lv_icmp_ne (tgt := 53) hx hb dX8_checkedSlot_44 (by decide) (fun _ => ?_) (fun c_44_2 => absurd c_44_2 c_10)
        refine lv_iload_n hx hb dX8_checkedSlot_53 rfl (lv_at hl 4 rfl) ?_
        refine lv_aload hx hb dX8_checkedSlot_54 (lv_at hl 0 rfl) ?_
        refine lv_iload_n hx hb dX8_checkedSlot_56 rfl (lv_at hl 3 rfl) ?_
        refine g_calli w (g_runV (As := [.int c0]) (rest := [.int n0]) S hE w hl (hX1_placesOf l D ar κ G x T5 sz r8 c0 hk7 ) (k_RX8_347 S.2.2.2.2 ⟨Nat.le_of_ble_eq_true rfl, Nat.le_of_ble_eq_true rfl⟩) (ov_r (t := .fr r8) (hk7.e (.fr r8) rfl)) rfl rfl rfl rfl (Nat.le_of_ble_eq_true rfl) dX8_checkedSlot_57 ⟨Nat.le_of_ble_eq_true rfl, Nat.le_of_ble_eq_true rfl⟩) (fun r u H locs hp hnz w => ?_)
        obtain ⟨rfl, rfl⟩ := hp
        dsimp only at w
        refine g_calli w (g_runS (As := [.int n0, .int (sX1_placesOf T5 r8 c0)]) (rest := []) S hE w hl (c_X8_isBelow l D ar κ (ov κ ar x T5 G) sz n0 (sX1_placesOf T5 r8 c0)) (k_RX8_97 S.2.2.2.2 ⟨Nat.le_of_ble_eq_true rfl, Nat.le_of_ble_eq_true rfl⟩) rfl rfl (Nat.le_of_ble_eq_true rfl) dX8_checkedSlot_60 ⟨Nat.le_of_ble_eq_true rfl, Nat.le_of_ble_eq_true rfl⟩) (fun r u H locs hp hnz w => ?_)
        obtain ⟨rfl, rfl⟩ := hp
        dsimp only at w
        refine lv_if_ne (tgt := 77) hx hb dX8_checkedSlot_63 (by decide) (fun c_63_1 => ?_) (fun c_63_1 => ?_)
        · refine lv_aload hx hb dX8_checkedSlot_77 (lv_at hl 0 rfl) ?_
          refine lv_iload_n hx hb dX8_checkedSlot_79 rfl (lv_at hl 3 rfl) ?_
          refine lv_iload_n hx hb dX8_checkedSlot_80 rfl (lv_at hl 4 rfl) ?_
          refine g_calll w (g_runV (As := [.int c0, .int n0]) (rest := []) S hE w hl (hX1_placeOf l D ar κ G x T5 sz r8 c0 n0 hk7 ) (k_RX8_353 S.2.2.2.2 ⟨Nat.le_of_ble_eq_true rfl, Nat.le_of_ble_eq_true rfl⟩) (ov_r (t := .fr r8) (hk7.e (.fr r8) rfl)) rfl rfl rfl rfl (Nat.le_of_ble_eq_true rfl) dX8_checkedSlot_81 ⟨Nat.le_of_ble_eq_true rfl, Nat.le_of_ble_eq_true rfl⟩) (fun r u H locs hp hnz w => ?_)
          obtain ⟨rfl, rfl⟩ := hp
          dsimp only at w
          exact vx_ret (g_lret hx hb hr hlk w (Nat.le_of_ble_eq_true rfl) (Nat.le_of_ble_eq_true rfl) dX8_checkedSlot_84 ⟨_, ((sX8_checkedSlot_u Z j0 c0 n0).trans ((rc_v e6).trans ((if_neg c_10).trans ((if_neg c_16).trans ((if_pos c_22).trans (if_neg c_63_1)))))), rfl, hk7, (SZ.t sq9 ⟨rfl, rfl, rfl, rfl⟩)⟩)
        · exact g_throwNW (Y := "java/lang/RuntimeException") (r := ["java/lang/Exception"]) hlt S hE w hl ht hlk (by decide +kernel) (by decide +kernel) (by decide +kernel) m_2_176 m_1_38 (List.mem_of_getElem? (i := 63) rfl) nse_1 nse_2 nse_3 dX8_checkedSlot_66 dX8_checkedSlot_69 dX8_checkedSlot_70 dX8_checkedSlot_73 dX8_checkedSlot_76 (Nat.le_of_ble_eq_true rfl) (Nat.le_of_ble_eq_true rfl) (Nat.le_of_ble_eq_true rfl) (Nat.le_of_ble_eq_true rfl) (Nat.le_of_ble_eq_true rfl) (Nat.le_of_ble_eq_true rfl) (fun n9 hn9 => ⟨_, ((sX8_checkedSlot_u Z j0 c0 n0).trans ((rc_v e6).trans ((if_neg c_10).trans ((if_neg c_16).trans ((if_pos c_22).trans (if_pos c_63_1)))))), rfl, hk7, (SZ.t sq9 ⟨rfl, rfl, rfl, rfl⟩)⟩)
      · refine lv_iload_n hx hb dX8_checkedSlot_25 rfl (lv_at hl 3 rfl) ?_
        refine lv_bipush (v := 112) hx hb dX8_checkedSlot_26 (by decide) ?_
        refine lv_icmp_eq (tgt := 41) hx hb dX8_checkedSlot_28 (by decide) (fun c_28 => ?_) (fun c_28 => ?_)
        · refine lv_iload_n hx hb dX8_checkedSlot_41 rfl (lv_at hl 3 rfl) ?_
          refine lv_bipush (v := 115) hx hb dX8_checkedSlot_42 (by decide) ?_
          refine lv_icmp_ne (tgt := 53) hx hb dX8_checkedSlot_44 (by decide) (fun _ => ?_) (fun c_44_3 => absurd c_44_3 c_10)
          refine lv_iload_n hx hb dX8_checkedSlot_53 rfl (lv_at hl 4 rfl) ?_
          refine lv_aload hx hb dX8_checkedSlot_54 (lv_at hl 0 rfl) ?_
          refine lv_iload_n hx hb dX8_checkedSlot_56 rfl (lv_at hl 3 rfl) ?_
          refine g_calli w (g_runV (As := [.int c0]) (rest := [.int n0]) S hE w hl (hX1_placesOf l D ar κ G x T5 sz r8 c0 hk7 ) (k_RX8_347 S.2.2.2.2 ⟨Nat.le_of_ble_eq_true rfl, Nat.le_of_ble_eq_true rfl⟩) (ov_r (t := .fr r8) (hk7.e (.fr r8) rfl)) rfl rfl rfl rfl (Nat.le_of_ble_eq_true rfl) dX8_checkedSlot_57 ⟨Nat.le_of_ble_eq_true rfl, Nat.le_of_ble_eq_true rfl⟩) (fun r u H locs hp hnz w => ?_)
          obtain ⟨rfl, rfl⟩ := hp
          dsimp only at w
          refine g_calli w (g_runS (As := [.int n0, .int (sX1_placesOf T5 r8 c0)]) (rest := []) S hE w hl (c_X8_isBelow l D ar κ (ov κ ar x T5 G) sz n0 (sX1_placesOf T5 r8 c0)) (k_RX8_97 S.2.2.2.2 ⟨Nat.le_of_ble_eq_true rfl, Nat.le_of_ble_eq_true rfl⟩) rfl rfl (Nat.le_of_ble_eq_true rfl) dX8_checkedSlot_60 ⟨Nat.le_of_ble_eq_true rfl, Nat.le_of_ble_eq_true rfl⟩) (fun r u H locs hp hnz w => ?_)
          obtain ⟨rfl, rfl⟩ := hp
          dsimp only at w
          refine lv_if_ne (tgt := 77) hx hb dX8_checkedSlot_63 (by decide) (fun c_63_2 => ?_) (fun c_63_2 => ?_)
          · refine lv_aload hx hb dX8_checkedSlot_77 (lv_at hl 0 rfl) ?_
            refine lv_iload_n hx hb dX8_checkedSlot_79 rfl (lv_at hl 3 rfl) ?_
            refine lv_iload_n hx hb dX8_checkedSlot_80 rfl (lv_at hl 4 rfl) ?_
            refine g_calll w (g_runV (As := [.int c0, .int n0]) (rest := []) S hE w hl (hX1_placeOf l D ar κ G x T5 sz r8 c0 n0 hk7 ) (k_RX8_353 S.2.2.2.2 ⟨Nat.le_of_ble_eq_true rfl, Nat.le_of_ble_eq_true rfl⟩) (ov_r (t := .fr r8) (hk7.e (.fr r8) rfl)) rfl rfl rfl rfl (Nat.le_of_ble_eq_true rfl) dX8_checkedSlot_81 ⟨Nat.le_of_ble_eq_true rfl, Nat.le_of_ble_eq_true rfl⟩) (fun r u H locs hp hnz w => ?_)
            obtain ⟨rfl, rfl⟩ := hp
            dsimp only at w
            exact vx_ret (g_lret hx hb hr hlk w (Nat.le_of_ble_eq_true rfl) (Nat.le_of_ble_eq_true rfl) dX8_checkedSlot_84 ⟨_, ((sX8_checkedSlot_u Z j0 c0 n0).trans ((rc_v e6).trans ((if_neg c_10).trans ((if_neg c_16).trans ((if_neg c_22).trans ((if_pos c_28).trans (if_neg c_63_2))))))), rfl, hk7, (SZ.t sq9 ⟨rfl, rfl, rfl, rfl⟩)⟩)
          · exact g_throwNW (Y := "java/lang/RuntimeException") (r := ["java/lang/Exception"]) hlt S hE w hl ht hlk (by decide +kernel) (by decide +kernel) (by decide +kernel) m_2_176 m_1_38 (List.mem_of_getElem? (i := 63) rfl) nse_1 nse_2 nse_3 dX8_checkedSlot_66 dX8_checkedSlot_69 dX8_checkedSlot_70 dX8_checkedSlot_73 dX8_checkedSlot_76 (Nat.le_of_ble_eq_true rfl) (Nat.le_of_ble_eq_true rfl) (Nat.le_of_ble_eq_true rfl) (Nat.le_of_ble_eq_true rfl) (Nat.le_of_ble_eq_true rfl) (Nat.le_of_ble_eq_true rfl) (fun n9 hn9 => ⟨_, ((sX8_checkedSlot_u Z j0 c0 n0).trans ((rc_v e6).trans ((if_neg c_10).trans ((if_neg c_16).trans ((if_neg c_22).trans ((if_pos c_28).trans (if_pos c_63_2))))))), rfl, hk7, (SZ.t sq9 ⟨rfl, rfl, rfl, rfl⟩)⟩)
        · exact g_throwS (names := ["java/lang/RuntimeException", "java/lang/Exception"]) hlt S hE w hl ht hlk (by decide +kernel) (by decide +kernel) m_3_42 m_1_18 (List.mem_of_getElem? (i := 28) rfl) th_RX8_105_109_1 th_RX8_105_109_2 th_RX8_105_109_3 dX8_checkedSlot_31 dX8_checkedSlot_34 dX8_checkedSlot_35 dX8_checkedSlot_37 dX8_checkedSlot_40 (Nat.le_of_ble_eq_true rfl) (Nat.le_of_ble_eq_true rfl) (Nat.le_of_ble_eq_true rfl) (Nat.le_of_ble_eq_true rfl) (Nat.le_of_ble_eq_true rfl) (Nat.le_of_ble_eq_true rfl) (fun n9 hn9 => ⟨_, ((sX8_checkedSlot_u Z j0 c0 n0).trans ((rc_v e6).trans ((if_neg c_10).trans ((if_neg c_16).trans ((if_neg c_22).trans (if_neg c_28)))))), rfl, hk7, (SZ.t sq9 ⟨rfl, rfl, rfl, rfl⟩)⟩)
def sX8_slotKind (Z : Ho) (j0 : Int32) (c0 : Int32) (n0 : Int32) : Rs Int32 := rc (sX8_checkedSlot Z j0 c0 n0) (fun r5 T6 => .inl (vp_nar .char (kf r5), T6)) (fun E9 T9 => .inr (E9, T9))
theorem sX8_slotKind_u (Z : Ho) (j0 : Int32) (c0 : Int32) (n0 : Int32) : sX8_slotKind Z j0 c0 n0 = rc (sX8_checkedSlot Z j0 c0 n0) (fun r5 T6 => .inl (vp_nar .char (kf r5), T6)) (fun E9 T9 => .inr (E9, T9)) := rfl
set_option maxHeartbeats 4000000 in
set_option maxRecDepth 100000 in
theorem hX8_slotKind (l : Launch) (D : va_G) (ar : Nat → ClassId) (κ : Nat → Nat) (G : gW) (x : Xo) (Z : Ho) (sz : Nat) (j0 : Int32) (c0 : Int32) (n0 : Int32) (hk : OK x Z) (hlt : l.stackTraces = false) : vx_Met l yX8_slotKind (lwC yX8_slotKind cX8_slotKind 4 (some .char)) (rD 13 2 12) (g_Pc D vwCl (gT ar) (EX1 κ) (ov κ ar x Z G) sz [.ref (x.f .ho), .int j0, .int c0, .int n0]) (g_Qi D vwCl (g_A (ov κ ar x Z G) sz) (fun r u => ∃ T9 : Ho, sX8_slotKind Z j0 c0 n0 = .inl (r, T9) ∧ u = (ov κ ar x T9 G, sz) ∧ OK x T9 ∧ SZ T9 Z)) (gX D (g_A (ov κ ar x Z G) sz) (fun E u => ∃ T9 : Ho, sX8_slotKind Z j0 c0 n0 = .inr (E, T9) ∧ u.1 = ov κ ar x T9 G ∧ OK x T9 ∧ SZ T9 Z)) 2 12 (g_A (ov κ ar x Z G) sz) := by
  refine gx_ofW (by decide +kernel) (Nat.le_of_ble_eq_true rfl) ?_
  intro p e s m below meth c ls S hr hlk ht hE w hl
  have hx := S.1
  have hb := S.2.1
  have hl : lv_has ls 4 [(0, .ref (x.f .ho)), (1, .int j0), (2, .int c0), (3, .int n0)] := hl
  refine lv_aload_n hx hb dX8_slotKind_0 rfl (lv_at hl 0 rfl) ?_
  refine lv_iload_n hx hb dX8_slotKind_1 rfl (lv_at hl 1 rfl) ?_
  refine lv_iload_n hx hb dX8_slotKind_2 rfl (lv_at hl 2 rfl) ?_
  refine lv_iload_n hx hb dX8_slotKind_3 rfl (lv_at hl 3 rfl) ?_
  refine gx_calll w (gx_runV (As := [.int j0, .int c0, .int n0]) (rest := []) S hE w hl (hX8_checkedSlot l D ar κ G x Z sz j0 c0 n0 hk  hlt) (k_RX8_332 S.2.2.2.2 ⟨Nat.le_of_ble_eq_true rfl, Nat.le_of_ble_eq_true rfl⟩) (ov_r (t := .ho) (hk.e (.ho) rfl)) rfl rfl rfl rfl (Nat.le_of_ble_eq_true rfl) dX8_slotKind_4 ⟨Nat.le_of_ble_eq_true rfl, Nat.le_of_ble_eq_true rfl⟩) (fun E ce q9 u H locs hp hnz w hce hv hcl => by obtain ⟨T1, e2, hu9, hk3, sq4⟩ := hp; exact g_pass ht hlk w hce hv hcl ⟨_, ((sX8_slotKind_u Z j0 c0 n0).trans (rc_x e2)), hu9, hk3, (SZ.t sq4 ⟨rfl, rfl, rfl, rfl⟩)⟩ (Nat.le_of_ble_eq_true rfl) (Nat.le_of_ble_eq_true rfl)) (fun r5 u H locs hp hnz w => ?_)
  obtain ⟨T6, e7, hu9, hk8, sq9⟩ := hp
  subst hu9
  dsimp only at w
  refine g_calli w (g_runS (As := [.long r5]) (rest := []) S hE w hl (c_X8_kindOf l D ar κ (ov κ ar x T6 G) sz r5) (k_RX8_226 S.2.2.2.2 ⟨Nat.le_of_ble_eq_true rfl, Nat.le_of_ble_eq_true rfl⟩) rfl rfl (Nat.le_of_ble_eq_true rfl) dX8_slotKind_7 ⟨Nat.le_of_ble_eq_true rfl, Nat.le_of_ble_eq_true rfl⟩) (fun r u H locs hp hnz w => ?_)
  obtain ⟨rfl, rfl⟩ := hp
  dsimp only at w
  exact vx_ret (g_zretN (v := vp_nar .char (kf r5)) hx hb hr hlk w (Nat.le_of_ble_eq_true rfl) (Nat.le_of_ble_eq_true rfl) dX8_slotKind_10 rfl ⟨_, ((sX8_slotKind_u Z j0 c0 n0).trans (rc_v e7)), rfl, hk8, (SZ.t sq9 ⟨rfl, rfl, rfl, rfl⟩)⟩)
def sX8_slot (Z : Ho) (j0 : Int32) (c0 : Int32) (n0 : Int32) : Rs Int32 := rc (sX8_checkedSlot Z j0 c0 n0) (fun r5 T6 => .inl (nf r5, T6)) (fun E9 T9 => .inr (E9, T9))
theorem sX8_slot_u (Z : Ho) (j0 : Int32) (c0 : Int32) (n0 : Int32) : sX8_slot Z j0 c0 n0 = rc (sX8_checkedSlot Z j0 c0 n0) (fun r5 T6 => .inl (nf r5, T6)) (fun E9 T9 => .inr (E9, T9)) := rfl
set_option maxHeartbeats 4000000 in
set_option maxRecDepth 100000 in
theorem hX8_slot (l : Launch) (D : va_G) (ar : Nat → ClassId) (κ : Nat → Nat) (G : gW) (x : Xo) (Z : Ho) (sz : Nat) (j0 : Int32) (c0 : Int32) (n0 : Int32) (hk : OK x Z) (hlt : l.stackTraces = false) : vx_Met l yX8_slot (lwC yX8_slot cX8_slot 4 (some .int)) (rD 13 2 12) (g_Pc D vwCl (gT ar) (EX1 κ) (ov κ ar x Z G) sz [.ref (x.f .ho), .int j0, .int c0, .int n0]) (g_Qi D vwCl (g_A (ov κ ar x Z G) sz) (fun r u => ∃ T9 : Ho, sX8_slot Z j0 c0 n0 = .inl (r, T9) ∧ u = (ov κ ar x T9 G, sz) ∧ OK x T9 ∧ SZ T9 Z)) (gX D (g_A (ov κ ar x Z G) sz) (fun E u => ∃ T9 : Ho, sX8_slot Z j0 c0 n0 = .inr (E, T9) ∧ u.1 = ov κ ar x T9 G ∧ OK x T9 ∧ SZ T9 Z)) 2 12 (g_A (ov κ ar x Z G) sz) := by
  refine gx_ofW (by decide +kernel) (Nat.le_of_ble_eq_true rfl) ?_
  intro p e s m below meth c ls S hr hlk ht hE w hl
  have hx := S.1
  have hb := S.2.1
  have hl : lv_has ls 4 [(0, .ref (x.f .ho)), (1, .int j0), (2, .int c0), (3, .int n0)] := hl
  refine lv_aload_n hx hb dX8_slot_0 rfl (lv_at hl 0 rfl) ?_
  refine lv_iload_n hx hb dX8_slot_1 rfl (lv_at hl 1 rfl) ?_
  refine lv_iload_n hx hb dX8_slot_2 rfl (lv_at hl 2 rfl) ?_
  refine lv_iload_n hx hb dX8_slot_3 rfl (lv_at hl 3 rfl) ?_
  refine gx_calll w (gx_runV (As := [.int j0, .int c0, .int n0]) (rest := []) S hE w hl (hX8_checkedSlot l D ar κ G x Z sz j0 c0 n0 hk  hlt) (k_RX8_332 S.2.2.2.2 ⟨Nat.le_of_ble_eq_true rfl, Nat.le_of_ble_eq_true rfl⟩) (ov_r (t := .ho) (hk.e (.ho) rfl)) rfl rfl rfl rfl (Nat.le_of_ble_eq_true rfl) dX8_slot_4 ⟨Nat.le_of_ble_eq_true rfl, Nat.le_of_ble_eq_true rfl⟩) (fun E ce q9 u H locs hp hnz w hce hv hcl => by obtain ⟨T1, e2, hu9, hk3, sq4⟩ := hp; exact g_pass ht hlk w hce hv hcl ⟨_, ((sX8_slot_u Z j0 c0 n0).trans (rc_x e2)), hu9, hk3, (SZ.t sq4 ⟨rfl, rfl, rfl, rfl⟩)⟩ (Nat.le_of_ble_eq_true rfl) (Nat.le_of_ble_eq_true rfl)) (fun r5 u H locs hp hnz w => ?_)
  obtain ⟨T6, e7, hu9, hk8, sq9⟩ := hp
  subst hu9
  dsimp only at w
  refine g_calli w (g_runS (As := [.long r5]) (rest := []) S hE w hl (c_X8_numberOf l D ar κ (ov κ ar x T6 G) sz r5) (k_RX8_230 S.2.2.2.2 ⟨Nat.le_of_ble_eq_true rfl, Nat.le_of_ble_eq_true rfl⟩) rfl rfl (Nat.le_of_ble_eq_true rfl) dX8_slot_7 ⟨Nat.le_of_ble_eq_true rfl, Nat.le_of_ble_eq_true rfl⟩) (fun r u H locs hp hnz w => ?_)
  obtain ⟨rfl, rfl⟩ := hp
  dsimp only at w
  exact vx_ret (g_iret hx hb hr hlk w (Nat.le_of_ble_eq_true rfl) (Nat.le_of_ble_eq_true rfl) dX8_slot_10 ⟨_, ((sX8_slot_u Z j0 c0 n0).trans (rc_v e7)), rfl, hk8, (SZ.t sq9 ⟨rfl, rfl, rfl, rfl⟩)⟩)
