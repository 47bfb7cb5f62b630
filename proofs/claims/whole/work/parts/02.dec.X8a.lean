theorem dX8_init_0 : decode cX8_init 0 = .ok (.aload_n 0, 1) := by decide +kernel
theorem dX8_init_1 : decode cX8_init 1 = .ok (.invokespecial 3, 3) := by decide +kernel
theorem dX8_init_4 : decode cX8_init 4 = .ok (.aload_n 0, 1) := by decide +kernel
theorem dX8_init_5 : decode cX8_init 5 = .ok (.bipush 78, 2) := by decide +kernel
theorem dX8_init_7 : decode cX8_init 7 = .ok (.newarray .int, 2) := by decide +kernel
theorem dX8_init_9 : decode cX8_init 9 = .ok (.putfield 11, 3) := by decide +kernel
theorem dX8_init_12 : decode cX8_init 12 = .ok (.aload_n 0, 1) := by decide +kernel
theorem dX8_init_13 : decode cX8_init 13 = .ok (.bipush 78, 2) := by decide +kernel
theorem dX8_init_15 : decode cX8_init 15 = .ok (.newarray .int, 2) := by decide +kernel
theorem dX8_init_17 : decode cX8_init 17 = .ok (.putfield 15, 3) := by decide +kernel
theorem dX8_init_20 : decode cX8_init 20 = .ok (.aload_n 0, 1) := by decide +kernel
theorem dX8_init_21 : decode cX8_init 21 = .ok (.bipush 78, 2) := by decide +kernel
theorem dX8_init_23 : decode cX8_init 23 = .ok (.newarray .int, 2) := by decide +kernel
theorem dX8_init_25 : decode cX8_init 25 = .ok (.putfield 18, 3) := by decide +kernel
theorem dX8_init_28 : decode cX8_init 28 = .ok (.aload_n 0, 1) := by decide +kernel
theorem dX8_init_29 : decode cX8_init 29 = .ok (.bipush 48, 2) := by decide +kernel
theorem dX8_init_31 : decode cX8_init 31 = .ok (.newarray .int, 2) := by decide +kernel
theorem dX8_init_33 : decode cX8_init 33 = .ok (.putfield 21, 3) := by decide +kernel
theorem dX8_init_36 : decode cX8_init 36 = .ok (.aload_n 0, 1) := by decide +kernel
theorem dX8_init_37 : decode cX8_init 37 = .ok (.bipush 48, 2) := by decide +kernel
theorem dX8_init_39 : decode cX8_init 39 = .ok (.newarray .boolean, 2) := by decide +kernel
theorem dX8_init_41 : decode cX8_init 41 = .ok (.putfield 24, 3) := by decide +kernel
theorem dX8_init_44 : decode cX8_init 44 = .ok (.aload_n 0, 1) := by decide +kernel
theorem dX8_init_45 : decode cX8_init 45 = .ok (.bipush 48, 2) := by decide +kernel
theorem dX8_init_47 : decode cX8_init 47 = .ok (.newarray .int, 2) := by decide +kernel
theorem dX8_init_49 : decode cX8_init 49 = .ok (.putfield 28, 3) := by decide +kernel
theorem dX8_init_52 : decode cX8_init 52 = .ok (.aload_n 0, 1) := by decide +kernel
theorem dX8_init_53 : decode cX8_init 53 = .ok (.bipush 48, 2) := by decide +kernel
theorem dX8_init_55 : decode cX8_init 55 = .ok (.newarray .boolean, 2) := by decide +kernel
theorem dX8_init_57 : decode cX8_init 57 = .ok (.putfield 31, 3) := by decide +kernel
theorem dX8_init_60 : decode cX8_init 60 = .ok (.aload_n 0, 1) := by decide +kernel
theorem dX8_init_61 : decode cX8_init 61 = .ok (.bipush 48, 2) := by decide +kernel
theorem dX8_init_63 : decode cX8_init 63 = .ok (.newarray .int, 2) := by decide +kernel
theorem dX8_init_65 : decode cX8_init 65 = .ok (.putfield 34, 3) := by decide +kernel
theorem dX8_init_68 : decode cX8_init 68 = .ok (.aload_n 0, 1) := by decide +kernel
theorem dX8_init_69 : decode cX8_init 69 = .ok (.sipush 3072, 3) := by decide +kernel
theorem dX8_init_72 : decode cX8_init 72 = .ok (.newarray .int, 2) := by decide +kernel
theorem dX8_init_74 : decode cX8_init 74 = .ok (.putfield 37, 3) := by decide +kernel
theorem dX8_init_77 : decode cX8_init 77 = .ok (.aload_n 0, 1) := by decide +kernel
theorem dX8_init_78 : decode cX8_init 78 = .ok (.bipush 100, 2) := by decide +kernel
theorem dX8_init_80 : decode cX8_init 80 = .ok (.newarray .int, 2) := by decide +kernel
theorem dX8_init_82 : decode cX8_init 82 = .ok (.putfield 40, 3) := by decide +kernel
theorem dX8_init_85 : decode cX8_init 85 = .ok (.aload_n 0, 1) := by decide +kernel
theorem dX8_init_86 : decode cX8_init 86 = .ok (.bipush 60, 2) := by decide +kernel
theorem dX8_init_88 : decode cX8_init 88 = .ok (.newarray .int, 2) := by decide +kernel
theorem dX8_init_90 : decode cX8_init 90 = .ok (.putfield 43, 3) := by decide +kernel
theorem dX8_init_93 : decode cX8_init 93 = .ok (.aload_n 0, 1) := by decide +kernel
theorem dX8_init_94 : decode cX8_init 94 = .ok (.bipush 6, 2) := by decide +kernel
theorem dX8_init_96 : decode cX8_init 96 = .ok (.newarray .int, 2) := by decide +kernel
theorem dX8_init_98 : decode cX8_init 98 = .ok (.dup, 1) := by decide +kernel
theorem dX8_init_99 : decode cX8_init 99 = .ok (.iconst 0, 1) := by decide +kernel
theorem dX8_init_100 : decode cX8_init 100 = .ok (.iconst (-1), 1) := by decide +kernel
theorem dX8_init_101 : decode cX8_init 101 = .ok (.iastore, 1) := by decide +kernel
theorem dX8_init_102 : decode cX8_init 102 = .ok (.dup, 1) := by decide +kernel
theorem dX8_init_103 : decode cX8_init 103 = .ok (.iconst 1, 1) := by decide +kernel
theorem dX8_init_104 : decode cX8_init 104 = .ok (.iconst (-1), 1) := by decide +kernel
theorem dX8_init_105 : decode cX8_init 105 = .ok (.iastore, 1) := by decide +kernel
theorem dX8_init_106 : decode cX8_init 106 = .ok (.dup, 1) := by decide +kernel
theorem dX8_init_107 : decode cX8_init 107 = .ok (.iconst 2, 1) := by decide +kernel
theorem dX8_init_108 : decode cX8_init 108 = .ok (.iconst (-1), 1) := by decide +kernel
theorem dX8_init_109 : decode cX8_init 109 = .ok (.iastore, 1) := by decide +kernel
theorem dX8_init_110 : decode cX8_init 110 = .ok (.dup, 1) := by decide +kernel
theorem dX8_init_111 : decode cX8_init 111 = .ok (.iconst 3, 1) := by decide +kernel
theorem dX8_init_112 : decode cX8_init 112 = .ok (.iconst (-1), 1) := by decide +kernel
theorem dX8_init_113 : decode cX8_init 113 = .ok (.iastore, 1) := by decide +kernel
theorem dX8_init_114 : decode cX8_init 114 = .ok (.dup, 1) := by decide +kernel
theorem dX8_init_115 : decode cX8_init 115 = .ok (.iconst 4, 1) := by decide +kernel
theorem dX8_init_116 : decode cX8_init 116 = .ok (.iconst (-1), 1) := by decide +kernel
theorem dX8_init_117 : decode cX8_init 117 = .ok (.iastore, 1) := by decide +kernel
theorem dX8_init_118 : decode cX8_init 118 = .ok (.dup, 1) := by decide +kernel
theorem dX8_init_119 : decode cX8_init 119 = .ok (.iconst 5, 1) := by decide +kernel
theorem dX8_init_120 : decode cX8_init 120 = .ok (.iconst (-1), 1) := by decide +kernel
theorem dX8_init_121 : decode cX8_init 121 = .ok (.iastore, 1) := by decide +kernel
theorem dX8_init_122 : decode cX8_init 122 = .ok (.putfield 46, 3) := by decide +kernel
theorem dX8_init_125 : decode cX8_init 125 = .ok (.aload_n 0, 1) := by decide +kernel
theorem dX8_init_126 : decode cX8_init 126 = .ok (.bipush 6, 2) := by decide +kernel
theorem dX8_init_128 : decode cX8_init 128 = .ok (.newarray .int, 2) := by decide +kernel
theorem dX8_init_130 : decode cX8_init 130 = .ok (.putfield 49, 3) := by decide +kernel
theorem dX8_init_133 : decode cX8_init 133 = .ok (.aload_n 0, 1) := by decide +kernel
theorem dX8_init_134 : decode cX8_init 134 = .ok (.sipush 360, 3) := by decide +kernel
theorem dX8_init_137 : decode cX8_init 137 = .ok (.newarray .long, 2) := by decide +kernel
theorem dX8_init_139 : decode cX8_init 139 = .ok (.putfield 52, 3) := by decide +kernel
theorem dX8_init_142 : decode cX8_init 142 = .ok (.return_, 1) := by decide +kernel
theorem dX8_in_0 : decode cX8_in 0 = .ok (.lload_n 0, 1) := by decide +kernel
theorem dX8_in_1 : decode cX8_in 1 = .ok (.lload_n 2, 1) := by decide +kernel
theorem dX8_in_2 : decode cX8_in 2 = .ok (.lcmp, 1) := by decide +kernel
theorem dX8_in_3 : decode cX8_in 3 = .ok (.ifCond .lt 14, 3) := by decide +kernel
theorem dX8_in_6 : decode cX8_in 6 = .ok (.lload_n 0, 1) := by decide +kernel
theorem dX8_in_7 : decode cX8_in 7 = .ok (.lload 4, 2) := by decide +kernel
theorem dX8_in_9 : decode cX8_in 9 = .ok (.lcmp, 1) := by decide +kernel
theorem dX8_in_10 : decode cX8_in 10 = .ok (.ifCond .gt 7, 3) := by decide +kernel
theorem dX8_in_13 : decode cX8_in 13 = .ok (.iconst 1, 1) := by decide +kernel
theorem dX8_in_14 : decode cX8_in 14 = .ok (.goto 4, 3) := by decide +kernel
theorem dX8_in_17 : decode cX8_in 17 = .ok (.iconst 0, 1) := by decide +kernel
theorem dX8_in_18 : decode cX8_in 18 = .ok (.ireturn, 1) := by decide +kernel
theorem dX8_copies_0 : decode cX8_copies 0 = .ok (.iconst 0, 1) := by decide +kernel
theorem dX8_copies_1 : decode cX8_copies 1 = .ok (.istore_n 2, 1) := by decide +kernel
theorem dX8_copies_2 : decode cX8_copies 2 = .ok (.iload_n 2, 1) := by decide +kernel
theorem dX8_copies_3 : decode cX8_copies 3 = .ok (.bipush 78, 2) := by decide +kernel
theorem dX8_copies_5 : decode cX8_copies 5 = .ok (.if_icmp .ge 15, 3) := by decide +kernel
theorem dX8_copies_8 : decode cX8_copies 8 = .ok (.aload_n 1, 1) := by decide +kernel
theorem dX8_copies_9 : decode cX8_copies 9 = .ok (.iload_n 2, 1) := by decide +kernel
theorem dX8_copies_10 : decode cX8_copies 10 = .ok (.aload_n 0, 1) := by decide +kernel
theorem dX8_copies_11 : decode cX8_copies 11 = .ok (.iload_n 2, 1) := by decide +kernel
theorem dX8_copies_12 : decode cX8_copies 12 = .ok (.iaload, 1) := by decide +kernel
theorem dX8_copies_13 : decode cX8_copies 13 = .ok (.iastore, 1) := by decide +kernel
theorem dX8_copies_14 : decode cX8_copies 14 = .ok (.iinc 2 1, 3) := by decide +kernel
theorem dX8_copies_17 : decode cX8_copies 17 = .ok (.goto (-15), 3) := by decide +kernel
theorem dX8_copies_20 : decode cX8_copies 20 = .ok (.return_, 1) := by decide +kernel
theorem dX8_isPoint_0 : decode cX8_isPoint 0 = .ok (.iload_n 1, 1) := by decide +kernel
theorem dX8_isPoint_1 : decode cX8_isPoint 1 = .ok (.i2l, 1) := by decide +kernel
theorem dX8_isPoint_2 : decode cX8_isPoint 2 = .ok (.lconst 0, 1) := by decide +kernel
theorem dX8_isPoint_3 : decode cX8_isPoint 3 = .ok (.aload_n 0, 1) := by decide +kernel
theorem dX8_isPoint_4 : decode cX8_isPoint 4 = .ok (.getfield 11, 3) := by decide +kernel
theorem dX8_isPoint_7 : decode cX8_isPoint 7 = .ok (.iconst 0, 1) := by decide +kernel
theorem dX8_isPoint_8 : decode cX8_isPoint 8 = .ok (.iaload, 1) := by decide +kernel
theorem dX8_isPoint_9 : decode cX8_isPoint 9 = .ok (.iconst 1, 1) := by decide +kernel
theorem dX8_isPoint_10 : decode cX8_isPoint 10 = .ok (.isub, 1) := by decide +kernel
theorem dX8_isPoint_11 : decode cX8_isPoint 11 = .ok (.i2l, 1) := by decide +kernel
theorem dX8_isPoint_12 : decode cX8_isPoint 12 = .ok (.invokestatic 56, 3) := by decide +kernel
theorem dX8_isPoint_15 : decode cX8_isPoint 15 = .ok (.ireturn, 1) := by decide +kernel
theorem dX8_isMove_0 : decode cX8_isMove 0 = .ok (.iload_n 0, 1) := by decide +kernel
theorem dX8_isMove_1 : decode cX8_isMove 1 = .ok (.i2l, 1) := by decide +kernel
theorem dX8_isMove_2 : decode cX8_isMove 2 = .ok (.lconst 0, 1) := by decide +kernel
theorem dX8_isMove_3 : decode cX8_isMove 3 = .ok (.ldc2_w 60, 3) := by decide +kernel
theorem dX8_isMove_6 : decode cX8_isMove 6 = .ok (.invokestatic 56, 3) := by decide +kernel
theorem dX8_isMove_9 : decode cX8_isMove 9 = .ok (.ireturn, 1) := by decide +kernel
theorem dX8_axis_0 : decode cX8_axis 0 = .ok (.ldc 62, 2) := by decide +kernel
theorem dX8_axis_2 : decode cX8_axis 2 = .ok (.iconst 3, 1) := by decide +kernel
theorem dX8_axis_3 : decode cX8_axis 3 = .ok (.iload_n 0, 1) := by decide +kernel
theorem dX8_axis_4 : decode cX8_axis 4 = .ok (.bipush 8, 2) := by decide +kernel
theorem dX8_axis_6 : decode cX8_axis 6 = .ok (.idiv, 1) := by decide +kernel
theorem dX8_axis_7 : decode cX8_axis 7 = .ok (.imul, 1) := by decide +kernel
theorem dX8_axis_8 : decode cX8_axis 8 = .ok (.iload_n 1, 1) := by decide +kernel
theorem dX8_axis_9 : decode cX8_axis 9 = .ok (.iadd, 1) := by decide +kernel
theorem dX8_axis_10 : decode cX8_axis 10 = .ok (.invokevirtual 64, 3) := by decide +kernel
theorem dX8_axis_13 : decode cX8_axis 13 = .ok (.bipush 48, 2) := by decide +kernel
theorem dX8_axis_15 : decode cX8_axis 15 = .ok (.isub, 1) := by decide +kernel
theorem dX8_axis_16 : decode cX8_axis 16 = .ok (.ireturn, 1) := by decide +kernel
theorem dX8_bit_0 : decode cX8_bit 0 = .ok (.iload_n 0, 1) := by decide +kernel
theorem dX8_bit_1 : decode cX8_bit 1 = .ok (.iload_n 1, 1) := by decide +kernel
theorem dX8_bit_2 : decode cX8_bit 2 = .ok (.ishr, 1) := by decide +kernel
theorem dX8_bit_3 : decode cX8_bit 3 = .ok (.iconst 1, 1) := by decide +kernel
theorem dX8_bit_4 : decode cX8_bit 4 = .ok (.iand, 1) := by decide +kernel
theorem dX8_bit_5 : decode cX8_bit 5 = .ok (.ireturn, 1) := by decide +kernel
theorem dX8_wayOf_0 : decode cX8_wayOf 0 = .ok (.iconst 0, 1) := by decide +kernel
theorem dX8_wayOf_1 : decode cX8_wayOf 1 = .ok (.istore_n 3, 1) := by decide +kernel
theorem dX8_wayOf_2 : decode cX8_wayOf 2 = .ok (.iconst 0, 1) := by decide +kernel
theorem dX8_wayOf_3 : decode cX8_wayOf 3 = .ok (.istore 4, 2) := by decide +kernel
theorem dX8_wayOf_5 : decode cX8_wayOf 5 = .ok (.iload 4, 2) := by decide +kernel
theorem dX8_wayOf_7 : decode cX8_wayOf 7 = .ok (.bipush 6, 2) := by decide +kernel
theorem dX8_wayOf_9 : decode cX8_wayOf 9 = .ok (.if_icmp .ge 80, 3) := by decide +kernel
theorem dX8_wayOf_12 : decode cX8_wayOf 12 = .ok (.ldc 62, 2) := by decide +kernel
theorem dX8_wayOf_14 : decode cX8_wayOf 14 = .ok (.iconst 3, 1) := by decide +kernel
theorem dX8_wayOf_15 : decode cX8_wayOf 15 = .ok (.iload 4, 2) := by decide +kernel
theorem dX8_wayOf_17 : decode cX8_wayOf 17 = .ok (.imul, 1) := by decide +kernel
theorem dX8_wayOf_18 : decode cX8_wayOf 18 = .ok (.invokevirtual 64, 3) := by decide +kernel
theorem dX8_wayOf_21 : decode cX8_wayOf 21 = .ok (.bipush 48, 2) := by decide +kernel
theorem dX8_wayOf_23 : decode cX8_wayOf 23 = .ok (.isub, 1) := by decide +kernel
theorem dX8_wayOf_24 : decode cX8_wayOf 24 = .ok (.iload_n 0, 1) := by decide +kernel
theorem dX8_wayOf_25 : decode cX8_wayOf 25 = .ok (.if_icmp .ne 43, 3) := by decide +kernel
theorem dX8_wayOf_28 : decode cX8_wayOf 28 = .ok (.ldc 62, 2) := by decide +kernel
theorem dX8_wayOf_30 : decode cX8_wayOf 30 = .ok (.iconst 3, 1) := by decide +kernel
theorem dX8_wayOf_31 : decode cX8_wayOf 31 = .ok (.iload 4, 2) := by decide +kernel
theorem dX8_wayOf_33 : decode cX8_wayOf 33 = .ok (.imul, 1) := by decide +kernel
theorem dX8_wayOf_34 : decode cX8_wayOf 34 = .ok (.iconst 1, 1) := by decide +kernel
theorem dX8_wayOf_35 : decode cX8_wayOf 35 = .ok (.iadd, 1) := by decide +kernel
theorem dX8_wayOf_36 : decode cX8_wayOf 36 = .ok (.invokevirtual 64, 3) := by decide +kernel
theorem dX8_wayOf_39 : decode cX8_wayOf 39 = .ok (.bipush 48, 2) := by decide +kernel
theorem dX8_wayOf_41 : decode cX8_wayOf 41 = .ok (.isub, 1) := by decide +kernel
theorem dX8_wayOf_42 : decode cX8_wayOf 42 = .ok (.iload_n 1, 1) := by decide +kernel
theorem dX8_wayOf_43 : decode cX8_wayOf 43 = .ok (.if_icmp .ne 25, 3) := by decide +kernel
theorem dX8_wayOf_46 : decode cX8_wayOf 46 = .ok (.ldc 62, 2) := by decide +kernel
theorem dX8_wayOf_48 : decode cX8_wayOf 48 = .ok (.iconst 3, 1) := by decide +kernel
theorem dX8_wayOf_49 : decode cX8_wayOf 49 = .ok (.iload 4, 2) := by decide +kernel
theorem dX8_wayOf_51 : decode cX8_wayOf 51 = .ok (.imul, 1) := by decide +kernel
theorem dX8_wayOf_52 : decode cX8_wayOf 52 = .ok (.iconst 2, 1) := by decide +kernel
theorem dX8_wayOf_53 : decode cX8_wayOf 53 = .ok (.iadd, 1) := by decide +kernel
theorem dX8_wayOf_54 : decode cX8_wayOf 54 = .ok (.invokevirtual 64, 3) := by decide +kernel
theorem dX8_wayOf_57 : decode cX8_wayOf 57 = .ok (.bipush 48, 2) := by decide +kernel
theorem dX8_wayOf_59 : decode cX8_wayOf 59 = .ok (.isub, 1) := by decide +kernel
theorem dX8_wayOf_60 : decode cX8_wayOf 60 = .ok (.iload_n 2, 1) := by decide +kernel
theorem dX8_wayOf_61 : decode cX8_wayOf 61 = .ok (.if_icmp .ne 7, 3) := by decide +kernel
theorem dX8_wayOf_64 : decode cX8_wayOf 64 = .ok (.iconst 1, 1) := by decide +kernel
theorem dX8_wayOf_65 : decode cX8_wayOf 65 = .ok (.goto 4, 3) := by decide +kernel
theorem dX8_wayOf_68 : decode cX8_wayOf 68 = .ok (.iconst 0, 1) := by decide +kernel
theorem dX8_wayOf_69 : decode cX8_wayOf 69 = .ok (.istore 5, 2) := by decide +kernel
theorem dX8_wayOf_71 : decode cX8_wayOf 71 = .ok (.iload 5, 2) := by decide +kernel
theorem dX8_wayOf_73 : decode cX8_wayOf 73 = .ok (.ifCond .eq 8, 3) := by decide +kernel
theorem dX8_wayOf_76 : decode cX8_wayOf 76 = .ok (.iload 4, 2) := by decide +kernel
theorem dX8_wayOf_78 : decode cX8_wayOf 78 = .ok (.goto 4, 3) := by decide +kernel
theorem dX8_wayOf_81 : decode cX8_wayOf 81 = .ok (.iload_n 3, 1) := by decide +kernel
theorem dX8_wayOf_82 : decode cX8_wayOf 82 = .ok (.istore_n 3, 1) := by decide +kernel
theorem dX8_wayOf_83 : decode cX8_wayOf 83 = .ok (.iinc 4 1, 3) := by decide +kernel
theorem dX8_wayOf_86 : decode cX8_wayOf 86 = .ok (.goto (-81), 3) := by decide +kernel
theorem dX8_wayOf_89 : decode cX8_wayOf 89 = .ok (.iload_n 3, 1) := by decide +kernel
theorem dX8_wayOf_90 : decode cX8_wayOf 90 = .ok (.ireturn, 1) := by decide +kernel
theorem dX8_times_0 : decode cX8_times 0 = .ok (.iconst 0, 1) := by decide +kernel
theorem dX8_times_1 : decode cX8_times 1 = .ok (.istore_n 2, 1) := by decide +kernel
theorem dX8_times_2 : decode cX8_times 2 = .ok (.iconst 0, 1) := by decide +kernel
theorem dX8_times_3 : decode cX8_times 3 = .ok (.istore_n 3, 1) := by decide +kernel
theorem dX8_times_4 : decode cX8_times 4 = .ok (.iload_n 3, 1) := by decide +kernel
theorem dX8_times_5 : decode cX8_times 5 = .ok (.iconst 3, 1) := by decide +kernel
theorem dX8_times_6 : decode cX8_times 6 = .ok (.if_icmp .ge 29, 3) := by decide +kernel
theorem dX8_times_9 : decode cX8_times 9 = .ok (.iload_n 2, 1) := by decide +kernel
theorem dX8_times_10 : decode cX8_times 10 = .ok (.iload_n 0, 1) := by decide +kernel
theorem dX8_times_11 : decode cX8_times 11 = .ok (.iload_n 3, 1) := by decide +kernel
theorem dX8_times_12 : decode cX8_times 12 = .ok (.invokestatic 70, 3) := by decide +kernel
theorem dX8_times_15 : decode cX8_times 15 = .ok (.iload_n 1, 1) := by decide +kernel
theorem dX8_times_16 : decode cX8_times 16 = .ok (.iload_n 0, 1) := by decide +kernel
theorem dX8_times_17 : decode cX8_times 17 = .ok (.iload_n 3, 1) := by decide +kernel
theorem dX8_times_18 : decode cX8_times 18 = .ok (.invokestatic 74, 3) := by decide +kernel
theorem dX8_times_21 : decode cX8_times 21 = .ok (.invokestatic 70, 3) := by decide +kernel
theorem dX8_times_24 : decode cX8_times 24 = .ok (.ixor, 1) := by decide +kernel
theorem dX8_times_25 : decode cX8_times 25 = .ok (.iload_n 3, 1) := by decide +kernel
theorem dX8_times_26 : decode cX8_times 26 = .ok (.ishl, 1) := by decide +kernel
theorem dX8_times_27 : decode cX8_times 27 = .ok (.ior, 1) := by decide +kernel
theorem dX8_times_28 : decode cX8_times 28 = .ok (.istore_n 2, 1) := by decide +kernel
theorem dX8_times_29 : decode cX8_times 29 = .ok (.iinc 3 1, 3) := by decide +kernel
theorem dX8_times_32 : decode cX8_times 32 = .ok (.goto (-28), 3) := by decide +kernel
theorem dX8_times_35 : decode cX8_times 35 = .ok (.bipush 8, 2) := by decide +kernel
theorem dX8_times_37 : decode cX8_times 37 = .ok (.iload_n 1, 1) := by decide +kernel
theorem dX8_times_38 : decode cX8_times 38 = .ok (.iload_n 0, 1) := by decide +kernel
theorem dX8_times_39 : decode cX8_times 39 = .ok (.iconst 0, 1) := by decide +kernel
theorem dX8_times_40 : decode cX8_times 40 = .ok (.invokestatic 74, 3) := by decide +kernel
theorem dX8_times_43 : decode cX8_times 43 = .ok (.invokestatic 74, 3) := by decide +kernel
theorem dX8_times_46 : decode cX8_times 46 = .ok (.iload_n 1, 1) := by decide +kernel
theorem dX8_times_47 : decode cX8_times 47 = .ok (.iload_n 0, 1) := by decide +kernel
theorem dX8_times_48 : decode cX8_times 48 = .ok (.iconst 1, 1) := by decide +kernel
theorem dX8_times_49 : decode cX8_times 49 = .ok (.invokestatic 74, 3) := by decide +kernel
theorem dX8_times_52 : decode cX8_times 52 = .ok (.invokestatic 74, 3) := by decide +kernel
theorem dX8_times_55 : decode cX8_times 55 = .ok (.iload_n 1, 1) := by decide +kernel
theorem dX8_times_56 : decode cX8_times 56 = .ok (.iload_n 0, 1) := by decide +kernel
theorem dX8_times_57 : decode cX8_times 57 = .ok (.iconst 2, 1) := by decide +kernel
theorem dX8_times_58 : decode cX8_times 58 = .ok (.invokestatic 74, 3) := by decide +kernel
theorem dX8_times_61 : decode cX8_times 61 = .ok (.invokestatic 74, 3) := by decide +kernel
theorem dX8_times_64 : decode cX8_times 64 = .ok (.invokestatic 77, 3) := by decide +kernel
theorem dX8_times_67 : decode cX8_times 67 = .ok (.imul, 1) := by decide +kernel
theorem dX8_times_68 : decode cX8_times 68 = .ok (.iload_n 2, 1) := by decide +kernel
theorem dX8_times_69 : decode cX8_times 69 = .ok (.iadd, 1) := by decide +kernel
theorem dX8_times_70 : decode cX8_times 70 = .ok (.ireturn, 1) := by decide +kernel
theorem dX8_inverse_0 : decode cX8_inverse 0 = .ok (.iconst 0, 1) := by decide +kernel
theorem dX8_inverse_1 : decode cX8_inverse 1 = .ok (.istore_n 1, 1) := by decide +kernel
theorem dX8_inverse_2 : decode cX8_inverse 2 = .ok (.iconst 0, 1) := by decide +kernel
theorem dX8_inverse_3 : decode cX8_inverse 3 = .ok (.istore_n 2, 1) := by decide +kernel
theorem dX8_inverse_4 : decode cX8_inverse 4 = .ok (.iload_n 2, 1) := by decide +kernel
theorem dX8_inverse_5 : decode cX8_inverse 5 = .ok (.bipush 48, 2) := by decide +kernel
theorem dX8_inverse_7 : decode cX8_inverse 7 = .ok (.if_icmp .ge 23, 3) := by decide +kernel
theorem dX8_inverse_10 : decode cX8_inverse 10 = .ok (.iload_n 0, 1) := by decide +kernel
theorem dX8_inverse_11 : decode cX8_inverse 11 = .ok (.iload_n 2, 1) := by decide +kernel
theorem dX8_inverse_12 : decode cX8_inverse 12 = .ok (.invokestatic 81, 3) := by decide +kernel
theorem dX8_inverse_15 : decode cX8_inverse 15 = .ok (.ifCond .ne 7, 3) := by decide +kernel
theorem dX8_inverse_18 : decode cX8_inverse 18 = .ok (.iload_n 2, 1) := by decide +kernel
theorem dX8_inverse_19 : decode cX8_inverse 19 = .ok (.goto 4, 3) := by decide +kernel
theorem dX8_inverse_22 : decode cX8_inverse 22 = .ok (.iload_n 1, 1) := by decide +kernel
theorem dX8_inverse_23 : decode cX8_inverse 23 = .ok (.istore_n 1, 1) := by decide +kernel
theorem dX8_inverse_24 : decode cX8_inverse 24 = .ok (.iinc 2 1, 3) := by decide +kernel
theorem dX8_inverse_27 : decode cX8_inverse 27 = .ok (.goto (-23), 3) := by decide +kernel
theorem dX8_inverse_30 : decode cX8_inverse 30 = .ok (.iload_n 1, 1) := by decide +kernel
theorem dX8_inverse_31 : decode cX8_inverse 31 = .ok (.ireturn, 1) := by decide +kernel
theorem dX8_orderOf_0 : decode cX8_orderOf 0 = .ok (.iconst 1, 1) := by decide +kernel
theorem dX8_orderOf_1 : decode cX8_orderOf 1 = .ok (.istore_n 1, 1) := by decide +kernel
theorem dX8_orderOf_2 : decode cX8_orderOf 2 = .ok (.iload_n 0, 1) := by decide +kernel
theorem dX8_orderOf_3 : decode cX8_orderOf 3 = .ok (.istore_n 2, 1) := by decide +kernel
theorem dX8_orderOf_4 : decode cX8_orderOf 4 = .ok (.iload_n 2, 1) := by decide +kernel
theorem dX8_orderOf_5 : decode cX8_orderOf 5 = .ok (.ifCond .eq 15, 3) := by decide +kernel
theorem dX8_orderOf_8 : decode cX8_orderOf 8 = .ok (.iinc 1 1, 3) := by decide +kernel
theorem dX8_orderOf_11 : decode cX8_orderOf 11 = .ok (.iload_n 2, 1) := by decide +kernel
theorem dX8_orderOf_12 : decode cX8_orderOf 12 = .ok (.iload_n 0, 1) := by decide +kernel
theorem dX8_orderOf_13 : decode cX8_orderOf 13 = .ok (.invokestatic 81, 3) := by decide +kernel
theorem dX8_orderOf_16 : decode cX8_orderOf 16 = .ok (.istore_n 2, 1) := by decide +kernel
theorem dX8_orderOf_17 : decode cX8_orderOf 17 = .ok (.goto (-13), 3) := by decide +kernel
theorem dX8_orderOf_20 : decode cX8_orderOf 20 = .ok (.iload_n 1, 1) := by decide +kernel
theorem dX8_orderOf_21 : decode cX8_orderOf 21 = .ok (.ireturn, 1) := by decide +kernel
theorem dX8_traceOf_0 : decode cX8_traceOf 0 = .ok (.iconst 0, 1) := by decide +kernel
theorem dX8_traceOf_1 : decode cX8_traceOf 1 = .ok (.istore_n 1, 1) := by decide +kernel
theorem dX8_traceOf_2 : decode cX8_traceOf 2 = .ok (.iconst 0, 1) := by decide +kernel
theorem dX8_traceOf_3 : decode cX8_traceOf 3 = .ok (.istore_n 2, 1) := by decide +kernel
theorem dX8_traceOf_4 : decode cX8_traceOf 4 = .ok (.iload_n 2, 1) := by decide +kernel
theorem dX8_traceOf_5 : decode cX8_traceOf 5 = .ok (.iconst 3, 1) := by decide +kernel
theorem dX8_traceOf_6 : decode cX8_traceOf 6 = .ok (.if_icmp .ge 34, 3) := by decide +kernel
theorem dX8_traceOf_9 : decode cX8_traceOf 9 = .ok (.iload_n 1, 1) := by decide +kernel
theorem dX8_traceOf_10 : decode cX8_traceOf 10 = .ok (.iload_n 0, 1) := by decide +kernel
theorem dX8_traceOf_11 : decode cX8_traceOf 11 = .ok (.iload_n 2, 1) := by decide +kernel
theorem dX8_traceOf_12 : decode cX8_traceOf 12 = .ok (.invokestatic 74, 3) := by decide +kernel
theorem dX8_traceOf_15 : decode cX8_traceOf 15 = .ok (.iload_n 2, 1) := by decide +kernel
theorem dX8_traceOf_16 : decode cX8_traceOf 16 = .ok (.if_icmp .ne 15, 3) := by decide +kernel
theorem dX8_traceOf_19 : decode cX8_traceOf 19 = .ok (.iconst 1, 1) := by decide +kernel
theorem dX8_traceOf_20 : decode cX8_traceOf 20 = .ok (.iconst 2, 1) := by decide +kernel
theorem dX8_traceOf_21 : decode cX8_traceOf 21 = .ok (.iload_n 0, 1) := by decide +kernel
theorem dX8_traceOf_22 : decode cX8_traceOf 22 = .ok (.iload_n 2, 1) := by decide +kernel
theorem dX8_traceOf_23 : decode cX8_traceOf 23 = .ok (.invokestatic 70, 3) := by decide +kernel
theorem dX8_traceOf_26 : decode cX8_traceOf 26 = .ok (.imul, 1) := by decide +kernel
theorem dX8_traceOf_27 : decode cX8_traceOf 27 = .ok (.isub, 1) := by decide +kernel
theorem dX8_traceOf_28 : decode cX8_traceOf 28 = .ok (.goto 4, 3) := by decide +kernel
theorem dX8_traceOf_31 : decode cX8_traceOf 31 = .ok (.iconst 0, 1) := by decide +kernel
theorem dX8_traceOf_32 : decode cX8_traceOf 32 = .ok (.iadd, 1) := by decide +kernel
theorem dX8_traceOf_33 : decode cX8_traceOf 33 = .ok (.istore_n 1, 1) := by decide +kernel
theorem dX8_traceOf_34 : decode cX8_traceOf 34 = .ok (.iinc 2 1, 3) := by decide +kernel
theorem dX8_traceOf_37 : decode cX8_traceOf 37 = .ok (.goto (-33), 3) := by decide +kernel
theorem dX8_traceOf_40 : decode cX8_traceOf 40 = .ok (.iload_n 1, 1) := by decide +kernel
theorem dX8_traceOf_41 : decode cX8_traceOf 41 = .ok (.ireturn, 1) := by decide +kernel
theorem dX8_turnOf_0 : decode cX8_turnOf 0 = .ok (.iload_n 0, 1) := by decide +kernel
theorem dX8_turnOf_1 : decode cX8_turnOf 1 = .ok (.bipush 8, 2) := by decide +kernel
theorem dX8_turnOf_3 : decode cX8_turnOf 3 = .ok (.idiv, 1) := by decide +kernel
theorem dX8_turnOf_4 : decode cX8_turnOf 4 = .ok (.istore_n 1, 1) := by decide +kernel
theorem dX8_turnOf_5 : decode cX8_turnOf 5 = .ok (.iload_n 1, 1) := by decide +kernel
theorem dX8_turnOf_6 : decode cX8_turnOf 6 = .ok (.ifCond .eq 13, 3) := by decide +kernel
theorem dX8_turnOf_9 : decode cX8_turnOf 9 = .ok (.iload_n 1, 1) := by decide +kernel
theorem dX8_turnOf_10 : decode cX8_turnOf 10 = .ok (.iconst 3, 1) := by decide +kernel
theorem dX8_turnOf_11 : decode cX8_turnOf 11 = .ok (.if_icmp .eq 8, 3) := by decide +kernel
theorem dX8_turnOf_14 : decode cX8_turnOf 14 = .ok (.iload_n 1, 1) := by decide +kernel
theorem dX8_turnOf_15 : decode cX8_turnOf 15 = .ok (.iconst 4, 1) := by decide +kernel
theorem dX8_turnOf_16 : decode cX8_turnOf 16 = .ok (.if_icmp .ne 7, 3) := by decide +kernel
theorem dX8_turnOf_19 : decode cX8_turnOf 19 = .ok (.iconst 1, 1) := by decide +kernel
theorem dX8_turnOf_20 : decode cX8_turnOf 20 = .ok (.goto 4, 3) := by decide +kernel
theorem dX8_turnOf_23 : decode cX8_turnOf 23 = .ok (.iconst (-1), 1) := by decide +kernel
theorem dX8_turnOf_24 : decode cX8_turnOf 24 = .ok (.istore_n 2, 1) := by decide +kernel
theorem dX8_turnOf_25 : decode cX8_turnOf 25 = .ok (.iconst 0, 1) := by decide +kernel
theorem dX8_turnOf_26 : decode cX8_turnOf 26 = .ok (.istore_n 3, 1) := by decide +kernel
theorem dX8_turnOf_27 : decode cX8_turnOf 27 = .ok (.iload_n 3, 1) := by decide +kernel
theorem dX8_turnOf_28 : decode cX8_turnOf 28 = .ok (.iconst 3, 1) := by decide +kernel
theorem dX8_turnOf_29 : decode cX8_turnOf 29 = .ok (.if_icmp .ge 21, 3) := by decide +kernel
theorem dX8_turnOf_32 : decode cX8_turnOf 32 = .ok (.iload_n 2, 1) := by decide +kernel
theorem dX8_turnOf_33 : decode cX8_turnOf 33 = .ok (.iconst 1, 1) := by decide +kernel
theorem dX8_turnOf_34 : decode cX8_turnOf 34 = .ok (.iconst 2, 1) := by decide +kernel
theorem dX8_turnOf_35 : decode cX8_turnOf 35 = .ok (.iload_n 0, 1) := by decide +kernel
theorem dX8_turnOf_36 : decode cX8_turnOf 36 = .ok (.iload_n 3, 1) := by decide +kernel
theorem dX8_turnOf_37 : decode cX8_turnOf 37 = .ok (.invokestatic 70, 3) := by decide +kernel
theorem dX8_turnOf_40 : decode cX8_turnOf 40 = .ok (.imul, 1) := by decide +kernel
theorem dX8_turnOf_41 : decode cX8_turnOf 41 = .ok (.isub, 1) := by decide +kernel
theorem dX8_turnOf_42 : decode cX8_turnOf 42 = .ok (.imul, 1) := by decide +kernel
theorem dX8_turnOf_43 : decode cX8_turnOf 43 = .ok (.istore_n 2, 1) := by decide +kernel
theorem dX8_turnOf_44 : decode cX8_turnOf 44 = .ok (.iinc 3 1, 3) := by decide +kernel
theorem dX8_turnOf_47 : decode cX8_turnOf 47 = .ok (.goto (-20), 3) := by decide +kernel
theorem dX8_turnOf_50 : decode cX8_turnOf 50 = .ok (.iload_n 2, 1) := by decide +kernel
theorem dX8_turnOf_51 : decode cX8_turnOf 51 = .ok (.ireturn, 1) := by decide +kernel
theorem dX8_pointAt_0 : decode cX8_pointAt 0 = .ok (.iconst 0, 1) := by decide +kernel
theorem dX8_pointAt_1 : decode cX8_pointAt 1 = .ok (.istore 4, 2) := by decide +kernel
theorem dX8_pointAt_3 : decode cX8_pointAt 3 = .ok (.iload 4, 2) := by decide +kernel
theorem dX8_pointAt_5 : decode cX8_pointAt 5 = .ok (.aload_n 0, 1) := by decide +kernel
theorem dX8_pointAt_6 : decode cX8_pointAt 6 = .ok (.getfield 11, 3) := by decide +kernel
theorem dX8_pointAt_9 : decode cX8_pointAt 9 = .ok (.iconst 0, 1) := by decide +kernel
theorem dX8_pointAt_10 : decode cX8_pointAt 10 = .ok (.iaload, 1) := by decide +kernel
theorem dX8_pointAt_11 : decode cX8_pointAt 11 = .ok (.if_icmp .ge 57, 3) := by decide +kernel
theorem dX8_pointAt_14 : decode cX8_pointAt 14 = .ok (.iconst 1, 1) := by decide +kernel
theorem dX8_pointAt_15 : decode cX8_pointAt 15 = .ok (.iconst 4, 1) := by decide +kernel
theorem dX8_pointAt_16 : decode cX8_pointAt 16 = .ok (.iload 4, 2) := by decide +kernel
theorem dX8_pointAt_18 : decode cX8_pointAt 18 = .ok (.imul, 1) := by decide +kernel
theorem dX8_pointAt_19 : decode cX8_pointAt 19 = .ok (.iadd, 1) := by decide +kernel
theorem dX8_pointAt_20 : decode cX8_pointAt 20 = .ok (.istore 5, 2) := by decide +kernel
theorem dX8_pointAt_22 : decode cX8_pointAt 22 = .ok (.aload_n 0, 1) := by decide +kernel
theorem dX8_pointAt_23 : decode cX8_pointAt 23 = .ok (.getfield 11, 3) := by decide +kernel
theorem dX8_pointAt_26 : decode cX8_pointAt 26 = .ok (.iload 5, 2) := by decide +kernel
theorem dX8_pointAt_28 : decode cX8_pointAt 28 = .ok (.iaload, 1) := by decide +kernel
theorem dX8_pointAt_29 : decode cX8_pointAt 29 = .ok (.iload_n 1, 1) := by decide +kernel
theorem dX8_pointAt_30 : decode cX8_pointAt 30 = .ok (.if_icmp .ne 32, 3) := by decide +kernel
theorem dX8_pointAt_33 : decode cX8_pointAt 33 = .ok (.aload_n 0, 1) := by decide +kernel
theorem dX8_pointAt_34 : decode cX8_pointAt 34 = .ok (.getfield 11, 3) := by decide +kernel
theorem dX8_pointAt_37 : decode cX8_pointAt 37 = .ok (.iload 5, 2) := by decide +kernel
theorem dX8_pointAt_39 : decode cX8_pointAt 39 = .ok (.iconst 1, 1) := by decide +kernel
theorem dX8_pointAt_40 : decode cX8_pointAt 40 = .ok (.iadd, 1) := by decide +kernel
theorem dX8_pointAt_41 : decode cX8_pointAt 41 = .ok (.iaload, 1) := by decide +kernel
theorem dX8_pointAt_42 : decode cX8_pointAt 42 = .ok (.iload_n 2, 1) := by decide +kernel
theorem dX8_pointAt_43 : decode cX8_pointAt 43 = .ok (.if_icmp .ne 19, 3) := by decide +kernel
theorem dX8_pointAt_46 : decode cX8_pointAt 46 = .ok (.aload_n 0, 1) := by decide +kernel
theorem dX8_pointAt_47 : decode cX8_pointAt 47 = .ok (.getfield 11, 3) := by decide +kernel
theorem dX8_pointAt_50 : decode cX8_pointAt 50 = .ok (.iload 5, 2) := by decide +kernel
theorem dX8_pointAt_52 : decode cX8_pointAt 52 = .ok (.iconst 2, 1) := by decide +kernel
theorem dX8_pointAt_53 : decode cX8_pointAt 53 = .ok (.iadd, 1) := by decide +kernel
theorem dX8_pointAt_54 : decode cX8_pointAt 54 = .ok (.iaload, 1) := by decide +kernel
theorem dX8_pointAt_55 : decode cX8_pointAt 55 = .ok (.iload_n 3, 1) := by decide +kernel
theorem dX8_pointAt_56 : decode cX8_pointAt 56 = .ok (.if_icmp .ne 6, 3) := by decide +kernel
theorem dX8_pointAt_59 : decode cX8_pointAt 59 = .ok (.iload 4, 2) := by decide +kernel
theorem dX8_pointAt_61 : decode cX8_pointAt 61 = .ok (.ireturn, 1) := by decide +kernel
theorem dX8_pointAt_62 : decode cX8_pointAt 62 = .ok (.iinc 4 1, 3) := by decide +kernel
theorem dX8_pointAt_65 : decode cX8_pointAt 65 = .ok (.goto (-62), 3) := by decide +kernel
theorem dX8_pointAt_68 : decode cX8_pointAt 68 = .ok (.bipush (-5), 2) := by decide +kernel
theorem dX8_pointAt_70 : decode cX8_pointAt 70 = .ok (.ireturn, 1) := by decide +kernel
theorem dX8_moved_0 : decode cX8_moved 0 = .ok (.aload_n 0, 1) := by decide +kernel
theorem dX8_moved_1 : decode cX8_moved 1 = .ok (.getfield 11, 3) := by decide +kernel
theorem dX8_moved_4 : decode cX8_moved 4 = .ok (.iconst 1, 1) := by decide +kernel
theorem dX8_moved_5 : decode cX8_moved 5 = .ok (.iconst 4, 1) := by decide +kernel
theorem dX8_moved_6 : decode cX8_moved 6 = .ok (.iload_n 2, 1) := by decide +kernel
theorem dX8_moved_7 : decode cX8_moved 7 = .ok (.imul, 1) := by decide +kernel
theorem dX8_moved_8 : decode cX8_moved 8 = .ok (.iadd, 1) := by decide +kernel
theorem dX8_moved_9 : decode cX8_moved 9 = .ok (.iload_n 1, 1) := by decide +kernel
theorem dX8_moved_10 : decode cX8_moved 10 = .ok (.iload_n 3, 1) := by decide +kernel
theorem dX8_moved_11 : decode cX8_moved 11 = .ok (.invokestatic 74, 3) := by decide +kernel
theorem dX8_moved_14 : decode cX8_moved 14 = .ok (.iadd, 1) := by decide +kernel
theorem dX8_moved_15 : decode cX8_moved 15 = .ok (.iaload, 1) := by decide +kernel
theorem dX8_moved_16 : decode cX8_moved 16 = .ok (.istore 4, 2) := by decide +kernel
theorem dX8_moved_18 : decode cX8_moved 18 = .ok (.iload_n 1, 1) := by decide +kernel
theorem dX8_moved_19 : decode cX8_moved 19 = .ok (.iload_n 3, 1) := by decide +kernel
theorem dX8_moved_20 : decode cX8_moved 20 = .ok (.invokestatic 70, 3) := by decide +kernel
theorem dX8_moved_23 : decode cX8_moved 23 = .ok (.iconst 1, 1) := by decide +kernel
theorem dX8_moved_24 : decode cX8_moved 24 = .ok (.if_icmp .ne 9, 3) := by decide +kernel
theorem dX8_moved_27 : decode cX8_moved 27 = .ok (.iload 4, 2) := by decide +kernel
theorem dX8_moved_29 : decode cX8_moved 29 = .ok (.ineg, 1) := by decide +kernel
theorem dX8_moved_30 : decode cX8_moved 30 = .ok (.goto 5, 3) := by decide +kernel
theorem dX8_moved_33 : decode cX8_moved 33 = .ok (.iload 4, 2) := by decide +kernel
theorem dX8_moved_35 : decode cX8_moved 35 = .ok (.ireturn, 1) := by decide +kernel
theorem dX8_goesTo_0 : decode cX8_goesTo 0 = .ok (.aload_n 0, 1) := by decide +kernel
theorem dX8_goesTo_1 : decode cX8_goesTo 1 = .ok (.aload_n 0, 1) := by decide +kernel
theorem dX8_goesTo_2 : decode cX8_goesTo 2 = .ok (.iload_n 1, 1) := by decide +kernel
theorem dX8_goesTo_3 : decode cX8_goesTo 3 = .ok (.iload_n 2, 1) := by decide +kernel
theorem dX8_goesTo_4 : decode cX8_goesTo 4 = .ok (.iconst 0, 1) := by decide +kernel
theorem dX8_goesTo_5 : decode cX8_goesTo 5 = .ok (.invokevirtual 84, 3) := by decide +kernel
theorem dX8_goesTo_8 : decode cX8_goesTo 8 = .ok (.aload_n 0, 1) := by decide +kernel
theorem dX8_goesTo_9 : decode cX8_goesTo 9 = .ok (.iload_n 1, 1) := by decide +kernel
theorem dX8_goesTo_10 : decode cX8_goesTo 10 = .ok (.iload_n 2, 1) := by decide +kernel
theorem dX8_goesTo_11 : decode cX8_goesTo 11 = .ok (.iconst 1, 1) := by decide +kernel
theorem dX8_goesTo_12 : decode cX8_goesTo 12 = .ok (.invokevirtual 84, 3) := by decide +kernel
theorem dX8_goesTo_15 : decode cX8_goesTo 15 = .ok (.aload_n 0, 1) := by decide +kernel
theorem dX8_goesTo_16 : decode cX8_goesTo 16 = .ok (.iload_n 1, 1) := by decide +kernel
theorem dX8_goesTo_17 : decode cX8_goesTo 17 = .ok (.iload_n 2, 1) := by decide +kernel
theorem dX8_goesTo_18 : decode cX8_goesTo 18 = .ok (.iconst 2, 1) := by decide +kernel
theorem dX8_goesTo_19 : decode cX8_goesTo 19 = .ok (.invokevirtual 84, 3) := by decide +kernel
theorem dX8_goesTo_22 : decode cX8_goesTo 22 = .ok (.invokevirtual 87, 3) := by decide +kernel
theorem dX8_goesTo_25 : decode cX8_goesTo 25 = .ok (.ireturn, 1) := by decide +kernel
theorem dX8_markOf_0 : decode cX8_markOf 0 = .ok (.aload_n 0, 1) := by decide +kernel
theorem dX8_markOf_1 : decode cX8_markOf 1 = .ok (.getfield 11, 3) := by decide +kernel
theorem dX8_markOf_4 : decode cX8_markOf 4 = .ok (.iconst 1, 1) := by decide +kernel
theorem dX8_markOf_5 : decode cX8_markOf 5 = .ok (.iconst 4, 1) := by decide +kernel
theorem dX8_markOf_6 : decode cX8_markOf 6 = .ok (.iload_n 1, 1) := by decide +kernel
theorem dX8_markOf_7 : decode cX8_markOf 7 = .ok (.imul, 1) := by decide +kernel
theorem dX8_markOf_8 : decode cX8_markOf 8 = .ok (.iadd, 1) := by decide +kernel
theorem dX8_markOf_9 : decode cX8_markOf 9 = .ok (.iconst 3, 1) := by decide +kernel
theorem dX8_markOf_10 : decode cX8_markOf 10 = .ok (.iadd, 1) := by decide +kernel
theorem dX8_markOf_11 : decode cX8_markOf 11 = .ok (.iaload, 1) := by decide +kernel
theorem dX8_markOf_12 : decode cX8_markOf 12 = .ok (.ireturn, 1) := by decide +kernel
theorem dX8_movedMany_0 : decode cX8_movedMany 0 = .ok (.iconst 0, 1) := by decide +kernel
theorem dX8_movedMany_1 : decode cX8_movedMany 1 = .ok (.istore_n 2, 1) := by decide +kernel
theorem dX8_movedMany_2 : decode cX8_movedMany 2 = .ok (.iconst 0, 1) := by decide +kernel
theorem dX8_movedMany_3 : decode cX8_movedMany 3 = .ok (.istore_n 3, 1) := by decide +kernel
theorem dX8_movedMany_4 : decode cX8_movedMany 4 = .ok (.iload_n 3, 1) := by decide +kernel
theorem dX8_movedMany_5 : decode cX8_movedMany 5 = .ok (.aload_n 0, 1) := by decide +kernel
theorem dX8_movedMany_6 : decode cX8_movedMany 6 = .ok (.getfield 11, 3) := by decide +kernel
theorem dX8_movedMany_9 : decode cX8_movedMany 9 = .ok (.iconst 0, 1) := by decide +kernel
theorem dX8_movedMany_10 : decode cX8_movedMany 10 = .ok (.iaload, 1) := by decide +kernel
theorem dX8_movedMany_11 : decode cX8_movedMany 11 = .ok (.if_icmp .ge 46, 3) := by decide +kernel
theorem dX8_movedMany_14 : decode cX8_movedMany 14 = .ok (.aload_n 0, 1) := by decide +kernel
theorem dX8_movedMany_15 : decode cX8_movedMany 15 = .ok (.iload_n 1, 1) := by decide +kernel
theorem dX8_movedMany_16 : decode cX8_movedMany 16 = .ok (.iload_n 3, 1) := by decide +kernel
theorem dX8_movedMany_17 : decode cX8_movedMany 17 = .ok (.invokevirtual 90, 3) := by decide +kernel
theorem dX8_movedMany_20 : decode cX8_movedMany 20 = .ok (.istore 4, 2) := by decide +kernel
theorem dX8_movedMany_22 : decode cX8_movedMany 22 = .ok (.iload_n 2, 1) := by decide +kernel
theorem dX8_movedMany_23 : decode cX8_movedMany 23 = .ok (.iload 4, 2) := by decide +kernel
theorem dX8_movedMany_25 : decode cX8_movedMany 25 = .ok (.bipush (-5), 2) := by decide +kernel
theorem dX8_movedMany_27 : decode cX8_movedMany 27 = .ok (.if_icmp .eq 17, 3) := by decide +kernel
theorem dX8_movedMany_30 : decode cX8_movedMany 30 = .ok (.aload_n 0, 1) := by decide +kernel
theorem dX8_movedMany_31 : decode cX8_movedMany 31 = .ok (.iload 4, 2) := by decide +kernel
theorem dX8_movedMany_33 : decode cX8_movedMany 33 = .ok (.invokevirtual 93, 3) := by decide +kernel
theorem dX8_movedMany_36 : decode cX8_movedMany 36 = .ok (.aload_n 0, 1) := by decide +kernel
theorem dX8_movedMany_37 : decode cX8_movedMany 37 = .ok (.iload_n 3, 1) := by decide +kernel
theorem dX8_movedMany_38 : decode cX8_movedMany 38 = .ok (.invokevirtual 93, 3) := by decide +kernel
theorem dX8_movedMany_41 : decode cX8_movedMany 41 = .ok (.if_icmp .eq 7, 3) := by decide +kernel
theorem dX8_movedMany_44 : decode cX8_movedMany 44 = .ok (.iconst 1, 1) := by decide +kernel
theorem dX8_movedMany_45 : decode cX8_movedMany 45 = .ok (.goto 4, 3) := by decide +kernel
theorem dX8_movedMany_48 : decode cX8_movedMany 48 = .ok (.iconst 0, 1) := by decide +kernel
theorem dX8_movedMany_49 : decode cX8_movedMany 49 = .ok (.iadd, 1) := by decide +kernel
theorem dX8_movedMany_50 : decode cX8_movedMany 50 = .ok (.istore_n 2, 1) := by decide +kernel
theorem dX8_movedMany_51 : decode cX8_movedMany 51 = .ok (.iinc 3 1, 3) := by decide +kernel
theorem dX8_movedMany_54 : decode cX8_movedMany 54 = .ok (.goto (-50), 3) := by decide +kernel
theorem dX8_movedMany_57 : decode cX8_movedMany 57 = .ok (.iload_n 2, 1) := by decide +kernel
theorem dX8_movedMany_58 : decode cX8_movedMany 58 = .ok (.ireturn, 1) := by decide +kernel
theorem dX8_finds_0 : decode cX8_finds 0 = .ok (.aload_n 0, 1) := by decide +kernel
theorem dX8_finds_1 : decode cX8_finds 1 = .ok (.iconst 0, 1) := by decide +kernel
theorem dX8_finds_2 : decode cX8_finds 2 = .ok (.putfield 97, 3) := by decide +kernel
theorem dX8_finds_5 : decode cX8_finds 5 = .ok (.iconst 0, 1) := by decide +kernel
theorem dX8_finds_6 : decode cX8_finds 6 = .ok (.istore_n 1, 1) := by decide +kernel
theorem dX8_finds_7 : decode cX8_finds 7 = .ok (.iload_n 1, 1) := by decide +kernel
theorem dX8_finds_8 : decode cX8_finds 8 = .ok (.bipush 48, 2) := by decide +kernel
theorem dX8_finds_10 : decode cX8_finds 10 = .ok (.if_icmp .ge 57, 3) := by decide +kernel
theorem dX8_finds_13 : decode cX8_finds 13 = .ok (.aload_n 0, 1) := by decide +kernel
theorem dX8_finds_14 : decode cX8_finds 14 = .ok (.getfield 24, 3) := by decide +kernel
theorem dX8_finds_17 : decode cX8_finds 17 = .ok (.iload_n 1, 1) := by decide +kernel
theorem dX8_finds_18 : decode cX8_finds 18 = .ok (.aload_n 0, 1) := by decide +kernel
theorem dX8_finds_19 : decode cX8_finds 19 = .ok (.iload_n 1, 1) := by decide +kernel
theorem dX8_finds_20 : decode cX8_finds 20 = .ok (.invokevirtual 101, 3) := by decide +kernel
theorem dX8_finds_23 : decode cX8_finds 23 = .ok (.ifCond .ne 7, 3) := by decide +kernel
theorem dX8_finds_26 : decode cX8_finds 26 = .ok (.iconst 1, 1) := by decide +kernel
theorem dX8_finds_27 : decode cX8_finds 27 = .ok (.goto 4, 3) := by decide +kernel
theorem dX8_finds_30 : decode cX8_finds 30 = .ok (.iconst 0, 1) := by decide +kernel
theorem dX8_finds_31 : decode cX8_finds 31 = .ok (.bastore, 1) := by decide +kernel
theorem dX8_finds_32 : decode cX8_finds 32 = .ok (.aload_n 0, 1) := by decide +kernel
theorem dX8_finds_33 : decode cX8_finds 33 = .ok (.getfield 24, 3) := by decide +kernel
theorem dX8_finds_36 : decode cX8_finds 36 = .ok (.iload_n 1, 1) := by decide +kernel
theorem dX8_finds_37 : decode cX8_finds 37 = .ok (.baload, 1) := by decide +kernel
theorem dX8_finds_38 : decode cX8_finds 38 = .ok (.ifCond .eq 23, 3) := by decide +kernel
theorem dX8_finds_41 : decode cX8_finds 41 = .ok (.aload_n 0, 1) := by decide +kernel
theorem dX8_finds_42 : decode cX8_finds 42 = .ok (.getfield 21, 3) := by decide +kernel
theorem dX8_finds_45 : decode cX8_finds 45 = .ok (.aload_n 0, 1) := by decide +kernel
theorem dX8_finds_46 : decode cX8_finds 46 = .ok (.getfield 97, 3) := by decide +kernel
theorem dX8_finds_49 : decode cX8_finds 49 = .ok (.iload_n 1, 1) := by decide +kernel
theorem dX8_finds_50 : decode cX8_finds 50 = .ok (.iastore, 1) := by decide +kernel
theorem dX8_finds_51 : decode cX8_finds 51 = .ok (.aload_n 0, 1) := by decide +kernel
theorem dX8_finds_52 : decode cX8_finds 52 = .ok (.dup, 1) := by decide +kernel
theorem dX8_finds_53 : decode cX8_finds 53 = .ok (.getfield 97, 3) := by decide +kernel
theorem dX8_finds_56 : decode cX8_finds 56 = .ok (.iconst 1, 1) := by decide +kernel
theorem dX8_finds_57 : decode cX8_finds 57 = .ok (.iadd, 1) := by decide +kernel
theorem dX8_finds_58 : decode cX8_finds 58 = .ok (.putfield 97, 3) := by decide +kernel
theorem dX8_finds_61 : decode cX8_finds 61 = .ok (.iinc 1 1, 3) := by decide +kernel
theorem dX8_finds_64 : decode cX8_finds 64 = .ok (.goto (-57), 3) := by decide +kernel
theorem dX8_finds_67 : decode cX8_finds 67 = .ok (.return_, 1) := by decide +kernel
theorem dX8_leastOf_0 : decode cX8_leastOf 0 = .ok (.iload_n 1, 1) := by decide +kernel
theorem dX8_leastOf_1 : decode cX8_leastOf 1 = .ok (.istore_n 2, 1) := by decide +kernel
theorem dX8_leastOf_2 : decode cX8_leastOf 2 = .ok (.iconst 0, 1) := by decide +kernel
theorem dX8_leastOf_3 : decode cX8_leastOf 3 = .ok (.istore_n 3, 1) := by decide +kernel
theorem dX8_leastOf_4 : decode cX8_leastOf 4 = .ok (.iload_n 3, 1) := by decide +kernel
theorem dX8_leastOf_5 : decode cX8_leastOf 5 = .ok (.aload_n 0, 1) := by decide +kernel
theorem dX8_leastOf_6 : decode cX8_leastOf 6 = .ok (.getfield 97, 3) := by decide +kernel
theorem dX8_leastOf_9 : decode cX8_leastOf 9 = .ok (.if_icmp .ge 36, 3) := by decide +kernel
theorem dX8_leastOf_12 : decode cX8_leastOf 12 = .ok (.iload_n 2, 1) := by decide +kernel
theorem dX8_leastOf_13 : decode cX8_leastOf 13 = .ok (.aload_n 0, 1) := by decide +kernel
theorem dX8_leastOf_14 : decode cX8_leastOf 14 = .ok (.getfield 21, 3) := by decide +kernel
theorem dX8_leastOf_17 : decode cX8_leastOf 17 = .ok (.iload_n 3, 1) := by decide +kernel
theorem dX8_leastOf_18 : decode cX8_leastOf 18 = .ok (.iaload, 1) := by decide +kernel
theorem dX8_leastOf_19 : decode cX8_leastOf 19 = .ok (.iload_n 1, 1) := by decide +kernel
theorem dX8_leastOf_20 : decode cX8_leastOf 20 = .ok (.invokestatic 81, 3) := by decide +kernel
theorem dX8_leastOf_23 : decode cX8_leastOf 23 = .ok (.aload_n 0, 1) := by decide +kernel
theorem dX8_leastOf_24 : decode cX8_leastOf 24 = .ok (.getfield 21, 3) := by decide +kernel
theorem dX8_leastOf_27 : decode cX8_leastOf 27 = .ok (.iload_n 3, 1) := by decide +kernel
theorem dX8_leastOf_28 : decode cX8_leastOf 28 = .ok (.iaload, 1) := by decide +kernel
theorem dX8_leastOf_29 : decode cX8_leastOf 29 = .ok (.invokestatic 104, 3) := by decide +kernel
theorem dX8_leastOf_32 : decode cX8_leastOf 32 = .ok (.invokestatic 81, 3) := by decide +kernel
theorem dX8_leastOf_35 : decode cX8_leastOf 35 = .ok (.invokestatic 107, 3) := by decide +kernel
theorem dX8_leastOf_38 : decode cX8_leastOf 38 = .ok (.istore_n 2, 1) := by decide +kernel
theorem dX8_leastOf_39 : decode cX8_leastOf 39 = .ok (.iinc 3 1, 3) := by decide +kernel
theorem dX8_leastOf_42 : decode cX8_leastOf 42 = .ok (.goto (-38), 3) := by decide +kernel
theorem dX8_leastOf_45 : decode cX8_leastOf 45 = .ok (.iload_n 2, 1) := by decide +kernel
theorem dX8_leastOf_46 : decode cX8_leastOf 46 = .ok (.ireturn, 1) := by decide +kernel
theorem dX8_classMany_0 : decode cX8_classMany 0 = .ok (.aload_n 0, 1) := by decide +kernel
theorem dX8_classMany_1 : decode cX8_classMany 1 = .ok (.iload_n 1, 1) := by decide +kernel
theorem dX8_classMany_2 : decode cX8_classMany 2 = .ok (.invokevirtual 112, 3) := by decide +kernel
theorem dX8_classMany_5 : decode cX8_classMany 5 = .ok (.istore_n 2, 1) := by decide +kernel
theorem dX8_classMany_6 : decode cX8_classMany 6 = .ok (.iconst 0, 1) := by decide +kernel
theorem dX8_classMany_7 : decode cX8_classMany 7 = .ok (.istore_n 3, 1) := by decide +kernel
theorem dX8_classMany_8 : decode cX8_classMany 8 = .ok (.iconst 0, 1) := by decide +kernel
theorem dX8_classMany_9 : decode cX8_classMany 9 = .ok (.istore 4, 2) := by decide +kernel
theorem dX8_classMany_11 : decode cX8_classMany 11 = .ok (.iload 4, 2) := by decide +kernel
theorem dX8_classMany_13 : decode cX8_classMany 13 = .ok (.aload_n 0, 1) := by decide +kernel
theorem dX8_classMany_14 : decode cX8_classMany 14 = .ok (.getfield 97, 3) := by decide +kernel
theorem dX8_classMany_17 : decode cX8_classMany 17 = .ok (.if_icmp .ge 32, 3) := by decide +kernel
theorem dX8_classMany_20 : decode cX8_classMany 20 = .ok (.iload_n 3, 1) := by decide +kernel
theorem dX8_classMany_21 : decode cX8_classMany 21 = .ok (.aload_n 0, 1) := by decide +kernel
theorem dX8_classMany_22 : decode cX8_classMany 22 = .ok (.aload_n 0, 1) := by decide +kernel
theorem dX8_classMany_23 : decode cX8_classMany 23 = .ok (.getfield 21, 3) := by decide +kernel
theorem dX8_classMany_26 : decode cX8_classMany 26 = .ok (.iload 4, 2) := by decide +kernel
theorem dX8_classMany_28 : decode cX8_classMany 28 = .ok (.iaload, 1) := by decide +kernel
theorem dX8_classMany_29 : decode cX8_classMany 29 = .ok (.invokevirtual 112, 3) := by decide +kernel
theorem dX8_classMany_32 : decode cX8_classMany 32 = .ok (.iload_n 2, 1) := by decide +kernel
theorem dX8_classMany_33 : decode cX8_classMany 33 = .ok (.if_icmp .ne 7, 3) := by decide +kernel
theorem dX8_classMany_36 : decode cX8_classMany 36 = .ok (.iconst 1, 1) := by decide +kernel
theorem dX8_classMany_37 : decode cX8_classMany 37 = .ok (.goto 4, 3) := by decide +kernel
theorem dX8_classMany_40 : decode cX8_classMany 40 = .ok (.iconst 0, 1) := by decide +kernel
theorem dX8_classMany_41 : decode cX8_classMany 41 = .ok (.iadd, 1) := by decide +kernel
theorem dX8_classMany_42 : decode cX8_classMany 42 = .ok (.istore_n 3, 1) := by decide +kernel
theorem dX8_classMany_43 : decode cX8_classMany 43 = .ok (.iinc 4 1, 3) := by decide +kernel
theorem dX8_classMany_46 : decode cX8_classMany 46 = .ok (.goto (-35), 3) := by decide +kernel
theorem dX8_classMany_49 : decode cX8_classMany 49 = .ok (.iload_n 3, 1) := by decide +kernel
theorem dX8_classMany_50 : decode cX8_classMany 50 = .ok (.ireturn, 1) := by decide +kernel
theorem dX8_classNumber_0 : decode cX8_classNumber 0 = .ok (.iconst 0, 1) := by decide +kernel
theorem dX8_classNumber_1 : decode cX8_classNumber 1 = .ok (.istore_n 2, 1) := by decide +kernel
theorem dX8_classNumber_2 : decode cX8_classNumber 2 = .ok (.iconst 0, 1) := by decide +kernel
theorem dX8_classNumber_3 : decode cX8_classNumber 3 = .ok (.istore_n 3, 1) := by decide +kernel
theorem dX8_classNumber_4 : decode cX8_classNumber 4 = .ok (.iload_n 3, 1) := by decide +kernel
theorem dX8_classNumber_5 : decode cX8_classNumber 5 = .ok (.aload_n 0, 1) := by decide +kernel
theorem dX8_classNumber_6 : decode cX8_classNumber 6 = .ok (.getfield 97, 3) := by decide +kernel
theorem dX8_classNumber_9 : decode cX8_classNumber 9 = .ok (.if_icmp .ge 43, 3) := by decide +kernel
theorem dX8_classNumber_12 : decode cX8_classNumber 12 = .ok (.aload_n 0, 1) := by decide +kernel
theorem dX8_classNumber_13 : decode cX8_classNumber 13 = .ok (.aload_n 0, 1) := by decide +kernel
theorem dX8_classNumber_14 : decode cX8_classNumber 14 = .ok (.getfield 21, 3) := by decide +kernel
theorem dX8_classNumber_17 : decode cX8_classNumber 17 = .ok (.iload_n 3, 1) := by decide +kernel
theorem dX8_classNumber_18 : decode cX8_classNumber 18 = .ok (.iaload, 1) := by decide +kernel
theorem dX8_classNumber_19 : decode cX8_classNumber 19 = .ok (.invokevirtual 112, 3) := by decide +kernel
theorem dX8_classNumber_22 : decode cX8_classNumber 22 = .ok (.aload_n 0, 1) := by decide +kernel
theorem dX8_classNumber_23 : decode cX8_classNumber 23 = .ok (.getfield 21, 3) := by decide +kernel
theorem dX8_classNumber_26 : decode cX8_classNumber 26 = .ok (.iload_n 3, 1) := by decide +kernel
theorem dX8_classNumber_27 : decode cX8_classNumber 27 = .ok (.iaload, 1) := by decide +kernel
theorem dX8_classNumber_28 : decode cX8_classNumber 28 = .ok (.if_icmp .ne 18, 3) := by decide +kernel
theorem dX8_classNumber_31 : decode cX8_classNumber 31 = .ok (.iload_n 2, 1) := by decide +kernel
theorem dX8_classNumber_32 : decode cX8_classNumber 32 = .ok (.iload_n 1, 1) := by decide +kernel
theorem dX8_classNumber_33 : decode cX8_classNumber 33 = .ok (.if_icmp .ne 10, 3) := by decide +kernel
theorem dX8_classNumber_36 : decode cX8_classNumber 36 = .ok (.aload_n 0, 1) := by decide +kernel
theorem dX8_classNumber_37 : decode cX8_classNumber 37 = .ok (.getfield 21, 3) := by decide +kernel
theorem dX8_classNumber_40 : decode cX8_classNumber 40 = .ok (.iload_n 3, 1) := by decide +kernel
theorem dX8_classNumber_41 : decode cX8_classNumber 41 = .ok (.iaload, 1) := by decide +kernel
theorem dX8_classNumber_42 : decode cX8_classNumber 42 = .ok (.ireturn, 1) := by decide +kernel
theorem dX8_classNumber_43 : decode cX8_classNumber 43 = .ok (.iinc 2 1, 3) := by decide +kernel
theorem dX8_classNumber_46 : decode cX8_classNumber 46 = .ok (.iinc 3 1, 3) := by decide +kernel
theorem dX8_classNumber_49 : decode cX8_classNumber 49 = .ok (.goto (-45), 3) := by decide +kernel
theorem dX8_classNumber_52 : decode cX8_classNumber 52 = .ok (.iconst (-1), 1) := by decide +kernel
theorem dX8_classNumber_53 : decode cX8_classNumber 53 = .ok (.iload_n 2, 1) := by decide +kernel
theorem dX8_classNumber_54 : decode cX8_classNumber 54 = .ok (.isub, 1) := by decide +kernel
theorem dX8_classNumber_55 : decode cX8_classNumber 55 = .ok (.ireturn, 1) := by decide +kernel
theorem dX8_classes_0 : decode cX8_classes 0 = .ok (.iconst (-1), 1) := by decide +kernel
theorem dX8_classes_1 : decode cX8_classes 1 = .ok (.aload_n 0, 1) := by decide +kernel
theorem dX8_classes_2 : decode cX8_classes 2 = .ok (.bipush 48, 2) := by decide +kernel
theorem dX8_classes_4 : decode cX8_classes 4 = .ok (.invokevirtual 115, 3) := by decide +kernel
theorem dX8_classes_7 : decode cX8_classes 7 = .ok (.isub, 1) := by decide +kernel
theorem dX8_classes_8 : decode cX8_classes 8 = .ok (.ireturn, 1) := by decide +kernel
theorem dX8_orbitOf_0 : decode cX8_orbitOf 0 = .ok (.iload_n 1, 1) := by decide +kernel
theorem dX8_orbitOf_1 : decode cX8_orbitOf 1 = .ok (.istore_n 2, 1) := by decide +kernel
theorem dX8_orbitOf_2 : decode cX8_orbitOf 2 = .ok (.iconst 0, 1) := by decide +kernel
theorem dX8_orbitOf_3 : decode cX8_orbitOf 3 = .ok (.istore_n 3, 1) := by decide +kernel
theorem dX8_orbitOf_4 : decode cX8_orbitOf 4 = .ok (.iload_n 3, 1) := by decide +kernel
theorem dX8_orbitOf_5 : decode cX8_orbitOf 5 = .ok (.aload_n 0, 1) := by decide +kernel
theorem dX8_orbitOf_6 : decode cX8_orbitOf 6 = .ok (.getfield 97, 3) := by decide +kernel
theorem dX8_orbitOf_9 : decode cX8_orbitOf 9 = .ok (.if_icmp .ge 25, 3) := by decide +kernel
theorem dX8_orbitOf_12 : decode cX8_orbitOf 12 = .ok (.iload_n 2, 1) := by decide +kernel
theorem dX8_orbitOf_13 : decode cX8_orbitOf 13 = .ok (.aload_n 0, 1) := by decide +kernel
theorem dX8_orbitOf_14 : decode cX8_orbitOf 14 = .ok (.aload_n 0, 1) := by decide +kernel
theorem dX8_orbitOf_15 : decode cX8_orbitOf 15 = .ok (.getfield 21, 3) := by decide +kernel
theorem dX8_orbitOf_18 : decode cX8_orbitOf 18 = .ok (.iload_n 3, 1) := by decide +kernel
theorem dX8_orbitOf_19 : decode cX8_orbitOf 19 = .ok (.iaload, 1) := by decide +kernel
theorem dX8_orbitOf_20 : decode cX8_orbitOf 20 = .ok (.iload_n 1, 1) := by decide +kernel
theorem dX8_orbitOf_21 : decode cX8_orbitOf 21 = .ok (.invokevirtual 90, 3) := by decide +kernel
theorem dX8_orbitOf_24 : decode cX8_orbitOf 24 = .ok (.invokestatic 107, 3) := by decide +kernel
theorem dX8_orbitOf_27 : decode cX8_orbitOf 27 = .ok (.istore_n 2, 1) := by decide +kernel
theorem dX8_orbitOf_28 : decode cX8_orbitOf 28 = .ok (.iinc 3 1, 3) := by decide +kernel
theorem dX8_orbitOf_31 : decode cX8_orbitOf 31 = .ok (.goto (-27), 3) := by decide +kernel
theorem dX8_orbitOf_34 : decode cX8_orbitOf 34 = .ok (.iload_n 2, 1) := by decide +kernel
theorem dX8_orbitOf_35 : decode cX8_orbitOf 35 = .ok (.ireturn, 1) := by decide +kernel
theorem dX8_orbits_0 : decode cX8_orbits 0 = .ok (.iconst 0, 1) := by decide +kernel
theorem dX8_orbits_1 : decode cX8_orbits 1 = .ok (.istore_n 1, 1) := by decide +kernel
theorem dX8_orbits_2 : decode cX8_orbits 2 = .ok (.iconst 0, 1) := by decide +kernel
theorem dX8_orbits_3 : decode cX8_orbits 3 = .ok (.istore_n 2, 1) := by decide +kernel
theorem dX8_orbits_4 : decode cX8_orbits 4 = .ok (.iload_n 2, 1) := by decide +kernel
theorem dX8_orbits_5 : decode cX8_orbits 5 = .ok (.aload_n 0, 1) := by decide +kernel
theorem dX8_orbits_6 : decode cX8_orbits 6 = .ok (.getfield 11, 3) := by decide +kernel
theorem dX8_orbits_9 : decode cX8_orbits 9 = .ok (.iconst 0, 1) := by decide +kernel
theorem dX8_orbits_10 : decode cX8_orbits 10 = .ok (.iaload, 1) := by decide +kernel
theorem dX8_orbits_11 : decode cX8_orbits 11 = .ok (.if_icmp .ge 26, 3) := by decide +kernel
theorem dX8_orbits_14 : decode cX8_orbits 14 = .ok (.iload_n 1, 1) := by decide +kernel
theorem dX8_orbits_15 : decode cX8_orbits 15 = .ok (.aload_n 0, 1) := by decide +kernel
theorem dX8_orbits_16 : decode cX8_orbits 16 = .ok (.iload_n 2, 1) := by decide +kernel
theorem dX8_orbits_17 : decode cX8_orbits 17 = .ok (.invokevirtual 118, 3) := by decide +kernel
theorem dX8_orbits_20 : decode cX8_orbits 20 = .ok (.iload_n 2, 1) := by decide +kernel
theorem dX8_orbits_21 : decode cX8_orbits 21 = .ok (.if_icmp .ne 7, 3) := by decide +kernel
theorem dX8_orbits_24 : decode cX8_orbits 24 = .ok (.iconst 1, 1) := by decide +kernel
theorem dX8_orbits_25 : decode cX8_orbits 25 = .ok (.goto 4, 3) := by decide +kernel
theorem dX8_orbits_28 : decode cX8_orbits 28 = .ok (.iconst 0, 1) := by decide +kernel
theorem dX8_orbits_29 : decode cX8_orbits 29 = .ok (.iadd, 1) := by decide +kernel
theorem dX8_orbits_30 : decode cX8_orbits 30 = .ok (.istore_n 1, 1) := by decide +kernel
theorem dX8_orbits_31 : decode cX8_orbits 31 = .ok (.iinc 2 1, 3) := by decide +kernel
theorem dX8_orbits_34 : decode cX8_orbits 34 = .ok (.goto (-30), 3) := by decide +kernel
theorem dX8_orbits_37 : decode cX8_orbits 37 = .ok (.iload_n 1, 1) := by decide +kernel
theorem dX8_orbits_38 : decode cX8_orbits 38 = .ok (.ireturn, 1) := by decide +kernel
theorem dX8_isHanded_0 : decode cX8_isHanded 0 = .ok (.iconst 1, 1) := by decide +kernel
theorem dX8_isHanded_1 : decode cX8_isHanded 1 = .ok (.istore_n 1, 1) := by decide +kernel
theorem dX8_isHanded_2 : decode cX8_isHanded 2 = .ok (.iconst 0, 1) := by decide +kernel
theorem dX8_isHanded_3 : decode cX8_isHanded 3 = .ok (.istore_n 2, 1) := by decide +kernel
theorem dX8_isHanded_4 : decode cX8_isHanded 4 = .ok (.iload_n 2, 1) := by decide +kernel
theorem dX8_isHanded_5 : decode cX8_isHanded 5 = .ok (.aload_n 0, 1) := by decide +kernel
theorem dX8_isHanded_6 : decode cX8_isHanded 6 = .ok (.getfield 97, 3) := by decide +kernel
theorem dX8_isHanded_9 : decode cX8_isHanded 9 = .ok (.if_icmp .ge 30, 3) := by decide +kernel
theorem dX8_isHanded_12 : decode cX8_isHanded 12 = .ok (.iload_n 1, 1) := by decide +kernel
theorem dX8_isHanded_13 : decode cX8_isHanded 13 = .ok (.aload_n 0, 1) := by decide +kernel
theorem dX8_isHanded_14 : decode cX8_isHanded 14 = .ok (.getfield 21, 3) := by decide +kernel
theorem dX8_isHanded_17 : decode cX8_isHanded 17 = .ok (.iload_n 2, 1) := by decide +kernel
theorem dX8_isHanded_18 : decode cX8_isHanded 18 = .ok (.iaload, 1) := by decide +kernel
theorem dX8_isHanded_19 : decode cX8_isHanded 19 = .ok (.invokestatic 121, 3) := by decide +kernel
theorem dX8_isHanded_22 : decode cX8_isHanded 22 = .ok (.iconst 1, 1) := by decide +kernel
theorem dX8_isHanded_23 : decode cX8_isHanded 23 = .ok (.if_icmp .ne 7, 3) := by decide +kernel
theorem dX8_isHanded_26 : decode cX8_isHanded 26 = .ok (.iconst 1, 1) := by decide +kernel
theorem dX8_isHanded_27 : decode cX8_isHanded 27 = .ok (.goto 4, 3) := by decide +kernel
theorem dX8_isHanded_30 : decode cX8_isHanded 30 = .ok (.iconst 0, 1) := by decide +kernel
theorem dX8_isHanded_31 : decode cX8_isHanded 31 = .ok (.iand, 1) := by decide +kernel
theorem dX8_isHanded_32 : decode cX8_isHanded 32 = .ok (.istore_n 1, 1) := by decide +kernel
theorem dX8_isHanded_33 : decode cX8_isHanded 33 = .ok (.iinc 2 1, 3) := by decide +kernel
theorem dX8_isHanded_36 : decode cX8_isHanded 36 = .ok (.goto (-32), 3) := by decide +kernel
theorem dX8_isHanded_39 : decode cX8_isHanded 39 = .ok (.iload_n 1, 1) := by decide +kernel
theorem dX8_isHanded_40 : decode cX8_isHanded 40 = .ok (.ireturn, 1) := by decide +kernel
theorem dX8_nearest_0 : decode cX8_nearest 0 = .ok (.bipush (-5), 2) := by decide +kernel
theorem dX8_nearest_2 : decode cX8_nearest 2 = .ok (.istore_n 1, 1) := by decide +kernel
theorem dX8_nearest_3 : decode cX8_nearest 3 = .ok (.iconst 0, 1) := by decide +kernel
theorem dX8_nearest_4 : decode cX8_nearest 4 = .ok (.istore_n 2, 1) := by decide +kernel
theorem dX8_nearest_5 : decode cX8_nearest 5 = .ok (.iload_n 2, 1) := by decide +kernel
theorem dX8_nearest_6 : decode cX8_nearest 6 = .ok (.bipush 48, 2) := by decide +kernel
theorem dX8_nearest_8 : decode cX8_nearest 8 = .ok (.if_icmp .ge 43, 3) := by decide +kernel
theorem dX8_nearest_11 : decode cX8_nearest 11 = .ok (.aload_n 0, 1) := by decide +kernel
theorem dX8_nearest_12 : decode cX8_nearest 12 = .ok (.getfield 24, 3) := by decide +kernel
theorem dX8_nearest_15 : decode cX8_nearest 15 = .ok (.iload_n 2, 1) := by decide +kernel
theorem dX8_nearest_16 : decode cX8_nearest 16 = .ok (.baload, 1) := by decide +kernel
theorem dX8_nearest_17 : decode cX8_nearest 17 = .ok (.ifCond .ne 26, 3) := by decide +kernel
theorem dX8_nearest_20 : decode cX8_nearest 20 = .ok (.iload_n 1, 1) := by decide +kernel
theorem dX8_nearest_21 : decode cX8_nearest 21 = .ok (.bipush (-5), 2) := by decide +kernel
theorem dX8_nearest_23 : decode cX8_nearest 23 = .ok (.if_icmp .eq 16, 3) := by decide +kernel
theorem dX8_nearest_26 : decode cX8_nearest 26 = .ok (.aload_n 0, 1) := by decide +kernel
theorem dX8_nearest_27 : decode cX8_nearest 27 = .ok (.iload_n 2, 1) := by decide +kernel
theorem dX8_nearest_28 : decode cX8_nearest 28 = .ok (.invokevirtual 101, 3) := by decide +kernel
theorem dX8_nearest_31 : decode cX8_nearest 31 = .ok (.aload_n 0, 1) := by decide +kernel
theorem dX8_nearest_32 : decode cX8_nearest 32 = .ok (.iload_n 1, 1) := by decide +kernel
theorem dX8_nearest_33 : decode cX8_nearest 33 = .ok (.invokevirtual 101, 3) := by decide +kernel
theorem dX8_nearest_36 : decode cX8_nearest 36 = .ok (.if_icmp .ge 7, 3) := by decide +kernel
theorem dX8_nearest_39 : decode cX8_nearest 39 = .ok (.iload_n 2, 1) := by decide +kernel
theorem dX8_nearest_40 : decode cX8_nearest 40 = .ok (.goto 4, 3) := by decide +kernel
theorem dX8_nearest_43 : decode cX8_nearest 43 = .ok (.iload_n 1, 1) := by decide +kernel
theorem dX8_nearest_44 : decode cX8_nearest 44 = .ok (.istore_n 1, 1) := by decide +kernel
theorem dX8_nearest_45 : decode cX8_nearest 45 = .ok (.iinc 2 1, 3) := by decide +kernel
theorem dX8_nearest_48 : decode cX8_nearest 48 = .ok (.goto (-43), 3) := by decide +kernel
theorem dX8_nearest_51 : decode cX8_nearest 51 = .ok (.iload_n 1, 1) := by decide +kernel
theorem dX8_nearest_52 : decode cX8_nearest 52 = .ok (.ireturn, 1) := by decide +kernel
theorem dX8_makesMore_0 : decode cX8_makesMore 0 = .ok (.iconst 0, 1) := by decide +kernel
theorem dX8_makesMore_1 : decode cX8_makesMore 1 = .ok (.istore_n 1, 1) := by decide +kernel
theorem dX8_makesMore_2 : decode cX8_makesMore 2 = .ok (.iconst 0, 1) := by decide +kernel
theorem dX8_makesMore_3 : decode cX8_makesMore 3 = .ok (.istore_n 2, 1) := by decide +kernel
theorem dX8_makesMore_4 : decode cX8_makesMore 4 = .ok (.iload_n 2, 1) := by decide +kernel
theorem dX8_makesMore_5 : decode cX8_makesMore 5 = .ok (.bipush 48, 2) := by decide +kernel
theorem dX8_makesMore_7 : decode cX8_makesMore 7 = .ok (.if_icmp .ge 72, 3) := by decide +kernel
theorem dX8_makesMore_10 : decode cX8_makesMore 10 = .ok (.iconst 0, 1) := by decide +kernel
theorem dX8_makesMore_11 : decode cX8_makesMore 11 = .ok (.istore_n 3, 1) := by decide +kernel
theorem dX8_makesMore_12 : decode cX8_makesMore 12 = .ok (.iload_n 3, 1) := by decide +kernel
theorem dX8_makesMore_13 : decode cX8_makesMore 13 = .ok (.aload_n 0, 1) := by decide +kernel
theorem dX8_makesMore_14 : decode cX8_makesMore 14 = .ok (.getfield 124, 3) := by decide +kernel
theorem dX8_makesMore_17 : decode cX8_makesMore 17 = .ok (.if_icmp .ge 56, 3) := by decide +kernel
theorem dX8_makesMore_20 : decode cX8_makesMore 20 = .ok (.aload_n 0, 1) := by decide +kernel
theorem dX8_makesMore_21 : decode cX8_makesMore 21 = .ok (.getfield 31, 3) := by decide +kernel
theorem dX8_makesMore_24 : decode cX8_makesMore 24 = .ok (.iload_n 2, 1) := by decide +kernel
theorem dX8_makesMore_25 : decode cX8_makesMore 25 = .ok (.baload, 1) := by decide +kernel
theorem dX8_makesMore_26 : decode cX8_makesMore 26 = .ok (.ifCond .eq 47, 3) := by decide +kernel
theorem dX8_makesMore_29 : decode cX8_makesMore 29 = .ok (.aload_n 0, 1) := by decide +kernel
theorem dX8_makesMore_30 : decode cX8_makesMore 30 = .ok (.getfield 28, 3) := by decide +kernel
theorem dX8_makesMore_33 : decode cX8_makesMore 33 = .ok (.iload_n 3, 1) := by decide +kernel
theorem dX8_makesMore_34 : decode cX8_makesMore 34 = .ok (.iaload, 1) := by decide +kernel
theorem dX8_makesMore_35 : decode cX8_makesMore 35 = .ok (.iload_n 2, 1) := by decide +kernel
theorem dX8_makesMore_36 : decode cX8_makesMore 36 = .ok (.invokestatic 81, 3) := by decide +kernel
theorem dX8_makesMore_39 : decode cX8_makesMore 39 = .ok (.istore 4, 2) := by decide +kernel
theorem dX8_makesMore_41 : decode cX8_makesMore 41 = .ok (.iload_n 1, 1) := by decide +kernel
theorem dX8_makesMore_42 : decode cX8_makesMore 42 = .ok (.aload_n 0, 1) := by decide +kernel
theorem dX8_makesMore_43 : decode cX8_makesMore 43 = .ok (.getfield 31, 3) := by decide +kernel
theorem dX8_makesMore_46 : decode cX8_makesMore 46 = .ok (.iload 4, 2) := by decide +kernel
theorem dX8_makesMore_48 : decode cX8_makesMore 48 = .ok (.baload, 1) := by decide +kernel
theorem dX8_makesMore_49 : decode cX8_makesMore 49 = .ok (.ifCond .ne 7, 3) := by decide +kernel
theorem dX8_makesMore_52 : decode cX8_makesMore 52 = .ok (.iconst 1, 1) := by decide +kernel
theorem dX8_makesMore_53 : decode cX8_makesMore 53 = .ok (.goto 4, 3) := by decide +kernel
theorem dX8_makesMore_56 : decode cX8_makesMore 56 = .ok (.iconst 0, 1) := by decide +kernel
theorem dX8_makesMore_57 : decode cX8_makesMore 57 = .ok (.ior, 1) := by decide +kernel
theorem dX8_makesMore_58 : decode cX8_makesMore 58 = .ok (.istore_n 1, 1) := by decide +kernel
theorem dX8_makesMore_59 : decode cX8_makesMore 59 = .ok (.aload_n 0, 1) := by decide +kernel
theorem dX8_makesMore_60 : decode cX8_makesMore 60 = .ok (.getfield 31, 3) := by decide +kernel
theorem dX8_makesMore_63 : decode cX8_makesMore 63 = .ok (.iload 4, 2) := by decide +kernel
theorem dX8_makesMore_65 : decode cX8_makesMore 65 = .ok (.iconst 1, 1) := by decide +kernel
theorem dX8_makesMore_66 : decode cX8_makesMore 66 = .ok (.bastore, 1) := by decide +kernel
theorem dX8_makesMore_67 : decode cX8_makesMore 67 = .ok (.iinc 3 1, 3) := by decide +kernel
theorem dX8_makesMore_70 : decode cX8_makesMore 70 = .ok (.goto (-58), 3) := by decide +kernel
theorem dX8_makesMore_73 : decode cX8_makesMore 73 = .ok (.iinc 2 1, 3) := by decide +kernel
theorem dX8_makesMore_76 : decode cX8_makesMore 76 = .ok (.goto (-72), 3) := by decide +kernel
theorem dX8_makesMore_79 : decode cX8_makesMore 79 = .ok (.iload_n 1, 1) := by decide +kernel
theorem dX8_makesMore_80 : decode cX8_makesMore 80 = .ok (.ireturn, 1) := by decide +kernel
theorem dX8_findsMakers_0 : decode cX8_findsMakers 0 = .ok (.aload_n 0, 1) := by decide +kernel
theorem dX8_findsMakers_1 : decode cX8_findsMakers 1 = .ok (.iconst 0, 1) := by decide +kernel
theorem dX8_findsMakers_2 : decode cX8_findsMakers 2 = .ok (.putfield 124, 3) := by decide +kernel
theorem dX8_findsMakers_5 : decode cX8_findsMakers 5 = .ok (.iconst 0, 1) := by decide +kernel
theorem dX8_findsMakers_6 : decode cX8_findsMakers 6 = .ok (.istore_n 1, 1) := by decide +kernel
theorem dX8_findsMakers_7 : decode cX8_findsMakers 7 = .ok (.iload_n 1, 1) := by decide +kernel
theorem dX8_findsMakers_8 : decode cX8_findsMakers 8 = .ok (.bipush 48, 2) := by decide +kernel
theorem dX8_findsMakers_10 : decode cX8_findsMakers 10 = .ok (.if_icmp .ge 24, 3) := by decide +kernel
theorem dX8_findsMakers_13 : decode cX8_findsMakers 13 = .ok (.aload_n 0, 1) := by decide +kernel
theorem dX8_findsMakers_14 : decode cX8_findsMakers 14 = .ok (.getfield 31, 3) := by decide +kernel
theorem dX8_findsMakers_17 : decode cX8_findsMakers 17 = .ok (.iload_n 1, 1) := by decide +kernel
theorem dX8_findsMakers_18 : decode cX8_findsMakers 18 = .ok (.iload_n 1, 1) := by decide +kernel
theorem dX8_findsMakers_19 : decode cX8_findsMakers 19 = .ok (.ifCond .ne 7, 3) := by decide +kernel
theorem dX8_findsMakers_22 : decode cX8_findsMakers 22 = .ok (.iconst 1, 1) := by decide +kernel
theorem dX8_findsMakers_23 : decode cX8_findsMakers 23 = .ok (.goto 4, 3) := by decide +kernel
theorem dX8_findsMakers_26 : decode cX8_findsMakers 26 = .ok (.iconst 0, 1) := by decide +kernel
theorem dX8_findsMakers_27 : decode cX8_findsMakers 27 = .ok (.bastore, 1) := by decide +kernel
theorem dX8_findsMakers_28 : decode cX8_findsMakers 28 = .ok (.iinc 1 1, 3) := by decide +kernel
theorem dX8_findsMakers_31 : decode cX8_findsMakers 31 = .ok (.goto (-24), 3) := by decide +kernel
theorem dX8_findsMakers_34 : decode cX8_findsMakers 34 = .ok (.iconst 0, 1) := by decide +kernel
theorem dX8_findsMakers_35 : decode cX8_findsMakers 35 = .ok (.istore_n 1, 1) := by decide +kernel
theorem dX8_findsMakers_36 : decode cX8_findsMakers 36 = .ok (.iload_n 1, 1) := by decide +kernel
theorem dX8_findsMakers_37 : decode cX8_findsMakers 37 = .ok (.aload_n 0, 1) := by decide +kernel
theorem dX8_findsMakers_38 : decode cX8_findsMakers 38 = .ok (.getfield 97, 3) := by decide +kernel
theorem dX8_findsMakers_41 : decode cX8_findsMakers 41 = .ok (.if_icmp .ge 65, 3) := by decide +kernel
theorem dX8_findsMakers_44 : decode cX8_findsMakers 44 = .ok (.aload_n 0, 1) := by decide +kernel
theorem dX8_findsMakers_45 : decode cX8_findsMakers 45 = .ok (.getfield 31, 3) := by decide +kernel
theorem dX8_findsMakers_48 : decode cX8_findsMakers 48 = .ok (.aload_n 0, 1) := by decide +kernel
theorem dX8_findsMakers_49 : decode cX8_findsMakers 49 = .ok (.getfield 21, 3) := by decide +kernel
theorem dX8_findsMakers_52 : decode cX8_findsMakers 52 = .ok (.iload_n 1, 1) := by decide +kernel
theorem dX8_findsMakers_53 : decode cX8_findsMakers 53 = .ok (.iaload, 1) := by decide +kernel
theorem dX8_findsMakers_54 : decode cX8_findsMakers 54 = .ok (.baload, 1) := by decide +kernel
theorem dX8_findsMakers_55 : decode cX8_findsMakers 55 = .ok (.ifCond .ne 45, 3) := by decide +kernel
theorem dX8_findsMakers_58 : decode cX8_findsMakers 58 = .ok (.aload_n 0, 1) := by decide +kernel
theorem dX8_findsMakers_59 : decode cX8_findsMakers 59 = .ok (.getfield 28, 3) := by decide +kernel
theorem dX8_findsMakers_62 : decode cX8_findsMakers 62 = .ok (.aload_n 0, 1) := by decide +kernel
theorem dX8_findsMakers_63 : decode cX8_findsMakers 63 = .ok (.getfield 124, 3) := by decide +kernel
theorem dX8_findsMakers_66 : decode cX8_findsMakers 66 = .ok (.aload_n 0, 1) := by decide +kernel
theorem dX8_findsMakers_67 : decode cX8_findsMakers 67 = .ok (.getfield 21, 3) := by decide +kernel
theorem dX8_findsMakers_70 : decode cX8_findsMakers 70 = .ok (.iload_n 1, 1) := by decide +kernel
theorem dX8_findsMakers_71 : decode cX8_findsMakers 71 = .ok (.iaload, 1) := by decide +kernel
theorem dX8_findsMakers_72 : decode cX8_findsMakers 72 = .ok (.iastore, 1) := by decide +kernel
theorem dX8_findsMakers_73 : decode cX8_findsMakers 73 = .ok (.aload_n 0, 1) := by decide +kernel
theorem dX8_findsMakers_74 : decode cX8_findsMakers 74 = .ok (.dup, 1) := by decide +kernel
theorem dX8_findsMakers_75 : decode cX8_findsMakers 75 = .ok (.getfield 124, 3) := by decide +kernel
theorem dX8_findsMakers_78 : decode cX8_findsMakers 78 = .ok (.iconst 1, 1) := by decide +kernel
theorem dX8_findsMakers_79 : decode cX8_findsMakers 79 = .ok (.iadd, 1) := by decide +kernel
theorem dX8_findsMakers_80 : decode cX8_findsMakers 80 = .ok (.putfield 124, 3) := by decide +kernel
theorem dX8_findsMakers_83 : decode cX8_findsMakers 83 = .ok (.aload_n 0, 1) := by decide +kernel
theorem dX8_findsMakers_84 : decode cX8_findsMakers 84 = .ok (.invokevirtual 127, 3) := by decide +kernel
theorem dX8_findsMakers_87 : decode cX8_findsMakers 87 = .ok (.ifCond .eq 13, 3) := by decide +kernel
theorem dX8_findsMakers_90 : decode cX8_findsMakers 90 = .ok (.aload_n 0, 1) := by decide +kernel
theorem dX8_findsMakers_91 : decode cX8_findsMakers 91 = .ok (.getfield 31, 3) := by decide +kernel
theorem dX8_findsMakers_94 : decode cX8_findsMakers 94 = .ok (.iconst 0, 1) := by decide +kernel
theorem dX8_findsMakers_95 : decode cX8_findsMakers 95 = .ok (.iconst 1, 1) := by decide +kernel
theorem dX8_findsMakers_96 : decode cX8_findsMakers 96 = .ok (.bastore, 1) := by decide +kernel
theorem dX8_findsMakers_97 : decode cX8_findsMakers 97 = .ok (.goto (-14), 3) := by decide +kernel
theorem dX8_findsMakers_100 : decode cX8_findsMakers 100 = .ok (.iinc 1 1, 3) := by decide +kernel
theorem dX8_findsMakers_103 : decode cX8_findsMakers 103 = .ok (.goto (-67), 3) := by decide +kernel
theorem dX8_findsMakers_106 : decode cX8_findsMakers 106 = .ok (.return_, 1) := by decide +kernel
theorem dX8_toldSign_0 : decode cX8_toldSign 0 = .ok (.iconst 1, 1) := by decide +kernel
theorem dX8_toldSign_1 : decode cX8_toldSign 1 = .ok (.iconst 2, 1) := by decide +kernel
theorem dX8_toldSign_2 : decode cX8_toldSign 2 = .ok (.iload_n 1, 1) := by decide +kernel
theorem dX8_toldSign_3 : decode cX8_toldSign 3 = .ok (.aload_n 0, 1) := by decide +kernel
theorem dX8_toldSign_4 : decode cX8_toldSign 4 = .ok (.getfield 124, 3) := by decide +kernel
theorem dX8_toldSign_7 : decode cX8_toldSign 7 = .ok (.iconst 1, 1) := by decide +kernel
theorem dX8_toldSign_8 : decode cX8_toldSign 8 = .ok (.isub, 1) := by decide +kernel
theorem dX8_toldSign_9 : decode cX8_toldSign 9 = .ok (.iload_n 2, 1) := by decide +kernel
theorem dX8_toldSign_10 : decode cX8_toldSign 10 = .ok (.isub, 1) := by decide +kernel
theorem dX8_toldSign_11 : decode cX8_toldSign 11 = .ok (.ishr, 1) := by decide +kernel
theorem dX8_toldSign_12 : decode cX8_toldSign 12 = .ok (.iconst 1, 1) := by decide +kernel
theorem dX8_toldSign_13 : decode cX8_toldSign 13 = .ok (.iand, 1) := by decide +kernel
theorem dX8_toldSign_14 : decode cX8_toldSign 14 = .ok (.imul, 1) := by decide +kernel
theorem dX8_toldSign_15 : decode cX8_toldSign 15 = .ok (.isub, 1) := by decide +kernel
theorem dX8_toldSign_16 : decode cX8_toldSign 16 = .ok (.ireturn, 1) := by decide +kernel
theorem dX8_spreads_0 : decode cX8_spreads 0 = .ok (.iconst 0, 1) := by decide +kernel
theorem dX8_spreads_1 : decode cX8_spreads 1 = .ok (.istore_n 2, 1) := by decide +kernel
theorem dX8_spreads_2 : decode cX8_spreads 2 = .ok (.iconst 0, 1) := by decide +kernel
theorem dX8_spreads_3 : decode cX8_spreads 3 = .ok (.istore_n 3, 1) := by decide +kernel
theorem dX8_spreads_4 : decode cX8_spreads 4 = .ok (.iload_n 3, 1) := by decide +kernel
theorem dX8_spreads_5 : decode cX8_spreads 5 = .ok (.bipush 48, 2) := by decide +kernel
theorem dX8_spreads_7 : decode cX8_spreads 7 = .ok (.if_icmp .ge 108, 3) := by decide +kernel
theorem dX8_spreads_10 : decode cX8_spreads 10 = .ok (.iconst 0, 1) := by decide +kernel
theorem dX8_spreads_11 : decode cX8_spreads 11 = .ok (.istore 4, 2) := by decide +kernel
theorem dX8_spreads_13 : decode cX8_spreads 13 = .ok (.iload 4, 2) := by decide +kernel
theorem dX8_spreads_15 : decode cX8_spreads 15 = .ok (.aload_n 0, 1) := by decide +kernel
theorem dX8_spreads_16 : decode cX8_spreads 16 = .ok (.getfield 124, 3) := by decide +kernel
theorem dX8_spreads_19 : decode cX8_spreads 19 = .ok (.if_icmp .ge 90, 3) := by decide +kernel
theorem dX8_spreads_22 : decode cX8_spreads 22 = .ok (.aload_n 0, 1) := by decide +kernel
theorem dX8_spreads_23 : decode cX8_spreads 23 = .ok (.getfield 34, 3) := by decide +kernel
theorem dX8_spreads_26 : decode cX8_spreads 26 = .ok (.iload_n 3, 1) := by decide +kernel
theorem dX8_spreads_27 : decode cX8_spreads 27 = .ok (.iaload, 1) := by decide +kernel
theorem dX8_spreads_28 : decode cX8_spreads 28 = .ok (.ifCond .eq 81, 3) := by decide +kernel
theorem dX8_spreads_31 : decode cX8_spreads 31 = .ok (.aload_n 0, 1) := by decide +kernel
theorem dX8_spreads_32 : decode cX8_spreads 32 = .ok (.getfield 28, 3) := by decide +kernel
theorem dX8_spreads_35 : decode cX8_spreads 35 = .ok (.iload 4, 2) := by decide +kernel
theorem dX8_spreads_37 : decode cX8_spreads 37 = .ok (.iaload, 1) := by decide +kernel
theorem dX8_spreads_38 : decode cX8_spreads 38 = .ok (.iload_n 3, 1) := by decide +kernel
theorem dX8_spreads_39 : decode cX8_spreads 39 = .ok (.invokestatic 81, 3) := by decide +kernel
theorem dX8_spreads_42 : decode cX8_spreads 42 = .ok (.istore 5, 2) := by decide +kernel
theorem dX8_spreads_44 : decode cX8_spreads 44 = .ok (.iload_n 2, 1) := by decide +kernel
theorem dX8_spreads_45 : decode cX8_spreads 45 = .ok (.aload_n 0, 1) := by decide +kernel
theorem dX8_spreads_46 : decode cX8_spreads 46 = .ok (.getfield 34, 3) := by decide +kernel
theorem dX8_spreads_49 : decode cX8_spreads 49 = .ok (.iload 5, 2) := by decide +kernel
theorem dX8_spreads_51 : decode cX8_spreads 51 = .ok (.iaload, 1) := by decide +kernel
theorem dX8_spreads_52 : decode cX8_spreads 52 = .ok (.ifCond .ne 7, 3) := by decide +kernel
theorem dX8_spreads_55 : decode cX8_spreads 55 = .ok (.iconst 1, 1) := by decide +kernel
theorem dX8_spreads_56 : decode cX8_spreads 56 = .ok (.goto 4, 3) := by decide +kernel
theorem dX8_spreads_59 : decode cX8_spreads 59 = .ok (.iconst 0, 1) := by decide +kernel
theorem dX8_spreads_60 : decode cX8_spreads 60 = .ok (.ior, 1) := by decide +kernel
theorem dX8_spreads_61 : decode cX8_spreads 61 = .ok (.istore_n 2, 1) := by decide +kernel
theorem dX8_spreads_62 : decode cX8_spreads 62 = .ok (.aload_n 0, 1) := by decide +kernel
theorem dX8_spreads_63 : decode cX8_spreads 63 = .ok (.getfield 34, 3) := by decide +kernel
theorem dX8_spreads_66 : decode cX8_spreads 66 = .ok (.iload 5, 2) := by decide +kernel
theorem dX8_spreads_68 : decode cX8_spreads 68 = .ok (.aload_n 0, 1) := by decide +kernel
theorem dX8_spreads_69 : decode cX8_spreads 69 = .ok (.getfield 34, 3) := by decide +kernel
theorem dX8_spreads_72 : decode cX8_spreads 72 = .ok (.iload 5, 2) := by decide +kernel
theorem dX8_spreads_74 : decode cX8_spreads 74 = .ok (.iaload, 1) := by decide +kernel
theorem dX8_spreads_75 : decode cX8_spreads 75 = .ok (.ifCond .ne 20, 3) := by decide +kernel
theorem dX8_spreads_78 : decode cX8_spreads 78 = .ok (.aload_n 0, 1) := by decide +kernel
theorem dX8_spreads_79 : decode cX8_spreads 79 = .ok (.getfield 34, 3) := by decide +kernel
theorem dX8_spreads_82 : decode cX8_spreads 82 = .ok (.iload_n 3, 1) := by decide +kernel
theorem dX8_spreads_83 : decode cX8_spreads 83 = .ok (.iaload, 1) := by decide +kernel
theorem dX8_spreads_84 : decode cX8_spreads 84 = .ok (.aload_n 0, 1) := by decide +kernel
theorem dX8_spreads_85 : decode cX8_spreads 85 = .ok (.iload_n 1, 1) := by decide +kernel
theorem dX8_spreads_86 : decode cX8_spreads 86 = .ok (.iload 4, 2) := by decide +kernel
theorem dX8_spreads_88 : decode cX8_spreads 88 = .ok (.invokevirtual 131, 3) := by decide +kernel
theorem dX8_spreads_91 : decode cX8_spreads 91 = .ok (.imul, 1) := by decide +kernel
theorem dX8_spreads_92 : decode cX8_spreads 92 = .ok (.goto 10, 3) := by decide +kernel
theorem dX8_spreads_95 : decode cX8_spreads 95 = .ok (.aload_n 0, 1) := by decide +kernel
theorem dX8_spreads_96 : decode cX8_spreads 96 = .ok (.getfield 34, 3) := by decide +kernel
theorem dX8_spreads_99 : decode cX8_spreads 99 = .ok (.iload 5, 2) := by decide +kernel
theorem dX8_spreads_101 : decode cX8_spreads 101 = .ok (.iaload, 1) := by decide +kernel
theorem dX8_spreads_102 : decode cX8_spreads 102 = .ok (.iastore, 1) := by decide +kernel
theorem dX8_spreads_103 : decode cX8_spreads 103 = .ok (.iinc 4 1, 3) := by decide +kernel
theorem dX8_spreads_106 : decode cX8_spreads 106 = .ok (.goto (-93), 3) := by decide +kernel
theorem dX8_spreads_109 : decode cX8_spreads 109 = .ok (.iinc 3 1, 3) := by decide +kernel
theorem dX8_spreads_112 : decode cX8_spreads 112 = .ok (.goto (-108), 3) := by decide +kernel
theorem dX8_spreads_115 : decode cX8_spreads 115 = .ok (.iload_n 2, 1) := by decide +kernel
theorem dX8_spreads_116 : decode cX8_spreads 116 = .ok (.ireturn, 1) := by decide +kernel
theorem dX8_isSign_0 : decode cX8_isSign 0 = .ok (.iconst 0, 1) := by decide +kernel
theorem dX8_isSign_1 : decode cX8_isSign 1 = .ok (.istore_n 2, 1) := by decide +kernel
theorem dX8_isSign_2 : decode cX8_isSign 2 = .ok (.iload_n 2, 1) := by decide +kernel
theorem dX8_isSign_3 : decode cX8_isSign 3 = .ok (.bipush 48, 2) := by decide +kernel
theorem dX8_isSign_5 : decode cX8_isSign 5 = .ok (.if_icmp .ge 24, 3) := by decide +kernel
theorem dX8_isSign_8 : decode cX8_isSign 8 = .ok (.aload_n 0, 1) := by decide +kernel
theorem dX8_isSign_9 : decode cX8_isSign 9 = .ok (.getfield 34, 3) := by decide +kernel
theorem dX8_isSign_12 : decode cX8_isSign 12 = .ok (.iload_n 2, 1) := by decide +kernel
theorem dX8_isSign_13 : decode cX8_isSign 13 = .ok (.iload_n 2, 1) := by decide +kernel
theorem dX8_isSign_14 : decode cX8_isSign 14 = .ok (.ifCond .ne 7, 3) := by decide +kernel
theorem dX8_isSign_17 : decode cX8_isSign 17 = .ok (.iconst 1, 1) := by decide +kernel
theorem dX8_isSign_18 : decode cX8_isSign 18 = .ok (.goto 4, 3) := by decide +kernel
theorem dX8_isSign_21 : decode cX8_isSign 21 = .ok (.iconst 0, 1) := by decide +kernel
theorem dX8_isSign_22 : decode cX8_isSign 22 = .ok (.iastore, 1) := by decide +kernel
theorem dX8_isSign_23 : decode cX8_isSign 23 = .ok (.iinc 2 1, 3) := by decide +kernel
theorem dX8_isSign_26 : decode cX8_isSign 26 = .ok (.goto (-24), 3) := by decide +kernel
theorem dX8_isSign_29 : decode cX8_isSign 29 = .ok (.aload_n 0, 1) := by decide +kernel
theorem dX8_isSign_30 : decode cX8_isSign 30 = .ok (.iload_n 1, 1) := by decide +kernel
theorem dX8_isSign_31 : decode cX8_isSign 31 = .ok (.invokevirtual 134, 3) := by decide +kernel
theorem dX8_isSign_34 : decode cX8_isSign 34 = .ok (.ifCond .eq 13, 3) := by decide +kernel
theorem dX8_isSign_37 : decode cX8_isSign 37 = .ok (.aload_n 0, 1) := by decide +kernel
theorem dX8_isSign_38 : decode cX8_isSign 38 = .ok (.getfield 34, 3) := by decide +kernel
theorem dX8_isSign_41 : decode cX8_isSign 41 = .ok (.iconst 0, 1) := by decide +kernel
theorem dX8_isSign_42 : decode cX8_isSign 42 = .ok (.iconst 1, 1) := by decide +kernel
theorem dX8_isSign_43 : decode cX8_isSign 43 = .ok (.iastore, 1) := by decide +kernel
theorem dX8_isSign_44 : decode cX8_isSign 44 = .ok (.goto (-15), 3) := by decide +kernel
theorem dX8_isSign_47 : decode cX8_isSign 47 = .ok (.iconst 1, 1) := by decide +kernel
theorem dX8_isSign_48 : decode cX8_isSign 48 = .ok (.istore_n 2, 1) := by decide +kernel
theorem dX8_isSign_49 : decode cX8_isSign 49 = .ok (.iconst 0, 1) := by decide +kernel
theorem dX8_isSign_50 : decode cX8_isSign 50 = .ok (.istore_n 3, 1) := by decide +kernel
theorem dX8_isSign_51 : decode cX8_isSign 51 = .ok (.iload_n 3, 1) := by decide +kernel
theorem dX8_isSign_52 : decode cX8_isSign 52 = .ok (.aload_n 0, 1) := by decide +kernel
theorem dX8_isSign_53 : decode cX8_isSign 53 = .ok (.getfield 97, 3) := by decide +kernel
theorem dX8_isSign_56 : decode cX8_isSign 56 = .ok (.if_icmp .ge 78, 3) := by decide +kernel
theorem dX8_isSign_59 : decode cX8_isSign 59 = .ok (.iconst 0, 1) := by decide +kernel
theorem dX8_isSign_60 : decode cX8_isSign 60 = .ok (.istore 4, 2) := by decide +kernel
theorem dX8_isSign_62 : decode cX8_isSign 62 = .ok (.iload 4, 2) := by decide +kernel
theorem dX8_isSign_64 : decode cX8_isSign 64 = .ok (.aload_n 0, 1) := by decide +kernel
theorem dX8_isSign_65 : decode cX8_isSign 65 = .ok (.getfield 124, 3) := by decide +kernel
theorem dX8_isSign_68 : decode cX8_isSign 68 = .ok (.if_icmp .ge 60, 3) := by decide +kernel
theorem dX8_isSign_71 : decode cX8_isSign 71 = .ok (.iload_n 2, 1) := by decide +kernel
theorem dX8_isSign_72 : decode cX8_isSign 72 = .ok (.aload_n 0, 1) := by decide +kernel
theorem dX8_isSign_73 : decode cX8_isSign 73 = .ok (.getfield 34, 3) := by decide +kernel
theorem dX8_isSign_76 : decode cX8_isSign 76 = .ok (.aload_n 0, 1) := by decide +kernel
theorem dX8_isSign_77 : decode cX8_isSign 77 = .ok (.getfield 28, 3) := by decide +kernel
theorem dX8_isSign_80 : decode cX8_isSign 80 = .ok (.iload 4, 2) := by decide +kernel
theorem dX8_isSign_82 : decode cX8_isSign 82 = .ok (.iaload, 1) := by decide +kernel
theorem dX8_isSign_83 : decode cX8_isSign 83 = .ok (.aload_n 0, 1) := by decide +kernel
theorem dX8_isSign_84 : decode cX8_isSign 84 = .ok (.getfield 21, 3) := by decide +kernel
theorem dX8_isSign_87 : decode cX8_isSign 87 = .ok (.iload_n 3, 1) := by decide +kernel
theorem dX8_isSign_88 : decode cX8_isSign 88 = .ok (.iaload, 1) := by decide +kernel
theorem dX8_isSign_89 : decode cX8_isSign 89 = .ok (.invokestatic 81, 3) := by decide +kernel
theorem dX8_isSign_92 : decode cX8_isSign 92 = .ok (.iaload, 1) := by decide +kernel
theorem dX8_isSign_93 : decode cX8_isSign 93 = .ok (.aload_n 0, 1) := by decide +kernel
theorem dX8_isSign_94 : decode cX8_isSign 94 = .ok (.iload_n 1, 1) := by decide +kernel
theorem dX8_isSign_95 : decode cX8_isSign 95 = .ok (.iload 4, 2) := by decide +kernel
theorem dX8_isSign_97 : decode cX8_isSign 97 = .ok (.invokevirtual 131, 3) := by decide +kernel
theorem dX8_isSign_100 : decode cX8_isSign 100 = .ok (.aload_n 0, 1) := by decide +kernel
theorem dX8_isSign_101 : decode cX8_isSign 101 = .ok (.getfield 34, 3) := by decide +kernel
theorem dX8_isSign_104 : decode cX8_isSign 104 = .ok (.aload_n 0, 1) := by decide +kernel
theorem dX8_isSign_105 : decode cX8_isSign 105 = .ok (.getfield 21, 3) := by decide +kernel
theorem dX8_isSign_108 : decode cX8_isSign 108 = .ok (.iload_n 3, 1) := by decide +kernel
theorem dX8_isSign_109 : decode cX8_isSign 109 = .ok (.iaload, 1) := by decide +kernel
theorem dX8_isSign_110 : decode cX8_isSign 110 = .ok (.iaload, 1) := by decide +kernel
theorem dX8_isSign_111 : decode cX8_isSign 111 = .ok (.imul, 1) := by decide +kernel
theorem dX8_isSign_112 : decode cX8_isSign 112 = .ok (.if_icmp .ne 7, 3) := by decide +kernel
theorem dX8_isSign_115 : decode cX8_isSign 115 = .ok (.iconst 1, 1) := by decide +kernel
theorem dX8_isSign_116 : decode cX8_isSign 116 = .ok (.goto 4, 3) := by decide +kernel
theorem dX8_isSign_119 : decode cX8_isSign 119 = .ok (.iconst 0, 1) := by decide +kernel
theorem dX8_isSign_120 : decode cX8_isSign 120 = .ok (.iand, 1) := by decide +kernel
theorem dX8_isSign_121 : decode cX8_isSign 121 = .ok (.istore_n 2, 1) := by decide +kernel
theorem dX8_isSign_122 : decode cX8_isSign 122 = .ok (.iinc 4 1, 3) := by decide +kernel
theorem dX8_isSign_125 : decode cX8_isSign 125 = .ok (.goto (-63), 3) := by decide +kernel
theorem dX8_isSign_128 : decode cX8_isSign 128 = .ok (.iinc 3 1, 3) := by decide +kernel
theorem dX8_isSign_131 : decode cX8_isSign 131 = .ok (.goto (-80), 3) := by decide +kernel
theorem dX8_isSign_134 : decode cX8_isSign 134 = .ok (.iload_n 2, 1) := by decide +kernel
theorem dX8_isSign_135 : decode cX8_isSign 135 = .ok (.ireturn, 1) := by decide +kernel
theorem dX8_findsSigns_0 : decode cX8_findsSigns 0 = .ok (.aload_n 0, 1) := by decide +kernel
theorem dX8_findsSigns_1 : decode cX8_findsSigns 1 = .ok (.invokevirtual 138, 3) := by decide +kernel
theorem dX8_findsSigns_4 : decode cX8_findsSigns 4 = .ok (.aload_n 0, 1) := by decide +kernel
theorem dX8_findsSigns_5 : decode cX8_findsSigns 5 = .ok (.invokevirtual 141, 3) := by decide +kernel
theorem dX8_findsSigns_8 : decode cX8_findsSigns 8 = .ok (.aload_n 0, 1) := by decide +kernel
theorem dX8_findsSigns_9 : decode cX8_findsSigns 9 = .ok (.iconst 0, 1) := by decide +kernel
theorem dX8_findsSigns_10 : decode cX8_findsSigns 10 = .ok (.putfield 144, 3) := by decide +kernel
theorem dX8_findsSigns_13 : decode cX8_findsSigns 13 = .ok (.iconst 0, 1) := by decide +kernel
theorem dX8_findsSigns_14 : decode cX8_findsSigns 14 = .ok (.istore_n 1, 1) := by decide +kernel
theorem dX8_findsSigns_15 : decode cX8_findsSigns 15 = .ok (.iload_n 1, 1) := by decide +kernel
theorem dX8_findsSigns_16 : decode cX8_findsSigns 16 = .ok (.iconst 1, 1) := by decide +kernel
theorem dX8_findsSigns_17 : decode cX8_findsSigns 17 = .ok (.aload_n 0, 1) := by decide +kernel
theorem dX8_findsSigns_18 : decode cX8_findsSigns 18 = .ok (.getfield 124, 3) := by decide +kernel
theorem dX8_findsSigns_21 : decode cX8_findsSigns 21 = .ok (.ishl, 1) := by decide +kernel
theorem dX8_findsSigns_22 : decode cX8_findsSigns 22 = .ok (.if_icmp .ge 61, 3) := by decide +kernel
theorem dX8_findsSigns_25 : decode cX8_findsSigns 25 = .ok (.aload_n 0, 1) := by decide +kernel
theorem dX8_findsSigns_26 : decode cX8_findsSigns 26 = .ok (.iload_n 1, 1) := by decide +kernel
theorem dX8_findsSigns_27 : decode cX8_findsSigns 27 = .ok (.invokevirtual 147, 3) := by decide +kernel
theorem dX8_findsSigns_30 : decode cX8_findsSigns 30 = .ok (.ifCond .eq 47, 3) := by decide +kernel
theorem dX8_findsSigns_33 : decode cX8_findsSigns 33 = .ok (.iconst 0, 1) := by decide +kernel
theorem dX8_findsSigns_34 : decode cX8_findsSigns 34 = .ok (.istore_n 2, 1) := by decide +kernel
theorem dX8_findsSigns_35 : decode cX8_findsSigns 35 = .ok (.iload_n 2, 1) := by decide +kernel
theorem dX8_findsSigns_36 : decode cX8_findsSigns 36 = .ok (.bipush 48, 2) := by decide +kernel
theorem dX8_findsSigns_38 : decode cX8_findsSigns 38 = .ok (.if_icmp .ge 29, 3) := by decide +kernel
theorem dX8_findsSigns_41 : decode cX8_findsSigns 41 = .ok (.aload_n 0, 1) := by decide +kernel
theorem dX8_findsSigns_42 : decode cX8_findsSigns 42 = .ok (.getfield 37, 3) := by decide +kernel
theorem dX8_findsSigns_45 : decode cX8_findsSigns 45 = .ok (.bipush 48, 2) := by decide +kernel
theorem dX8_findsSigns_47 : decode cX8_findsSigns 47 = .ok (.aload_n 0, 1) := by decide +kernel
theorem dX8_findsSigns_48 : decode cX8_findsSigns 48 = .ok (.getfield 144, 3) := by decide +kernel
theorem dX8_findsSigns_51 : decode cX8_findsSigns 51 = .ok (.imul, 1) := by decide +kernel
theorem dX8_findsSigns_52 : decode cX8_findsSigns 52 = .ok (.iload_n 2, 1) := by decide +kernel
theorem dX8_findsSigns_53 : decode cX8_findsSigns 53 = .ok (.iadd, 1) := by decide +kernel
theorem dX8_findsSigns_54 : decode cX8_findsSigns 54 = .ok (.aload_n 0, 1) := by decide +kernel
theorem dX8_findsSigns_55 : decode cX8_findsSigns 55 = .ok (.getfield 34, 3) := by decide +kernel
theorem dX8_findsSigns_58 : decode cX8_findsSigns 58 = .ok (.iload_n 2, 1) := by decide +kernel
theorem dX8_findsSigns_59 : decode cX8_findsSigns 59 = .ok (.iaload, 1) := by decide +kernel
theorem dX8_findsSigns_60 : decode cX8_findsSigns 60 = .ok (.iastore, 1) := by decide +kernel
theorem dX8_findsSigns_61 : decode cX8_findsSigns 61 = .ok (.iinc 2 1, 3) := by decide +kernel
theorem dX8_findsSigns_64 : decode cX8_findsSigns 64 = .ok (.goto (-29), 3) := by decide +kernel
theorem dX8_findsSigns_67 : decode cX8_findsSigns 67 = .ok (.aload_n 0, 1) := by decide +kernel
theorem dX8_findsSigns_68 : decode cX8_findsSigns 68 = .ok (.dup, 1) := by decide +kernel
theorem dX8_findsSigns_69 : decode cX8_findsSigns 69 = .ok (.getfield 144, 3) := by decide +kernel
theorem dX8_findsSigns_72 : decode cX8_findsSigns 72 = .ok (.iconst 1, 1) := by decide +kernel
theorem dX8_findsSigns_73 : decode cX8_findsSigns 73 = .ok (.iadd, 1) := by decide +kernel
theorem dX8_findsSigns_74 : decode cX8_findsSigns 74 = .ok (.putfield 144, 3) := by decide +kernel
theorem dX8_findsSigns_77 : decode cX8_findsSigns 77 = .ok (.iinc 1 1, 3) := by decide +kernel
theorem dX8_findsSigns_80 : decode cX8_findsSigns 80 = .ok (.goto (-65), 3) := by decide +kernel
theorem dX8_findsSigns_83 : decode cX8_findsSigns 83 = .ok (.return_, 1) := by decide +kernel
theorem dX8_motionOf_0 : decode cX8_motionOf 0 = .ok (.iconst 0, 1) := by decide +kernel
theorem dX8_motionOf_1 : decode cX8_motionOf 1 = .ok (.istore_n 3, 1) := by decide +kernel
theorem dX8_motionOf_2 : decode cX8_motionOf 2 = .ok (.iconst 0, 1) := by decide +kernel
theorem dX8_motionOf_3 : decode cX8_motionOf 3 = .ok (.istore 4, 2) := by decide +kernel
theorem dX8_motionOf_5 : decode cX8_motionOf 5 = .ok (.iload 4, 2) := by decide +kernel
theorem dX8_motionOf_7 : decode cX8_motionOf 7 = .ok (.aload_n 0, 1) := by decide +kernel
theorem dX8_motionOf_8 : decode cX8_motionOf 8 = .ok (.getfield 11, 3) := by decide +kernel
theorem dX8_motionOf_11 : decode cX8_motionOf 11 = .ok (.iconst 0, 1) := by decide +kernel
theorem dX8_motionOf_12 : decode cX8_motionOf 12 = .ok (.iaload, 1) := by decide +kernel
theorem dX8_motionOf_13 : decode cX8_motionOf 13 = .ok (.if_icmp .ge 29, 3) := by decide +kernel
theorem dX8_motionOf_16 : decode cX8_motionOf 16 = .ok (.iload_n 3, 1) := by decide +kernel
theorem dX8_motionOf_17 : decode cX8_motionOf 17 = .ok (.aload_n 0, 1) := by decide +kernel
theorem dX8_motionOf_18 : decode cX8_motionOf 18 = .ok (.iload_n 2, 1) := by decide +kernel
theorem dX8_motionOf_19 : decode cX8_motionOf 19 = .ok (.iload 4, 2) := by decide +kernel
theorem dX8_motionOf_21 : decode cX8_motionOf 21 = .ok (.invokevirtual 90, 3) := by decide +kernel
theorem dX8_motionOf_24 : decode cX8_motionOf 24 = .ok (.iload 4, 2) := by decide +kernel
theorem dX8_motionOf_26 : decode cX8_motionOf 26 = .ok (.if_icmp .ne 7, 3) := by decide +kernel
theorem dX8_motionOf_29 : decode cX8_motionOf 29 = .ok (.iconst 1, 1) := by decide +kernel
theorem dX8_motionOf_30 : decode cX8_motionOf 30 = .ok (.goto 4, 3) := by decide +kernel
theorem dX8_motionOf_33 : decode cX8_motionOf 33 = .ok (.iconst 0, 1) := by decide +kernel
theorem dX8_motionOf_34 : decode cX8_motionOf 34 = .ok (.iadd, 1) := by decide +kernel
theorem dX8_motionOf_35 : decode cX8_motionOf 35 = .ok (.istore_n 3, 1) := by decide +kernel
theorem dX8_motionOf_36 : decode cX8_motionOf 36 = .ok (.iinc 4 1, 3) := by decide +kernel
theorem dX8_motionOf_39 : decode cX8_motionOf 39 = .ok (.goto (-34), 3) := by decide +kernel
theorem dX8_motionOf_42 : decode cX8_motionOf 42 = .ok (.iload_n 2, 1) := by decide +kernel
theorem dX8_motionOf_43 : decode cX8_motionOf 43 = .ok (.invokestatic 150, 3) := by decide +kernel
theorem dX8_motionOf_46 : decode cX8_motionOf 46 = .ok (.istore 4, 2) := by decide +kernel
theorem dX8_motionOf_48 : decode cX8_motionOf 48 = .ok (.iload_n 2, 1) := by decide +kernel
theorem dX8_motionOf_49 : decode cX8_motionOf 49 = .ok (.invokestatic 121, 3) := by decide +kernel
theorem dX8_motionOf_52 : decode cX8_motionOf 52 = .ok (.iload 4, 2) := by decide +kernel
theorem dX8_motionOf_54 : decode cX8_motionOf 54 = .ok (.imul, 1) := by decide +kernel
theorem dX8_motionOf_55 : decode cX8_motionOf 55 = .ok (.istore 5, 2) := by decide +kernel
theorem dX8_motionOf_57 : decode cX8_motionOf 57 = .ok (.iload_n 1, 1) := by decide +kernel
theorem dX8_motionOf_58 : decode cX8_motionOf 58 = .ok (.tableswitch 58 0 4 #[34, 36, 41, 44, 47], 34) := by decide +kernel
theorem dX8_motionOf_92 : decode cX8_motionOf 92 = .ok (.iload_n 3, 1) := by decide +kernel
theorem dX8_motionOf_93 : decode cX8_motionOf 93 = .ok (.ireturn, 1) := by decide +kernel
theorem dX8_motionOf_94 : decode cX8_motionOf 94 = .ok (.iload_n 3, 1) := by decide +kernel
theorem dX8_motionOf_95 : decode cX8_motionOf 95 = .ok (.iload 4, 2) := by decide +kernel
theorem dX8_motionOf_97 : decode cX8_motionOf 97 = .ok (.imul, 1) := by decide +kernel
theorem dX8_motionOf_98 : decode cX8_motionOf 98 = .ok (.ireturn, 1) := by decide +kernel
theorem dX8_motionOf_99 : decode cX8_motionOf 99 = .ok (.iload 4, 2) := by decide +kernel
theorem dX8_motionOf_101 : decode cX8_motionOf 101 = .ok (.ireturn, 1) := by decide +kernel
theorem dX8_motionOf_102 : decode cX8_motionOf 102 = .ok (.iload 5, 2) := by decide +kernel
theorem dX8_motionOf_104 : decode cX8_motionOf 104 = .ok (.ireturn, 1) := by decide +kernel
theorem dX8_motionOf_105 : decode cX8_motionOf 105 = .ok (.iload_n 3, 1) := by decide +kernel
theorem dX8_motionOf_106 : decode cX8_motionOf 106 = .ok (.iload 4, 2) := by decide +kernel
theorem dX8_motionOf_108 : decode cX8_motionOf 108 = .ok (.imul, 1) := by decide +kernel
theorem dX8_motionOf_109 : decode cX8_motionOf 109 = .ok (.iload 4, 2) := by decide +kernel
theorem dX8_motionOf_111 : decode cX8_motionOf 111 = .ok (.isub, 1) := by decide +kernel
theorem dX8_motionOf_112 : decode cX8_motionOf 112 = .ok (.iload 5, 2) := by decide +kernel
theorem dX8_motionOf_114 : decode cX8_motionOf 114 = .ok (.isub, 1) := by decide +kernel
theorem dX8_motionOf_115 : decode cX8_motionOf 115 = .ok (.ireturn, 1) := by decide +kernel
theorem dX8_motionOf_116 : decode cX8_motionOf 116 = .ok (.iload 4, 2) := by decide +kernel
theorem dX8_motionOf_118 : decode cX8_motionOf 118 = .ok (.iload 4, 2) := by decide +kernel
theorem dX8_motionOf_120 : decode cX8_motionOf 120 = .ok (.imul, 1) := by decide +kernel
theorem dX8_motionOf_121 : decode cX8_motionOf 121 = .ok (.iload_n 2, 1) := by decide +kernel
theorem dX8_motionOf_122 : decode cX8_motionOf 122 = .ok (.iload_n 2, 1) := by decide +kernel
theorem dX8_motionOf_123 : decode cX8_motionOf 123 = .ok (.invokestatic 81, 3) := by decide +kernel
theorem dX8_motionOf_126 : decode cX8_motionOf 126 = .ok (.invokestatic 150, 3) := by decide +kernel
theorem dX8_motionOf_129 : decode cX8_motionOf 129 = .ok (.iadd, 1) := by decide +kernel
theorem dX8_motionOf_130 : decode cX8_motionOf 130 = .ok (.iconst 2, 1) := by decide +kernel
theorem dX8_motionOf_131 : decode cX8_motionOf 131 = .ok (.idiv, 1) := by decide +kernel
theorem dX8_motionOf_132 : decode cX8_motionOf 132 = .ok (.ireturn, 1) := by decide +kernel
theorem dX8_hasOf_0 : decode cX8_hasOf 0 = .ok (.iconst 0, 1) := by decide +kernel
theorem dX8_hasOf_1 : decode cX8_hasOf 1 = .ok (.istore_n 3, 1) := by decide +kernel
theorem dX8_hasOf_2 : decode cX8_hasOf 2 = .ok (.iconst 0, 1) := by decide +kernel
theorem dX8_hasOf_3 : decode cX8_hasOf 3 = .ok (.istore 4, 2) := by decide +kernel
theorem dX8_hasOf_5 : decode cX8_hasOf 5 = .ok (.iload 4, 2) := by decide +kernel
theorem dX8_hasOf_7 : decode cX8_hasOf 7 = .ok (.aload_n 0, 1) := by decide +kernel
theorem dX8_hasOf_8 : decode cX8_hasOf 8 = .ok (.getfield 97, 3) := by decide +kernel
theorem dX8_hasOf_11 : decode cX8_hasOf 11 = .ok (.if_icmp .ge 42, 3) := by decide +kernel
theorem dX8_hasOf_14 : decode cX8_hasOf 14 = .ok (.iload_n 3, 1) := by decide +kernel
theorem dX8_hasOf_15 : decode cX8_hasOf 15 = .ok (.aload_n 0, 1) := by decide +kernel
theorem dX8_hasOf_16 : decode cX8_hasOf 16 = .ok (.iload_n 1, 1) := by decide +kernel
theorem dX8_hasOf_17 : decode cX8_hasOf 17 = .ok (.aload_n 0, 1) := by decide +kernel
theorem dX8_hasOf_18 : decode cX8_hasOf 18 = .ok (.getfield 21, 3) := by decide +kernel
theorem dX8_hasOf_21 : decode cX8_hasOf 21 = .ok (.iload 4, 2) := by decide +kernel
theorem dX8_hasOf_23 : decode cX8_hasOf 23 = .ok (.iaload, 1) := by decide +kernel
theorem dX8_hasOf_24 : decode cX8_hasOf 24 = .ok (.invokevirtual 153, 3) := by decide +kernel
theorem dX8_hasOf_27 : decode cX8_hasOf 27 = .ok (.aload_n 0, 1) := by decide +kernel
theorem dX8_hasOf_28 : decode cX8_hasOf 28 = .ok (.getfield 37, 3) := by decide +kernel
theorem dX8_hasOf_31 : decode cX8_hasOf 31 = .ok (.bipush 48, 2) := by decide +kernel
theorem dX8_hasOf_33 : decode cX8_hasOf 33 = .ok (.iload_n 2, 1) := by decide +kernel
theorem dX8_hasOf_34 : decode cX8_hasOf 34 = .ok (.imul, 1) := by decide +kernel
theorem dX8_hasOf_35 : decode cX8_hasOf 35 = .ok (.aload_n 0, 1) := by decide +kernel
theorem dX8_hasOf_36 : decode cX8_hasOf 36 = .ok (.getfield 21, 3) := by decide +kernel
theorem dX8_hasOf_39 : decode cX8_hasOf 39 = .ok (.iload 4, 2) := by decide +kernel
theorem dX8_hasOf_41 : decode cX8_hasOf 41 = .ok (.iaload, 1) := by decide +kernel
theorem dX8_hasOf_42 : decode cX8_hasOf 42 = .ok (.iadd, 1) := by decide +kernel
theorem dX8_hasOf_43 : decode cX8_hasOf 43 = .ok (.iaload, 1) := by decide +kernel
theorem dX8_hasOf_44 : decode cX8_hasOf 44 = .ok (.imul, 1) := by decide +kernel
theorem dX8_hasOf_45 : decode cX8_hasOf 45 = .ok (.iadd, 1) := by decide +kernel
theorem dX8_hasOf_46 : decode cX8_hasOf 46 = .ok (.istore_n 3, 1) := by decide +kernel
theorem dX8_hasOf_47 : decode cX8_hasOf 47 = .ok (.iinc 4 1, 3) := by decide +kernel
theorem dX8_hasOf_50 : decode cX8_hasOf 50 = .ok (.goto (-45), 3) := by decide +kernel
theorem dX8_hasOf_53 : decode cX8_hasOf 53 = .ok (.iload_n 3, 1) := by decide +kernel
theorem dX8_hasOf_54 : decode cX8_hasOf 54 = .ok (.aload_n 0, 1) := by decide +kernel
theorem dX8_hasOf_55 : decode cX8_hasOf 55 = .ok (.getfield 97, 3) := by decide +kernel
theorem dX8_hasOf_58 : decode cX8_hasOf 58 = .ok (.idiv, 1) := by decide +kernel
theorem dX8_hasOf_59 : decode cX8_hasOf 59 = .ok (.ireturn, 1) := by decide +kernel
theorem dX8_comes_0 : decode cX8_comes 0 = .ok (.iload_n 1, 1) := by decide +kernel
theorem dX8_comes_1 : decode cX8_comes 1 = .ok (.i2l, 1) := by decide +kernel
theorem dX8_comes_2 : decode cX8_comes 2 = .ok (.ldc2_w 156, 3) := by decide +kernel
theorem dX8_comes_5 : decode cX8_comes 5 = .ok (.ldc2_w 158, 3) := by decide +kernel
theorem dX8_comes_8 : decode cX8_comes 8 = .ok (.invokestatic 56, 3) := by decide +kernel
theorem dX8_comes_11 : decode cX8_comes 11 = .ok (.ifCond .eq 44, 3) := by decide +kernel
theorem dX8_comes_14 : decode cX8_comes 14 = .ok (.iload_n 2, 1) := by decide +kernel
theorem dX8_comes_15 : decode cX8_comes 15 = .ok (.i2l, 1) := by decide +kernel
theorem dX8_comes_16 : decode cX8_comes 16 = .ok (.ldc2_w 156, 3) := by decide +kernel
theorem dX8_comes_19 : decode cX8_comes 19 = .ok (.ldc2_w 158, 3) := by decide +kernel
theorem dX8_comes_22 : decode cX8_comes 22 = .ok (.invokestatic 56, 3) := by decide +kernel
theorem dX8_comes_25 : decode cX8_comes 25 = .ok (.ifCond .eq 30, 3) := by decide +kernel
theorem dX8_comes_28 : decode cX8_comes 28 = .ok (.iload_n 3, 1) := by decide +kernel
theorem dX8_comes_29 : decode cX8_comes 29 = .ok (.i2l, 1) := by decide +kernel
theorem dX8_comes_30 : decode cX8_comes 30 = .ok (.ldc2_w 156, 3) := by decide +kernel
theorem dX8_comes_33 : decode cX8_comes 33 = .ok (.ldc2_w 158, 3) := by decide +kernel
theorem dX8_comes_36 : decode cX8_comes 36 = .ok (.invokestatic 56, 3) := by decide +kernel
theorem dX8_comes_39 : decode cX8_comes 39 = .ok (.ifCond .eq 16, 3) := by decide +kernel
theorem dX8_comes_42 : decode cX8_comes 42 = .ok (.iload 4, 2) := by decide +kernel
theorem dX8_comes_44 : decode cX8_comes 44 = .ok (.i2l, 1) := by decide +kernel
theorem dX8_comes_45 : decode cX8_comes 45 = .ok (.lconst 0, 1) := by decide +kernel
theorem dX8_comes_46 : decode cX8_comes 46 = .ok (.ldc2_w 160, 3) := by decide +kernel
theorem dX8_comes_49 : decode cX8_comes 49 = .ok (.invokestatic 56, 3) := by decide +kernel
theorem dX8_comes_52 : decode cX8_comes 52 = .ok (.ifCond .ne 6, 3) := by decide +kernel
theorem dX8_comes_55 : decode cX8_comes 55 = .ok (.bipush (-2), 2) := by decide +kernel
theorem dX8_comes_57 : decode cX8_comes 57 = .ok (.ireturn, 1) := by decide +kernel
theorem dX8_comes_58 : decode cX8_comes 58 = .ok (.aload_n 0, 1) := by decide +kernel
theorem dX8_comes_59 : decode cX8_comes 59 = .ok (.iload_n 1, 1) := by decide +kernel
theorem dX8_comes_60 : decode cX8_comes 60 = .ok (.iload_n 2, 1) := by decide +kernel
theorem dX8_comes_61 : decode cX8_comes 61 = .ok (.iload_n 3, 1) := by decide +kernel
theorem dX8_comes_62 : decode cX8_comes 62 = .ok (.invokevirtual 87, 3) := by decide +kernel
theorem dX8_comes_65 : decode cX8_comes 65 = .ok (.bipush (-5), 2) := by decide +kernel
theorem dX8_comes_67 : decode cX8_comes 67 = .ok (.if_icmp .eq 6, 3) := by decide +kernel
theorem dX8_comes_70 : decode cX8_comes 70 = .ok (.bipush (-3), 2) := by decide +kernel
theorem dX8_comes_72 : decode cX8_comes 72 = .ok (.ireturn, 1) := by decide +kernel
theorem dX8_comes_73 : decode cX8_comes 73 = .ok (.aload_n 0, 1) := by decide +kernel
theorem dX8_comes_74 : decode cX8_comes 74 = .ok (.getfield 11, 3) := by decide +kernel
theorem dX8_comes_77 : decode cX8_comes 77 = .ok (.iconst 0, 1) := by decide +kernel
theorem dX8_comes_78 : decode cX8_comes 78 = .ok (.iaload, 1) := by decide +kernel
theorem dX8_comes_79 : decode cX8_comes 79 = .ok (.bipush 8, 2) := by decide +kernel
theorem dX8_comes_81 : decode cX8_comes 81 = .ok (.if_icmp .ne 6, 3) := by decide +kernel
theorem dX8_comes_84 : decode cX8_comes 84 = .ok (.bipush (-4), 2) := by decide +kernel
theorem dX8_comes_86 : decode cX8_comes 86 = .ok (.ireturn, 1) := by decide +kernel
theorem dX8_comes_87 : decode cX8_comes 87 = .ok (.iconst 1, 1) := by decide +kernel
theorem dX8_comes_88 : decode cX8_comes 88 = .ok (.iconst 4, 1) := by decide +kernel
theorem dX8_comes_89 : decode cX8_comes 89 = .ok (.aload_n 0, 1) := by decide +kernel
theorem dX8_comes_90 : decode cX8_comes 90 = .ok (.getfield 11, 3) := by decide +kernel
theorem dX8_comes_93 : decode cX8_comes 93 = .ok (.iconst 0, 1) := by decide +kernel
theorem dX8_comes_94 : decode cX8_comes 94 = .ok (.iaload, 1) := by decide +kernel
theorem dX8_comes_95 : decode cX8_comes 95 = .ok (.imul, 1) := by decide +kernel
theorem dX8_comes_96 : decode cX8_comes 96 = .ok (.iadd, 1) := by decide +kernel
theorem dX8_comes_97 : decode cX8_comes 97 = .ok (.istore 5, 2) := by decide +kernel
theorem dX8_comes_99 : decode cX8_comes 99 = .ok (.aload_n 0, 1) := by decide +kernel
theorem dX8_comes_100 : decode cX8_comes 100 = .ok (.getfield 11, 3) := by decide +kernel
theorem dX8_comes_103 : decode cX8_comes 103 = .ok (.iload 5, 2) := by decide +kernel
theorem dX8_comes_105 : decode cX8_comes 105 = .ok (.iload_n 1, 1) := by decide +kernel
theorem dX8_comes_106 : decode cX8_comes 106 = .ok (.iastore, 1) := by decide +kernel
theorem dX8_comes_107 : decode cX8_comes 107 = .ok (.aload_n 0, 1) := by decide +kernel
theorem dX8_comes_108 : decode cX8_comes 108 = .ok (.getfield 11, 3) := by decide +kernel
theorem dX8_comes_111 : decode cX8_comes 111 = .ok (.iload 5, 2) := by decide +kernel
theorem dX8_comes_113 : decode cX8_comes 113 = .ok (.iconst 1, 1) := by decide +kernel
theorem dX8_comes_114 : decode cX8_comes 114 = .ok (.iadd, 1) := by decide +kernel
theorem dX8_comes_115 : decode cX8_comes 115 = .ok (.iload_n 2, 1) := by decide +kernel
theorem dX8_comes_116 : decode cX8_comes 116 = .ok (.iastore, 1) := by decide +kernel
theorem dX8_comes_117 : decode cX8_comes 117 = .ok (.aload_n 0, 1) := by decide +kernel
theorem dX8_comes_118 : decode cX8_comes 118 = .ok (.getfield 11, 3) := by decide +kernel
theorem dX8_comes_121 : decode cX8_comes 121 = .ok (.iload 5, 2) := by decide +kernel
theorem dX8_comes_123 : decode cX8_comes 123 = .ok (.iconst 2, 1) := by decide +kernel
theorem dX8_comes_124 : decode cX8_comes 124 = .ok (.iadd, 1) := by decide +kernel
theorem dX8_comes_125 : decode cX8_comes 125 = .ok (.iload_n 3, 1) := by decide +kernel
theorem dX8_comes_126 : decode cX8_comes 126 = .ok (.iastore, 1) := by decide +kernel
theorem dX8_comes_127 : decode cX8_comes 127 = .ok (.aload_n 0, 1) := by decide +kernel
theorem dX8_comes_128 : decode cX8_comes 128 = .ok (.getfield 11, 3) := by decide +kernel
theorem dX8_comes_131 : decode cX8_comes 131 = .ok (.iload 5, 2) := by decide +kernel
theorem dX8_comes_133 : decode cX8_comes 133 = .ok (.iconst 3, 1) := by decide +kernel
theorem dX8_comes_134 : decode cX8_comes 134 = .ok (.iadd, 1) := by decide +kernel
theorem dX8_comes_135 : decode cX8_comes 135 = .ok (.iload 4, 2) := by decide +kernel
theorem dX8_comes_137 : decode cX8_comes 137 = .ok (.iastore, 1) := by decide +kernel
theorem dX8_comes_138 : decode cX8_comes 138 = .ok (.aload_n 0, 1) := by decide +kernel
theorem dX8_comes_139 : decode cX8_comes 139 = .ok (.getfield 11, 3) := by decide +kernel
theorem dX8_comes_142 : decode cX8_comes 142 = .ok (.iconst 0, 1) := by decide +kernel
theorem dX8_comes_143 : decode cX8_comes 143 = .ok (.dup2, 1) := by decide +kernel
theorem dX8_comes_144 : decode cX8_comes 144 = .ok (.iaload, 1) := by decide +kernel
theorem dX8_comes_145 : decode cX8_comes 145 = .ok (.iconst 1, 1) := by decide +kernel
theorem dX8_comes_146 : decode cX8_comes 146 = .ok (.iadd, 1) := by decide +kernel
theorem dX8_comes_147 : decode cX8_comes 147 = .ok (.iastore, 1) := by decide +kernel
theorem dX8_comes_148 : decode cX8_comes 148 = .ok (.aload_n 0, 1) := by decide +kernel
theorem dX8_comes_149 : decode cX8_comes 149 = .ok (.getfield 11, 3) := by decide +kernel
theorem dX8_comes_152 : decode cX8_comes 152 = .ok (.iconst 0, 1) := by decide +kernel
theorem dX8_comes_153 : decode cX8_comes 153 = .ok (.iaload, 1) := by decide +kernel
theorem dX8_comes_154 : decode cX8_comes 154 = .ok (.iconst 1, 1) := by decide +kernel
theorem dX8_comes_155 : decode cX8_comes 155 = .ok (.isub, 1) := by decide +kernel
theorem dX8_comes_156 : decode cX8_comes 156 = .ok (.ireturn, 1) := by decide +kernel
theorem dX8_point_0 : decode cX8_point 0 = .ok (.aload_n 0, 1) := by decide +kernel
theorem dX8_point_1 : decode cX8_point 1 = .ok (.iload_n 1, 1) := by decide +kernel
theorem dX8_point_2 : decode cX8_point 2 = .ok (.iload_n 2, 1) := by decide +kernel
theorem dX8_point_3 : decode cX8_point 3 = .ok (.iload_n 3, 1) := by decide +kernel
theorem dX8_point_4 : decode cX8_point 4 = .ok (.iload 4, 2) := by decide +kernel
theorem dX8_point_6 : decode cX8_point 6 = .ok (.invokevirtual 162, 3) := by decide +kernel
theorem dX8_point_9 : decode cX8_point 9 = .ok (.ireturn, 1) := by decide +kernel
theorem dX8_mark_0 : decode cX8_mark 0 = .ok (.aload_n 0, 1) := by decide +kernel
theorem dX8_mark_1 : decode cX8_mark 1 = .ok (.iload_n 1, 1) := by decide +kernel
theorem dX8_mark_2 : decode cX8_mark 2 = .ok (.invokevirtual 166, 3) := by decide +kernel
theorem dX8_mark_5 : decode cX8_mark 5 = .ok (.ifCond .ne 5, 3) := by decide +kernel
theorem dX8_mark_8 : decode cX8_mark 8 = .ok (.iconst (-1), 1) := by decide +kernel
theorem dX8_mark_9 : decode cX8_mark 9 = .ok (.ireturn, 1) := by decide +kernel
theorem dX8_mark_10 : decode cX8_mark 10 = .ok (.iload_n 2, 1) := by decide +kernel
theorem dX8_mark_11 : decode cX8_mark 11 = .ok (.i2l, 1) := by decide +kernel
theorem dX8_mark_12 : decode cX8_mark 12 = .ok (.lconst 0, 1) := by decide +kernel
theorem dX8_mark_13 : decode cX8_mark 13 = .ok (.ldc2_w 160, 3) := by decide +kernel
theorem dX8_mark_16 : decode cX8_mark 16 = .ok (.invokestatic 56, 3) := by decide +kernel
theorem dX8_mark_19 : decode cX8_mark 19 = .ok (.ifCond .ne 6, 3) := by decide +kernel
theorem dX8_mark_22 : decode cX8_mark 22 = .ok (.bipush (-2), 2) := by decide +kernel
theorem dX8_mark_24 : decode cX8_mark 24 = .ok (.ireturn, 1) := by decide +kernel
theorem dX8_mark_25 : decode cX8_mark 25 = .ok (.aload_n 0, 1) := by decide +kernel
theorem dX8_mark_26 : decode cX8_mark 26 = .ok (.iload_n 1, 1) := by decide +kernel
theorem dX8_mark_27 : decode cX8_mark 27 = .ok (.invokevirtual 93, 3) := by decide +kernel
theorem dX8_mark_30 : decode cX8_mark 30 = .ok (.istore_n 3, 1) := by decide +kernel
theorem dX8_mark_31 : decode cX8_mark 31 = .ok (.aload_n 0, 1) := by decide +kernel
theorem dX8_mark_32 : decode cX8_mark 32 = .ok (.getfield 11, 3) := by decide +kernel
theorem dX8_mark_35 : decode cX8_mark 35 = .ok (.iconst 1, 1) := by decide +kernel
theorem dX8_mark_36 : decode cX8_mark 36 = .ok (.iconst 4, 1) := by decide +kernel
theorem dX8_mark_37 : decode cX8_mark 37 = .ok (.iload_n 1, 1) := by decide +kernel
theorem dX8_mark_38 : decode cX8_mark 38 = .ok (.imul, 1) := by decide +kernel
theorem dX8_mark_39 : decode cX8_mark 39 = .ok (.iadd, 1) := by decide +kernel
theorem dX8_mark_40 : decode cX8_mark 40 = .ok (.iconst 3, 1) := by decide +kernel
theorem dX8_mark_41 : decode cX8_mark 41 = .ok (.iadd, 1) := by decide +kernel
theorem dX8_mark_42 : decode cX8_mark 42 = .ok (.iload_n 2, 1) := by decide +kernel
theorem dX8_mark_43 : decode cX8_mark 43 = .ok (.iastore, 1) := by decide +kernel
theorem dX8_mark_44 : decode cX8_mark 44 = .ok (.iload_n 3, 1) := by decide +kernel
theorem dX8_mark_45 : decode cX8_mark 45 = .ok (.ireturn, 1) := by decide +kernel
theorem dX8_drop_0 : decode cX8_drop 0 = .ok (.aload_n 0, 1) := by decide +kernel
theorem dX8_drop_1 : decode cX8_drop 1 = .ok (.iload_n 1, 1) := by decide +kernel
theorem dX8_drop_2 : decode cX8_drop 2 = .ok (.invokevirtual 166, 3) := by decide +kernel
theorem dX8_drop_5 : decode cX8_drop 5 = .ok (.ifCond .ne 5, 3) := by decide +kernel
theorem dX8_drop_8 : decode cX8_drop 8 = .ok (.iconst (-1), 1) := by decide +kernel
theorem dX8_drop_9 : decode cX8_drop 9 = .ok (.ireturn, 1) := by decide +kernel
theorem dX8_drop_10 : decode cX8_drop 10 = .ok (.iconst 1, 1) := by decide +kernel
theorem dX8_drop_11 : decode cX8_drop 11 = .ok (.iconst 4, 1) := by decide +kernel
theorem dX8_drop_12 : decode cX8_drop 12 = .ok (.iload_n 1, 1) := by decide +kernel
theorem dX8_drop_13 : decode cX8_drop 13 = .ok (.imul, 1) := by decide +kernel
theorem dX8_drop_14 : decode cX8_drop 14 = .ok (.iadd, 1) := by decide +kernel
theorem dX8_drop_15 : decode cX8_drop 15 = .ok (.istore_n 2, 1) := by decide +kernel
theorem dX8_drop_16 : decode cX8_drop 16 = .ok (.iload_n 2, 1) := by decide +kernel
theorem dX8_drop_17 : decode cX8_drop 17 = .ok (.iconst 1, 1) := by decide +kernel
theorem dX8_drop_18 : decode cX8_drop 18 = .ok (.iconst 4, 1) := by decide +kernel
theorem dX8_drop_19 : decode cX8_drop 19 = .ok (.aload_n 0, 1) := by decide +kernel
theorem dX8_drop_20 : decode cX8_drop 20 = .ok (.getfield 11, 3) := by decide +kernel
theorem dX8_drop_23 : decode cX8_drop 23 = .ok (.iconst 0, 1) := by decide +kernel
theorem dX8_drop_24 : decode cX8_drop 24 = .ok (.iaload, 1) := by decide +kernel
theorem dX8_drop_25 : decode cX8_drop 25 = .ok (.iconst 1, 1) := by decide +kernel
theorem dX8_drop_26 : decode cX8_drop 26 = .ok (.isub, 1) := by decide +kernel
theorem dX8_drop_27 : decode cX8_drop 27 = .ok (.imul, 1) := by decide +kernel
theorem dX8_drop_28 : decode cX8_drop 28 = .ok (.iadd, 1) := by decide +kernel
theorem dX8_drop_29 : decode cX8_drop 29 = .ok (.if_icmp .ge 23, 3) := by decide +kernel
theorem dX8_drop_32 : decode cX8_drop 32 = .ok (.aload_n 0, 1) := by decide +kernel
theorem dX8_drop_33 : decode cX8_drop 33 = .ok (.getfield 11, 3) := by decide +kernel
theorem dX8_drop_36 : decode cX8_drop 36 = .ok (.iload_n 2, 1) := by decide +kernel
theorem dX8_drop_37 : decode cX8_drop 37 = .ok (.aload_n 0, 1) := by decide +kernel
theorem dX8_drop_38 : decode cX8_drop 38 = .ok (.getfield 11, 3) := by decide +kernel
theorem dX8_drop_41 : decode cX8_drop 41 = .ok (.iload_n 2, 1) := by decide +kernel
theorem dX8_drop_42 : decode cX8_drop 42 = .ok (.iconst 4, 1) := by decide +kernel
theorem dX8_drop_43 : decode cX8_drop 43 = .ok (.iadd, 1) := by decide +kernel
theorem dX8_drop_44 : decode cX8_drop 44 = .ok (.iaload, 1) := by decide +kernel
theorem dX8_drop_45 : decode cX8_drop 45 = .ok (.iastore, 1) := by decide +kernel
theorem dX8_drop_46 : decode cX8_drop 46 = .ok (.iinc 2 1, 3) := by decide +kernel
theorem dX8_drop_49 : decode cX8_drop 49 = .ok (.goto (-33), 3) := by decide +kernel
theorem dX8_drop_52 : decode cX8_drop 52 = .ok (.aload_n 0, 1) := by decide +kernel
theorem dX8_drop_53 : decode cX8_drop 53 = .ok (.getfield 11, 3) := by decide +kernel
theorem dX8_drop_56 : decode cX8_drop 56 = .ok (.iconst 0, 1) := by decide +kernel
theorem dX8_drop_57 : decode cX8_drop 57 = .ok (.dup2, 1) := by decide +kernel
theorem dX8_drop_58 : decode cX8_drop 58 = .ok (.iaload, 1) := by decide +kernel
theorem dX8_drop_59 : decode cX8_drop 59 = .ok (.iconst 1, 1) := by decide +kernel
theorem dX8_drop_60 : decode cX8_drop 60 = .ok (.isub, 1) := by decide +kernel
theorem dX8_drop_61 : decode cX8_drop 61 = .ok (.iastore, 1) := by decide +kernel
theorem dX8_drop_62 : decode cX8_drop 62 = .ok (.aload_n 0, 1) := by decide +kernel
theorem dX8_drop_63 : decode cX8_drop 63 = .ok (.getfield 11, 3) := by decide +kernel
theorem dX8_drop_66 : decode cX8_drop 66 = .ok (.iconst 0, 1) := by decide +kernel
theorem dX8_drop_67 : decode cX8_drop 67 = .ok (.iaload, 1) := by decide +kernel
theorem dX8_drop_68 : decode cX8_drop 68 = .ok (.ireturn, 1) := by decide +kernel
theorem dX8_of_0 : decode cX8_of 0 = .ok (.aload_n 0, 1) := by decide +kernel
theorem dX8_of_1 : decode cX8_of 1 = .ok (.iload_n 1, 1) := by decide +kernel
theorem dX8_of_2 : decode cX8_of 2 = .ok (.invokevirtual 166, 3) := by decide +kernel
theorem dX8_of_5 : decode cX8_of 5 = .ok (.ifCond .eq 15, 3) := by decide +kernel
theorem dX8_of_8 : decode cX8_of 8 = .ok (.iload_n 2, 1) := by decide +kernel
theorem dX8_of_9 : decode cX8_of 9 = .ok (.i2l, 1) := by decide +kernel
theorem dX8_of_10 : decode cX8_of 10 = .ok (.lconst 0, 1) := by decide +kernel
theorem dX8_of_11 : decode cX8_of 11 = .ok (.ldc2_w 160, 3) := by decide +kernel
theorem dX8_of_14 : decode cX8_of 14 = .ok (.invokestatic 56, 3) := by decide +kernel
theorem dX8_of_17 : decode cX8_of 17 = .ok (.ifCond .ne 6, 3) := by decide +kernel
theorem dX8_of_20 : decode cX8_of 20 = .ok (.bipush (-9), 2) := by decide +kernel
theorem dX8_of_22 : decode cX8_of 22 = .ok (.ireturn, 1) := by decide +kernel
theorem dX8_of_23 : decode cX8_of 23 = .ok (.iload_n 2, 1) := by decide +kernel
theorem dX8_of_24 : decode cX8_of 24 = .ok (.iconst 4, 1) := by decide +kernel
theorem dX8_of_25 : decode cX8_of 25 = .ok (.if_icmp .ge 16, 3) := by decide +kernel
theorem dX8_of_28 : decode cX8_of 28 = .ok (.aload_n 0, 1) := by decide +kernel
theorem dX8_of_29 : decode cX8_of 29 = .ok (.getfield 11, 3) := by decide +kernel
theorem dX8_of_32 : decode cX8_of 32 = .ok (.iconst 1, 1) := by decide +kernel
theorem dX8_of_33 : decode cX8_of 33 = .ok (.iconst 4, 1) := by decide +kernel
theorem dX8_of_34 : decode cX8_of 34 = .ok (.iload_n 1, 1) := by decide +kernel
theorem dX8_of_35 : decode cX8_of 35 = .ok (.imul, 1) := by decide +kernel
theorem dX8_of_36 : decode cX8_of 36 = .ok (.iadd, 1) := by decide +kernel
theorem dX8_of_37 : decode cX8_of 37 = .ok (.iload_n 2, 1) := by decide +kernel
theorem dX8_of_38 : decode cX8_of 38 = .ok (.iadd, 1) := by decide +kernel
theorem dX8_of_39 : decode cX8_of 39 = .ok (.iaload, 1) := by decide +kernel
theorem dX8_of_40 : decode cX8_of 40 = .ok (.ireturn, 1) := by decide +kernel
theorem dX8_of_41 : decode cX8_of 41 = .ok (.aload_n 0, 1) := by decide +kernel
theorem dX8_of_42 : decode cX8_of 42 = .ok (.invokevirtual 138, 3) := by decide +kernel
theorem dX8_of_45 : decode cX8_of 45 = .ok (.aload_n 0, 1) := by decide +kernel
theorem dX8_of_46 : decode cX8_of 46 = .ok (.iload_n 1, 1) := by decide +kernel
theorem dX8_of_47 : decode cX8_of 47 = .ok (.invokevirtual 118, 3) := by decide +kernel
theorem dX8_of_50 : decode cX8_of 50 = .ok (.ireturn, 1) := by decide +kernel
theorem dX8_at_0 : decode cX8_at 0 = .ok (.iload_n 1, 1) := by decide +kernel
theorem dX8_at_1 : decode cX8_at 1 = .ok (.i2l, 1) := by decide +kernel
theorem dX8_at_2 : decode cX8_at 2 = .ok (.ldc2_w 156, 3) := by decide +kernel
theorem dX8_at_5 : decode cX8_at 5 = .ok (.ldc2_w 158, 3) := by decide +kernel
theorem dX8_at_8 : decode cX8_at 8 = .ok (.invokestatic 56, 3) := by decide +kernel
theorem dX8_at_11 : decode cX8_at 11 = .ok (.ifCond .eq 41, 3) := by decide +kernel
theorem dX8_at_14 : decode cX8_at 14 = .ok (.iload_n 2, 1) := by decide +kernel
theorem dX8_at_15 : decode cX8_at 15 = .ok (.i2l, 1) := by decide +kernel
theorem dX8_at_16 : decode cX8_at 16 = .ok (.ldc2_w 156, 3) := by decide +kernel
theorem dX8_at_19 : decode cX8_at 19 = .ok (.ldc2_w 158, 3) := by decide +kernel
theorem dX8_at_22 : decode cX8_at 22 = .ok (.invokestatic 56, 3) := by decide +kernel
theorem dX8_at_25 : decode cX8_at 25 = .ok (.ifCond .eq 27, 3) := by decide +kernel
theorem dX8_at_28 : decode cX8_at 28 = .ok (.iload_n 3, 1) := by decide +kernel
theorem dX8_at_29 : decode cX8_at 29 = .ok (.i2l, 1) := by decide +kernel
theorem dX8_at_30 : decode cX8_at 30 = .ok (.ldc2_w 156, 3) := by decide +kernel
theorem dX8_at_33 : decode cX8_at 33 = .ok (.ldc2_w 158, 3) := by decide +kernel
theorem dX8_at_36 : decode cX8_at 36 = .ok (.invokestatic 56, 3) := by decide +kernel
theorem dX8_at_39 : decode cX8_at 39 = .ok (.ifCond .eq 13, 3) := by decide +kernel
theorem dX8_at_42 : decode cX8_at 42 = .ok (.aload_n 0, 1) := by decide +kernel
theorem dX8_at_43 : decode cX8_at 43 = .ok (.iload_n 1, 1) := by decide +kernel
theorem dX8_at_44 : decode cX8_at 44 = .ok (.iload_n 2, 1) := by decide +kernel
theorem dX8_at_45 : decode cX8_at 45 = .ok (.iload_n 3, 1) := by decide +kernel
theorem dX8_at_46 : decode cX8_at 46 = .ok (.invokevirtual 87, 3) := by decide +kernel
theorem dX8_at_49 : decode cX8_at 49 = .ok (.goto 5, 3) := by decide +kernel
theorem dX8_at_52 : decode cX8_at 52 = .ok (.bipush (-2), 2) := by decide +kernel
theorem dX8_at_54 : decode cX8_at 54 = .ok (.ireturn, 1) := by decide +kernel
theorem dX8_feed_0 : decode cX8_feed 0 = .ok (.iload_n 1, 1) := by decide +kernel
theorem dX8_feed_1 : decode cX8_feed 1 = .ok (.i2l, 1) := by decide +kernel
theorem dX8_feed_2 : decode cX8_feed 2 = .ok (.lconst 0, 1) := by decide +kernel
theorem dX8_feed_3 : decode cX8_feed 3 = .ok (.ldc2_w 169, 3) := by decide +kernel
theorem dX8_feed_6 : decode cX8_feed 6 = .ok (.invokestatic 56, 3) := by decide +kernel
theorem dX8_feed_9 : decode cX8_feed 9 = .ok (.ifCond .ne 6, 3) := by decide +kernel
theorem dX8_feed_12 : decode cX8_feed 12 = .ok (.bipush (-2), 2) := by decide +kernel
theorem dX8_feed_14 : decode cX8_feed 14 = .ok (.ireturn, 1) := by decide +kernel
theorem dX8_feed_15 : decode cX8_feed 15 = .ok (.aload_n 0, 1) := by decide +kernel
theorem dX8_feed_16 : decode cX8_feed 16 = .ok (.getfield 171, 3) := by decide +kernel
theorem dX8_feed_19 : decode cX8_feed 19 = .ok (.bipush 100, 2) := by decide +kernel
theorem dX8_feed_21 : decode cX8_feed 21 = .ok (.if_icmp .ne 6, 3) := by decide +kernel
theorem dX8_feed_24 : decode cX8_feed 24 = .ok (.bipush (-4), 2) := by decide +kernel
theorem dX8_feed_26 : decode cX8_feed 26 = .ok (.ireturn, 1) := by decide +kernel
theorem dX8_feed_27 : decode cX8_feed 27 = .ok (.aload_n 0, 1) := by decide +kernel
theorem dX8_feed_28 : decode cX8_feed 28 = .ok (.getfield 40, 3) := by decide +kernel
theorem dX8_feed_31 : decode cX8_feed 31 = .ok (.aload_n 0, 1) := by decide +kernel
theorem dX8_feed_32 : decode cX8_feed 32 = .ok (.getfield 171, 3) := by decide +kernel
theorem dX8_feed_35 : decode cX8_feed 35 = .ok (.iload_n 1, 1) := by decide +kernel
theorem dX8_feed_36 : decode cX8_feed 36 = .ok (.iastore, 1) := by decide +kernel
theorem dX8_feed_37 : decode cX8_feed 37 = .ok (.aload_n 0, 1) := by decide +kernel
theorem dX8_feed_38 : decode cX8_feed 38 = .ok (.dup, 1) := by decide +kernel
theorem dX8_feed_39 : decode cX8_feed 39 = .ok (.getfield 171, 3) := by decide +kernel
theorem dX8_feed_42 : decode cX8_feed 42 = .ok (.iconst 1, 1) := by decide +kernel
theorem dX8_feed_43 : decode cX8_feed 43 = .ok (.iadd, 1) := by decide +kernel
theorem dX8_feed_44 : decode cX8_feed 44 = .ok (.putfield 171, 3) := by decide +kernel
theorem dX8_feed_47 : decode cX8_feed 47 = .ok (.aload_n 0, 1) := by decide +kernel
theorem dX8_feed_48 : decode cX8_feed 48 = .ok (.getfield 171, 3) := by decide +kernel
theorem dX8_feed_51 : decode cX8_feed 51 = .ok (.ireturn, 1) := by decide +kernel
theorem dX8_here_0 : decode cX8_here 0 = .ok (.aload_n 0, 1) := by decide +kernel
theorem dX8_here_1 : decode cX8_here 1 = .ok (.getfield 174, 3) := by decide +kernel
theorem dX8_here_4 : decode cX8_here 4 = .ok (.aload_n 0, 1) := by decide +kernel
theorem dX8_here_5 : decode cX8_here 5 = .ok (.getfield 171, 3) := by decide +kernel
theorem dX8_here_8 : decode cX8_here 8 = .ok (.if_icmp .ge 15, 3) := by decide +kernel
theorem dX8_here_11 : decode cX8_here 11 = .ok (.aload_n 0, 1) := by decide +kernel
theorem dX8_here_12 : decode cX8_here 12 = .ok (.getfield 40, 3) := by decide +kernel
theorem dX8_here_15 : decode cX8_here 15 = .ok (.aload_n 0, 1) := by decide +kernel
theorem dX8_here_16 : decode cX8_here 16 = .ok (.getfield 174, 3) := by decide +kernel
theorem dX8_here_19 : decode cX8_here 19 = .ok (.iaload, 1) := by decide +kernel
theorem dX8_here_20 : decode cX8_here 20 = .ok (.goto 4, 3) := by decide +kernel
theorem dX8_here_23 : decode cX8_here 23 = .ok (.iconst (-1), 1) := by decide +kernel
theorem dX8_here_24 : decode cX8_here 24 = .ok (.ireturn, 1) := by decide +kernel
theorem dX8_digit_0 : decode cX8_digit 0 = .ok (.aload_n 0, 1) := by decide +kernel
theorem dX8_digit_1 : decode cX8_digit 1 = .ok (.aload_n 0, 1) := by decide +kernel
theorem dX8_digit_2 : decode cX8_digit 2 = .ok (.getfield 177, 3) := by decide +kernel
theorem dX8_digit_5 : decode cX8_digit 5 = .ok (.ifCond .ne 20, 3) := by decide +kernel
theorem dX8_digit_8 : decode cX8_digit 8 = .ok (.aload_n 0, 1) := by decide +kernel
theorem dX8_digit_9 : decode cX8_digit 9 = .ok (.invokevirtual 181, 3) := by decide +kernel
theorem dX8_digit_12 : decode cX8_digit 12 = .ok (.i2l, 1) := by decide +kernel
theorem dX8_digit_13 : decode cX8_digit 13 = .ok (.ldc2_w 185, 3) := by decide +kernel
theorem dX8_digit_16 : decode cX8_digit 16 = .ok (.ldc2_w 187, 3) := by decide +kernel
theorem dX8_digit_19 : decode cX8_digit 19 = .ok (.invokestatic 56, 3) := by decide +kernel
theorem dX8_digit_22 : decode cX8_digit 22 = .ok (.ifCond .ne 7, 3) := by decide +kernel
theorem dX8_digit_25 : decode cX8_digit 25 = .ok (.iconst 1, 1) := by decide +kernel
theorem dX8_digit_26 : decode cX8_digit 26 = .ok (.goto 4, 3) := by decide +kernel
theorem dX8_digit_29 : decode cX8_digit 29 = .ok (.iconst 0, 1) := by decide +kernel
theorem dX8_digit_30 : decode cX8_digit 30 = .ok (.putfield 177, 3) := by decide +kernel
theorem dX8_digit_33 : decode cX8_digit 33 = .ok (.aload_n 0, 1) := by decide +kernel
theorem dX8_digit_34 : decode cX8_digit 34 = .ok (.getfield 177, 3) := by decide +kernel
theorem dX8_digit_37 : decode cX8_digit 37 = .ok (.ifCond .eq 7, 3) := by decide +kernel
theorem dX8_digit_40 : decode cX8_digit 40 = .ok (.iconst 0, 1) := by decide +kernel
theorem dX8_digit_41 : decode cX8_digit 41 = .ok (.goto 10, 3) := by decide +kernel
theorem dX8_digit_44 : decode cX8_digit 44 = .ok (.aload_n 0, 1) := by decide +kernel
theorem dX8_digit_45 : decode cX8_digit 45 = .ok (.invokevirtual 181, 3) := by decide +kernel
theorem dX8_digit_48 : decode cX8_digit 48 = .ok (.bipush 48, 2) := by decide +kernel
theorem dX8_digit_50 : decode cX8_digit 50 = .ok (.isub, 1) := by decide +kernel
theorem dX8_digit_51 : decode cX8_digit 51 = .ok (.istore_n 1, 1) := by decide +kernel
theorem dX8_digit_52 : decode cX8_digit 52 = .ok (.aload_n 0, 1) := by decide +kernel
theorem dX8_digit_53 : decode cX8_digit 53 = .ok (.dup, 1) := by decide +kernel
theorem dX8_digit_54 : decode cX8_digit 54 = .ok (.getfield 174, 3) := by decide +kernel
theorem dX8_digit_57 : decode cX8_digit 57 = .ok (.aload_n 0, 1) := by decide +kernel
theorem dX8_digit_58 : decode cX8_digit 58 = .ok (.getfield 177, 3) := by decide +kernel
theorem dX8_digit_61 : decode cX8_digit 61 = .ok (.ifCond .eq 7, 3) := by decide +kernel
theorem dX8_digit_64 : decode cX8_digit 64 = .ok (.iconst 0, 1) := by decide +kernel
theorem dX8_digit_65 : decode cX8_digit 65 = .ok (.goto 4, 3) := by decide +kernel
theorem dX8_digit_68 : decode cX8_digit 68 = .ok (.iconst 1, 1) := by decide +kernel
theorem dX8_digit_69 : decode cX8_digit 69 = .ok (.iadd, 1) := by decide +kernel
theorem dX8_digit_70 : decode cX8_digit 70 = .ok (.putfield 174, 3) := by decide +kernel
theorem dX8_digit_73 : decode cX8_digit 73 = .ok (.iload_n 1, 1) := by decide +kernel
theorem dX8_digit_74 : decode cX8_digit 74 = .ok (.ireturn, 1) := by decide +kernel
theorem dX8_comma_0 : decode cX8_comma 0 = .ok (.aload_n 0, 1) := by decide +kernel
theorem dX8_comma_1 : decode cX8_comma 1 = .ok (.aload_n 0, 1) := by decide +kernel
theorem dX8_comma_2 : decode cX8_comma 2 = .ok (.getfield 177, 3) := by decide +kernel
theorem dX8_comma_5 : decode cX8_comma 5 = .ok (.ifCond .ne 12, 3) := by decide +kernel
theorem dX8_comma_8 : decode cX8_comma 8 = .ok (.aload_n 0, 1) := by decide +kernel
theorem dX8_comma_9 : decode cX8_comma 9 = .ok (.invokevirtual 181, 3) := by decide +kernel
theorem dX8_comma_12 : decode cX8_comma 12 = .ok (.bipush 44, 2) := by decide +kernel
theorem dX8_comma_14 : decode cX8_comma 14 = .ok (.if_icmp .eq 7, 3) := by decide +kernel
theorem dX8_comma_17 : decode cX8_comma 17 = .ok (.iconst 1, 1) := by decide +kernel
theorem dX8_comma_18 : decode cX8_comma 18 = .ok (.goto 4, 3) := by decide +kernel
theorem dX8_comma_21 : decode cX8_comma 21 = .ok (.iconst 0, 1) := by decide +kernel
theorem dX8_comma_22 : decode cX8_comma 22 = .ok (.putfield 177, 3) := by decide +kernel
theorem dX8_comma_25 : decode cX8_comma 25 = .ok (.aload_n 0, 1) := by decide +kernel
theorem dX8_comma_26 : decode cX8_comma 26 = .ok (.dup, 1) := by decide +kernel
theorem dX8_comma_27 : decode cX8_comma 27 = .ok (.getfield 174, 3) := by decide +kernel
theorem dX8_comma_30 : decode cX8_comma 30 = .ok (.aload_n 0, 1) := by decide +kernel
theorem dX8_comma_31 : decode cX8_comma 31 = .ok (.getfield 177, 3) := by decide +kernel
theorem dX8_comma_34 : decode cX8_comma 34 = .ok (.ifCond .eq 7, 3) := by decide +kernel
theorem dX8_comma_37 : decode cX8_comma 37 = .ok (.iconst 0, 1) := by decide +kernel
theorem dX8_comma_38 : decode cX8_comma 38 = .ok (.goto 4, 3) := by decide +kernel
theorem dX8_comma_41 : decode cX8_comma 41 = .ok (.iconst 1, 1) := by decide +kernel
theorem dX8_comma_42 : decode cX8_comma 42 = .ok (.iadd, 1) := by decide +kernel
theorem dX8_comma_43 : decode cX8_comma 43 = .ok (.putfield 174, 3) := by decide +kernel
theorem dX8_comma_46 : decode cX8_comma 46 = .ok (.return_, 1) := by decide +kernel
theorem dX8_number_0 : decode cX8_number 0 = .ok (.aload_n 0, 1) := by decide +kernel
theorem dX8_number_1 : decode cX8_number 1 = .ok (.getfield 177, 3) := by decide +kernel
theorem dX8_number_4 : decode cX8_number 4 = .ok (.ifCond .ne 16, 3) := by decide +kernel
theorem dX8_number_7 : decode cX8_number 7 = .ok (.aload_n 0, 1) := by decide +kernel
theorem dX8_number_8 : decode cX8_number 8 = .ok (.invokevirtual 181, 3) := by decide +kernel
theorem dX8_number_11 : decode cX8_number 11 = .ok (.bipush 45, 2) := by decide +kernel
theorem dX8_number_13 : decode cX8_number 13 = .ok (.if_icmp .ne 7, 3) := by decide +kernel
theorem dX8_number_16 : decode cX8_number 16 = .ok (.iconst 1, 1) := by decide +kernel
theorem dX8_number_17 : decode cX8_number 17 = .ok (.goto 4, 3) := by decide +kernel
theorem dX8_number_20 : decode cX8_number 20 = .ok (.iconst 0, 1) := by decide +kernel
theorem dX8_number_21 : decode cX8_number 21 = .ok (.istore_n 1, 1) := by decide +kernel
theorem dX8_number_22 : decode cX8_number 22 = .ok (.aload_n 0, 1) := by decide +kernel
theorem dX8_number_23 : decode cX8_number 23 = .ok (.dup, 1) := by decide +kernel
theorem dX8_number_24 : decode cX8_number 24 = .ok (.getfield 174, 3) := by decide +kernel
theorem dX8_number_27 : decode cX8_number 27 = .ok (.iload_n 1, 1) := by decide +kernel
theorem dX8_number_28 : decode cX8_number 28 = .ok (.ifCond .eq 7, 3) := by decide +kernel
theorem dX8_number_31 : decode cX8_number 31 = .ok (.iconst 1, 1) := by decide +kernel
theorem dX8_number_32 : decode cX8_number 32 = .ok (.goto 4, 3) := by decide +kernel
theorem dX8_number_35 : decode cX8_number 35 = .ok (.iconst 0, 1) := by decide +kernel
theorem dX8_number_36 : decode cX8_number 36 = .ok (.iadd, 1) := by decide +kernel
theorem dX8_number_37 : decode cX8_number 37 = .ok (.putfield 174, 3) := by decide +kernel
theorem dX8_number_40 : decode cX8_number 40 = .ok (.aload_n 0, 1) := by decide +kernel
theorem dX8_number_41 : decode cX8_number 41 = .ok (.invokevirtual 189, 3) := by decide +kernel
theorem dX8_number_44 : decode cX8_number 44 = .ok (.istore_n 2, 1) := by decide +kernel
theorem dX8_number_45 : decode cX8_number 45 = .ok (.iload_n 1, 1) := by decide +kernel
theorem dX8_number_46 : decode cX8_number 46 = .ok (.ifCond .eq 8, 3) := by decide +kernel
theorem dX8_number_49 : decode cX8_number 49 = .ok (.iload_n 2, 1) := by decide +kernel
theorem dX8_number_50 : decode cX8_number 50 = .ok (.ineg, 1) := by decide +kernel
theorem dX8_number_51 : decode cX8_number 51 = .ok (.goto 4, 3) := by decide +kernel
theorem dX8_number_54 : decode cX8_number 54 = .ok (.iload_n 2, 1) := by decide +kernel
theorem dX8_number_55 : decode cX8_number 55 = .ok (.ireturn, 1) := by decide +kernel
theorem dX8_clause_0 : decode cX8_clause 0 = .ok (.aload_n 0, 1) := by decide +kernel
theorem dX8_clause_1 : decode cX8_clause 1 = .ok (.invokevirtual 181, 3) := by decide +kernel
theorem dX8_clause_4 : decode cX8_clause 4 = .ok (.istore_n 1, 1) := by decide +kernel
theorem dX8_clause_5 : decode cX8_clause 5 = .ok (.iconst 5, 1) := by decide +kernel
theorem dX8_clause_6 : decode cX8_clause 6 = .ok (.aload_n 0, 1) := by decide +kernel
theorem dX8_clause_7 : decode cX8_clause 7 = .ok (.getfield 192, 3) := by decide +kernel
theorem dX8_clause_10 : decode cX8_clause 10 = .ok (.imul, 1) := by decide +kernel
theorem dX8_clause_11 : decode cX8_clause 11 = .ok (.istore_n 2, 1) := by decide +kernel
theorem dX8_clause_12 : decode cX8_clause 12 = .ok (.aload_n 0, 1) := by decide +kernel
theorem dX8_clause_13 : decode cX8_clause 13 = .ok (.getfield 43, 3) := by decide +kernel
theorem dX8_clause_16 : decode cX8_clause 16 = .ok (.iload_n 2, 1) := by decide +kernel
theorem dX8_clause_17 : decode cX8_clause 17 = .ok (.iload_n 1, 1) := by decide +kernel
theorem dX8_clause_18 : decode cX8_clause 18 = .ok (.iastore, 1) := by decide +kernel
theorem dX8_clause_19 : decode cX8_clause 19 = .ok (.iload_n 1, 1) := by decide +kernel
theorem dX8_clause_20 : decode cX8_clause 20 = .ok (.bipush 112, 2) := by decide +kernel
theorem dX8_clause_22 : decode cX8_clause 22 = .ok (.if_icmp .eq 21, 3) := by decide +kernel
theorem dX8_clause_25 : decode cX8_clause 25 = .ok (.iload_n 1, 1) := by decide +kernel
theorem dX8_clause_26 : decode cX8_clause 26 = .ok (.bipush 109, 2) := by decide +kernel
theorem dX8_clause_28 : decode cX8_clause 28 = .ok (.if_icmp .eq 15, 3) := by decide +kernel
theorem dX8_clause_31 : decode cX8_clause 31 = .ok (.iload_n 1, 1) := by decide +kernel
theorem dX8_clause_32 : decode cX8_clause 32 = .ok (.bipush 100, 2) := by decide +kernel
theorem dX8_clause_34 : decode cX8_clause 34 = .ok (.if_icmp .eq 9, 3) := by decide +kernel
theorem dX8_clause_37 : decode cX8_clause 37 = .ok (.aload_n 0, 1) := by decide +kernel
theorem dX8_clause_38 : decode cX8_clause 38 = .ok (.iconst 1, 1) := by decide +kernel
theorem dX8_clause_39 : decode cX8_clause 39 = .ok (.putfield 177, 3) := by decide +kernel
theorem dX8_clause_42 : decode cX8_clause 42 = .ok (.return_, 1) := by decide +kernel
theorem dX8_clause_43 : decode cX8_clause 43 = .ok (.aload_n 0, 1) := by decide +kernel
theorem dX8_clause_44 : decode cX8_clause 44 = .ok (.dup, 1) := by decide +kernel
theorem dX8_clause_45 : decode cX8_clause 45 = .ok (.getfield 174, 3) := by decide +kernel
theorem dX8_clause_48 : decode cX8_clause 48 = .ok (.iconst 1, 1) := by decide +kernel
theorem dX8_clause_49 : decode cX8_clause 49 = .ok (.iadd, 1) := by decide +kernel
theorem dX8_clause_50 : decode cX8_clause 50 = .ok (.putfield 174, 3) := by decide +kernel
theorem dX8_clause_53 : decode cX8_clause 53 = .ok (.iload_n 1, 1) := by decide +kernel
theorem dX8_clause_54 : decode cX8_clause 54 = .ok (.bipush 112, 2) := by decide +kernel
theorem dX8_clause_56 : decode cX8_clause 56 = .ok (.if_icmp .ne 49, 3) := by decide +kernel
theorem dX8_clause_59 : decode cX8_clause 59 = .ok (.iconst 0, 1) := by decide +kernel
theorem dX8_clause_60 : decode cX8_clause 60 = .ok (.istore_n 3, 1) := by decide +kernel
theorem dX8_clause_61 : decode cX8_clause 61 = .ok (.iload_n 3, 1) := by decide +kernel
theorem dX8_clause_62 : decode cX8_clause 62 = .ok (.iconst 3, 1) := by decide +kernel
theorem dX8_clause_63 : decode cX8_clause 63 = .ok (.if_icmp .ge 27, 3) := by decide +kernel
theorem dX8_clause_66 : decode cX8_clause 66 = .ok (.aload_n 0, 1) := by decide +kernel
theorem dX8_clause_67 : decode cX8_clause 67 = .ok (.getfield 43, 3) := by decide +kernel
theorem dX8_clause_70 : decode cX8_clause 70 = .ok (.iload_n 2, 1) := by decide +kernel
theorem dX8_clause_71 : decode cX8_clause 71 = .ok (.iconst 1, 1) := by decide +kernel
theorem dX8_clause_72 : decode cX8_clause 72 = .ok (.iadd, 1) := by decide +kernel
theorem dX8_clause_73 : decode cX8_clause 73 = .ok (.iload_n 3, 1) := by decide +kernel
theorem dX8_clause_74 : decode cX8_clause 74 = .ok (.iadd, 1) := by decide +kernel
theorem dX8_clause_75 : decode cX8_clause 75 = .ok (.aload_n 0, 1) := by decide +kernel
theorem dX8_clause_76 : decode cX8_clause 76 = .ok (.invokevirtual 195, 3) := by decide +kernel
theorem dX8_clause_79 : decode cX8_clause 79 = .ok (.iastore, 1) := by decide +kernel
theorem dX8_clause_80 : decode cX8_clause 80 = .ok (.aload_n 0, 1) := by decide +kernel
theorem dX8_clause_81 : decode cX8_clause 81 = .ok (.invokevirtual 198, 3) := by decide +kernel
theorem dX8_clause_84 : decode cX8_clause 84 = .ok (.iinc 3 1, 3) := by decide +kernel
theorem dX8_clause_87 : decode cX8_clause 87 = .ok (.goto (-26), 3) := by decide +kernel
theorem dX8_clause_90 : decode cX8_clause 90 = .ok (.aload_n 0, 1) := by decide +kernel
theorem dX8_clause_91 : decode cX8_clause 91 = .ok (.getfield 43, 3) := by decide +kernel
