theorem dX8_clause_94 : decode cX8_clause 94 = .ok (.iload_n 2, 1) := by decide +kernel
theorem dX8_clause_95 : decode cX8_clause 95 = .ok (.iconst 4, 1) := by decide +kernel
theorem dX8_clause_96 : decode cX8_clause 96 = .ok (.iadd, 1) := by decide +kernel
theorem dX8_clause_97 : decode cX8_clause 97 = .ok (.aload_n 0, 1) := by decide +kernel
theorem dX8_clause_98 : decode cX8_clause 98 = .ok (.invokevirtual 189, 3) := by decide +kernel
theorem dX8_clause_101 : decode cX8_clause 101 = .ok (.iastore, 1) := by decide +kernel
theorem dX8_clause_102 : decode cX8_clause 102 = .ok (.goto 37, 3) := by decide +kernel
theorem dX8_clause_105 : decode cX8_clause 105 = .ok (.aload_n 0, 1) := by decide +kernel
theorem dX8_clause_106 : decode cX8_clause 106 = .ok (.getfield 43, 3) := by decide +kernel
theorem dX8_clause_109 : decode cX8_clause 109 = .ok (.iload_n 2, 1) := by decide +kernel
theorem dX8_clause_110 : decode cX8_clause 110 = .ok (.iconst 1, 1) := by decide +kernel
theorem dX8_clause_111 : decode cX8_clause 111 = .ok (.iadd, 1) := by decide +kernel
theorem dX8_clause_112 : decode cX8_clause 112 = .ok (.aload_n 0, 1) := by decide +kernel
theorem dX8_clause_113 : decode cX8_clause 113 = .ok (.invokevirtual 189, 3) := by decide +kernel
theorem dX8_clause_116 : decode cX8_clause 116 = .ok (.iastore, 1) := by decide +kernel
theorem dX8_clause_117 : decode cX8_clause 117 = .ok (.aload_n 0, 1) := by decide +kernel
theorem dX8_clause_118 : decode cX8_clause 118 = .ok (.getfield 43, 3) := by decide +kernel
theorem dX8_clause_121 : decode cX8_clause 121 = .ok (.iload_n 2, 1) := by decide +kernel
theorem dX8_clause_122 : decode cX8_clause 122 = .ok (.iconst 2, 1) := by decide +kernel
theorem dX8_clause_123 : decode cX8_clause 123 = .ok (.iadd, 1) := by decide +kernel
theorem dX8_clause_124 : decode cX8_clause 124 = .ok (.iload_n 1, 1) := by decide +kernel
theorem dX8_clause_125 : decode cX8_clause 125 = .ok (.bipush 109, 2) := by decide +kernel
theorem dX8_clause_127 : decode cX8_clause 127 = .ok (.if_icmp .ne 10, 3) := by decide +kernel
theorem dX8_clause_130 : decode cX8_clause 130 = .ok (.aload_n 0, 1) := by decide +kernel
theorem dX8_clause_131 : decode cX8_clause 131 = .ok (.invokevirtual 189, 3) := by decide +kernel
theorem dX8_clause_134 : decode cX8_clause 134 = .ok (.goto 4, 3) := by decide +kernel
theorem dX8_clause_137 : decode cX8_clause 137 = .ok (.iconst 0, 1) := by decide +kernel
theorem dX8_clause_138 : decode cX8_clause 138 = .ok (.iastore, 1) := by decide +kernel
theorem dX8_clause_139 : decode cX8_clause 139 = .ok (.aload_n 0, 1) := by decide +kernel
theorem dX8_clause_140 : decode cX8_clause 140 = .ok (.dup, 1) := by decide +kernel
theorem dX8_clause_141 : decode cX8_clause 141 = .ok (.getfield 192, 3) := by decide +kernel
theorem dX8_clause_144 : decode cX8_clause 144 = .ok (.iconst 1, 1) := by decide +kernel
theorem dX8_clause_145 : decode cX8_clause 145 = .ok (.iadd, 1) := by decide +kernel
theorem dX8_clause_146 : decode cX8_clause 146 = .ok (.putfield 192, 3) := by decide +kernel
theorem dX8_clause_149 : decode cX8_clause 149 = .ok (.return_, 1) := by decide +kernel
theorem dX8_done_0 : decode cX8_done 0 = .ok (.aload_n 0, 1) := by decide +kernel
theorem dX8_done_1 : decode cX8_done 1 = .ok (.getfield 43, 3) := by decide +kernel
theorem dX8_done_4 : decode cX8_done 4 = .ok (.iload_n 1, 1) := by decide +kernel
theorem dX8_done_5 : decode cX8_done 5 = .ok (.iaload, 1) := by decide +kernel
theorem dX8_done_6 : decode cX8_done 6 = .ok (.lookupswitch 84 #[(109, 63), (112, 26)], 26) := by decide +kernel
theorem dX8_done_32 : decode cX8_done 32 = .ok (.aload_n 0, 1) := by decide +kernel
theorem dX8_done_33 : decode cX8_done 33 = .ok (.aload_n 0, 1) := by decide +kernel
theorem dX8_done_34 : decode cX8_done 34 = .ok (.getfield 43, 3) := by decide +kernel
theorem dX8_done_37 : decode cX8_done 37 = .ok (.iload_n 1, 1) := by decide +kernel
theorem dX8_done_38 : decode cX8_done 38 = .ok (.iconst 1, 1) := by decide +kernel
theorem dX8_done_39 : decode cX8_done 39 = .ok (.iadd, 1) := by decide +kernel
theorem dX8_done_40 : decode cX8_done 40 = .ok (.iaload, 1) := by decide +kernel
theorem dX8_done_41 : decode cX8_done 41 = .ok (.aload_n 0, 1) := by decide +kernel
theorem dX8_done_42 : decode cX8_done 42 = .ok (.getfield 43, 3) := by decide +kernel
theorem dX8_done_45 : decode cX8_done 45 = .ok (.iload_n 1, 1) := by decide +kernel
theorem dX8_done_46 : decode cX8_done 46 = .ok (.iconst 2, 1) := by decide +kernel
theorem dX8_done_47 : decode cX8_done 47 = .ok (.iadd, 1) := by decide +kernel
theorem dX8_done_48 : decode cX8_done 48 = .ok (.iaload, 1) := by decide +kernel
theorem dX8_done_49 : decode cX8_done 49 = .ok (.aload_n 0, 1) := by decide +kernel
theorem dX8_done_50 : decode cX8_done 50 = .ok (.getfield 43, 3) := by decide +kernel
theorem dX8_done_53 : decode cX8_done 53 = .ok (.iload_n 1, 1) := by decide +kernel
theorem dX8_done_54 : decode cX8_done 54 = .ok (.iconst 3, 1) := by decide +kernel
theorem dX8_done_55 : decode cX8_done 55 = .ok (.iadd, 1) := by decide +kernel
theorem dX8_done_56 : decode cX8_done 56 = .ok (.iaload, 1) := by decide +kernel
theorem dX8_done_57 : decode cX8_done 57 = .ok (.aload_n 0, 1) := by decide +kernel
theorem dX8_done_58 : decode cX8_done 58 = .ok (.getfield 43, 3) := by decide +kernel
theorem dX8_done_61 : decode cX8_done 61 = .ok (.iload_n 1, 1) := by decide +kernel
theorem dX8_done_62 : decode cX8_done 62 = .ok (.iconst 4, 1) := by decide +kernel
theorem dX8_done_63 : decode cX8_done 63 = .ok (.iadd, 1) := by decide +kernel
theorem dX8_done_64 : decode cX8_done 64 = .ok (.iaload, 1) := by decide +kernel
theorem dX8_done_65 : decode cX8_done 65 = .ok (.invokevirtual 162, 3) := by decide +kernel
theorem dX8_done_68 : decode cX8_done 68 = .ok (.ireturn, 1) := by decide +kernel
theorem dX8_done_69 : decode cX8_done 69 = .ok (.aload_n 0, 1) := by decide +kernel
theorem dX8_done_70 : decode cX8_done 70 = .ok (.aload_n 0, 1) := by decide +kernel
theorem dX8_done_71 : decode cX8_done 71 = .ok (.getfield 43, 3) := by decide +kernel
theorem dX8_done_74 : decode cX8_done 74 = .ok (.iload_n 1, 1) := by decide +kernel
theorem dX8_done_75 : decode cX8_done 75 = .ok (.iconst 1, 1) := by decide +kernel
theorem dX8_done_76 : decode cX8_done 76 = .ok (.iadd, 1) := by decide +kernel
theorem dX8_done_77 : decode cX8_done 77 = .ok (.iaload, 1) := by decide +kernel
theorem dX8_done_78 : decode cX8_done 78 = .ok (.aload_n 0, 1) := by decide +kernel
theorem dX8_done_79 : decode cX8_done 79 = .ok (.getfield 43, 3) := by decide +kernel
theorem dX8_done_82 : decode cX8_done 82 = .ok (.iload_n 1, 1) := by decide +kernel
theorem dX8_done_83 : decode cX8_done 83 = .ok (.iconst 2, 1) := by decide +kernel
theorem dX8_done_84 : decode cX8_done 84 = .ok (.iadd, 1) := by decide +kernel
theorem dX8_done_85 : decode cX8_done 85 = .ok (.iaload, 1) := by decide +kernel
theorem dX8_done_86 : decode cX8_done 86 = .ok (.invokevirtual 201, 3) := by decide +kernel
theorem dX8_done_89 : decode cX8_done 89 = .ok (.ireturn, 1) := by decide +kernel
theorem dX8_done_90 : decode cX8_done 90 = .ok (.aload_n 0, 1) := by decide +kernel
theorem dX8_done_91 : decode cX8_done 91 = .ok (.aload_n 0, 1) := by decide +kernel
theorem dX8_done_92 : decode cX8_done 92 = .ok (.getfield 43, 3) := by decide +kernel
theorem dX8_done_95 : decode cX8_done 95 = .ok (.iload_n 1, 1) := by decide +kernel
theorem dX8_done_96 : decode cX8_done 96 = .ok (.iconst 1, 1) := by decide +kernel
theorem dX8_done_97 : decode cX8_done 97 = .ok (.iadd, 1) := by decide +kernel
theorem dX8_done_98 : decode cX8_done 98 = .ok (.iaload, 1) := by decide +kernel
theorem dX8_done_99 : decode cX8_done 99 = .ok (.invokevirtual 204, 3) := by decide +kernel
theorem dX8_done_102 : decode cX8_done 102 = .ok (.ireturn, 1) := by decide +kernel
theorem dX8_read_0 : decode cX8_read 0 = .ok (.aload_n 0, 1) := by decide +kernel
theorem dX8_read_1 : decode cX8_read 1 = .ok (.iconst 0, 1) := by decide +kernel
theorem dX8_read_2 : decode cX8_read 2 = .ok (.putfield 174, 3) := by decide +kernel
theorem dX8_read_5 : decode cX8_read 5 = .ok (.aload_n 0, 1) := by decide +kernel
theorem dX8_read_6 : decode cX8_read 6 = .ok (.iconst 0, 1) := by decide +kernel
theorem dX8_read_7 : decode cX8_read 7 = .ok (.putfield 177, 3) := by decide +kernel
theorem dX8_read_10 : decode cX8_read 10 = .ok (.aload_n 0, 1) := by decide +kernel
theorem dX8_read_11 : decode cX8_read 11 = .ok (.iconst 0, 1) := by decide +kernel
theorem dX8_read_12 : decode cX8_read 12 = .ok (.putfield 192, 3) := by decide +kernel
theorem dX8_read_15 : decode cX8_read 15 = .ok (.iconst 1, 1) := by decide +kernel
theorem dX8_read_16 : decode cX8_read 16 = .ok (.istore_n 1, 1) := by decide +kernel
theorem dX8_read_17 : decode cX8_read 17 = .ok (.iload_n 1, 1) := by decide +kernel
theorem dX8_read_18 : decode cX8_read 18 = .ok (.ifCond .eq 59, 3) := by decide +kernel
theorem dX8_read_21 : decode cX8_read 21 = .ok (.aload_n 0, 1) := by decide +kernel
theorem dX8_read_22 : decode cX8_read 22 = .ok (.invokevirtual 207, 3) := by decide +kernel
theorem dX8_read_25 : decode cX8_read 25 = .ok (.aload_n 0, 1) := by decide +kernel
theorem dX8_read_26 : decode cX8_read 26 = .ok (.getfield 177, 3) := by decide +kernel
theorem dX8_read_29 : decode cX8_read 29 = .ok (.ifCond .ne 25, 3) := by decide +kernel
theorem dX8_read_32 : decode cX8_read 32 = .ok (.aload_n 0, 1) := by decide +kernel
theorem dX8_read_33 : decode cX8_read 33 = .ok (.invokevirtual 181, 3) := by decide +kernel
theorem dX8_read_36 : decode cX8_read 36 = .ok (.bipush 59, 2) := by decide +kernel
theorem dX8_read_38 : decode cX8_read 38 = .ok (.if_icmp .ne 16, 3) := by decide +kernel
theorem dX8_read_41 : decode cX8_read 41 = .ok (.aload_n 0, 1) := by decide +kernel
theorem dX8_read_42 : decode cX8_read 42 = .ok (.getfield 192, 3) := by decide +kernel
theorem dX8_read_45 : decode cX8_read 45 = .ok (.bipush 12, 2) := by decide +kernel
theorem dX8_read_47 : decode cX8_read 47 = .ok (.if_icmp .ge 7, 3) := by decide +kernel
theorem dX8_read_50 : decode cX8_read 50 = .ok (.iconst 1, 1) := by decide +kernel
theorem dX8_read_51 : decode cX8_read 51 = .ok (.goto 4, 3) := by decide +kernel
theorem dX8_read_54 : decode cX8_read 54 = .ok (.iconst 0, 1) := by decide +kernel
theorem dX8_read_55 : decode cX8_read 55 = .ok (.istore_n 1, 1) := by decide +kernel
theorem dX8_read_56 : decode cX8_read 56 = .ok (.aload_n 0, 1) := by decide +kernel
theorem dX8_read_57 : decode cX8_read 57 = .ok (.dup, 1) := by decide +kernel
theorem dX8_read_58 : decode cX8_read 58 = .ok (.getfield 174, 3) := by decide +kernel
theorem dX8_read_61 : decode cX8_read 61 = .ok (.iload_n 1, 1) := by decide +kernel
theorem dX8_read_62 : decode cX8_read 62 = .ok (.ifCond .eq 7, 3) := by decide +kernel
theorem dX8_read_65 : decode cX8_read 65 = .ok (.iconst 1, 1) := by decide +kernel
theorem dX8_read_66 : decode cX8_read 66 = .ok (.goto 4, 3) := by decide +kernel
theorem dX8_read_69 : decode cX8_read 69 = .ok (.iconst 0, 1) := by decide +kernel
theorem dX8_read_70 : decode cX8_read 70 = .ok (.iadd, 1) := by decide +kernel
theorem dX8_read_71 : decode cX8_read 71 = .ok (.putfield 174, 3) := by decide +kernel
theorem dX8_read_74 : decode cX8_read 74 = .ok (.goto (-57), 3) := by decide +kernel
theorem dX8_read_77 : decode cX8_read 77 = .ok (.aload_n 0, 1) := by decide +kernel
theorem dX8_read_78 : decode cX8_read 78 = .ok (.getfield 177, 3) := by decide +kernel
theorem dX8_read_81 : decode cX8_read 81 = .ok (.ifCond .ne 18, 3) := by decide +kernel
theorem dX8_read_84 : decode cX8_read 84 = .ok (.aload_n 0, 1) := by decide +kernel
theorem dX8_read_85 : decode cX8_read 85 = .ok (.getfield 174, 3) := by decide +kernel
theorem dX8_read_88 : decode cX8_read 88 = .ok (.aload_n 0, 1) := by decide +kernel
theorem dX8_read_89 : decode cX8_read 89 = .ok (.getfield 171, 3) := by decide +kernel
theorem dX8_read_92 : decode cX8_read 92 = .ok (.if_icmp .ne 7, 3) := by decide +kernel
theorem dX8_read_95 : decode cX8_read 95 = .ok (.iconst 1, 1) := by decide +kernel
theorem dX8_read_96 : decode cX8_read 96 = .ok (.goto 4, 3) := by decide +kernel
theorem dX8_read_99 : decode cX8_read 99 = .ok (.iconst 0, 1) := by decide +kernel
theorem dX8_read_100 : decode cX8_read 100 = .ok (.istore_n 2, 1) := by decide +kernel
theorem dX8_read_101 : decode cX8_read 101 = .ok (.aload_n 0, 1) := by decide +kernel
theorem dX8_read_102 : decode cX8_read 102 = .ok (.iconst 0, 1) := by decide +kernel
theorem dX8_read_103 : decode cX8_read 103 = .ok (.putfield 171, 3) := by decide +kernel
theorem dX8_read_106 : decode cX8_read 106 = .ok (.iload_n 2, 1) := by decide +kernel
theorem dX8_read_107 : decode cX8_read 107 = .ok (.ifCond .ne 11, 3) := by decide +kernel
theorem dX8_read_110 : decode cX8_read 110 = .ok (.bipush (-10), 2) := by decide +kernel
theorem dX8_read_112 : decode cX8_read 112 = .ok (.aload_n 0, 1) := by decide +kernel
theorem dX8_read_113 : decode cX8_read 113 = .ok (.getfield 174, 3) := by decide +kernel
theorem dX8_read_116 : decode cX8_read 116 = .ok (.isub, 1) := by decide +kernel
theorem dX8_read_117 : decode cX8_read 117 = .ok (.ireturn, 1) := by decide +kernel
theorem dX8_read_118 : decode cX8_read 118 = .ok (.iconst 0, 1) := by decide +kernel
theorem dX8_read_119 : decode cX8_read 119 = .ok (.istore_n 3, 1) := by decide +kernel
theorem dX8_read_120 : decode cX8_read 120 = .ok (.iconst 0, 1) := by decide +kernel
theorem dX8_read_121 : decode cX8_read 121 = .ok (.istore 4, 2) := by decide +kernel
theorem dX8_read_123 : decode cX8_read 123 = .ok (.iload 4, 2) := by decide +kernel
theorem dX8_read_125 : decode cX8_read 125 = .ok (.aload_n 0, 1) := by decide +kernel
theorem dX8_read_126 : decode cX8_read 126 = .ok (.getfield 192, 3) := by decide +kernel
theorem dX8_read_129 : decode cX8_read 129 = .ok (.if_icmp .ge 28, 3) := by decide +kernel
theorem dX8_read_132 : decode cX8_read 132 = .ok (.iload_n 3, 1) := by decide +kernel
theorem dX8_read_133 : decode cX8_read 133 = .ok (.aload_n 0, 1) := by decide +kernel
theorem dX8_read_134 : decode cX8_read 134 = .ok (.iconst 5, 1) := by decide +kernel
theorem dX8_read_135 : decode cX8_read 135 = .ok (.iload 4, 2) := by decide +kernel
theorem dX8_read_137 : decode cX8_read 137 = .ok (.imul, 1) := by decide +kernel
theorem dX8_read_138 : decode cX8_read 138 = .ok (.invokevirtual 210, 3) := by decide +kernel
theorem dX8_read_141 : decode cX8_read 141 = .ok (.ifCond .lt 7, 3) := by decide +kernel
theorem dX8_read_144 : decode cX8_read 144 = .ok (.iconst 1, 1) := by decide +kernel
theorem dX8_read_145 : decode cX8_read 145 = .ok (.goto 4, 3) := by decide +kernel
theorem dX8_read_148 : decode cX8_read 148 = .ok (.iconst 0, 1) := by decide +kernel
theorem dX8_read_149 : decode cX8_read 149 = .ok (.iadd, 1) := by decide +kernel
theorem dX8_read_150 : decode cX8_read 150 = .ok (.istore_n 3, 1) := by decide +kernel
theorem dX8_read_151 : decode cX8_read 151 = .ok (.iinc 4 1, 3) := by decide +kernel
theorem dX8_read_154 : decode cX8_read 154 = .ok (.goto (-31), 3) := by decide +kernel
theorem dX8_read_157 : decode cX8_read 157 = .ok (.iload_n 3, 1) := by decide +kernel
theorem dX8_read_158 : decode cX8_read 158 = .ok (.ireturn, 1) := by decide +kernel
theorem dX8_product_0 : decode cX8_product 0 = .ok (.iload_n 1, 1) := by decide +kernel
theorem dX8_product_1 : decode cX8_product 1 = .ok (.invokestatic 213, 3) := by decide +kernel
theorem dX8_product_4 : decode cX8_product 4 = .ok (.ifCond .eq 18, 3) := by decide +kernel
theorem dX8_product_7 : decode cX8_product 7 = .ok (.iload_n 2, 1) := by decide +kernel
theorem dX8_product_8 : decode cX8_product 8 = .ok (.invokestatic 213, 3) := by decide +kernel
theorem dX8_product_11 : decode cX8_product 11 = .ok (.ifCond .eq 11, 3) := by decide +kernel
theorem dX8_product_14 : decode cX8_product 14 = .ok (.iload_n 1, 1) := by decide +kernel
theorem dX8_product_15 : decode cX8_product 15 = .ok (.iload_n 2, 1) := by decide +kernel
theorem dX8_product_16 : decode cX8_product 16 = .ok (.invokestatic 81, 3) := by decide +kernel
theorem dX8_product_19 : decode cX8_product 19 = .ok (.goto 4, 3) := by decide +kernel
theorem dX8_product_22 : decode cX8_product 22 = .ok (.iconst (-1), 1) := by decide +kernel
theorem dX8_product_23 : decode cX8_product 23 = .ok (.ireturn, 1) := by decide +kernel
theorem dX8_move_0 : decode cX8_move 0 = .ok (.iload_n 1, 1) := by decide +kernel
theorem dX8_move_1 : decode cX8_move 1 = .ok (.invokestatic 213, 3) := by decide +kernel
theorem dX8_move_4 : decode cX8_move 4 = .ok (.ifCond .eq 15, 3) := by decide +kernel
theorem dX8_move_7 : decode cX8_move 7 = .ok (.iload_n 2, 1) := by decide +kernel
theorem dX8_move_8 : decode cX8_move 8 = .ok (.i2l, 1) := by decide +kernel
theorem dX8_move_9 : decode cX8_move 9 = .ok (.lconst 0, 1) := by decide +kernel
theorem dX8_move_10 : decode cX8_move 10 = .ok (.ldc2_w 158, 3) := by decide +kernel
theorem dX8_move_13 : decode cX8_move 13 = .ok (.invokestatic 56, 3) := by decide +kernel
theorem dX8_move_16 : decode cX8_move 16 = .ok (.ifCond .ne 5, 3) := by decide +kernel
theorem dX8_move_19 : decode cX8_move 19 = .ok (.iconst (-1), 1) := by decide +kernel
theorem dX8_move_20 : decode cX8_move 20 = .ok (.ireturn, 1) := by decide +kernel
theorem dX8_move_21 : decode cX8_move 21 = .ok (.aload_n 0, 1) := by decide +kernel
theorem dX8_move_22 : decode cX8_move 22 = .ok (.iload_n 1, 1) := by decide +kernel
theorem dX8_move_23 : decode cX8_move 23 = .ok (.invokevirtual 101, 3) := by decide +kernel
theorem dX8_move_26 : decode cX8_move 26 = .ok (.istore_n 3, 1) := by decide +kernel
theorem dX8_move_27 : decode cX8_move 27 = .ok (.iload_n 2, 1) := by decide +kernel
theorem dX8_move_28 : decode cX8_move 28 = .ok (.ifCond .ne 10, 3) := by decide +kernel
theorem dX8_move_31 : decode cX8_move 31 = .ok (.iload_n 1, 1) := by decide +kernel
theorem dX8_move_32 : decode cX8_move 32 = .ok (.invokestatic 104, 3) := by decide +kernel
theorem dX8_move_35 : decode cX8_move 35 = .ok (.goto 33, 3) := by decide +kernel
theorem dX8_move_38 : decode cX8_move 38 = .ok (.iload_n 2, 1) := by decide +kernel
theorem dX8_move_39 : decode cX8_move 39 = .ok (.iconst 1, 1) := by decide +kernel
theorem dX8_move_40 : decode cX8_move 40 = .ok (.if_icmp .ne 10, 3) := by decide +kernel
theorem dX8_move_43 : decode cX8_move 43 = .ok (.iload_n 1, 1) := by decide +kernel
theorem dX8_move_44 : decode cX8_move 44 = .ok (.invokestatic 216, 3) := by decide +kernel
theorem dX8_move_47 : decode cX8_move 47 = .ok (.goto 21, 3) := by decide +kernel
theorem dX8_move_50 : decode cX8_move 50 = .ok (.iload_n 2, 1) := by decide +kernel
theorem dX8_move_51 : decode cX8_move 51 = .ok (.iconst 2, 1) := by decide +kernel
theorem dX8_move_52 : decode cX8_move 52 = .ok (.if_icmp .ne 15, 3) := by decide +kernel
theorem dX8_move_55 : decode cX8_move 55 = .ok (.iload_n 3, 1) := by decide +kernel
theorem dX8_move_56 : decode cX8_move 56 = .ok (.ifCond .ne 7, 3) := by decide +kernel
theorem dX8_move_59 : decode cX8_move 59 = .ok (.iconst 1, 1) := by decide +kernel
theorem dX8_move_60 : decode cX8_move 60 = .ok (.goto 8, 3) := by decide +kernel
theorem dX8_move_63 : decode cX8_move 63 = .ok (.iconst 0, 1) := by decide +kernel
theorem dX8_move_64 : decode cX8_move 64 = .ok (.goto 4, 3) := by decide +kernel
theorem dX8_move_67 : decode cX8_move 67 = .ok (.iload_n 3, 1) := by decide +kernel
theorem dX8_move_68 : decode cX8_move 68 = .ok (.ireturn, 1) := by decide +kernel
theorem dX8_trace_0 : decode cX8_trace 0 = .ok (.iload_n 1, 1) := by decide +kernel
theorem dX8_trace_1 : decode cX8_trace 1 = .ok (.invokestatic 213, 3) := by decide +kernel
theorem dX8_trace_4 : decode cX8_trace 4 = .ok (.ifCond .eq 31, 3) := by decide +kernel
theorem dX8_trace_7 : decode cX8_trace 7 = .ok (.iload_n 2, 1) := by decide +kernel
theorem dX8_trace_8 : decode cX8_trace 8 = .ok (.i2l, 1) := by decide +kernel
theorem dX8_trace_9 : decode cX8_trace 9 = .ok (.lconst 0, 1) := by decide +kernel
theorem dX8_trace_10 : decode cX8_trace 10 = .ok (.lconst 1, 1) := by decide +kernel
theorem dX8_trace_11 : decode cX8_trace 11 = .ok (.invokestatic 56, 3) := by decide +kernel
theorem dX8_trace_14 : decode cX8_trace 14 = .ok (.ifCond .eq 21, 3) := by decide +kernel
theorem dX8_trace_17 : decode cX8_trace 17 = .ok (.iload_n 2, 1) := by decide +kernel
theorem dX8_trace_18 : decode cX8_trace 18 = .ok (.ifCond .ne 10, 3) := by decide +kernel
theorem dX8_trace_21 : decode cX8_trace 21 = .ok (.iload_n 1, 1) := by decide +kernel
theorem dX8_trace_22 : decode cX8_trace 22 = .ok (.invokestatic 150, 3) := by decide +kernel
theorem dX8_trace_25 : decode cX8_trace 25 = .ok (.goto 12, 3) := by decide +kernel
theorem dX8_trace_28 : decode cX8_trace 28 = .ok (.iload_n 1, 1) := by decide +kernel
theorem dX8_trace_29 : decode cX8_trace 29 = .ok (.invokestatic 121, 3) := by decide +kernel
theorem dX8_trace_32 : decode cX8_trace 32 = .ok (.goto 5, 3) := by decide +kernel
theorem dX8_trace_35 : decode cX8_trace 35 = .ok (.bipush (-9), 2) := by decide +kernel
theorem dX8_trace_37 : decode cX8_trace 37 = .ok (.ireturn, 1) := by decide +kernel
theorem dX8_takes_0 : decode cX8_takes 0 = .ok (.iload_n 1, 1) := by decide +kernel
theorem dX8_takes_1 : decode cX8_takes 1 = .ok (.invokestatic 213, 3) := by decide +kernel
theorem dX8_takes_4 : decode cX8_takes 4 = .ok (.ifCond .eq 20, 3) := by decide +kernel
theorem dX8_takes_7 : decode cX8_takes 7 = .ok (.aload_n 0, 1) := by decide +kernel
theorem dX8_takes_8 : decode cX8_takes 8 = .ok (.iload_n 2, 1) := by decide +kernel
theorem dX8_takes_9 : decode cX8_takes 9 = .ok (.invokevirtual 166, 3) := by decide +kernel
theorem dX8_takes_12 : decode cX8_takes 12 = .ok (.ifCond .eq 12, 3) := by decide +kernel
theorem dX8_takes_15 : decode cX8_takes 15 = .ok (.aload_n 0, 1) := by decide +kernel
theorem dX8_takes_16 : decode cX8_takes 16 = .ok (.iload_n 1, 1) := by decide +kernel
theorem dX8_takes_17 : decode cX8_takes 17 = .ok (.iload_n 2, 1) := by decide +kernel
theorem dX8_takes_18 : decode cX8_takes 18 = .ok (.invokevirtual 90, 3) := by decide +kernel
theorem dX8_takes_21 : decode cX8_takes 21 = .ok (.goto 4, 3) := by decide +kernel
theorem dX8_takes_24 : decode cX8_takes 24 = .ok (.iconst (-1), 1) := by decide +kernel
theorem dX8_takes_25 : decode cX8_takes 25 = .ok (.ireturn, 1) := by decide +kernel
theorem dX8_told_0 : decode cX8_told 0 = .ok (.aload_n 0, 1) := by decide +kernel
theorem dX8_told_1 : decode cX8_told 1 = .ok (.invokevirtual 219, 3) := by decide +kernel
theorem dX8_told_4 : decode cX8_told 4 = .ok (.iload_n 1, 1) := by decide +kernel
theorem dX8_told_5 : decode cX8_told 5 = .ok (.tableswitch 108 0 7 #[47, 54, 59, 64, 69, 82, 98, 103], 47) := by decide +kernel
theorem dX8_told_52 : decode cX8_told 52 = .ok (.aload_n 0, 1) := by decide +kernel
theorem dX8_told_53 : decode cX8_told 53 = .ok (.getfield 11, 3) := by decide +kernel
theorem dX8_told_56 : decode cX8_told 56 = .ok (.iconst 0, 1) := by decide +kernel
theorem dX8_told_57 : decode cX8_told 57 = .ok (.iaload, 1) := by decide +kernel
theorem dX8_told_58 : decode cX8_told 58 = .ok (.ireturn, 1) := by decide +kernel
theorem dX8_told_59 : decode cX8_told 59 = .ok (.aload_n 0, 1) := by decide +kernel
theorem dX8_told_60 : decode cX8_told 60 = .ok (.getfield 97, 3) := by decide +kernel
theorem dX8_told_63 : decode cX8_told 63 = .ok (.ireturn, 1) := by decide +kernel
theorem dX8_told_64 : decode cX8_told 64 = .ok (.aload_n 0, 1) := by decide +kernel
theorem dX8_told_65 : decode cX8_told 65 = .ok (.invokevirtual 222, 3) := by decide +kernel
theorem dX8_told_68 : decode cX8_told 68 = .ok (.ireturn, 1) := by decide +kernel
theorem dX8_told_69 : decode cX8_told 69 = .ok (.aload_n 0, 1) := by decide +kernel
theorem dX8_told_70 : decode cX8_told 70 = .ok (.invokevirtual 225, 3) := by decide +kernel
theorem dX8_told_73 : decode cX8_told 73 = .ok (.ireturn, 1) := by decide +kernel
theorem dX8_told_74 : decode cX8_told 74 = .ok (.aload_n 0, 1) := by decide +kernel
theorem dX8_told_75 : decode cX8_told 75 = .ok (.invokevirtual 228, 3) := by decide +kernel
theorem dX8_told_78 : decode cX8_told 78 = .ok (.ifCond .eq 7, 3) := by decide +kernel
theorem dX8_told_81 : decode cX8_told 81 = .ok (.iconst 1, 1) := by decide +kernel
theorem dX8_told_82 : decode cX8_told 82 = .ok (.goto 4, 3) := by decide +kernel
theorem dX8_told_85 : decode cX8_told 85 = .ok (.iconst 0, 1) := by decide +kernel
theorem dX8_told_86 : decode cX8_told 86 = .ok (.ireturn, 1) := by decide +kernel
theorem dX8_told_87 : decode cX8_told 87 = .ok (.aload_n 0, 1) := by decide +kernel
theorem dX8_told_88 : decode cX8_told 88 = .ok (.getfield 24, 3) := by decide +kernel
theorem dX8_told_91 : decode cX8_told 91 = .ok (.bipush 7, 2) := by decide +kernel
theorem dX8_told_93 : decode cX8_told 93 = .ok (.baload, 1) := by decide +kernel
theorem dX8_told_94 : decode cX8_told 94 = .ok (.ifCond .eq 7, 3) := by decide +kernel
theorem dX8_told_97 : decode cX8_told 97 = .ok (.iconst 1, 1) := by decide +kernel
theorem dX8_told_98 : decode cX8_told 98 = .ok (.goto 4, 3) := by decide +kernel
theorem dX8_told_101 : decode cX8_told 101 = .ok (.iconst 0, 1) := by decide +kernel
theorem dX8_told_102 : decode cX8_told 102 = .ok (.ireturn, 1) := by decide +kernel
theorem dX8_told_103 : decode cX8_told 103 = .ok (.aload_n 0, 1) := by decide +kernel
theorem dX8_told_104 : decode cX8_told 104 = .ok (.getfield 144, 3) := by decide +kernel
theorem dX8_told_107 : decode cX8_told 107 = .ok (.ireturn, 1) := by decide +kernel
theorem dX8_told_108 : decode cX8_told 108 = .ok (.aload_n 0, 1) := by decide +kernel
theorem dX8_told_109 : decode cX8_told 109 = .ok (.invokevirtual 231, 3) := by decide +kernel
theorem dX8_told_112 : decode cX8_told 112 = .ok (.ireturn, 1) := by decide +kernel
theorem dX8_told_113 : decode cX8_told 113 = .ok (.iconst (-1), 1) := by decide +kernel
theorem dX8_told_114 : decode cX8_told 114 = .ok (.ireturn, 1) := by decide +kernel
theorem dX8_group_0 : decode cX8_group 0 = .ok (.aload_n 0, 1) := by decide +kernel
theorem dX8_group_1 : decode cX8_group 1 = .ok (.invokevirtual 138, 3) := by decide +kernel
theorem dX8_group_4 : decode cX8_group 4 = .ok (.iload_n 1, 1) := by decide +kernel
theorem dX8_group_5 : decode cX8_group 5 = .ok (.ifCond .ge 7, 3) := by decide +kernel
theorem dX8_group_8 : decode cX8_group 8 = .ok (.iconst (-1), 1) := by decide +kernel
theorem dX8_group_9 : decode cX8_group 9 = .ok (.goto 22, 3) := by decide +kernel
theorem dX8_group_12 : decode cX8_group 12 = .ok (.iload_n 1, 1) := by decide +kernel
theorem dX8_group_13 : decode cX8_group 13 = .ok (.aload_n 0, 1) := by decide +kernel
theorem dX8_group_14 : decode cX8_group 14 = .ok (.getfield 97, 3) := by decide +kernel
theorem dX8_group_17 : decode cX8_group 17 = .ok (.if_icmp .ge 12, 3) := by decide +kernel
theorem dX8_group_20 : decode cX8_group 20 = .ok (.aload_n 0, 1) := by decide +kernel
theorem dX8_group_21 : decode cX8_group 21 = .ok (.getfield 21, 3) := by decide +kernel
theorem dX8_group_24 : decode cX8_group 24 = .ok (.iload_n 1, 1) := by decide +kernel
theorem dX8_group_25 : decode cX8_group 25 = .ok (.iaload, 1) := by decide +kernel
theorem dX8_group_26 : decode cX8_group 26 = .ok (.goto 5, 3) := by decide +kernel
theorem dX8_group_29 : decode cX8_group 29 = .ok (.bipush (-5), 2) := by decide +kernel
theorem dX8_group_31 : decode cX8_group 31 = .ok (.ireturn, 1) := by decide +kernel
theorem dX8_classOf_0 : decode cX8_classOf 0 = .ok (.iload_n 1, 1) := by decide +kernel
theorem dX8_classOf_1 : decode cX8_classOf 1 = .ok (.invokestatic 213, 3) := by decide +kernel
theorem dX8_classOf_4 : decode cX8_classOf 4 = .ok (.ifCond .eq 13, 3) := by decide +kernel
theorem dX8_classOf_7 : decode cX8_classOf 7 = .ok (.iload_n 2, 1) := by decide +kernel
theorem dX8_classOf_8 : decode cX8_classOf 8 = .ok (.i2l, 1) := by decide +kernel
theorem dX8_classOf_9 : decode cX8_classOf 9 = .ok (.lconst 0, 1) := by decide +kernel
theorem dX8_classOf_10 : decode cX8_classOf 10 = .ok (.lconst 1, 1) := by decide +kernel
theorem dX8_classOf_11 : decode cX8_classOf 11 = .ok (.invokestatic 56, 3) := by decide +kernel
theorem dX8_classOf_14 : decode cX8_classOf 14 = .ok (.ifCond .ne 5, 3) := by decide +kernel
theorem dX8_classOf_17 : decode cX8_classOf 17 = .ok (.iconst (-1), 1) := by decide +kernel
theorem dX8_classOf_18 : decode cX8_classOf 18 = .ok (.ireturn, 1) := by decide +kernel
theorem dX8_classOf_19 : decode cX8_classOf 19 = .ok (.aload_n 0, 1) := by decide +kernel
theorem dX8_classOf_20 : decode cX8_classOf 20 = .ok (.invokevirtual 138, 3) := by decide +kernel
theorem dX8_classOf_23 : decode cX8_classOf 23 = .ok (.aload_n 0, 1) := by decide +kernel
theorem dX8_classOf_24 : decode cX8_classOf 24 = .ok (.getfield 24, 3) := by decide +kernel
theorem dX8_classOf_27 : decode cX8_classOf 27 = .ok (.iload_n 1, 1) := by decide +kernel
theorem dX8_classOf_28 : decode cX8_classOf 28 = .ok (.baload, 1) := by decide +kernel
theorem dX8_classOf_29 : decode cX8_classOf 29 = .ok (.ifCond .ne 6, 3) := by decide +kernel
theorem dX8_classOf_32 : decode cX8_classOf 32 = .ok (.bipush (-3), 2) := by decide +kernel
theorem dX8_classOf_34 : decode cX8_classOf 34 = .ok (.ireturn, 1) := by decide +kernel
theorem dX8_classOf_35 : decode cX8_classOf 35 = .ok (.iload_n 2, 1) := by decide +kernel
theorem dX8_classOf_36 : decode cX8_classOf 36 = .ok (.ifCond .ne 11, 3) := by decide +kernel
theorem dX8_classOf_39 : decode cX8_classOf 39 = .ok (.aload_n 0, 1) := by decide +kernel
theorem dX8_classOf_40 : decode cX8_classOf 40 = .ok (.iload_n 1, 1) := by decide +kernel
theorem dX8_classOf_41 : decode cX8_classOf 41 = .ok (.invokevirtual 112, 3) := by decide +kernel
theorem dX8_classOf_44 : decode cX8_classOf 44 = .ok (.goto 8, 3) := by decide +kernel
theorem dX8_classOf_47 : decode cX8_classOf 47 = .ok (.aload_n 0, 1) := by decide +kernel
theorem dX8_classOf_48 : decode cX8_classOf 48 = .ok (.iload_n 1, 1) := by decide +kernel
theorem dX8_classOf_49 : decode cX8_classOf 49 = .ok (.invokevirtual 234, 3) := by decide +kernel
theorem dX8_classOf_52 : decode cX8_classOf 52 = .ok (.ireturn, 1) := by decide +kernel
theorem dX8_classAt_0 : decode cX8_classAt 0 = .ok (.iload_n 1, 1) := by decide +kernel
theorem dX8_classAt_1 : decode cX8_classAt 1 = .ok (.ifCond .ge 5, 3) := by decide +kernel
theorem dX8_classAt_4 : decode cX8_classAt 4 = .ok (.iconst (-1), 1) := by decide +kernel
theorem dX8_classAt_5 : decode cX8_classAt 5 = .ok (.ireturn, 1) := by decide +kernel
theorem dX8_classAt_6 : decode cX8_classAt 6 = .ok (.aload_n 0, 1) := by decide +kernel
theorem dX8_classAt_7 : decode cX8_classAt 7 = .ok (.invokevirtual 138, 3) := by decide +kernel
theorem dX8_classAt_10 : decode cX8_classAt 10 = .ok (.bipush (-5), 2) := by decide +kernel
theorem dX8_classAt_12 : decode cX8_classAt 12 = .ok (.aload_n 0, 1) := by decide +kernel
theorem dX8_classAt_13 : decode cX8_classAt 13 = .ok (.iload_n 1, 1) := by decide +kernel
theorem dX8_classAt_14 : decode cX8_classAt 14 = .ok (.invokevirtual 115, 3) := by decide +kernel
theorem dX8_classAt_17 : decode cX8_classAt 17 = .ok (.ifCond .ge 8, 3) := by decide +kernel
theorem dX8_classAt_20 : decode cX8_classAt 20 = .ok (.bipush (-5), 2) := by decide +kernel
theorem dX8_classAt_22 : decode cX8_classAt 22 = .ok (.goto 8, 3) := by decide +kernel
theorem dX8_classAt_25 : decode cX8_classAt 25 = .ok (.aload_n 0, 1) := by decide +kernel
theorem dX8_classAt_26 : decode cX8_classAt 26 = .ok (.iload_n 1, 1) := by decide +kernel
theorem dX8_classAt_27 : decode cX8_classAt 27 = .ok (.invokevirtual 115, 3) := by decide +kernel
theorem dX8_classAt_30 : decode cX8_classAt 30 = .ok (.invokestatic 237, 3) := by decide +kernel
theorem dX8_classAt_33 : decode cX8_classAt 33 = .ok (.ireturn, 1) := by decide +kernel
theorem dX8_motion_0 : decode cX8_motion 0 = .ok (.iload_n 1, 1) := by decide +kernel
theorem dX8_motion_1 : decode cX8_motion 1 = .ok (.i2l, 1) := by decide +kernel
theorem dX8_motion_2 : decode cX8_motion 2 = .ok (.lconst 0, 1) := by decide +kernel
theorem dX8_motion_3 : decode cX8_motion 3 = .ok (.ldc2_w 240, 3) := by decide +kernel
theorem dX8_motion_6 : decode cX8_motion 6 = .ok (.invokestatic 56, 3) := by decide +kernel
theorem dX8_motion_9 : decode cX8_motion 9 = .ok (.ifCond .eq 18, 3) := by decide +kernel
theorem dX8_motion_12 : decode cX8_motion 12 = .ok (.iload_n 2, 1) := by decide +kernel
theorem dX8_motion_13 : decode cX8_motion 13 = .ok (.invokestatic 213, 3) := by decide +kernel
theorem dX8_motion_16 : decode cX8_motion 16 = .ok (.ifCond .eq 11, 3) := by decide +kernel
theorem dX8_motion_19 : decode cX8_motion 19 = .ok (.aload_n 0, 1) := by decide +kernel
theorem dX8_motion_20 : decode cX8_motion 20 = .ok (.iload_n 2, 1) := by decide +kernel
theorem dX8_motion_21 : decode cX8_motion 21 = .ok (.invokevirtual 101, 3) := by decide +kernel
theorem dX8_motion_24 : decode cX8_motion 24 = .ok (.ifCond .le 7, 3) := by decide +kernel
theorem dX8_motion_27 : decode cX8_motion 27 = .ok (.sipush (-1000), 3) := by decide +kernel
theorem dX8_motion_30 : decode cX8_motion 30 = .ok (.ireturn, 1) := by decide +kernel
theorem dX8_motion_31 : decode cX8_motion 31 = .ok (.aload_n 0, 1) := by decide +kernel
theorem dX8_motion_32 : decode cX8_motion 32 = .ok (.iload_n 1, 1) := by decide +kernel
theorem dX8_motion_33 : decode cX8_motion 33 = .ok (.iload_n 2, 1) := by decide +kernel
theorem dX8_motion_34 : decode cX8_motion 34 = .ok (.invokevirtual 153, 3) := by decide +kernel
theorem dX8_motion_37 : decode cX8_motion 37 = .ok (.ireturn, 1) := by decide +kernel
theorem dX8_sign_0 : decode cX8_sign 0 = .ok (.iload_n 1, 1) := by decide +kernel
theorem dX8_sign_1 : decode cX8_sign 1 = .ok (.ifCond .lt 10, 3) := by decide +kernel
theorem dX8_sign_4 : decode cX8_sign 4 = .ok (.iload_n 2, 1) := by decide +kernel
theorem dX8_sign_5 : decode cX8_sign 5 = .ok (.invokestatic 213, 3) := by decide +kernel
theorem dX8_sign_8 : decode cX8_sign 8 = .ok (.ifCond .ne 5, 3) := by decide +kernel
theorem dX8_sign_11 : decode cX8_sign 11 = .ok (.iconst 0, 1) := by decide +kernel
theorem dX8_sign_12 : decode cX8_sign 12 = .ok (.ireturn, 1) := by decide +kernel
theorem dX8_sign_13 : decode cX8_sign 13 = .ok (.aload_n 0, 1) := by decide +kernel
theorem dX8_sign_14 : decode cX8_sign 14 = .ok (.invokevirtual 219, 3) := by decide +kernel
theorem dX8_sign_17 : decode cX8_sign 17 = .ok (.iload_n 1, 1) := by decide +kernel
theorem dX8_sign_18 : decode cX8_sign 18 = .ok (.aload_n 0, 1) := by decide +kernel
theorem dX8_sign_19 : decode cX8_sign 19 = .ok (.getfield 144, 3) := by decide +kernel
theorem dX8_sign_22 : decode cX8_sign 22 = .ok (.if_icmp .ge 26, 3) := by decide +kernel
theorem dX8_sign_25 : decode cX8_sign 25 = .ok (.aload_n 0, 1) := by decide +kernel
theorem dX8_sign_26 : decode cX8_sign 26 = .ok (.getfield 24, 3) := by decide +kernel
theorem dX8_sign_29 : decode cX8_sign 29 = .ok (.iload_n 2, 1) := by decide +kernel
theorem dX8_sign_30 : decode cX8_sign 30 = .ok (.baload, 1) := by decide +kernel
theorem dX8_sign_31 : decode cX8_sign 31 = .ok (.ifCond .eq 17, 3) := by decide +kernel
theorem dX8_sign_34 : decode cX8_sign 34 = .ok (.aload_n 0, 1) := by decide +kernel
theorem dX8_sign_35 : decode cX8_sign 35 = .ok (.getfield 37, 3) := by decide +kernel
theorem dX8_sign_38 : decode cX8_sign 38 = .ok (.bipush 48, 2) := by decide +kernel
theorem dX8_sign_40 : decode cX8_sign 40 = .ok (.iload_n 1, 1) := by decide +kernel
theorem dX8_sign_41 : decode cX8_sign 41 = .ok (.imul, 1) := by decide +kernel
theorem dX8_sign_42 : decode cX8_sign 42 = .ok (.iload_n 2, 1) := by decide +kernel
theorem dX8_sign_43 : decode cX8_sign 43 = .ok (.iadd, 1) := by decide +kernel
theorem dX8_sign_44 : decode cX8_sign 44 = .ok (.iaload, 1) := by decide +kernel
theorem dX8_sign_45 : decode cX8_sign 45 = .ok (.goto 4, 3) := by decide +kernel
theorem dX8_sign_48 : decode cX8_sign 48 = .ok (.iconst 0, 1) := by decide +kernel
theorem dX8_sign_49 : decode cX8_sign 49 = .ok (.ireturn, 1) := by decide +kernel
theorem dX8_has_0 : decode cX8_has 0 = .ok (.aload_n 0, 1) := by decide +kernel
theorem dX8_has_1 : decode cX8_has 1 = .ok (.invokevirtual 219, 3) := by decide +kernel
theorem dX8_has_4 : decode cX8_has 4 = .ok (.iload_n 1, 1) := by decide +kernel
theorem dX8_has_5 : decode cX8_has 5 = .ok (.i2l, 1) := by decide +kernel
theorem dX8_has_6 : decode cX8_has 6 = .ok (.lconst 0, 1) := by decide +kernel
theorem dX8_has_7 : decode cX8_has 7 = .ok (.ldc2_w 240, 3) := by decide +kernel
theorem dX8_has_10 : decode cX8_has 10 = .ok (.invokestatic 56, 3) := by decide +kernel
theorem dX8_has_13 : decode cX8_has 13 = .ok (.ifCond .eq 28, 3) := by decide +kernel
theorem dX8_has_16 : decode cX8_has 16 = .ok (.iload_n 2, 1) := by decide +kernel
theorem dX8_has_17 : decode cX8_has 17 = .ok (.i2l, 1) := by decide +kernel
theorem dX8_has_18 : decode cX8_has 18 = .ok (.lconst 0, 1) := by decide +kernel
theorem dX8_has_19 : decode cX8_has 19 = .ok (.aload_n 0, 1) := by decide +kernel
theorem dX8_has_20 : decode cX8_has 20 = .ok (.getfield 144, 3) := by decide +kernel
theorem dX8_has_23 : decode cX8_has 23 = .ok (.iconst 1, 1) := by decide +kernel
theorem dX8_has_24 : decode cX8_has 24 = .ok (.isub, 1) := by decide +kernel
theorem dX8_has_25 : decode cX8_has 25 = .ok (.i2l, 1) := by decide +kernel
theorem dX8_has_26 : decode cX8_has 26 = .ok (.invokestatic 56, 3) := by decide +kernel
theorem dX8_has_29 : decode cX8_has 29 = .ok (.ifCond .eq 12, 3) := by decide +kernel
theorem dX8_has_32 : decode cX8_has 32 = .ok (.aload_n 0, 1) := by decide +kernel
theorem dX8_has_33 : decode cX8_has 33 = .ok (.iload_n 1, 1) := by decide +kernel
theorem dX8_has_34 : decode cX8_has 34 = .ok (.iload_n 2, 1) := by decide +kernel
theorem dX8_has_35 : decode cX8_has 35 = .ok (.invokevirtual 242, 3) := by decide +kernel
theorem dX8_has_38 : decode cX8_has 38 = .ok (.goto 6, 3) := by decide +kernel
theorem dX8_has_41 : decode cX8_has 41 = .ok (.sipush (-1000), 3) := by decide +kernel
theorem dX8_has_44 : decode cX8_has 44 = .ok (.ireturn, 1) := by decide +kernel
theorem dX8_active_0 : decode cX8_active 0 = .ok (.iload_n 1, 1) := by decide +kernel
theorem dX8_active_1 : decode cX8_active 1 = .ok (.i2l, 1) := by decide +kernel
theorem dX8_active_2 : decode cX8_active 2 = .ok (.lconst 0, 1) := by decide +kernel
theorem dX8_active_3 : decode cX8_active 3 = .ok (.ldc2_w 245, 3) := by decide +kernel
theorem dX8_active_6 : decode cX8_active 6 = .ok (.invokestatic 56, 3) := by decide +kernel
theorem dX8_active_9 : decode cX8_active 9 = .ok (.ifCond .ne 5, 3) := by decide +kernel
theorem dX8_active_12 : decode cX8_active 12 = .ok (.iconst (-1), 1) := by decide +kernel
theorem dX8_active_13 : decode cX8_active 13 = .ok (.ireturn, 1) := by decide +kernel
theorem dX8_active_14 : decode cX8_active 14 = .ok (.aload_n 0, 1) := by decide +kernel
theorem dX8_active_15 : decode cX8_active 15 = .ok (.invokevirtual 219, 3) := by decide +kernel
theorem dX8_active_18 : decode cX8_active 18 = .ok (.iconst 0, 1) := by decide +kernel
theorem dX8_active_19 : decode cX8_active 19 = .ok (.istore_n 2, 1) := by decide +kernel
theorem dX8_active_20 : decode cX8_active 20 = .ok (.iconst 0, 1) := by decide +kernel
theorem dX8_active_21 : decode cX8_active 21 = .ok (.istore_n 3, 1) := by decide +kernel
theorem dX8_active_22 : decode cX8_active 22 = .ok (.iload_n 3, 1) := by decide +kernel
theorem dX8_active_23 : decode cX8_active 23 = .ok (.aload_n 0, 1) := by decide +kernel
theorem dX8_active_24 : decode cX8_active 24 = .ok (.getfield 144, 3) := by decide +kernel
theorem dX8_active_27 : decode cX8_active 27 = .ok (.if_icmp .ge 86, 3) := by decide +kernel
theorem dX8_active_30 : decode cX8_active 30 = .ok (.aload_n 0, 1) := by decide +kernel
theorem dX8_active_31 : decode cX8_active 31 = .ok (.iconst 2, 1) := by decide +kernel
theorem dX8_active_32 : decode cX8_active 32 = .ok (.iload_n 3, 1) := by decide +kernel
theorem dX8_active_33 : decode cX8_active 33 = .ok (.invokevirtual 242, 3) := by decide +kernel
theorem dX8_active_36 : decode cX8_active 36 = .ok (.ifCond .le 7, 3) := by decide +kernel
theorem dX8_active_39 : decode cX8_active 39 = .ok (.iconst 1, 1) := by decide +kernel
theorem dX8_active_40 : decode cX8_active 40 = .ok (.goto 4, 3) := by decide +kernel
theorem dX8_active_43 : decode cX8_active 43 = .ok (.iconst 0, 1) := by decide +kernel
theorem dX8_active_44 : decode cX8_active 44 = .ok (.istore 4, 2) := by decide +kernel
theorem dX8_active_46 : decode cX8_active 46 = .ok (.aload_n 0, 1) := by decide +kernel
theorem dX8_active_47 : decode cX8_active 47 = .ok (.iconst 5, 1) := by decide +kernel
theorem dX8_active_48 : decode cX8_active 48 = .ok (.iload_n 3, 1) := by decide +kernel
theorem dX8_active_49 : decode cX8_active 49 = .ok (.invokevirtual 242, 3) := by decide +kernel
theorem dX8_active_52 : decode cX8_active 52 = .ok (.ifCond .le 7, 3) := by decide +kernel
theorem dX8_active_55 : decode cX8_active 55 = .ok (.iconst 1, 1) := by decide +kernel
theorem dX8_active_56 : decode cX8_active 56 = .ok (.goto 4, 3) := by decide +kernel
theorem dX8_active_59 : decode cX8_active 59 = .ok (.iconst 0, 1) := by decide +kernel
theorem dX8_active_60 : decode cX8_active 60 = .ok (.istore 5, 2) := by decide +kernel
theorem dX8_active_62 : decode cX8_active 62 = .ok (.iload_n 2, 1) := by decide +kernel
theorem dX8_active_63 : decode cX8_active 63 = .ok (.iload_n 1, 1) := by decide +kernel
theorem dX8_active_64 : decode cX8_active 64 = .ok (.ifCond .ne 11, 3) := by decide +kernel
theorem dX8_active_67 : decode cX8_active 67 = .ok (.iload 4, 2) := by decide +kernel
theorem dX8_active_69 : decode cX8_active 69 = .ok (.ifCond .eq 35, 3) := by decide +kernel
theorem dX8_active_72 : decode cX8_active 72 = .ok (.goto 26, 3) := by decide +kernel
theorem dX8_active_75 : decode cX8_active 75 = .ok (.iload_n 1, 1) := by decide +kernel
theorem dX8_active_76 : decode cX8_active 76 = .ok (.iconst 1, 1) := by decide +kernel
theorem dX8_active_77 : decode cX8_active 77 = .ok (.if_icmp .ne 11, 3) := by decide +kernel
theorem dX8_active_80 : decode cX8_active 80 = .ok (.iload 5, 2) := by decide +kernel
theorem dX8_active_82 : decode cX8_active 82 = .ok (.ifCond .eq 22, 3) := by decide +kernel
theorem dX8_active_85 : decode cX8_active 85 = .ok (.goto 13, 3) := by decide +kernel
theorem dX8_active_88 : decode cX8_active 88 = .ok (.iload 4, 2) := by decide +kernel
theorem dX8_active_90 : decode cX8_active 90 = .ok (.ifCond .ne 14, 3) := by decide +kernel
theorem dX8_active_93 : decode cX8_active 93 = .ok (.iload 5, 2) := by decide +kernel
theorem dX8_active_95 : decode cX8_active 95 = .ok (.ifCond .ne 9, 3) := by decide +kernel
theorem dX8_active_98 : decode cX8_active 98 = .ok (.iconst 1, 1) := by decide +kernel
theorem dX8_active_99 : decode cX8_active 99 = .ok (.iload_n 3, 1) := by decide +kernel
theorem dX8_active_100 : decode cX8_active 100 = .ok (.ishl, 1) := by decide +kernel
theorem dX8_active_101 : decode cX8_active 101 = .ok (.goto 4, 3) := by decide +kernel
theorem dX8_active_104 : decode cX8_active 104 = .ok (.iconst 0, 1) := by decide +kernel
theorem dX8_active_105 : decode cX8_active 105 = .ok (.ior, 1) := by decide +kernel
theorem dX8_active_106 : decode cX8_active 106 = .ok (.istore_n 2, 1) := by decide +kernel
theorem dX8_active_107 : decode cX8_active 107 = .ok (.iinc 3 1, 3) := by decide +kernel
theorem dX8_active_110 : decode cX8_active 110 = .ok (.goto (-88), 3) := by decide +kernel
theorem dX8_active_113 : decode cX8_active 113 = .ok (.iload_n 2, 1) := by decide +kernel
theorem dX8_active_114 : decode cX8_active 114 = .ok (.ireturn, 1) := by decide +kernel
theorem dX8_see_0 : decode cX8_see 0 = .ok (.iload_n 1, 1) := by decide +kernel
theorem dX8_see_1 : decode cX8_see 1 = .ok (.iconst (-1), 1) := by decide +kernel
theorem dX8_see_2 : decode cX8_see 2 = .ok (.if_icmp .ne 13, 3) := by decide +kernel
theorem dX8_see_5 : decode cX8_see 5 = .ok (.aload_n 0, 1) := by decide +kernel
theorem dX8_see_6 : decode cX8_see 6 = .ok (.getfield 11, 3) := by decide +kernel
theorem dX8_see_9 : decode cX8_see 9 = .ok (.bipush 33, 2) := by decide +kernel
theorem dX8_see_11 : decode cX8_see 11 = .ok (.iconst 0, 1) := by decide +kernel
theorem dX8_see_12 : decode cX8_see 12 = .ok (.iastore, 1) := by decide +kernel
theorem dX8_see_13 : decode cX8_see 13 = .ok (.iconst 0, 1) := by decide +kernel
theorem dX8_see_14 : decode cX8_see 14 = .ok (.ireturn, 1) := by decide +kernel
theorem dX8_see_15 : decode cX8_see 15 = .ok (.iload_n 1, 1) := by decide +kernel
theorem dX8_see_16 : decode cX8_see 16 = .ok (.invokestatic 213, 3) := by decide +kernel
theorem dX8_see_19 : decode cX8_see 19 = .ok (.ifCond .ne 5, 3) := by decide +kernel
theorem dX8_see_22 : decode cX8_see 22 = .ok (.iconst (-1), 1) := by decide +kernel
theorem dX8_see_23 : decode cX8_see 23 = .ok (.ireturn, 1) := by decide +kernel
theorem dX8_see_24 : decode cX8_see 24 = .ok (.aload_n 0, 1) := by decide +kernel
theorem dX8_see_25 : decode cX8_see 25 = .ok (.getfield 11, 3) := by decide +kernel
theorem dX8_see_28 : decode cX8_see 28 = .ok (.bipush 33, 2) := by decide +kernel
theorem dX8_see_30 : decode cX8_see 30 = .ok (.iaload, 1) := by decide +kernel
theorem dX8_see_31 : decode cX8_see 31 = .ok (.iconst 5, 1) := by decide +kernel
theorem dX8_see_32 : decode cX8_see 32 = .ok (.if_icmp .ne 6, 3) := by decide +kernel
theorem dX8_see_35 : decode cX8_see 35 = .ok (.bipush (-4), 2) := by decide +kernel
theorem dX8_see_37 : decode cX8_see 37 = .ok (.ireturn, 1) := by decide +kernel
theorem dX8_see_38 : decode cX8_see 38 = .ok (.bipush 34, 2) := by decide +kernel
theorem dX8_see_40 : decode cX8_see 40 = .ok (.iconst 2, 1) := by decide +kernel
theorem dX8_see_41 : decode cX8_see 41 = .ok (.aload_n 0, 1) := by decide +kernel
theorem dX8_see_42 : decode cX8_see 42 = .ok (.getfield 11, 3) := by decide +kernel
theorem dX8_see_45 : decode cX8_see 45 = .ok (.bipush 33, 2) := by decide +kernel
theorem dX8_see_47 : decode cX8_see 47 = .ok (.iaload, 1) := by decide +kernel
theorem dX8_see_48 : decode cX8_see 48 = .ok (.imul, 1) := by decide +kernel
theorem dX8_see_49 : decode cX8_see 49 = .ok (.iadd, 1) := by decide +kernel
theorem dX8_see_50 : decode cX8_see 50 = .ok (.istore_n 3, 1) := by decide +kernel
theorem dX8_see_51 : decode cX8_see 51 = .ok (.aload_n 0, 1) := by decide +kernel
theorem dX8_see_52 : decode cX8_see 52 = .ok (.getfield 11, 3) := by decide +kernel
theorem dX8_see_55 : decode cX8_see 55 = .ok (.iload_n 3, 1) := by decide +kernel
theorem dX8_see_56 : decode cX8_see 56 = .ok (.iload_n 1, 1) := by decide +kernel
theorem dX8_see_57 : decode cX8_see 57 = .ok (.iastore, 1) := by decide +kernel
theorem dX8_see_58 : decode cX8_see 58 = .ok (.aload_n 0, 1) := by decide +kernel
theorem dX8_see_59 : decode cX8_see 59 = .ok (.getfield 11, 3) := by decide +kernel
theorem dX8_see_62 : decode cX8_see 62 = .ok (.iload_n 3, 1) := by decide +kernel
theorem dX8_see_63 : decode cX8_see 63 = .ok (.iconst 1, 1) := by decide +kernel
theorem dX8_see_64 : decode cX8_see 64 = .ok (.iadd, 1) := by decide +kernel
theorem dX8_see_65 : decode cX8_see 65 = .ok (.iload_n 2, 1) := by decide +kernel
theorem dX8_see_66 : decode cX8_see 66 = .ok (.ifCond .eq 7, 3) := by decide +kernel
theorem dX8_see_69 : decode cX8_see 69 = .ok (.iconst 1, 1) := by decide +kernel
theorem dX8_see_70 : decode cX8_see 70 = .ok (.goto 4, 3) := by decide +kernel
theorem dX8_see_73 : decode cX8_see 73 = .ok (.iconst 0, 1) := by decide +kernel
theorem dX8_see_74 : decode cX8_see 74 = .ok (.iastore, 1) := by decide +kernel
theorem dX8_see_75 : decode cX8_see 75 = .ok (.aload_n 0, 1) := by decide +kernel
theorem dX8_see_76 : decode cX8_see 76 = .ok (.getfield 11, 3) := by decide +kernel
theorem dX8_see_79 : decode cX8_see 79 = .ok (.bipush 33, 2) := by decide +kernel
theorem dX8_see_81 : decode cX8_see 81 = .ok (.dup2, 1) := by decide +kernel
theorem dX8_see_82 : decode cX8_see 82 = .ok (.iaload, 1) := by decide +kernel
theorem dX8_see_83 : decode cX8_see 83 = .ok (.iconst 1, 1) := by decide +kernel
theorem dX8_see_84 : decode cX8_see 84 = .ok (.iadd, 1) := by decide +kernel
theorem dX8_see_85 : decode cX8_see 85 = .ok (.iastore, 1) := by decide +kernel
theorem dX8_see_86 : decode cX8_see 86 = .ok (.aload_n 0, 1) := by decide +kernel
theorem dX8_see_87 : decode cX8_see 87 = .ok (.getfield 11, 3) := by decide +kernel
theorem dX8_see_90 : decode cX8_see 90 = .ok (.bipush 33, 2) := by decide +kernel
theorem dX8_see_92 : decode cX8_see 92 = .ok (.iaload, 1) := by decide +kernel
theorem dX8_see_93 : decode cX8_see 93 = .ok (.ireturn, 1) := by decide +kernel
theorem dX8_isSeen_0 : decode cX8_isSeen 0 = .ok (.iconst 1, 1) := by decide +kernel
theorem dX8_isSeen_1 : decode cX8_isSeen 1 = .ok (.istore_n 1, 1) := by decide +kernel
theorem dX8_isSeen_2 : decode cX8_isSeen 2 = .ok (.iconst 0, 1) := by decide +kernel
theorem dX8_isSeen_3 : decode cX8_isSeen 3 = .ok (.istore_n 2, 1) := by decide +kernel
theorem dX8_isSeen_4 : decode cX8_isSeen 4 = .ok (.iload_n 2, 1) := by decide +kernel
theorem dX8_isSeen_5 : decode cX8_isSeen 5 = .ok (.aload_n 0, 1) := by decide +kernel
theorem dX8_isSeen_6 : decode cX8_isSeen 6 = .ok (.getfield 11, 3) := by decide +kernel
theorem dX8_isSeen_9 : decode cX8_isSeen 9 = .ok (.bipush 33, 2) := by decide +kernel
theorem dX8_isSeen_11 : decode cX8_isSeen 11 = .ok (.iaload, 1) := by decide +kernel
theorem dX8_isSeen_12 : decode cX8_isSeen 12 = .ok (.if_icmp .ge 65, 3) := by decide +kernel
theorem dX8_isSeen_15 : decode cX8_isSeen 15 = .ok (.iload_n 1, 1) := by decide +kernel
theorem dX8_isSeen_16 : decode cX8_isSeen 16 = .ok (.aload_n 0, 1) := by decide +kernel
theorem dX8_isSeen_17 : decode cX8_isSeen 17 = .ok (.aload_n 0, 1) := by decide +kernel
theorem dX8_isSeen_18 : decode cX8_isSeen 18 = .ok (.getfield 11, 3) := by decide +kernel
theorem dX8_isSeen_21 : decode cX8_isSeen 21 = .ok (.bipush 34, 2) := by decide +kernel
theorem dX8_isSeen_23 : decode cX8_isSeen 23 = .ok (.iconst 2, 1) := by decide +kernel
theorem dX8_isSeen_24 : decode cX8_isSeen 24 = .ok (.iload_n 2, 1) := by decide +kernel
theorem dX8_isSeen_25 : decode cX8_isSeen 25 = .ok (.imul, 1) := by decide +kernel
theorem dX8_isSeen_26 : decode cX8_isSeen 26 = .ok (.iadd, 1) := by decide +kernel
theorem dX8_isSeen_27 : decode cX8_isSeen 27 = .ok (.iaload, 1) := by decide +kernel
theorem dX8_isSeen_28 : decode cX8_isSeen 28 = .ok (.invokevirtual 101, 3) := by decide +kernel
theorem dX8_isSeen_31 : decode cX8_isSeen 31 = .ok (.ifCond .ne 7, 3) := by decide +kernel
theorem dX8_isSeen_34 : decode cX8_isSeen 34 = .ok (.iconst 1, 1) := by decide +kernel
theorem dX8_isSeen_35 : decode cX8_isSeen 35 = .ok (.goto 4, 3) := by decide +kernel
theorem dX8_isSeen_38 : decode cX8_isSeen 38 = .ok (.iconst 0, 1) := by decide +kernel
theorem dX8_isSeen_39 : decode cX8_isSeen 39 = .ok (.aload_n 0, 1) := by decide +kernel
theorem dX8_isSeen_40 : decode cX8_isSeen 40 = .ok (.getfield 11, 3) := by decide +kernel
theorem dX8_isSeen_43 : decode cX8_isSeen 43 = .ok (.bipush 34, 2) := by decide +kernel
theorem dX8_isSeen_45 : decode cX8_isSeen 45 = .ok (.iconst 2, 1) := by decide +kernel
theorem dX8_isSeen_46 : decode cX8_isSeen 46 = .ok (.iload_n 2, 1) := by decide +kernel
theorem dX8_isSeen_47 : decode cX8_isSeen 47 = .ok (.imul, 1) := by decide +kernel
theorem dX8_isSeen_48 : decode cX8_isSeen 48 = .ok (.iadd, 1) := by decide +kernel
theorem dX8_isSeen_49 : decode cX8_isSeen 49 = .ok (.iconst 1, 1) := by decide +kernel
theorem dX8_isSeen_50 : decode cX8_isSeen 50 = .ok (.iadd, 1) := by decide +kernel
theorem dX8_isSeen_51 : decode cX8_isSeen 51 = .ok (.iaload, 1) := by decide +kernel
theorem dX8_isSeen_52 : decode cX8_isSeen 52 = .ok (.iconst 1, 1) := by decide +kernel
theorem dX8_isSeen_53 : decode cX8_isSeen 53 = .ok (.if_icmp .ne 7, 3) := by decide +kernel
theorem dX8_isSeen_56 : decode cX8_isSeen 56 = .ok (.iconst 1, 1) := by decide +kernel
theorem dX8_isSeen_57 : decode cX8_isSeen 57 = .ok (.goto 4, 3) := by decide +kernel
theorem dX8_isSeen_60 : decode cX8_isSeen 60 = .ok (.iconst 0, 1) := by decide +kernel
theorem dX8_isSeen_61 : decode cX8_isSeen 61 = .ok (.if_icmp .ne 7, 3) := by decide +kernel
theorem dX8_isSeen_64 : decode cX8_isSeen 64 = .ok (.iconst 1, 1) := by decide +kernel
theorem dX8_isSeen_65 : decode cX8_isSeen 65 = .ok (.goto 4, 3) := by decide +kernel
theorem dX8_isSeen_68 : decode cX8_isSeen 68 = .ok (.iconst 0, 1) := by decide +kernel
theorem dX8_isSeen_69 : decode cX8_isSeen 69 = .ok (.iand, 1) := by decide +kernel
theorem dX8_isSeen_70 : decode cX8_isSeen 70 = .ok (.istore_n 1, 1) := by decide +kernel
theorem dX8_isSeen_71 : decode cX8_isSeen 71 = .ok (.iinc 2 1, 3) := by decide +kernel
theorem dX8_isSeen_74 : decode cX8_isSeen 74 = .ok (.goto (-70), 3) := by decide +kernel
theorem dX8_isSeen_77 : decode cX8_isSeen 77 = .ok (.iload_n 1, 1) := by decide +kernel
theorem dX8_isSeen_78 : decode cX8_isSeen 78 = .ok (.ireturn, 1) := by decide +kernel
theorem dX8_fits_0 : decode cX8_fits 0 = .ok (.aload_n 0, 1) := by decide +kernel
theorem dX8_fits_1 : decode cX8_fits 1 = .ok (.iload_n 1, 1) := by decide +kernel
theorem dX8_fits_2 : decode cX8_fits 2 = .ok (.invokevirtual 166, 3) := by decide +kernel
theorem dX8_fits_5 : decode cX8_fits 5 = .ok (.ifCond .eq 13, 3) := by decide +kernel
theorem dX8_fits_8 : decode cX8_fits 8 = .ok (.iload_n 2, 1) := by decide +kernel
theorem dX8_fits_9 : decode cX8_fits 9 = .ok (.i2l, 1) := by decide +kernel
theorem dX8_fits_10 : decode cX8_fits 10 = .ok (.lconst 0, 1) := by decide +kernel
theorem dX8_fits_11 : decode cX8_fits 11 = .ok (.lconst 1, 1) := by decide +kernel
theorem dX8_fits_12 : decode cX8_fits 12 = .ok (.invokestatic 56, 3) := by decide +kernel
theorem dX8_fits_15 : decode cX8_fits 15 = .ok (.ifCond .ne 5, 3) := by decide +kernel
theorem dX8_fits_18 : decode cX8_fits 18 = .ok (.iconst (-1), 1) := by decide +kernel
theorem dX8_fits_19 : decode cX8_fits 19 = .ok (.ireturn, 1) := by decide +kernel
theorem dX8_fits_20 : decode cX8_fits 20 = .ok (.iconst 1, 1) := by decide +kernel
theorem dX8_fits_21 : decode cX8_fits 21 = .ok (.iconst 4, 1) := by decide +kernel
theorem dX8_fits_22 : decode cX8_fits 22 = .ok (.iload_n 1, 1) := by decide +kernel
theorem dX8_fits_23 : decode cX8_fits 23 = .ok (.imul, 1) := by decide +kernel
theorem dX8_fits_24 : decode cX8_fits 24 = .ok (.iadd, 1) := by decide +kernel
theorem dX8_fits_25 : decode cX8_fits 25 = .ok (.iconst 3, 1) := by decide +kernel
theorem dX8_fits_26 : decode cX8_fits 26 = .ok (.iadd, 1) := by decide +kernel
theorem dX8_fits_27 : decode cX8_fits 27 = .ok (.istore_n 3, 1) := by decide +kernel
theorem dX8_fits_28 : decode cX8_fits 28 = .ok (.aload_n 0, 1) := by decide +kernel
theorem dX8_fits_29 : decode cX8_fits 29 = .ok (.getfield 11, 3) := by decide +kernel
theorem dX8_fits_32 : decode cX8_fits 32 = .ok (.iload_n 3, 1) := by decide +kernel
theorem dX8_fits_33 : decode cX8_fits 33 = .ok (.iaload, 1) := by decide +kernel
theorem dX8_fits_34 : decode cX8_fits 34 = .ok (.istore 4, 2) := by decide +kernel
theorem dX8_fits_36 : decode cX8_fits 36 = .ok (.iconst 0, 1) := by decide +kernel
theorem dX8_fits_37 : decode cX8_fits 37 = .ok (.istore 5, 2) := by decide +kernel
theorem dX8_fits_39 : decode cX8_fits 39 = .ok (.bipush (-5), 2) := by decide +kernel
theorem dX8_fits_41 : decode cX8_fits 41 = .ok (.istore 6, 2) := by decide +kernel
theorem dX8_fits_43 : decode cX8_fits 43 = .ok (.iconst 4, 1) := by decide +kernel
theorem dX8_fits_44 : decode cX8_fits 44 = .ok (.istore 7, 2) := by decide +kernel
theorem dX8_fits_46 : decode cX8_fits 46 = .ok (.iload 7, 2) := by decide +kernel
theorem dX8_fits_48 : decode cX8_fits 48 = .ok (.ifCond .lt 52, 3) := by decide +kernel
theorem dX8_fits_51 : decode cX8_fits 51 = .ok (.aload_n 0, 1) := by decide +kernel
theorem dX8_fits_52 : decode cX8_fits 52 = .ok (.getfield 11, 3) := by decide +kernel
theorem dX8_fits_55 : decode cX8_fits 55 = .ok (.iload_n 3, 1) := by decide +kernel
theorem dX8_fits_56 : decode cX8_fits 56 = .ok (.iload 7, 2) := by decide +kernel
theorem dX8_fits_58 : decode cX8_fits 58 = .ok (.iastore, 1) := by decide +kernel
theorem dX8_fits_59 : decode cX8_fits 59 = .ok (.aload_n 0, 1) := by decide +kernel
theorem dX8_fits_60 : decode cX8_fits 60 = .ok (.invokevirtual 247, 3) := by decide +kernel
theorem dX8_fits_63 : decode cX8_fits 63 = .ok (.istore 8, 2) := by decide +kernel
theorem dX8_fits_65 : decode cX8_fits 65 = .ok (.iload 5, 2) := by decide +kernel
theorem dX8_fits_67 : decode cX8_fits 67 = .ok (.iload 8, 2) := by decide +kernel
theorem dX8_fits_69 : decode cX8_fits 69 = .ok (.ifCond .eq 7, 3) := by decide +kernel
theorem dX8_fits_72 : decode cX8_fits 72 = .ok (.iconst 1, 1) := by decide +kernel
theorem dX8_fits_73 : decode cX8_fits 73 = .ok (.goto 4, 3) := by decide +kernel
theorem dX8_fits_76 : decode cX8_fits 76 = .ok (.iconst 0, 1) := by decide +kernel
theorem dX8_fits_77 : decode cX8_fits 77 = .ok (.iadd, 1) := by decide +kernel
theorem dX8_fits_78 : decode cX8_fits 78 = .ok (.istore 5, 2) := by decide +kernel
theorem dX8_fits_80 : decode cX8_fits 80 = .ok (.iload 8, 2) := by decide +kernel
theorem dX8_fits_82 : decode cX8_fits 82 = .ok (.ifCond .eq 8, 3) := by decide +kernel
theorem dX8_fits_85 : decode cX8_fits 85 = .ok (.iload 7, 2) := by decide +kernel
theorem dX8_fits_87 : decode cX8_fits 87 = .ok (.goto 5, 3) := by decide +kernel
theorem dX8_fits_90 : decode cX8_fits 90 = .ok (.iload 6, 2) := by decide +kernel
theorem dX8_fits_92 : decode cX8_fits 92 = .ok (.istore 6, 2) := by decide +kernel
theorem dX8_fits_94 : decode cX8_fits 94 = .ok (.iinc 7 (-1), 3) := by decide +kernel
theorem dX8_fits_97 : decode cX8_fits 97 = .ok (.goto (-51), 3) := by decide +kernel
theorem dX8_fits_100 : decode cX8_fits 100 = .ok (.aload_n 0, 1) := by decide +kernel
theorem dX8_fits_101 : decode cX8_fits 101 = .ok (.getfield 11, 3) := by decide +kernel
theorem dX8_fits_104 : decode cX8_fits 104 = .ok (.iload_n 3, 1) := by decide +kernel
theorem dX8_fits_105 : decode cX8_fits 105 = .ok (.iload 4, 2) := by decide +kernel
theorem dX8_fits_107 : decode cX8_fits 107 = .ok (.iastore, 1) := by decide +kernel
theorem dX8_fits_108 : decode cX8_fits 108 = .ok (.iload_n 2, 1) := by decide +kernel
theorem dX8_fits_109 : decode cX8_fits 109 = .ok (.ifCond .ne 8, 3) := by decide +kernel
theorem dX8_fits_112 : decode cX8_fits 112 = .ok (.iload 5, 2) := by decide +kernel
theorem dX8_fits_114 : decode cX8_fits 114 = .ok (.goto 5, 3) := by decide +kernel
theorem dX8_fits_117 : decode cX8_fits 117 = .ok (.iload 6, 2) := by decide +kernel
theorem dX8_fits_119 : decode cX8_fits 119 = .ok (.ireturn, 1) := by decide +kernel
theorem dX8_lowest_0 : decode cX8_lowest 0 = .ok (.lload_n 0, 1) := by decide +kernel
theorem dX8_lowest_1 : decode cX8_lowest 1 = .ok (.lstore 5, 2) := by decide +kernel
theorem dX8_lowest_3 : decode cX8_lowest 3 = .ok (.lload_n 2, 1) := by decide +kernel
theorem dX8_lowest_4 : decode cX8_lowest 4 = .ok (.lstore 7, 2) := by decide +kernel
theorem dX8_lowest_6 : decode cX8_lowest 6 = .ok (.lload 7, 2) := by decide +kernel
theorem dX8_lowest_8 : decode cX8_lowest 8 = .ok (.lconst 0, 1) := by decide +kernel
theorem dX8_lowest_9 : decode cX8_lowest 9 = .ok (.lcmp, 1) := by decide +kernel
theorem dX8_lowest_10 : decode cX8_lowest 10 = .ok (.ifCond .eq 21, 3) := by decide +kernel
theorem dX8_lowest_13 : decode cX8_lowest 13 = .ok (.lload 5, 2) := by decide +kernel
theorem dX8_lowest_15 : decode cX8_lowest 15 = .ok (.lload 7, 2) := by decide +kernel
theorem dX8_lowest_17 : decode cX8_lowest 17 = .ok (.lrem, 1) := by decide +kernel
theorem dX8_lowest_18 : decode cX8_lowest 18 = .ok (.lstore 9, 2) := by decide +kernel
theorem dX8_lowest_20 : decode cX8_lowest 20 = .ok (.lload 7, 2) := by decide +kernel
theorem dX8_lowest_22 : decode cX8_lowest 22 = .ok (.lstore 5, 2) := by decide +kernel
theorem dX8_lowest_24 : decode cX8_lowest 24 = .ok (.lload 9, 2) := by decide +kernel
theorem dX8_lowest_26 : decode cX8_lowest 26 = .ok (.lstore 7, 2) := by decide +kernel
theorem dX8_lowest_28 : decode cX8_lowest 28 = .ok (.goto (-22), 3) := by decide +kernel
theorem dX8_lowest_31 : decode cX8_lowest 31 = .ok (.iload 4, 2) := by decide +kernel
theorem dX8_lowest_33 : decode cX8_lowest 33 = .ok (.ifCond .ne 7, 3) := by decide +kernel
theorem dX8_lowest_36 : decode cX8_lowest 36 = .ok (.lload_n 0, 1) := by decide +kernel
theorem dX8_lowest_37 : decode cX8_lowest 37 = .ok (.goto 4, 3) := by decide +kernel
theorem dX8_lowest_40 : decode cX8_lowest 40 = .ok (.lload_n 2, 1) := by decide +kernel
theorem dX8_lowest_41 : decode cX8_lowest 41 = .ok (.lload 5, 2) := by decide +kernel
theorem dX8_lowest_43 : decode cX8_lowest 43 = .ok (.ldiv, 1) := by decide +kernel
theorem dX8_lowest_44 : decode cX8_lowest 44 = .ok (.lreturn, 1) := by decide +kernel
theorem dX8_odds_0 : decode cX8_odds 0 = .ok (.aload_n 0, 1) := by decide +kernel
theorem dX8_odds_1 : decode cX8_odds 1 = .ok (.iload_n 1, 1) := by decide +kernel
theorem dX8_odds_2 : decode cX8_odds 2 = .ok (.invokevirtual 166, 3) := by decide +kernel
theorem dX8_odds_5 : decode cX8_odds 5 = .ok (.ifCond .eq 25, 3) := by decide +kernel
theorem dX8_odds_8 : decode cX8_odds 8 = .ok (.iload_n 2, 1) := by decide +kernel
theorem dX8_odds_9 : decode cX8_odds 9 = .ok (.i2l, 1) := by decide +kernel
theorem dX8_odds_10 : decode cX8_odds 10 = .ok (.lconst 0, 1) := by decide +kernel
theorem dX8_odds_11 : decode cX8_odds 11 = .ok (.ldc2_w 185, 3) := by decide +kernel
theorem dX8_odds_14 : decode cX8_odds 14 = .ok (.invokestatic 56, 3) := by decide +kernel
theorem dX8_odds_17 : decode cX8_odds 17 = .ok (.ifCond .eq 13, 3) := by decide +kernel
theorem dX8_odds_20 : decode cX8_odds 20 = .ok (.iload_n 3, 1) := by decide +kernel
theorem dX8_odds_21 : decode cX8_odds 21 = .ok (.i2l, 1) := by decide +kernel
theorem dX8_odds_22 : decode cX8_odds 22 = .ok (.lconst 0, 1) := by decide +kernel
theorem dX8_odds_23 : decode cX8_odds 23 = .ok (.lconst 1, 1) := by decide +kernel
theorem dX8_odds_24 : decode cX8_odds 24 = .ok (.invokestatic 56, 3) := by decide +kernel
theorem dX8_odds_27 : decode cX8_odds 27 = .ok (.ifCond .ne 7, 3) := by decide +kernel
theorem dX8_odds_30 : decode cX8_odds 30 = .ok (.ldc2_w 250, 3) := by decide +kernel
theorem dX8_odds_33 : decode cX8_odds 33 = .ok (.lreturn, 1) := by decide +kernel
theorem dX8_odds_34 : decode cX8_odds 34 = .ok (.iconst 1, 1) := by decide +kernel
theorem dX8_odds_35 : decode cX8_odds 35 = .ok (.iconst 4, 1) := by decide +kernel
theorem dX8_odds_36 : decode cX8_odds 36 = .ok (.iload_n 1, 1) := by decide +kernel
theorem dX8_odds_37 : decode cX8_odds 37 = .ok (.imul, 1) := by decide +kernel
theorem dX8_odds_38 : decode cX8_odds 38 = .ok (.iadd, 1) := by decide +kernel
theorem dX8_odds_39 : decode cX8_odds 39 = .ok (.iconst 3, 1) := by decide +kernel
theorem dX8_odds_40 : decode cX8_odds 40 = .ok (.iadd, 1) := by decide +kernel
theorem dX8_odds_41 : decode cX8_odds 41 = .ok (.istore 4, 2) := by decide +kernel
theorem dX8_odds_43 : decode cX8_odds 43 = .ok (.aload_n 0, 1) := by decide +kernel
theorem dX8_odds_44 : decode cX8_odds 44 = .ok (.getfield 11, 3) := by decide +kernel
theorem dX8_odds_47 : decode cX8_odds 47 = .ok (.iload 4, 2) := by decide +kernel
theorem dX8_odds_49 : decode cX8_odds 49 = .ok (.iaload, 1) := by decide +kernel
theorem dX8_odds_50 : decode cX8_odds 50 = .ok (.istore 5, 2) := by decide +kernel
theorem dX8_odds_52 : decode cX8_odds 52 = .ok (.iconst 0, 1) := by decide +kernel
theorem dX8_odds_53 : decode cX8_odds 53 = .ok (.istore 6, 2) := by decide +kernel
theorem dX8_odds_55 : decode cX8_odds 55 = .ok (.iconst 0, 1) := by decide +kernel
theorem dX8_odds_56 : decode cX8_odds 56 = .ok (.istore 7, 2) := by decide +kernel
theorem dX8_odds_58 : decode cX8_odds 58 = .ok (.iload 7, 2) := by decide +kernel
theorem dX8_odds_60 : decode cX8_odds 60 = .ok (.iconst 4, 1) := by decide +kernel
theorem dX8_odds_61 : decode cX8_odds 61 = .ok (.if_icmp .gt 40, 3) := by decide +kernel
theorem dX8_odds_64 : decode cX8_odds 64 = .ok (.aload_n 0, 1) := by decide +kernel
theorem dX8_odds_65 : decode cX8_odds 65 = .ok (.getfield 11, 3) := by decide +kernel
theorem dX8_odds_68 : decode cX8_odds 68 = .ok (.iload 4, 2) := by decide +kernel
theorem dX8_odds_70 : decode cX8_odds 70 = .ok (.iload 7, 2) := by decide +kernel
theorem dX8_odds_72 : decode cX8_odds 72 = .ok (.iastore, 1) := by decide +kernel
theorem dX8_odds_73 : decode cX8_odds 73 = .ok (.aload_n 0, 1) := by decide +kernel
theorem dX8_odds_74 : decode cX8_odds 74 = .ok (.invokevirtual 138, 3) := by decide +kernel
theorem dX8_odds_77 : decode cX8_odds 77 = .ok (.iload 6, 2) := by decide +kernel
theorem dX8_odds_79 : decode cX8_odds 79 = .ok (.aload_n 0, 1) := by decide +kernel
theorem dX8_odds_80 : decode cX8_odds 80 = .ok (.getfield 97, 3) := by decide +kernel
theorem dX8_odds_83 : decode cX8_odds 83 = .ok (.iload_n 2, 1) := by decide +kernel
theorem dX8_odds_84 : decode cX8_odds 84 = .ok (.if_icmp .lt 7, 3) := by decide +kernel
theorem dX8_odds_87 : decode cX8_odds 87 = .ok (.iconst 1, 1) := by decide +kernel
theorem dX8_odds_88 : decode cX8_odds 88 = .ok (.goto 4, 3) := by decide +kernel
theorem dX8_odds_91 : decode cX8_odds 91 = .ok (.iconst 0, 1) := by decide +kernel
theorem dX8_odds_92 : decode cX8_odds 92 = .ok (.iadd, 1) := by decide +kernel
theorem dX8_odds_93 : decode cX8_odds 93 = .ok (.istore 6, 2) := by decide +kernel
theorem dX8_odds_95 : decode cX8_odds 95 = .ok (.iinc 7 1, 3) := by decide +kernel
theorem dX8_odds_98 : decode cX8_odds 98 = .ok (.goto (-40), 3) := by decide +kernel
theorem dX8_odds_101 : decode cX8_odds 101 = .ok (.aload_n 0, 1) := by decide +kernel
theorem dX8_odds_102 : decode cX8_odds 102 = .ok (.getfield 11, 3) := by decide +kernel
theorem dX8_odds_105 : decode cX8_odds 105 = .ok (.iload 4, 2) := by decide +kernel
theorem dX8_odds_107 : decode cX8_odds 107 = .ok (.iload 5, 2) := by decide +kernel
theorem dX8_odds_109 : decode cX8_odds 109 = .ok (.iastore, 1) := by decide +kernel
theorem dX8_odds_110 : decode cX8_odds 110 = .ok (.iload 6, 2) := by decide +kernel
theorem dX8_odds_112 : decode cX8_odds 112 = .ok (.i2l, 1) := by decide +kernel
theorem dX8_odds_113 : decode cX8_odds 113 = .ok (.ldc2_w 240, 3) := by decide +kernel
theorem dX8_odds_116 : decode cX8_odds 116 = .ok (.iload_n 3, 1) := by decide +kernel
theorem dX8_odds_117 : decode cX8_odds 117 = .ok (.invokestatic 252, 3) := by decide +kernel
theorem dX8_odds_120 : decode cX8_odds 120 = .ok (.lreturn, 1) := by decide +kernel
theorem dX8_mean_0 : decode cX8_mean 0 = .ok (.iload_n 1, 1) := by decide +kernel
theorem dX8_mean_1 : decode cX8_mean 1 = .ok (.i2l, 1) := by decide +kernel
theorem dX8_mean_2 : decode cX8_mean 2 = .ok (.lconst 0, 1) := by decide +kernel
theorem dX8_mean_3 : decode cX8_mean 3 = .ok (.lconst 1, 1) := by decide +kernel
theorem dX8_mean_4 : decode cX8_mean 4 = .ok (.invokestatic 56, 3) := by decide +kernel
theorem dX8_mean_7 : decode cX8_mean 7 = .ok (.ifCond .ne 7, 3) := by decide +kernel
theorem dX8_mean_10 : decode cX8_mean 10 = .ok (.ldc2_w 250, 3) := by decide +kernel
theorem dX8_mean_13 : decode cX8_mean 13 = .ok (.lreturn, 1) := by decide +kernel
theorem dX8_mean_14 : decode cX8_mean 14 = .ok (.aload_n 0, 1) := by decide +kernel
theorem dX8_mean_15 : decode cX8_mean 15 = .ok (.invokevirtual 138, 3) := by decide +kernel
theorem dX8_mean_18 : decode cX8_mean 18 = .ok (.iconst 0, 1) := by decide +kernel
theorem dX8_mean_19 : decode cX8_mean 19 = .ok (.istore_n 2, 1) := by decide +kernel
theorem dX8_mean_20 : decode cX8_mean 20 = .ok (.iconst 0, 1) := by decide +kernel
theorem dX8_mean_21 : decode cX8_mean 21 = .ok (.istore_n 3, 1) := by decide +kernel
theorem dX8_mean_22 : decode cX8_mean 22 = .ok (.iload_n 3, 1) := by decide +kernel
theorem dX8_mean_23 : decode cX8_mean 23 = .ok (.aload_n 0, 1) := by decide +kernel
theorem dX8_mean_24 : decode cX8_mean 24 = .ok (.getfield 97, 3) := by decide +kernel
theorem dX8_mean_27 : decode cX8_mean 27 = .ok (.if_icmp .ge 21, 3) := by decide +kernel
theorem dX8_mean_30 : decode cX8_mean 30 = .ok (.iload_n 2, 1) := by decide +kernel
theorem dX8_mean_31 : decode cX8_mean 31 = .ok (.aload_n 0, 1) := by decide +kernel
theorem dX8_mean_32 : decode cX8_mean 32 = .ok (.getfield 21, 3) := by decide +kernel
theorem dX8_mean_35 : decode cX8_mean 35 = .ok (.iload_n 3, 1) := by decide +kernel
theorem dX8_mean_36 : decode cX8_mean 36 = .ok (.iaload, 1) := by decide +kernel
theorem dX8_mean_37 : decode cX8_mean 37 = .ok (.invokestatic 216, 3) := by decide +kernel
theorem dX8_mean_40 : decode cX8_mean 40 = .ok (.iadd, 1) := by decide +kernel
theorem dX8_mean_41 : decode cX8_mean 41 = .ok (.istore_n 2, 1) := by decide +kernel
theorem dX8_mean_42 : decode cX8_mean 42 = .ok (.iinc 3 1, 3) := by decide +kernel
theorem dX8_mean_45 : decode cX8_mean 45 = .ok (.goto (-23), 3) := by decide +kernel
theorem dX8_mean_48 : decode cX8_mean 48 = .ok (.iload_n 2, 1) := by decide +kernel
theorem dX8_mean_49 : decode cX8_mean 49 = .ok (.i2l, 1) := by decide +kernel
theorem dX8_mean_50 : decode cX8_mean 50 = .ok (.aload_n 0, 1) := by decide +kernel
theorem dX8_mean_51 : decode cX8_mean 51 = .ok (.getfield 97, 3) := by decide +kernel
theorem dX8_mean_54 : decode cX8_mean 54 = .ok (.i2l, 1) := by decide +kernel
theorem dX8_mean_55 : decode cX8_mean 55 = .ok (.iload_n 1, 1) := by decide +kernel
theorem dX8_mean_56 : decode cX8_mean 56 = .ok (.invokestatic 252, 3) := by decide +kernel
theorem dX8_mean_59 : decode cX8_mean 59 = .ok (.lreturn, 1) := by decide +kernel
theorem dX8_mostOf_0 : decode cX8_mostOf 0 = .ok (.iload_n 0, 1) := by decide +kernel
theorem dX8_mostOf_1 : decode cX8_mostOf 1 = .ok (.ifCond .ne 8, 3) := by decide +kernel
theorem dX8_mostOf_4 : decode cX8_mostOf 4 = .ok (.bipush 7, 2) := by decide +kernel
theorem dX8_mostOf_6 : decode cX8_mostOf 6 = .ok (.goto 14, 3) := by decide +kernel
theorem dX8_mostOf_9 : decode cX8_mostOf 9 = .ok (.iload_n 0, 1) := by decide +kernel
theorem dX8_mostOf_10 : decode cX8_mostOf 10 = .ok (.iconst 2, 1) := by decide +kernel
theorem dX8_mostOf_11 : decode cX8_mostOf 11 = .ok (.if_icmp .ne 8, 3) := by decide +kernel
theorem dX8_mostOf_14 : decode cX8_mostOf 14 = .ok (.bipush 47, 2) := by decide +kernel
theorem dX8_mostOf_16 : decode cX8_mostOf 16 = .ok (.goto 4, 3) := by decide +kernel
theorem dX8_mostOf_19 : decode cX8_mostOf 19 = .ok (.iconst 4, 1) := by decide +kernel
theorem dX8_mostOf_20 : decode cX8_mostOf 20 = .ok (.ireturn, 1) := by decide +kernel
theorem dX8_event_0 : decode cX8_event 0 = .ok (.iload_n 1, 1) := by decide +kernel
theorem dX8_event_1 : decode cX8_event 1 = .ok (.iconst (-1), 1) := by decide +kernel
theorem dX8_event_2 : decode cX8_event 2 = .ok (.if_icmp .ne 13, 3) := by decide +kernel
theorem dX8_event_5 : decode cX8_event 5 = .ok (.aload_n 0, 1) := by decide +kernel
theorem dX8_event_6 : decode cX8_event 6 = .ok (.getfield 11, 3) := by decide +kernel
theorem dX8_event_9 : decode cX8_event 9 = .ok (.bipush 44, 2) := by decide +kernel
theorem dX8_event_11 : decode cX8_event 11 = .ok (.iconst 0, 1) := by decide +kernel
theorem dX8_event_12 : decode cX8_event 12 = .ok (.iastore, 1) := by decide +kernel
theorem dX8_event_13 : decode cX8_event 13 = .ok (.iconst 0, 1) := by decide +kernel
theorem dX8_event_14 : decode cX8_event 14 = .ok (.ireturn, 1) := by decide +kernel
theorem dX8_event_15 : decode cX8_event 15 = .ok (.iload_n 1, 1) := by decide +kernel
theorem dX8_event_16 : decode cX8_event 16 = .ok (.i2l, 1) := by decide +kernel
theorem dX8_event_17 : decode cX8_event 17 = .ok (.lconst 0, 1) := by decide +kernel
theorem dX8_event_18 : decode cX8_event 18 = .ok (.ldc2_w 158, 3) := by decide +kernel
theorem dX8_event_21 : decode cX8_event 21 = .ok (.invokestatic 56, 3) := by decide +kernel
theorem dX8_event_24 : decode cX8_event 24 = .ok (.ifCond .ne 5, 3) := by decide +kernel
theorem dX8_event_27 : decode cX8_event 27 = .ok (.iconst (-1), 1) := by decide +kernel
theorem dX8_event_28 : decode cX8_event 28 = .ok (.ireturn, 1) := by decide +kernel
theorem dX8_event_29 : decode cX8_event 29 = .ok (.iload_n 2, 1) := by decide +kernel
theorem dX8_event_30 : decode cX8_event 30 = .ok (.i2l, 1) := by decide +kernel
theorem dX8_event_31 : decode cX8_event 31 = .ok (.lconst 0, 1) := by decide +kernel
theorem dX8_event_32 : decode cX8_event 32 = .ok (.iload_n 1, 1) := by decide +kernel
theorem dX8_event_33 : decode cX8_event 33 = .ok (.invokestatic 256, 3) := by decide +kernel
theorem dX8_event_36 : decode cX8_event 36 = .ok (.i2l, 1) := by decide +kernel
theorem dX8_event_37 : decode cX8_event 37 = .ok (.invokestatic 56, 3) := by decide +kernel
theorem dX8_event_40 : decode cX8_event 40 = .ok (.ifCond .ne 6, 3) := by decide +kernel
theorem dX8_event_43 : decode cX8_event 43 = .ok (.bipush (-2), 2) := by decide +kernel
theorem dX8_event_45 : decode cX8_event 45 = .ok (.ireturn, 1) := by decide +kernel
theorem dX8_event_46 : decode cX8_event 46 = .ok (.aload_n 0, 1) := by decide +kernel
theorem dX8_event_47 : decode cX8_event 47 = .ok (.getfield 11, 3) := by decide +kernel
theorem dX8_event_50 : decode cX8_event 50 = .ok (.bipush 44, 2) := by decide +kernel
theorem dX8_event_52 : decode cX8_event 52 = .ok (.iaload, 1) := by decide +kernel
theorem dX8_event_53 : decode cX8_event 53 = .ok (.bipush 8, 2) := by decide +kernel
theorem dX8_event_55 : decode cX8_event 55 = .ok (.if_icmp .ne 6, 3) := by decide +kernel
theorem dX8_event_58 : decode cX8_event 58 = .ok (.bipush (-4), 2) := by decide +kernel
theorem dX8_event_60 : decode cX8_event 60 = .ok (.ireturn, 1) := by decide +kernel
theorem dX8_event_61 : decode cX8_event 61 = .ok (.bipush 45, 2) := by decide +kernel
theorem dX8_event_63 : decode cX8_event 63 = .ok (.iconst 2, 1) := by decide +kernel
theorem dX8_event_64 : decode cX8_event 64 = .ok (.aload_n 0, 1) := by decide +kernel
theorem dX8_event_65 : decode cX8_event 65 = .ok (.getfield 11, 3) := by decide +kernel
theorem dX8_event_68 : decode cX8_event 68 = .ok (.bipush 44, 2) := by decide +kernel
theorem dX8_event_70 : decode cX8_event 70 = .ok (.iaload, 1) := by decide +kernel
theorem dX8_event_71 : decode cX8_event 71 = .ok (.imul, 1) := by decide +kernel
theorem dX8_event_72 : decode cX8_event 72 = .ok (.iadd, 1) := by decide +kernel
theorem dX8_event_73 : decode cX8_event 73 = .ok (.istore_n 3, 1) := by decide +kernel
theorem dX8_event_74 : decode cX8_event 74 = .ok (.aload_n 0, 1) := by decide +kernel
theorem dX8_event_75 : decode cX8_event 75 = .ok (.getfield 11, 3) := by decide +kernel
theorem dX8_event_78 : decode cX8_event 78 = .ok (.iload_n 3, 1) := by decide +kernel
theorem dX8_event_79 : decode cX8_event 79 = .ok (.iload_n 1, 1) := by decide +kernel
theorem dX8_event_80 : decode cX8_event 80 = .ok (.iastore, 1) := by decide +kernel
theorem dX8_event_81 : decode cX8_event 81 = .ok (.aload_n 0, 1) := by decide +kernel
theorem dX8_event_82 : decode cX8_event 82 = .ok (.getfield 11, 3) := by decide +kernel
theorem dX8_event_85 : decode cX8_event 85 = .ok (.iload_n 3, 1) := by decide +kernel
theorem dX8_event_86 : decode cX8_event 86 = .ok (.iconst 1, 1) := by decide +kernel
theorem dX8_event_87 : decode cX8_event 87 = .ok (.iadd, 1) := by decide +kernel
theorem dX8_event_88 : decode cX8_event 88 = .ok (.iload_n 2, 1) := by decide +kernel
theorem dX8_event_89 : decode cX8_event 89 = .ok (.iastore, 1) := by decide +kernel
theorem dX8_event_90 : decode cX8_event 90 = .ok (.aload_n 0, 1) := by decide +kernel
theorem dX8_event_91 : decode cX8_event 91 = .ok (.getfield 11, 3) := by decide +kernel
theorem dX8_event_94 : decode cX8_event 94 = .ok (.bipush 44, 2) := by decide +kernel
theorem dX8_event_96 : decode cX8_event 96 = .ok (.dup2, 1) := by decide +kernel
theorem dX8_event_97 : decode cX8_event 97 = .ok (.iaload, 1) := by decide +kernel
theorem dX8_event_98 : decode cX8_event 98 = .ok (.iconst 1, 1) := by decide +kernel
theorem dX8_event_99 : decode cX8_event 99 = .ok (.iadd, 1) := by decide +kernel
theorem dX8_event_100 : decode cX8_event 100 = .ok (.iastore, 1) := by decide +kernel
theorem dX8_event_101 : decode cX8_event 101 = .ok (.aload_n 0, 1) := by decide +kernel
theorem dX8_event_102 : decode cX8_event 102 = .ok (.getfield 11, 3) := by decide +kernel
theorem dX8_event_105 : decode cX8_event 105 = .ok (.bipush 44, 2) := by decide +kernel
theorem dX8_event_107 : decode cX8_event 107 = .ok (.iaload, 1) := by decide +kernel
theorem dX8_event_108 : decode cX8_event 108 = .ok (.ireturn, 1) := by decide +kernel
theorem dX8_goesBy_0 : decode cX8_goesBy 0 = .ok (.aload_n 0, 1) := by decide +kernel
theorem dX8_goesBy_1 : decode cX8_goesBy 1 = .ok (.iload_n 1, 1) := by decide +kernel
theorem dX8_goesBy_2 : decode cX8_goesBy 2 = .ok (.iload_n 2, 1) := by decide +kernel
theorem dX8_goesBy_3 : decode cX8_goesBy 3 = .ok (.iconst 0, 1) := by decide +kernel
theorem dX8_goesBy_4 : decode cX8_goesBy 4 = .ok (.invokevirtual 84, 3) := by decide +kernel
theorem dX8_goesBy_7 : decode cX8_goesBy 7 = .ok (.istore_n 3, 1) := by decide +kernel
theorem dX8_goesBy_8 : decode cX8_goesBy 8 = .ok (.aload_n 0, 1) := by decide +kernel
theorem dX8_goesBy_9 : decode cX8_goesBy 9 = .ok (.iload_n 1, 1) := by decide +kernel
theorem dX8_goesBy_10 : decode cX8_goesBy 10 = .ok (.iload_n 2, 1) := by decide +kernel
theorem dX8_goesBy_11 : decode cX8_goesBy 11 = .ok (.iconst 1, 1) := by decide +kernel
theorem dX8_goesBy_12 : decode cX8_goesBy 12 = .ok (.invokevirtual 84, 3) := by decide +kernel
theorem dX8_goesBy_15 : decode cX8_goesBy 15 = .ok (.istore 4, 2) := by decide +kernel
theorem dX8_goesBy_17 : decode cX8_goesBy 17 = .ok (.aload_n 0, 1) := by decide +kernel
theorem dX8_goesBy_18 : decode cX8_goesBy 18 = .ok (.iload_n 1, 1) := by decide +kernel
theorem dX8_goesBy_19 : decode cX8_goesBy 19 = .ok (.iload_n 2, 1) := by decide +kernel
theorem dX8_goesBy_20 : decode cX8_goesBy 20 = .ok (.iconst 2, 1) := by decide +kernel
theorem dX8_goesBy_21 : decode cX8_goesBy 21 = .ok (.invokevirtual 84, 3) := by decide +kernel
theorem dX8_goesBy_24 : decode cX8_goesBy 24 = .ok (.istore 5, 2) := by decide +kernel
theorem dX8_goesBy_26 : decode cX8_goesBy 26 = .ok (.aload_n 0, 1) := by decide +kernel
theorem dX8_goesBy_27 : decode cX8_goesBy 27 = .ok (.getfield 11, 3) := by decide +kernel
theorem dX8_goesBy_30 : decode cX8_goesBy 30 = .ok (.iconst 1, 1) := by decide +kernel
theorem dX8_goesBy_31 : decode cX8_goesBy 31 = .ok (.iconst 4, 1) := by decide +kernel
theorem dX8_goesBy_32 : decode cX8_goesBy 32 = .ok (.iload_n 2, 1) := by decide +kernel
theorem dX8_goesBy_33 : decode cX8_goesBy 33 = .ok (.imul, 1) := by decide +kernel
theorem dX8_goesBy_34 : decode cX8_goesBy 34 = .ok (.iadd, 1) := by decide +kernel
theorem dX8_goesBy_35 : decode cX8_goesBy 35 = .ok (.iload_n 3, 1) := by decide +kernel
theorem dX8_goesBy_36 : decode cX8_goesBy 36 = .ok (.iastore, 1) := by decide +kernel
theorem dX8_goesBy_37 : decode cX8_goesBy 37 = .ok (.aload_n 0, 1) := by decide +kernel
theorem dX8_goesBy_38 : decode cX8_goesBy 38 = .ok (.getfield 11, 3) := by decide +kernel
theorem dX8_goesBy_41 : decode cX8_goesBy 41 = .ok (.iconst 1, 1) := by decide +kernel
theorem dX8_goesBy_42 : decode cX8_goesBy 42 = .ok (.iconst 4, 1) := by decide +kernel
theorem dX8_goesBy_43 : decode cX8_goesBy 43 = .ok (.iload_n 2, 1) := by decide +kernel
theorem dX8_goesBy_44 : decode cX8_goesBy 44 = .ok (.imul, 1) := by decide +kernel
theorem dX8_goesBy_45 : decode cX8_goesBy 45 = .ok (.iadd, 1) := by decide +kernel
theorem dX8_goesBy_46 : decode cX8_goesBy 46 = .ok (.iconst 1, 1) := by decide +kernel
theorem dX8_goesBy_47 : decode cX8_goesBy 47 = .ok (.iadd, 1) := by decide +kernel
theorem dX8_goesBy_48 : decode cX8_goesBy 48 = .ok (.iload 4, 2) := by decide +kernel
theorem dX8_goesBy_50 : decode cX8_goesBy 50 = .ok (.iastore, 1) := by decide +kernel
theorem dX8_goesBy_51 : decode cX8_goesBy 51 = .ok (.aload_n 0, 1) := by decide +kernel
theorem dX8_goesBy_52 : decode cX8_goesBy 52 = .ok (.getfield 11, 3) := by decide +kernel
theorem dX8_goesBy_55 : decode cX8_goesBy 55 = .ok (.iconst 1, 1) := by decide +kernel
theorem dX8_goesBy_56 : decode cX8_goesBy 56 = .ok (.iconst 4, 1) := by decide +kernel
theorem dX8_goesBy_57 : decode cX8_goesBy 57 = .ok (.iload_n 2, 1) := by decide +kernel
theorem dX8_goesBy_58 : decode cX8_goesBy 58 = .ok (.imul, 1) := by decide +kernel
theorem dX8_goesBy_59 : decode cX8_goesBy 59 = .ok (.iadd, 1) := by decide +kernel
theorem dX8_goesBy_60 : decode cX8_goesBy 60 = .ok (.iconst 2, 1) := by decide +kernel
theorem dX8_goesBy_61 : decode cX8_goesBy 61 = .ok (.iadd, 1) := by decide +kernel
theorem dX8_goesBy_62 : decode cX8_goesBy 62 = .ok (.iload 5, 2) := by decide +kernel
theorem dX8_goesBy_64 : decode cX8_goesBy 64 = .ok (.iastore, 1) := by decide +kernel
theorem dX8_goesBy_65 : decode cX8_goesBy 65 = .ok (.return_, 1) := by decide +kernel
theorem dX8_happens_0 : decode cX8_happens 0 = .ok (.iload_n 1, 1) := by decide +kernel
theorem dX8_happens_1 : decode cX8_happens 1 = .ok (.ifCond .ne 10, 3) := by decide +kernel
theorem dX8_happens_4 : decode cX8_happens 4 = .ok (.aload_n 0, 1) := by decide +kernel
theorem dX8_happens_5 : decode cX8_happens 5 = .ok (.iload_n 2, 1) := by decide +kernel
theorem dX8_happens_6 : decode cX8_happens 6 = .ok (.invokevirtual 204, 3) := by decide +kernel
theorem dX8_happens_9 : decode cX8_happens 9 = .ok (.istore_n 3, 1) := by decide +kernel
theorem dX8_happens_10 : decode cX8_happens 10 = .ok (.return_, 1) := by decide +kernel
theorem dX8_happens_11 : decode cX8_happens 11 = .ok (.iconst 0, 1) := by decide +kernel
theorem dX8_happens_12 : decode cX8_happens 12 = .ok (.istore_n 3, 1) := by decide +kernel
theorem dX8_happens_13 : decode cX8_happens 13 = .ok (.iload_n 3, 1) := by decide +kernel
theorem dX8_happens_14 : decode cX8_happens 14 = .ok (.aload_n 0, 1) := by decide +kernel
theorem dX8_happens_15 : decode cX8_happens 15 = .ok (.getfield 11, 3) := by decide +kernel
theorem dX8_happens_18 : decode cX8_happens 18 = .ok (.iconst 0, 1) := by decide +kernel
theorem dX8_happens_19 : decode cX8_happens 19 = .ok (.iaload, 1) := by decide +kernel
theorem dX8_happens_20 : decode cX8_happens 20 = .ok (.if_icmp .ge 77, 3) := by decide +kernel
theorem dX8_happens_23 : decode cX8_happens 23 = .ok (.iconst 1, 1) := by decide +kernel
theorem dX8_happens_24 : decode cX8_happens 24 = .ok (.iconst 4, 1) := by decide +kernel
theorem dX8_happens_25 : decode cX8_happens 25 = .ok (.iload_n 3, 1) := by decide +kernel
theorem dX8_happens_26 : decode cX8_happens 26 = .ok (.imul, 1) := by decide +kernel
theorem dX8_happens_27 : decode cX8_happens 27 = .ok (.iadd, 1) := by decide +kernel
theorem dX8_happens_28 : decode cX8_happens 28 = .ok (.iconst 3, 1) := by decide +kernel
theorem dX8_happens_29 : decode cX8_happens 29 = .ok (.iadd, 1) := by decide +kernel
theorem dX8_happens_30 : decode cX8_happens 30 = .ok (.istore 4, 2) := by decide +kernel
theorem dX8_happens_32 : decode cX8_happens 32 = .ok (.iload_n 1, 1) := by decide +kernel
theorem dX8_happens_33 : decode cX8_happens 33 = .ok (.iconst 2, 1) := by decide +kernel
theorem dX8_happens_34 : decode cX8_happens 34 = .ok (.if_icmp .ne 12, 3) := by decide +kernel
theorem dX8_happens_37 : decode cX8_happens 37 = .ok (.aload_n 0, 1) := by decide +kernel
theorem dX8_happens_38 : decode cX8_happens 38 = .ok (.iload_n 2, 1) := by decide +kernel
theorem dX8_happens_39 : decode cX8_happens 39 = .ok (.iload_n 3, 1) := by decide +kernel
theorem dX8_happens_40 : decode cX8_happens 40 = .ok (.invokevirtual 259, 3) := by decide +kernel
theorem dX8_happens_43 : decode cX8_happens 43 = .ok (.goto 48, 3) := by decide +kernel
theorem dX8_happens_46 : decode cX8_happens 46 = .ok (.iload_n 1, 1) := by decide +kernel
theorem dX8_happens_47 : decode cX8_happens 47 = .ok (.iconst 1, 1) := by decide +kernel
theorem dX8_happens_48 : decode cX8_happens 48 = .ok (.if_icmp .ne 35, 3) := by decide +kernel
theorem dX8_happens_51 : decode cX8_happens 51 = .ok (.aload_n 0, 1) := by decide +kernel
theorem dX8_happens_52 : decode cX8_happens 52 = .ok (.getfield 11, 3) := by decide +kernel
theorem dX8_happens_55 : decode cX8_happens 55 = .ok (.iload 4, 2) := by decide +kernel
theorem dX8_happens_57 : decode cX8_happens 57 = .ok (.aload_n 0, 1) := by decide +kernel
theorem dX8_happens_58 : decode cX8_happens 58 = .ok (.getfield 11, 3) := by decide +kernel
theorem dX8_happens_61 : decode cX8_happens 61 = .ok (.iload 4, 2) := by decide +kernel
theorem dX8_happens_63 : decode cX8_happens 63 = .ok (.iaload, 1) := by decide +kernel
theorem dX8_happens_64 : decode cX8_happens 64 = .ok (.iload_n 2, 1) := by decide +kernel
theorem dX8_happens_65 : decode cX8_happens 65 = .ok (.if_icmp .ne 7, 3) := by decide +kernel
theorem dX8_happens_68 : decode cX8_happens 68 = .ok (.iconst 0, 1) := by decide +kernel
theorem dX8_happens_69 : decode cX8_happens 69 = .ok (.goto 10, 3) := by decide +kernel
theorem dX8_happens_72 : decode cX8_happens 72 = .ok (.aload_n 0, 1) := by decide +kernel
theorem dX8_happens_73 : decode cX8_happens 73 = .ok (.getfield 11, 3) := by decide +kernel
theorem dX8_happens_76 : decode cX8_happens 76 = .ok (.iload 4, 2) := by decide +kernel
theorem dX8_happens_78 : decode cX8_happens 78 = .ok (.iaload, 1) := by decide +kernel
theorem dX8_happens_79 : decode cX8_happens 79 = .ok (.iastore, 1) := by decide +kernel
theorem dX8_happens_80 : decode cX8_happens 80 = .ok (.goto 11, 3) := by decide +kernel
theorem dX8_happens_83 : decode cX8_happens 83 = .ok (.aload_n 0, 1) := by decide +kernel
theorem dX8_happens_84 : decode cX8_happens 84 = .ok (.getfield 11, 3) := by decide +kernel
theorem dX8_happens_87 : decode cX8_happens 87 = .ok (.iload 4, 2) := by decide +kernel
theorem dX8_happens_89 : decode cX8_happens 89 = .ok (.iload_n 2, 1) := by decide +kernel
theorem dX8_happens_90 : decode cX8_happens 90 = .ok (.iastore, 1) := by decide +kernel
theorem dX8_happens_91 : decode cX8_happens 91 = .ok (.iinc 3 1, 3) := by decide +kernel
theorem dX8_happens_94 : decode cX8_happens 94 = .ok (.goto (-81), 3) := by decide +kernel
theorem dX8_happens_97 : decode cX8_happens 97 = .ok (.return_, 1) := by decide +kernel
theorem dX8_after_0 : decode cX8_after 0 = .ok (.iload_n 1, 1) := by decide +kernel
theorem dX8_after_1 : decode cX8_after 1 = .ok (.i2l, 1) := by decide +kernel
theorem dX8_after_2 : decode cX8_after 2 = .ok (.lconst 0, 1) := by decide +kernel
theorem dX8_after_3 : decode cX8_after 3 = .ok (.ldc2_w 245, 3) := by decide +kernel
theorem dX8_after_6 : decode cX8_after 6 = .ok (.invokestatic 56, 3) := by decide +kernel
theorem dX8_after_9 : decode cX8_after 9 = .ok (.ifCond .ne 5, 3) := by decide +kernel
theorem dX8_after_12 : decode cX8_after 12 = .ok (.iconst (-1), 1) := by decide +kernel
theorem dX8_after_13 : decode cX8_after 13 = .ok (.ireturn, 1) := by decide +kernel
theorem dX8_after_14 : decode cX8_after 14 = .ok (.aload_n 0, 1) := by decide +kernel
theorem dX8_after_15 : decode cX8_after 15 = .ok (.getfield 11, 3) := by decide +kernel
theorem dX8_after_18 : decode cX8_after 18 = .ok (.aload_n 0, 1) := by decide +kernel
theorem dX8_after_19 : decode cX8_after 19 = .ok (.getfield 15, 3) := by decide +kernel
theorem dX8_after_22 : decode cX8_after 22 = .ok (.invokestatic 263, 3) := by decide +kernel
theorem dX8_after_25 : decode cX8_after 25 = .ok (.iconst 0, 1) := by decide +kernel
theorem dX8_after_26 : decode cX8_after 26 = .ok (.istore_n 2, 1) := by decide +kernel
theorem dX8_after_27 : decode cX8_after 27 = .ok (.iload_n 2, 1) := by decide +kernel
theorem dX8_after_28 : decode cX8_after 28 = .ok (.aload_n 0, 1) := by decide +kernel
theorem dX8_after_29 : decode cX8_after 29 = .ok (.getfield 11, 3) := by decide +kernel
theorem dX8_after_32 : decode cX8_after 32 = .ok (.bipush 44, 2) := by decide +kernel
theorem dX8_after_34 : decode cX8_after 34 = .ok (.iaload, 1) := by decide +kernel
theorem dX8_after_35 : decode cX8_after 35 = .ok (.if_icmp .ge 37, 3) := by decide +kernel
theorem dX8_after_38 : decode cX8_after 38 = .ok (.aload_n 0, 1) := by decide +kernel
theorem dX8_after_39 : decode cX8_after 39 = .ok (.aload_n 0, 1) := by decide +kernel
theorem dX8_after_40 : decode cX8_after 40 = .ok (.getfield 11, 3) := by decide +kernel
theorem dX8_after_43 : decode cX8_after 43 = .ok (.bipush 45, 2) := by decide +kernel
theorem dX8_after_45 : decode cX8_after 45 = .ok (.iconst 2, 1) := by decide +kernel
theorem dX8_after_46 : decode cX8_after 46 = .ok (.iload_n 2, 1) := by decide +kernel
theorem dX8_after_47 : decode cX8_after 47 = .ok (.imul, 1) := by decide +kernel
theorem dX8_after_48 : decode cX8_after 48 = .ok (.iadd, 1) := by decide +kernel
theorem dX8_after_49 : decode cX8_after 49 = .ok (.iaload, 1) := by decide +kernel
theorem dX8_after_50 : decode cX8_after 50 = .ok (.aload_n 0, 1) := by decide +kernel
theorem dX8_after_51 : decode cX8_after 51 = .ok (.getfield 11, 3) := by decide +kernel
theorem dX8_after_54 : decode cX8_after 54 = .ok (.bipush 45, 2) := by decide +kernel
theorem dX8_after_56 : decode cX8_after 56 = .ok (.iconst 2, 1) := by decide +kernel
theorem dX8_after_57 : decode cX8_after 57 = .ok (.iload_n 2, 1) := by decide +kernel
theorem dX8_after_58 : decode cX8_after 58 = .ok (.imul, 1) := by decide +kernel
theorem dX8_after_59 : decode cX8_after 59 = .ok (.iadd, 1) := by decide +kernel
theorem dX8_after_60 : decode cX8_after 60 = .ok (.iconst 1, 1) := by decide +kernel
theorem dX8_after_61 : decode cX8_after 61 = .ok (.iadd, 1) := by decide +kernel
theorem dX8_after_62 : decode cX8_after 62 = .ok (.iaload, 1) := by decide +kernel
theorem dX8_after_63 : decode cX8_after 63 = .ok (.invokevirtual 267, 3) := by decide +kernel
theorem dX8_after_66 : decode cX8_after 66 = .ok (.iinc 2 1, 3) := by decide +kernel
theorem dX8_after_69 : decode cX8_after 69 = .ok (.goto (-42), 3) := by decide +kernel
theorem dX8_after_72 : decode cX8_after 72 = .ok (.aload_n 0, 1) := by decide +kernel
theorem dX8_after_73 : decode cX8_after 73 = .ok (.invokevirtual 138, 3) := by decide +kernel
theorem dX8_after_76 : decode cX8_after 76 = .ok (.iload_n 1, 1) := by decide +kernel
theorem dX8_after_77 : decode cX8_after 77 = .ok (.ifCond .ne 10, 3) := by decide +kernel
theorem dX8_after_80 : decode cX8_after 80 = .ok (.aload_n 0, 1) := by decide +kernel
theorem dX8_after_81 : decode cX8_after 81 = .ok (.getfield 97, 3) := by decide +kernel
theorem dX8_after_84 : decode cX8_after 84 = .ok (.goto 19, 3) := by decide +kernel
theorem dX8_after_87 : decode cX8_after 87 = .ok (.iload_n 1, 1) := by decide +kernel
theorem dX8_after_88 : decode cX8_after 88 = .ok (.iconst 1, 1) := by decide +kernel
theorem dX8_after_89 : decode cX8_after 89 = .ok (.if_icmp .ne 10, 3) := by decide +kernel
theorem dX8_after_92 : decode cX8_after 92 = .ok (.aload_n 0, 1) := by decide +kernel
theorem dX8_after_93 : decode cX8_after 93 = .ok (.invokevirtual 222, 3) := by decide +kernel
theorem dX8_after_96 : decode cX8_after 96 = .ok (.goto 7, 3) := by decide +kernel
theorem dX8_after_99 : decode cX8_after 99 = .ok (.aload_n 0, 1) := by decide +kernel
theorem dX8_after_100 : decode cX8_after 100 = .ok (.invokevirtual 225, 3) := by decide +kernel
theorem dX8_after_103 : decode cX8_after 103 = .ok (.istore_n 2, 1) := by decide +kernel
theorem dX8_after_104 : decode cX8_after 104 = .ok (.aload_n 0, 1) := by decide +kernel
theorem dX8_after_105 : decode cX8_after 105 = .ok (.getfield 15, 3) := by decide +kernel
theorem dX8_after_108 : decode cX8_after 108 = .ok (.aload_n 0, 1) := by decide +kernel
theorem dX8_after_109 : decode cX8_after 109 = .ok (.getfield 11, 3) := by decide +kernel
theorem dX8_after_112 : decode cX8_after 112 = .ok (.invokestatic 263, 3) := by decide +kernel
theorem dX8_after_115 : decode cX8_after 115 = .ok (.iload_n 2, 1) := by decide +kernel
theorem dX8_after_116 : decode cX8_after 116 = .ok (.ireturn, 1) := by decide +kernel
theorem dX8_book_0 : decode cX8_book 0 = .ok (.iload_n 1, 1) := by decide +kernel
theorem dX8_book_1 : decode cX8_book 1 = .ok (.iconst (-1), 1) := by decide +kernel
theorem dX8_book_2 : decode cX8_book 2 = .ok (.if_icmp .ne 13, 3) := by decide +kernel
theorem dX8_book_5 : decode cX8_book 5 = .ok (.aload_n 0, 1) := by decide +kernel
theorem dX8_book_6 : decode cX8_book 6 = .ok (.getfield 11, 3) := by decide +kernel
theorem dX8_book_9 : decode cX8_book 9 = .ok (.bipush 61, 2) := by decide +kernel
theorem dX8_book_11 : decode cX8_book 11 = .ok (.iconst 0, 1) := by decide +kernel
theorem dX8_book_12 : decode cX8_book 12 = .ok (.iastore, 1) := by decide +kernel
theorem dX8_book_13 : decode cX8_book 13 = .ok (.iconst 0, 1) := by decide +kernel
theorem dX8_book_14 : decode cX8_book 14 = .ok (.ireturn, 1) := by decide +kernel
theorem dX8_book_15 : decode cX8_book 15 = .ok (.iload_n 1, 1) := by decide +kernel
theorem dX8_book_16 : decode cX8_book 16 = .ok (.invokestatic 213, 3) := by decide +kernel
theorem dX8_book_19 : decode cX8_book 19 = .ok (.ifCond .ne 5, 3) := by decide +kernel
theorem dX8_book_22 : decode cX8_book 22 = .ok (.iconst (-1), 1) := by decide +kernel
theorem dX8_book_23 : decode cX8_book 23 = .ok (.ireturn, 1) := by decide +kernel
theorem dX8_book_24 : decode cX8_book 24 = .ok (.iload_n 2, 1) := by decide +kernel
theorem dX8_book_25 : decode cX8_book 25 = .ok (.i2l, 1) := by decide +kernel
theorem dX8_book_26 : decode cX8_book 26 = .ok (.lconst 1, 1) := by decide +kernel
theorem dX8_book_27 : decode cX8_book 27 = .ok (.ldc2_w 270, 3) := by decide +kernel
theorem dX8_book_30 : decode cX8_book 30 = .ok (.invokestatic 56, 3) := by decide +kernel
theorem dX8_book_33 : decode cX8_book 33 = .ok (.ifCond .ne 6, 3) := by decide +kernel
theorem dX8_book_36 : decode cX8_book 36 = .ok (.bipush (-2), 2) := by decide +kernel
theorem dX8_book_38 : decode cX8_book 38 = .ok (.ireturn, 1) := by decide +kernel
theorem dX8_book_39 : decode cX8_book 39 = .ok (.aload_n 0, 1) := by decide +kernel
theorem dX8_book_40 : decode cX8_book 40 = .ok (.getfield 11, 3) := by decide +kernel
theorem dX8_book_43 : decode cX8_book 43 = .ok (.bipush 61, 2) := by decide +kernel
theorem dX8_book_45 : decode cX8_book 45 = .ok (.iaload, 1) := by decide +kernel
theorem dX8_book_46 : decode cX8_book 46 = .ok (.bipush 8, 2) := by decide +kernel
theorem dX8_book_48 : decode cX8_book 48 = .ok (.if_icmp .ne 6, 3) := by decide +kernel
theorem dX8_book_51 : decode cX8_book 51 = .ok (.bipush (-4), 2) := by decide +kernel
theorem dX8_book_53 : decode cX8_book 53 = .ok (.ireturn, 1) := by decide +kernel
theorem dX8_book_54 : decode cX8_book 54 = .ok (.bipush 62, 2) := by decide +kernel
theorem dX8_book_56 : decode cX8_book 56 = .ok (.iconst 2, 1) := by decide +kernel
theorem dX8_book_57 : decode cX8_book 57 = .ok (.aload_n 0, 1) := by decide +kernel
theorem dX8_book_58 : decode cX8_book 58 = .ok (.getfield 11, 3) := by decide +kernel
theorem dX8_book_61 : decode cX8_book 61 = .ok (.bipush 61, 2) := by decide +kernel
theorem dX8_book_63 : decode cX8_book 63 = .ok (.iaload, 1) := by decide +kernel
theorem dX8_book_64 : decode cX8_book 64 = .ok (.imul, 1) := by decide +kernel
theorem dX8_book_65 : decode cX8_book 65 = .ok (.iadd, 1) := by decide +kernel
theorem dX8_book_66 : decode cX8_book 66 = .ok (.istore_n 3, 1) := by decide +kernel
theorem dX8_book_67 : decode cX8_book 67 = .ok (.aload_n 0, 1) := by decide +kernel
theorem dX8_book_68 : decode cX8_book 68 = .ok (.getfield 11, 3) := by decide +kernel
theorem dX8_book_71 : decode cX8_book 71 = .ok (.iload_n 3, 1) := by decide +kernel
theorem dX8_book_72 : decode cX8_book 72 = .ok (.iload_n 1, 1) := by decide +kernel
theorem dX8_book_73 : decode cX8_book 73 = .ok (.iastore, 1) := by decide +kernel
theorem dX8_book_74 : decode cX8_book 74 = .ok (.aload_n 0, 1) := by decide +kernel
theorem dX8_book_75 : decode cX8_book 75 = .ok (.getfield 11, 3) := by decide +kernel
theorem dX8_book_78 : decode cX8_book 78 = .ok (.iload_n 3, 1) := by decide +kernel
theorem dX8_book_79 : decode cX8_book 79 = .ok (.iconst 1, 1) := by decide +kernel
theorem dX8_book_80 : decode cX8_book 80 = .ok (.iadd, 1) := by decide +kernel
theorem dX8_book_81 : decode cX8_book 81 = .ok (.iload_n 2, 1) := by decide +kernel
theorem dX8_book_82 : decode cX8_book 82 = .ok (.iastore, 1) := by decide +kernel
theorem dX8_book_83 : decode cX8_book 83 = .ok (.aload_n 0, 1) := by decide +kernel
theorem dX8_book_84 : decode cX8_book 84 = .ok (.getfield 11, 3) := by decide +kernel
theorem dX8_book_87 : decode cX8_book 87 = .ok (.bipush 61, 2) := by decide +kernel
theorem dX8_book_89 : decode cX8_book 89 = .ok (.dup2, 1) := by decide +kernel
theorem dX8_book_90 : decode cX8_book 90 = .ok (.iaload, 1) := by decide +kernel
theorem dX8_book_91 : decode cX8_book 91 = .ok (.iconst 1, 1) := by decide +kernel
theorem dX8_book_92 : decode cX8_book 92 = .ok (.iadd, 1) := by decide +kernel
theorem dX8_book_93 : decode cX8_book 93 = .ok (.iastore, 1) := by decide +kernel
theorem dX8_book_94 : decode cX8_book 94 = .ok (.aload_n 0, 1) := by decide +kernel
theorem dX8_book_95 : decode cX8_book 95 = .ok (.getfield 11, 3) := by decide +kernel
theorem dX8_book_98 : decode cX8_book 98 = .ok (.bipush 61, 2) := by decide +kernel
theorem dX8_book_100 : decode cX8_book 100 = .ok (.iaload, 1) := by decide +kernel
theorem dX8_book_101 : decode cX8_book 101 = .ok (.ireturn, 1) := by decide +kernel
theorem dX8_looked_0 : decode cX8_looked 0 = .ok (.iconst 0, 1) := by decide +kernel
theorem dX8_looked_1 : decode cX8_looked 1 = .ok (.istore_n 1, 1) := by decide +kernel
theorem dX8_looked_2 : decode cX8_looked 2 = .ok (.iload_n 1, 1) := by decide +kernel
theorem dX8_looked_3 : decode cX8_looked 3 = .ok (.aload_n 0, 1) := by decide +kernel
theorem dX8_looked_4 : decode cX8_looked 4 = .ok (.getfield 11, 3) := by decide +kernel
theorem dX8_looked_7 : decode cX8_looked 7 = .ok (.bipush 61, 2) := by decide +kernel
theorem dX8_looked_9 : decode cX8_looked 9 = .ok (.iaload, 1) := by decide +kernel
theorem dX8_looked_10 : decode cX8_looked 10 = .ok (.if_icmp .ge 51, 3) := by decide +kernel
theorem dX8_looked_13 : decode cX8_looked 13 = .ok (.aload_n 0, 1) := by decide +kernel
theorem dX8_looked_14 : decode cX8_looked 14 = .ok (.getfield 11, 3) := by decide +kernel
theorem dX8_looked_17 : decode cX8_looked 17 = .ok (.bipush 62, 2) := by decide +kernel
theorem dX8_looked_19 : decode cX8_looked 19 = .ok (.iconst 2, 1) := by decide +kernel
theorem dX8_looked_20 : decode cX8_looked 20 = .ok (.iload_n 1, 1) := by decide +kernel
theorem dX8_looked_21 : decode cX8_looked 21 = .ok (.imul, 1) := by decide +kernel
theorem dX8_looked_22 : decode cX8_looked 22 = .ok (.iadd, 1) := by decide +kernel
theorem dX8_looked_23 : decode cX8_looked 23 = .ok (.iaload, 1) := by decide +kernel
theorem dX8_looked_24 : decode cX8_looked 24 = .ok (.istore_n 2, 1) := by decide +kernel
theorem dX8_looked_25 : decode cX8_looked 25 = .ok (.aload_n 0, 1) := by decide +kernel
theorem dX8_looked_26 : decode cX8_looked 26 = .ok (.iload_n 2, 1) := by decide +kernel
theorem dX8_looked_27 : decode cX8_looked 27 = .ok (.invokevirtual 101, 3) := by decide +kernel
theorem dX8_looked_30 : decode cX8_looked 30 = .ok (.ifCond .gt 23, 3) := by decide +kernel
theorem dX8_looked_33 : decode cX8_looked 33 = .ok (.iload_n 2, 1) := by decide +kernel
theorem dX8_looked_34 : decode cX8_looked 34 = .ok (.invokestatic 216, 3) := by decide +kernel
theorem dX8_looked_37 : decode cX8_looked 37 = .ok (.aload_n 0, 1) := by decide +kernel
theorem dX8_looked_38 : decode cX8_looked 38 = .ok (.getfield 11, 3) := by decide +kernel
theorem dX8_looked_41 : decode cX8_looked 41 = .ok (.bipush 62, 2) := by decide +kernel
theorem dX8_looked_43 : decode cX8_looked 43 = .ok (.iconst 2, 1) := by decide +kernel
theorem dX8_looked_44 : decode cX8_looked 44 = .ok (.iload_n 1, 1) := by decide +kernel
theorem dX8_looked_45 : decode cX8_looked 45 = .ok (.imul, 1) := by decide +kernel
theorem dX8_looked_46 : decode cX8_looked 46 = .ok (.iadd, 1) := by decide +kernel
theorem dX8_looked_47 : decode cX8_looked 47 = .ok (.iconst 1, 1) := by decide +kernel
theorem dX8_looked_48 : decode cX8_looked 48 = .ok (.iadd, 1) := by decide +kernel
theorem dX8_looked_49 : decode cX8_looked 49 = .ok (.iaload, 1) := by decide +kernel
theorem dX8_looked_50 : decode cX8_looked 50 = .ok (.if_icmp .eq 5, 3) := by decide +kernel
theorem dX8_looked_53 : decode cX8_looked 53 = .ok (.iload_n 1, 1) := by decide +kernel
theorem dX8_looked_54 : decode cX8_looked 54 = .ok (.ireturn, 1) := by decide +kernel
theorem dX8_looked_55 : decode cX8_looked 55 = .ok (.iinc 1 1, 3) := by decide +kernel
theorem dX8_looked_58 : decode cX8_looked 58 = .ok (.goto (-56), 3) := by decide +kernel
theorem dX8_looked_61 : decode cX8_looked 61 = .ok (.bipush (-5), 2) := by decide +kernel
theorem dX8_looked_63 : decode cX8_looked 63 = .ok (.ireturn, 1) := by decide +kernel
theorem dX8_judge_0 : decode cX8_judge 0 = .ok (.iload_n 1, 1) := by decide +kernel
theorem dX8_judge_1 : decode cX8_judge 1 = .ok (.invokestatic 272, 3) := by decide +kernel
theorem dX8_judge_4 : decode cX8_judge 4 = .ok (.ifCond .ne 5, 3) := by decide +kernel
theorem dX8_judge_7 : decode cX8_judge 7 = .ok (.iconst (-1), 1) := by decide +kernel
theorem dX8_judge_8 : decode cX8_judge 8 = .ok (.ireturn, 1) := by decide +kernel
theorem dX8_judge_9 : decode cX8_judge 9 = .ok (.aload_n 0, 1) := by decide +kernel
theorem dX8_judge_10 : decode cX8_judge 10 = .ok (.getfield 46, 3) := by decide +kernel
theorem dX8_judge_13 : decode cX8_judge 13 = .ok (.iload_n 1, 1) := by decide +kernel
theorem dX8_judge_14 : decode cX8_judge 14 = .ok (.iaload, 1) := by decide +kernel
theorem dX8_judge_15 : decode cX8_judge 15 = .ok (.iconst 1, 1) := by decide +kernel
theorem dX8_judge_16 : decode cX8_judge 16 = .ok (.if_icmp .lt 6, 3) := by decide +kernel
theorem dX8_judge_19 : decode cX8_judge 19 = .ok (.bipush (-12), 2) := by decide +kernel
theorem dX8_judge_21 : decode cX8_judge 21 = .ok (.ireturn, 1) := by decide +kernel
theorem dX8_judge_22 : decode cX8_judge 22 = .ok (.aload_n 0, 1) := by decide +kernel
theorem dX8_judge_23 : decode cX8_judge 23 = .ok (.invokevirtual 138, 3) := by decide +kernel
theorem dX8_judge_26 : decode cX8_judge 26 = .ok (.iconst 0, 1) := by decide +kernel
theorem dX8_judge_27 : decode cX8_judge 27 = .ok (.istore_n 3, 1) := by decide +kernel
theorem dX8_judge_28 : decode cX8_judge 28 = .ok (.iload_n 3, 1) := by decide +kernel
theorem dX8_judge_29 : decode cX8_judge 29 = .ok (.aload_n 0, 1) := by decide +kernel
theorem dX8_judge_30 : decode cX8_judge 30 = .ok (.getfield 97, 3) := by decide +kernel
theorem dX8_judge_33 : decode cX8_judge 33 = .ok (.if_icmp .ge 60, 3) := by decide +kernel
theorem dX8_judge_36 : decode cX8_judge 36 = .ok (.iload_n 2, 1) := by decide +kernel
theorem dX8_judge_37 : decode cX8_judge 37 = .ok (.ifCond .lt 19, 3) := by decide +kernel
theorem dX8_judge_40 : decode cX8_judge 40 = .ok (.iload_n 2, 1) := by decide +kernel
theorem dX8_judge_41 : decode cX8_judge 41 = .ok (.i2l, 1) := by decide +kernel
theorem dX8_judge_42 : decode cX8_judge 42 = .ok (.iload_n 3, 1) := by decide +kernel
theorem dX8_judge_43 : decode cX8_judge 43 = .ok (.i2l, 1) := by decide +kernel
theorem dX8_judge_44 : decode cX8_judge 44 = .ok (.ladd, 1) := by decide +kernel
theorem dX8_judge_45 : decode cX8_judge 45 = .ok (.aload_n 0, 1) := by decide +kernel
theorem dX8_judge_46 : decode cX8_judge 46 = .ok (.getfield 49, 3) := by decide +kernel
theorem dX8_judge_49 : decode cX8_judge 49 = .ok (.iload_n 1, 1) := by decide +kernel
theorem dX8_judge_50 : decode cX8_judge 50 = .ok (.iaload, 1) := by decide +kernel
theorem dX8_judge_51 : decode cX8_judge 51 = .ok (.i2l, 1) := by decide +kernel
theorem dX8_judge_52 : decode cX8_judge 52 = .ok (.lcmp, 1) := by decide +kernel
theorem dX8_judge_53 : decode cX8_judge 53 = .ok (.ifCond .lt 8, 3) := by decide +kernel
theorem dX8_judge_56 : decode cX8_judge 56 = .ok (.bipush 100, 2) := by decide +kernel
theorem dX8_judge_58 : decode cX8_judge 58 = .ok (.iload_n 3, 1) := by decide +kernel
theorem dX8_judge_59 : decode cX8_judge 59 = .ok (.iadd, 1) := by decide +kernel
theorem dX8_judge_60 : decode cX8_judge 60 = .ok (.ireturn, 1) := by decide +kernel
theorem dX8_judge_61 : decode cX8_judge 61 = .ok (.aload_n 0, 1) := by decide +kernel
theorem dX8_judge_62 : decode cX8_judge 62 = .ok (.getfield 52, 3) := by decide +kernel
theorem dX8_judge_65 : decode cX8_judge 65 = .ok (.bipush 60, 2) := by decide +kernel
theorem dX8_judge_67 : decode cX8_judge 67 = .ok (.iload_n 1, 1) := by decide +kernel
theorem dX8_judge_68 : decode cX8_judge 68 = .ok (.imul, 1) := by decide +kernel
theorem dX8_judge_69 : decode cX8_judge 69 = .ok (.iload_n 2, 1) := by decide +kernel
theorem dX8_judge_70 : decode cX8_judge 70 = .ok (.iadd, 1) := by decide +kernel
theorem dX8_judge_71 : decode cX8_judge 71 = .ok (.iload_n 3, 1) := by decide +kernel
theorem dX8_judge_72 : decode cX8_judge 72 = .ok (.iadd, 1) := by decide +kernel
theorem dX8_judge_73 : decode cX8_judge 73 = .ok (.laload, 1) := by decide +kernel
theorem dX8_judge_74 : decode cX8_judge 74 = .ok (.aload_n 0, 1) := by decide +kernel
theorem dX8_judge_75 : decode cX8_judge 75 = .ok (.getfield 21, 3) := by decide +kernel
theorem dX8_judge_78 : decode cX8_judge 78 = .ok (.iload_n 3, 1) := by decide +kernel
theorem dX8_judge_79 : decode cX8_judge 79 = .ok (.iaload, 1) := by decide +kernel
theorem dX8_judge_80 : decode cX8_judge 80 = .ok (.i2l, 1) := by decide +kernel
theorem dX8_judge_81 : decode cX8_judge 81 = .ok (.lcmp, 1) := by decide +kernel
theorem dX8_judge_82 : decode cX8_judge 82 = .ok (.ifCond .eq 5, 3) := by decide +kernel
theorem dX8_judge_85 : decode cX8_judge 85 = .ok (.iload_n 3, 1) := by decide +kernel
theorem dX8_judge_86 : decode cX8_judge 86 = .ok (.ireturn, 1) := by decide +kernel
theorem dX8_judge_87 : decode cX8_judge 87 = .ok (.iinc 3 1, 3) := by decide +kernel
theorem dX8_judge_90 : decode cX8_judge 90 = .ok (.goto (-62), 3) := by decide +kernel
theorem dX8_judge_93 : decode cX8_judge 93 = .ok (.bipush (-5), 2) := by decide +kernel
theorem dX8_judge_95 : decode cX8_judge 95 = .ok (.ireturn, 1) := by decide +kernel
theorem dX8_image_0 : decode cX8_image 0 = .ok (.aload_n 0, 1) := by decide +kernel
theorem dX8_image_1 : decode cX8_image 1 = .ok (.iconst 1, 1) := by decide +kernel
theorem dX8_image_2 : decode cX8_image 2 = .ok (.putfield 275, 3) := by decide +kernel
theorem dX8_image_5 : decode cX8_image 5 = .ok (.aload_n 0, 1) := by decide +kernel
theorem dX8_image_6 : decode cX8_image 6 = .ok (.getfield 11, 3) := by decide +kernel
theorem dX8_image_9 : decode cX8_image 9 = .ok (.aload_n 0, 1) := by decide +kernel
theorem dX8_image_10 : decode cX8_image 10 = .ok (.getfield 18, 3) := by decide +kernel
theorem dX8_image_13 : decode cX8_image 13 = .ok (.invokestatic 263, 3) := by decide +kernel
theorem dX8_image_16 : decode cX8_image 16 = .ok (.aload_n 0, 1) := by decide +kernel
theorem dX8_image_17 : decode cX8_image 17 = .ok (.getfield 11, 3) := by decide +kernel
theorem dX8_image_20 : decode cX8_image 20 = .ok (.iconst 0, 1) := by decide +kernel
theorem dX8_image_21 : decode cX8_image 21 = .ok (.iaload, 1) := by decide +kernel
theorem dX8_image_22 : decode cX8_image 22 = .ok (.ireturn, 1) := by decide +kernel
theorem dX8_undo_0 : decode cX8_undo 0 = .ok (.aload_n 0, 1) := by decide +kernel
theorem dX8_undo_1 : decode cX8_undo 1 = .ok (.getfield 275, 3) := by decide +kernel
theorem dX8_undo_4 : decode cX8_undo 4 = .ok (.ifCond .ne 6, 3) := by decide +kernel
theorem dX8_undo_7 : decode cX8_undo 7 = .ok (.bipush (-3), 2) := by decide +kernel
theorem dX8_undo_9 : decode cX8_undo 9 = .ok (.ireturn, 1) := by decide +kernel
theorem dX8_undo_10 : decode cX8_undo 10 = .ok (.aload_n 0, 1) := by decide +kernel
theorem dX8_undo_11 : decode cX8_undo 11 = .ok (.getfield 18, 3) := by decide +kernel
theorem dX8_undo_14 : decode cX8_undo 14 = .ok (.aload_n 0, 1) := by decide +kernel
theorem dX8_undo_15 : decode cX8_undo 15 = .ok (.getfield 11, 3) := by decide +kernel
theorem dX8_undo_18 : decode cX8_undo 18 = .ok (.invokestatic 263, 3) := by decide +kernel
theorem dX8_undo_21 : decode cX8_undo 21 = .ok (.aload_n 0, 1) := by decide +kernel
theorem dX8_undo_22 : decode cX8_undo 22 = .ok (.getfield 11, 3) := by decide +kernel
theorem dX8_undo_25 : decode cX8_undo 25 = .ok (.iconst 0, 1) := by decide +kernel
theorem dX8_undo_26 : decode cX8_undo 26 = .ok (.iaload, 1) := by decide +kernel
theorem dX8_undo_27 : decode cX8_undo 27 = .ok (.ireturn, 1) := by decide +kernel
theorem dX8_count_0 : decode cX8_count 0 = .ok (.iload_n 1, 1) := by decide +kernel
theorem dX8_count_1 : decode cX8_count 1 = .ok (.tableswitch 60 0 3 #[31, 39, 47, 55], 31) := by decide +kernel
theorem dX8_count_32 : decode cX8_count 32 = .ok (.aload_n 0, 1) := by decide +kernel
theorem dX8_count_33 : decode cX8_count 33 = .ok (.getfield 11, 3) := by decide +kernel
theorem dX8_count_36 : decode cX8_count 36 = .ok (.bipush 33, 2) := by decide +kernel
theorem dX8_count_38 : decode cX8_count 38 = .ok (.iaload, 1) := by decide +kernel
theorem dX8_count_39 : decode cX8_count 39 = .ok (.ireturn, 1) := by decide +kernel
theorem dX8_count_40 : decode cX8_count 40 = .ok (.aload_n 0, 1) := by decide +kernel
theorem dX8_count_41 : decode cX8_count 41 = .ok (.getfield 11, 3) := by decide +kernel
theorem dX8_count_44 : decode cX8_count 44 = .ok (.bipush 44, 2) := by decide +kernel
theorem dX8_count_46 : decode cX8_count 46 = .ok (.iaload, 1) := by decide +kernel
theorem dX8_count_47 : decode cX8_count 47 = .ok (.ireturn, 1) := by decide +kernel
theorem dX8_count_48 : decode cX8_count 48 = .ok (.aload_n 0, 1) := by decide +kernel
theorem dX8_count_49 : decode cX8_count 49 = .ok (.getfield 11, 3) := by decide +kernel
theorem dX8_count_52 : decode cX8_count 52 = .ok (.bipush 61, 2) := by decide +kernel
theorem dX8_count_54 : decode cX8_count 54 = .ok (.iaload, 1) := by decide +kernel
theorem dX8_count_55 : decode cX8_count 55 = .ok (.ireturn, 1) := by decide +kernel
theorem dX8_count_56 : decode cX8_count 56 = .ok (.aload_n 0, 1) := by decide +kernel
theorem dX8_count_57 : decode cX8_count 57 = .ok (.getfield 171, 3) := by decide +kernel
theorem dX8_count_60 : decode cX8_count 60 = .ok (.ireturn, 1) := by decide +kernel
theorem dX8_count_61 : decode cX8_count 61 = .ok (.bipush (-2), 2) := by decide +kernel
theorem dX8_count_63 : decode cX8_count 63 = .ok (.ireturn, 1) := by decide +kernel
theorem dX8_isTape_0 : decode cX8_isTape 0 = .ok (.iload_n 0, 1) := by decide +kernel
theorem dX8_isTape_1 : decode cX8_isTape 1 = .ok (.i2l, 1) := by decide +kernel
theorem dX8_isTape_2 : decode cX8_isTape 2 = .ok (.lconst 0, 1) := by decide +kernel
theorem dX8_isTape_3 : decode cX8_isTape 3 = .ok (.ldc2_w 240, 3) := by decide +kernel
theorem dX8_isTape_6 : decode cX8_isTape 6 = .ok (.invokestatic 56, 3) := by decide +kernel
theorem dX8_isTape_9 : decode cX8_isTape 9 = .ok (.ireturn, 1) := by decide +kernel
theorem dX8_tape_0 : decode cX8_tape 0 = .ok (.iload_n 1, 1) := by decide +kernel
theorem dX8_tape_1 : decode cX8_tape 1 = .ok (.invokestatic 272, 3) := by decide +kernel
theorem dX8_tape_4 : decode cX8_tape 4 = .ok (.ifCond .ne 5, 3) := by decide +kernel
theorem dX8_tape_7 : decode cX8_tape 7 = .ok (.iconst (-1), 1) := by decide +kernel
theorem dX8_tape_8 : decode cX8_tape 8 = .ok (.ireturn, 1) := by decide +kernel
theorem dX8_tape_9 : decode cX8_tape 9 = .ok (.iload_n 2, 1) := by decide +kernel
theorem dX8_tape_10 : decode cX8_tape 10 = .ok (.i2l, 1) := by decide +kernel
theorem dX8_tape_11 : decode cX8_tape 11 = .ok (.ldc2_w 278, 3) := by decide +kernel
theorem dX8_tape_14 : decode cX8_tape 14 = .ok (.ldc2_w 160, 3) := by decide +kernel
theorem dX8_tape_17 : decode cX8_tape 17 = .ok (.invokestatic 56, 3) := by decide +kernel
theorem dX8_tape_20 : decode cX8_tape 20 = .ok (.ifCond .eq 13, 3) := by decide +kernel
theorem dX8_tape_23 : decode cX8_tape 23 = .ok (.iload_n 2, 1) := by decide +kernel
theorem dX8_tape_24 : decode cX8_tape 24 = .ok (.ifCond .lt 12, 3) := by decide +kernel
theorem dX8_tape_27 : decode cX8_tape 27 = .ok (.iload_n 3, 1) := by decide +kernel
theorem dX8_tape_28 : decode cX8_tape 28 = .ok (.bipush 60, 2) := by decide +kernel
theorem dX8_tape_30 : decode cX8_tape 30 = .ok (.if_icmp .le 6, 3) := by decide +kernel
theorem dX8_tape_33 : decode cX8_tape 33 = .ok (.bipush (-2), 2) := by decide +kernel
theorem dX8_tape_35 : decode cX8_tape 35 = .ok (.ireturn, 1) := by decide +kernel
theorem dX8_tape_36 : decode cX8_tape 36 = .ok (.iload_n 2, 1) := by decide +kernel
theorem dX8_tape_37 : decode cX8_tape 37 = .ok (.ifCond .lt 10, 3) := by decide +kernel
theorem dX8_tape_40 : decode cX8_tape 40 = .ok (.iload_n 3, 1) := by decide +kernel
theorem dX8_tape_41 : decode cX8_tape 41 = .ok (.ifCond .ge 6, 3) := by decide +kernel
theorem dX8_tape_44 : decode cX8_tape 44 = .ok (.bipush (-14), 2) := by decide +kernel
theorem dX8_tape_46 : decode cX8_tape 46 = .ok (.ireturn, 1) := by decide +kernel
theorem dX8_tape_47 : decode cX8_tape 47 = .ok (.aload_n 0, 1) := by decide +kernel
theorem dX8_tape_48 : decode cX8_tape 48 = .ok (.getfield 46, 3) := by decide +kernel
theorem dX8_tape_51 : decode cX8_tape 51 = .ok (.iload_n 1, 1) := by decide +kernel
theorem dX8_tape_52 : decode cX8_tape 52 = .ok (.iload_n 2, 1) := by decide +kernel
theorem dX8_tape_53 : decode cX8_tape 53 = .ok (.iastore, 1) := by decide +kernel
theorem dX8_tape_54 : decode cX8_tape 54 = .ok (.aload_n 0, 1) := by decide +kernel
theorem dX8_tape_55 : decode cX8_tape 55 = .ok (.getfield 49, 3) := by decide +kernel
theorem dX8_tape_58 : decode cX8_tape 58 = .ok (.iload_n 1, 1) := by decide +kernel
theorem dX8_tape_59 : decode cX8_tape 59 = .ok (.iload_n 2, 1) := by decide +kernel
theorem dX8_tape_60 : decode cX8_tape 60 = .ok (.ifCond .ge 7, 3) := by decide +kernel
theorem dX8_tape_63 : decode cX8_tape 63 = .ok (.iconst 0, 1) := by decide +kernel
theorem dX8_tape_64 : decode cX8_tape 64 = .ok (.goto 4, 3) := by decide +kernel
theorem dX8_tape_67 : decode cX8_tape 67 = .ok (.iload_n 3, 1) := by decide +kernel
theorem dX8_tape_68 : decode cX8_tape 68 = .ok (.iastore, 1) := by decide +kernel
theorem dX8_tape_69 : decode cX8_tape 69 = .ok (.iconst 0, 1) := by decide +kernel
theorem dX8_tape_70 : decode cX8_tape 70 = .ok (.istore 4, 2) := by decide +kernel
theorem dX8_tape_72 : decode cX8_tape 72 = .ok (.iload 4, 2) := by decide +kernel
theorem dX8_tape_74 : decode cX8_tape 74 = .ok (.bipush 60, 2) := by decide +kernel
theorem dX8_tape_76 : decode cX8_tape 76 = .ok (.if_icmp .ge 22, 3) := by decide +kernel
theorem dX8_tape_79 : decode cX8_tape 79 = .ok (.aload_n 0, 1) := by decide +kernel
theorem dX8_tape_80 : decode cX8_tape 80 = .ok (.getfield 52, 3) := by decide +kernel
theorem dX8_tape_83 : decode cX8_tape 83 = .ok (.bipush 60, 2) := by decide +kernel
theorem dX8_tape_85 : decode cX8_tape 85 = .ok (.iload_n 1, 1) := by decide +kernel
theorem dX8_tape_86 : decode cX8_tape 86 = .ok (.imul, 1) := by decide +kernel
theorem dX8_tape_87 : decode cX8_tape 87 = .ok (.iload 4, 2) := by decide +kernel
theorem dX8_tape_89 : decode cX8_tape 89 = .ok (.iadd, 1) := by decide +kernel
theorem dX8_tape_90 : decode cX8_tape 90 = .ok (.lconst 0, 1) := by decide +kernel
theorem dX8_tape_91 : decode cX8_tape 91 = .ok (.lastore, 1) := by decide +kernel
theorem dX8_tape_92 : decode cX8_tape 92 = .ok (.iinc 4 1, 3) := by decide +kernel
theorem dX8_tape_95 : decode cX8_tape 95 = .ok (.goto (-23), 3) := by decide +kernel
theorem dX8_tape_98 : decode cX8_tape 98 = .ok (.iconst 1, 1) := by decide +kernel
theorem dX8_tape_99 : decode cX8_tape 99 = .ok (.ireturn, 1) := by decide +kernel
theorem dX8_narrowed_0 : decode cX8_narrowed 0 = .ok (.iload_n 0, 1) := by decide +kernel
theorem dX8_narrowed_1 : decode cX8_narrowed 1 = .ok (.ifCond .ne 10, 3) := by decide +kernel
theorem dX8_narrowed_4 : decode cX8_narrowed 4 = .ok (.lload_n 1, 1) := by decide +kernel
theorem dX8_narrowed_5 : decode cX8_narrowed 5 = .ok (.l2i, 1) := by decide +kernel
theorem dX8_narrowed_6 : decode cX8_narrowed 6 = .ok (.i2b, 1) := by decide +kernel
theorem dX8_narrowed_7 : decode cX8_narrowed 7 = .ok (.i2l, 1) := by decide +kernel
theorem dX8_narrowed_8 : decode cX8_narrowed 8 = .ok (.goto 46, 3) := by decide +kernel
theorem dX8_narrowed_11 : decode cX8_narrowed 11 = .ok (.iload_n 0, 1) := by decide +kernel
theorem dX8_narrowed_12 : decode cX8_narrowed 12 = .ok (.iconst 1, 1) := by decide +kernel
theorem dX8_narrowed_13 : decode cX8_narrowed 13 = .ok (.if_icmp .ne 10, 3) := by decide +kernel
theorem dX8_narrowed_16 : decode cX8_narrowed 16 = .ok (.lload_n 1, 1) := by decide +kernel
theorem dX8_narrowed_17 : decode cX8_narrowed 17 = .ok (.l2i, 1) := by decide +kernel
theorem dX8_narrowed_18 : decode cX8_narrowed 18 = .ok (.i2s, 1) := by decide +kernel
theorem dX8_narrowed_19 : decode cX8_narrowed 19 = .ok (.i2l, 1) := by decide +kernel
theorem dX8_narrowed_20 : decode cX8_narrowed 20 = .ok (.goto 34, 3) := by decide +kernel
theorem dX8_narrowed_23 : decode cX8_narrowed 23 = .ok (.iload_n 0, 1) := by decide +kernel
theorem dX8_narrowed_24 : decode cX8_narrowed 24 = .ok (.iconst 2, 1) := by decide +kernel
theorem dX8_narrowed_25 : decode cX8_narrowed 25 = .ok (.if_icmp .ne 9, 3) := by decide +kernel
theorem dX8_narrowed_28 : decode cX8_narrowed 28 = .ok (.lload_n 1, 1) := by decide +kernel
theorem dX8_narrowed_29 : decode cX8_narrowed 29 = .ok (.l2i, 1) := by decide +kernel
theorem dX8_narrowed_30 : decode cX8_narrowed 30 = .ok (.i2l, 1) := by decide +kernel
theorem dX8_narrowed_31 : decode cX8_narrowed 31 = .ok (.goto 23, 3) := by decide +kernel
theorem dX8_narrowed_34 : decode cX8_narrowed 34 = .ok (.iload_n 0, 1) := by decide +kernel
theorem dX8_narrowed_35 : decode cX8_narrowed 35 = .ok (.iconst 3, 1) := by decide +kernel
theorem dX8_narrowed_36 : decode cX8_narrowed 36 = .ok (.if_icmp .ne 7, 3) := by decide +kernel
theorem dX8_narrowed_39 : decode cX8_narrowed 39 = .ok (.lload_n 1, 1) := by decide +kernel
theorem dX8_narrowed_40 : decode cX8_narrowed 40 = .ok (.goto 14, 3) := by decide +kernel
theorem dX8_narrowed_43 : decode cX8_narrowed 43 = .ok (.lload_n 1, 1) := by decide +kernel
theorem dX8_narrowed_44 : decode cX8_narrowed 44 = .ok (.lconst 0, 1) := by decide +kernel
theorem dX8_narrowed_45 : decode cX8_narrowed 45 = .ok (.lcmp, 1) := by decide +kernel
theorem dX8_narrowed_46 : decode cX8_narrowed 46 = .ok (.ifCond .eq 7, 3) := by decide +kernel
theorem dX8_narrowed_49 : decode cX8_narrowed 49 = .ok (.lconst 1, 1) := by decide +kernel
theorem dX8_narrowed_50 : decode cX8_narrowed 50 = .ok (.goto 4, 3) := by decide +kernel
theorem dX8_narrowed_53 : decode cX8_narrowed 53 = .ok (.lconst 0, 1) := by decide +kernel
theorem dX8_narrowed_54 : decode cX8_narrowed 54 = .ok (.lreturn, 1) := by decide +kernel
theorem dX8_item_0 : decode cX8_item 0 = .ok (.iload_n 1, 1) := by decide +kernel
theorem dX8_item_1 : decode cX8_item 1 = .ok (.invokestatic 272, 3) := by decide +kernel
theorem dX8_item_4 : decode cX8_item 4 = .ok (.ifCond .ne 5, 3) := by decide +kernel
theorem dX8_item_7 : decode cX8_item 7 = .ok (.iconst (-1), 1) := by decide +kernel
theorem dX8_item_8 : decode cX8_item 8 = .ok (.ireturn, 1) := by decide +kernel
theorem dX8_item_9 : decode cX8_item 9 = .ok (.aload_n 0, 1) := by decide +kernel
theorem dX8_item_10 : decode cX8_item 10 = .ok (.getfield 46, 3) := by decide +kernel
theorem dX8_item_13 : decode cX8_item 13 = .ok (.iload_n 1, 1) := by decide +kernel
theorem dX8_item_14 : decode cX8_item 14 = .ok (.iaload, 1) := by decide +kernel
theorem dX8_item_15 : decode cX8_item 15 = .ok (.ifCond .ge 6, 3) := by decide +kernel
theorem dX8_item_18 : decode cX8_item 18 = .ok (.bipush (-11), 2) := by decide +kernel
theorem dX8_item_20 : decode cX8_item 20 = .ok (.ireturn, 1) := by decide +kernel
theorem dX8_item_21 : decode cX8_item 21 = .ok (.iload_n 2, 1) := by decide +kernel
theorem dX8_item_22 : decode cX8_item 22 = .ok (.i2l, 1) := by decide +kernel
theorem dX8_item_23 : decode cX8_item 23 = .ok (.lconst 0, 1) := by decide +kernel
theorem dX8_item_24 : decode cX8_item 24 = .ok (.aload_n 0, 1) := by decide +kernel
theorem dX8_item_25 : decode cX8_item 25 = .ok (.getfield 49, 3) := by decide +kernel
theorem dX8_item_28 : decode cX8_item 28 = .ok (.iload_n 1, 1) := by decide +kernel
theorem dX8_item_29 : decode cX8_item 29 = .ok (.iaload, 1) := by decide +kernel
theorem dX8_item_30 : decode cX8_item 30 = .ok (.iconst 1, 1) := by decide +kernel
theorem dX8_item_31 : decode cX8_item 31 = .ok (.isub, 1) := by decide +kernel
theorem dX8_item_32 : decode cX8_item 32 = .ok (.i2l, 1) := by decide +kernel
theorem dX8_item_33 : decode cX8_item 33 = .ok (.invokestatic 56, 3) := by decide +kernel
theorem dX8_item_36 : decode cX8_item 36 = .ok (.ifCond .ne 6, 3) := by decide +kernel
theorem dX8_item_39 : decode cX8_item 39 = .ok (.bipush (-13), 2) := by decide +kernel
theorem dX8_item_41 : decode cX8_item 41 = .ok (.ireturn, 1) := by decide +kernel
theorem dX8_item_42 : decode cX8_item 42 = .ok (.aload_n 0, 1) := by decide +kernel
theorem dX8_item_43 : decode cX8_item 43 = .ok (.getfield 52, 3) := by decide +kernel
theorem dX8_item_46 : decode cX8_item 46 = .ok (.bipush 60, 2) := by decide +kernel
theorem dX8_item_48 : decode cX8_item 48 = .ok (.iload_n 1, 1) := by decide +kernel
theorem dX8_item_49 : decode cX8_item 49 = .ok (.imul, 1) := by decide +kernel
theorem dX8_item_50 : decode cX8_item 50 = .ok (.iload_n 2, 1) := by decide +kernel
theorem dX8_item_51 : decode cX8_item 51 = .ok (.iadd, 1) := by decide +kernel
theorem dX8_item_52 : decode cX8_item 52 = .ok (.aload_n 0, 1) := by decide +kernel
theorem dX8_item_53 : decode cX8_item 53 = .ok (.getfield 46, 3) := by decide +kernel
theorem dX8_item_56 : decode cX8_item 56 = .ok (.iload_n 1, 1) := by decide +kernel
theorem dX8_item_57 : decode cX8_item 57 = .ok (.iaload, 1) := by decide +kernel
theorem dX8_item_58 : decode cX8_item 58 = .ok (.lload_n 3, 1) := by decide +kernel
theorem dX8_item_59 : decode cX8_item 59 = .ok (.invokestatic 280, 3) := by decide +kernel
theorem dX8_item_62 : decode cX8_item 62 = .ok (.lastore, 1) := by decide +kernel
theorem dX8_item_63 : decode cX8_item 63 = .ok (.iconst 1, 1) := by decide +kernel
theorem dX8_item_64 : decode cX8_item 64 = .ok (.ireturn, 1) := by decide +kernel
theorem dX8_peek_0 : decode cX8_peek 0 = .ok (.iload_n 1, 1) := by decide +kernel
theorem dX8_peek_1 : decode cX8_peek 1 = .ok (.invokestatic 272, 3) := by decide +kernel
theorem dX8_peek_4 : decode cX8_peek 4 = .ok (.ifCond .eq 35, 3) := by decide +kernel
theorem dX8_peek_7 : decode cX8_peek 7 = .ok (.iload_n 2, 1) := by decide +kernel
theorem dX8_peek_8 : decode cX8_peek 8 = .ok (.i2l, 1) := by decide +kernel
theorem dX8_peek_9 : decode cX8_peek 9 = .ok (.lconst 0, 1) := by decide +kernel
theorem dX8_peek_10 : decode cX8_peek 10 = .ok (.aload_n 0, 1) := by decide +kernel
theorem dX8_peek_11 : decode cX8_peek 11 = .ok (.getfield 49, 3) := by decide +kernel
theorem dX8_peek_14 : decode cX8_peek 14 = .ok (.iload_n 1, 1) := by decide +kernel
theorem dX8_peek_15 : decode cX8_peek 15 = .ok (.iaload, 1) := by decide +kernel
theorem dX8_peek_16 : decode cX8_peek 16 = .ok (.iconst 1, 1) := by decide +kernel
theorem dX8_peek_17 : decode cX8_peek 17 = .ok (.isub, 1) := by decide +kernel
theorem dX8_peek_18 : decode cX8_peek 18 = .ok (.i2l, 1) := by decide +kernel
theorem dX8_peek_19 : decode cX8_peek 19 = .ok (.invokestatic 56, 3) := by decide +kernel
theorem dX8_peek_22 : decode cX8_peek 22 = .ok (.ifCond .eq 17, 3) := by decide +kernel
theorem dX8_peek_25 : decode cX8_peek 25 = .ok (.aload_n 0, 1) := by decide +kernel
theorem dX8_peek_26 : decode cX8_peek 26 = .ok (.getfield 52, 3) := by decide +kernel
theorem dX8_peek_29 : decode cX8_peek 29 = .ok (.bipush 60, 2) := by decide +kernel
theorem dX8_peek_31 : decode cX8_peek 31 = .ok (.iload_n 1, 1) := by decide +kernel
theorem dX8_peek_32 : decode cX8_peek 32 = .ok (.imul, 1) := by decide +kernel
theorem dX8_peek_33 : decode cX8_peek 33 = .ok (.iload_n 2, 1) := by decide +kernel
theorem dX8_peek_34 : decode cX8_peek 34 = .ok (.iadd, 1) := by decide +kernel
theorem dX8_peek_35 : decode cX8_peek 35 = .ok (.laload, 1) := by decide +kernel
theorem dX8_peek_36 : decode cX8_peek 36 = .ok (.goto 6, 3) := by decide +kernel
theorem dX8_peek_39 : decode cX8_peek 39 = .ok (.ldc2_w 250, 3) := by decide +kernel
theorem dX8_peek_42 : decode cX8_peek 42 = .ok (.lreturn, 1) := by decide +kernel
theorem dX8_shift_0 : decode cX8_shift 0 = .ok (.iload_n 1, 1) := by decide +kernel
theorem dX8_shift_1 : decode cX8_shift 1 = .ok (.invokestatic 272, 3) := by decide +kernel
theorem dX8_shift_4 : decode cX8_shift 4 = .ok (.ifCond .eq 10, 3) := by decide +kernel
theorem dX8_shift_7 : decode cX8_shift 7 = .ok (.iload_n 3, 1) := by decide +kernel
theorem dX8_shift_8 : decode cX8_shift 8 = .ok (.invokestatic 272, 3) := by decide +kernel
theorem dX8_shift_11 : decode cX8_shift 11 = .ok (.ifCond .ne 5, 3) := by decide +kernel
theorem dX8_shift_14 : decode cX8_shift 14 = .ok (.iconst (-1), 1) := by decide +kernel
theorem dX8_shift_15 : decode cX8_shift 15 = .ok (.ireturn, 1) := by decide +kernel
theorem dX8_shift_16 : decode cX8_shift 16 = .ok (.aload_n 0, 1) := by decide +kernel
theorem dX8_shift_17 : decode cX8_shift 17 = .ok (.getfield 46, 3) := by decide +kernel
theorem dX8_shift_20 : decode cX8_shift 20 = .ok (.iload_n 1, 1) := by decide +kernel
theorem dX8_shift_21 : decode cX8_shift 21 = .ok (.iaload, 1) := by decide +kernel
theorem dX8_shift_22 : decode cX8_shift 22 = .ok (.ifCond .lt 12, 3) := by decide +kernel
theorem dX8_shift_25 : decode cX8_shift 25 = .ok (.aload_n 0, 1) := by decide +kernel
theorem dX8_shift_26 : decode cX8_shift 26 = .ok (.getfield 46, 3) := by decide +kernel
theorem dX8_shift_29 : decode cX8_shift 29 = .ok (.iload_n 3, 1) := by decide +kernel
theorem dX8_shift_30 : decode cX8_shift 30 = .ok (.iaload, 1) := by decide +kernel
theorem dX8_shift_31 : decode cX8_shift 31 = .ok (.ifCond .ge 6, 3) := by decide +kernel
theorem dX8_shift_34 : decode cX8_shift 34 = .ok (.bipush (-11), 2) := by decide +kernel
theorem dX8_shift_36 : decode cX8_shift 36 = .ok (.ireturn, 1) := by decide +kernel
theorem dX8_shift_37 : decode cX8_shift 37 = .ok (.aload_n 0, 1) := by decide +kernel
theorem dX8_shift_38 : decode cX8_shift 38 = .ok (.getfield 46, 3) := by decide +kernel
theorem dX8_shift_41 : decode cX8_shift 41 = .ok (.iload_n 1, 1) := by decide +kernel
theorem dX8_shift_42 : decode cX8_shift 42 = .ok (.iaload, 1) := by decide +kernel
theorem dX8_shift_43 : decode cX8_shift 43 = .ok (.aload_n 0, 1) := by decide +kernel
theorem dX8_shift_44 : decode cX8_shift 44 = .ok (.getfield 46, 3) := by decide +kernel
theorem dX8_shift_47 : decode cX8_shift 47 = .ok (.iload_n 3, 1) := by decide +kernel
theorem dX8_shift_48 : decode cX8_shift 48 = .ok (.iaload, 1) := by decide +kernel
theorem dX8_shift_49 : decode cX8_shift 49 = .ok (.if_icmp .eq 6, 3) := by decide +kernel
theorem dX8_shift_52 : decode cX8_shift 52 = .ok (.bipush (-12), 2) := by decide +kernel
theorem dX8_shift_54 : decode cX8_shift 54 = .ok (.ireturn, 1) := by decide +kernel
theorem dX8_shift_55 : decode cX8_shift 55 = .ok (.iload 5, 2) := by decide +kernel
theorem dX8_shift_57 : decode cX8_shift 57 = .ok (.ifCond .lt 39, 3) := by decide +kernel
theorem dX8_shift_60 : decode cX8_shift 60 = .ok (.iload_n 2, 1) := by decide +kernel
theorem dX8_shift_61 : decode cX8_shift 61 = .ok (.ifCond .lt 35, 3) := by decide +kernel
theorem dX8_shift_64 : decode cX8_shift 64 = .ok (.iload 4, 2) := by decide +kernel
theorem dX8_shift_66 : decode cX8_shift 66 = .ok (.ifCond .lt 30, 3) := by decide +kernel
theorem dX8_shift_69 : decode cX8_shift 69 = .ok (.iload_n 2, 1) := by decide +kernel
theorem dX8_shift_70 : decode cX8_shift 70 = .ok (.aload_n 0, 1) := by decide +kernel
theorem dX8_shift_71 : decode cX8_shift 71 = .ok (.getfield 49, 3) := by decide +kernel
theorem dX8_shift_74 : decode cX8_shift 74 = .ok (.iload_n 1, 1) := by decide +kernel
theorem dX8_shift_75 : decode cX8_shift 75 = .ok (.iaload, 1) := by decide +kernel
theorem dX8_shift_76 : decode cX8_shift 76 = .ok (.iload 5, 2) := by decide +kernel
theorem dX8_shift_78 : decode cX8_shift 78 = .ok (.isub, 1) := by decide +kernel
theorem dX8_shift_79 : decode cX8_shift 79 = .ok (.if_icmp .gt 17, 3) := by decide +kernel
theorem dX8_shift_82 : decode cX8_shift 82 = .ok (.iload 4, 2) := by decide +kernel
theorem dX8_shift_84 : decode cX8_shift 84 = .ok (.aload_n 0, 1) := by decide +kernel
theorem dX8_shift_85 : decode cX8_shift 85 = .ok (.getfield 49, 3) := by decide +kernel
theorem dX8_shift_88 : decode cX8_shift 88 = .ok (.iload_n 3, 1) := by decide +kernel
theorem dX8_shift_89 : decode cX8_shift 89 = .ok (.iaload, 1) := by decide +kernel
theorem dX8_shift_90 : decode cX8_shift 90 = .ok (.iload 5, 2) := by decide +kernel
theorem dX8_shift_92 : decode cX8_shift 92 = .ok (.isub, 1) := by decide +kernel
theorem dX8_shift_93 : decode cX8_shift 93 = .ok (.if_icmp .le 6, 3) := by decide +kernel
theorem dX8_shift_96 : decode cX8_shift 96 = .ok (.bipush (-13), 2) := by decide +kernel
theorem dX8_shift_98 : decode cX8_shift 98 = .ok (.ireturn, 1) := by decide +kernel
theorem dX8_shift_99 : decode cX8_shift 99 = .ok (.iconst 0, 1) := by decide +kernel
theorem dX8_shift_100 : decode cX8_shift 100 = .ok (.istore 6, 2) := by decide +kernel
theorem dX8_shift_102 : decode cX8_shift 102 = .ok (.iload 6, 2) := by decide +kernel
theorem dX8_shift_104 : decode cX8_shift 104 = .ok (.iload 5, 2) := by decide +kernel
theorem dX8_shift_106 : decode cX8_shift 106 = .ok (.if_icmp .ge 58, 3) := by decide +kernel
theorem dX8_shift_109 : decode cX8_shift 109 = .ok (.iload_n 2, 1) := by decide +kernel
theorem dX8_shift_110 : decode cX8_shift 110 = .ok (.iload 4, 2) := by decide +kernel
theorem dX8_shift_112 : decode cX8_shift 112 = .ok (.if_icmp .ge 13, 3) := by decide +kernel
theorem dX8_shift_115 : decode cX8_shift 115 = .ok (.iload 5, 2) := by decide +kernel
theorem dX8_shift_117 : decode cX8_shift 117 = .ok (.iconst 1, 1) := by decide +kernel
theorem dX8_shift_118 : decode cX8_shift 118 = .ok (.isub, 1) := by decide +kernel
theorem dX8_shift_119 : decode cX8_shift 119 = .ok (.iload 6, 2) := by decide +kernel
theorem dX8_shift_121 : decode cX8_shift 121 = .ok (.isub, 1) := by decide +kernel
theorem dX8_shift_122 : decode cX8_shift 122 = .ok (.goto 5, 3) := by decide +kernel
theorem dX8_shift_125 : decode cX8_shift 125 = .ok (.iload 6, 2) := by decide +kernel
theorem dX8_shift_127 : decode cX8_shift 127 = .ok (.istore 7, 2) := by decide +kernel
theorem dX8_shift_129 : decode cX8_shift 129 = .ok (.aload_n 0, 1) := by decide +kernel
theorem dX8_shift_130 : decode cX8_shift 130 = .ok (.getfield 52, 3) := by decide +kernel
theorem dX8_shift_133 : decode cX8_shift 133 = .ok (.bipush 60, 2) := by decide +kernel
theorem dX8_shift_135 : decode cX8_shift 135 = .ok (.iload_n 3, 1) := by decide +kernel
theorem dX8_shift_136 : decode cX8_shift 136 = .ok (.imul, 1) := by decide +kernel
theorem dX8_shift_137 : decode cX8_shift 137 = .ok (.iload 4, 2) := by decide +kernel
theorem dX8_shift_139 : decode cX8_shift 139 = .ok (.iadd, 1) := by decide +kernel
theorem dX8_shift_140 : decode cX8_shift 140 = .ok (.iload 7, 2) := by decide +kernel
theorem dX8_shift_142 : decode cX8_shift 142 = .ok (.iadd, 1) := by decide +kernel
theorem dX8_shift_143 : decode cX8_shift 143 = .ok (.aload_n 0, 1) := by decide +kernel
theorem dX8_shift_144 : decode cX8_shift 144 = .ok (.getfield 52, 3) := by decide +kernel
theorem dX8_shift_147 : decode cX8_shift 147 = .ok (.bipush 60, 2) := by decide +kernel
theorem dX8_shift_149 : decode cX8_shift 149 = .ok (.iload_n 1, 1) := by decide +kernel
theorem dX8_shift_150 : decode cX8_shift 150 = .ok (.imul, 1) := by decide +kernel
theorem dX8_shift_151 : decode cX8_shift 151 = .ok (.iload_n 2, 1) := by decide +kernel
theorem dX8_shift_152 : decode cX8_shift 152 = .ok (.iadd, 1) := by decide +kernel
theorem dX8_shift_153 : decode cX8_shift 153 = .ok (.iload 7, 2) := by decide +kernel
theorem dX8_shift_155 : decode cX8_shift 155 = .ok (.iadd, 1) := by decide +kernel
theorem dX8_shift_156 : decode cX8_shift 156 = .ok (.laload, 1) := by decide +kernel
theorem dX8_shift_157 : decode cX8_shift 157 = .ok (.lastore, 1) := by decide +kernel
theorem dX8_shift_158 : decode cX8_shift 158 = .ok (.iinc 6 1, 3) := by decide +kernel
theorem dX8_shift_161 : decode cX8_shift 161 = .ok (.goto (-59), 3) := by decide +kernel
theorem dX8_shift_164 : decode cX8_shift 164 = .ok (.iload 5, 2) := by decide +kernel
theorem dX8_shift_166 : decode cX8_shift 166 = .ok (.ireturn, 1) := by decide +kernel
