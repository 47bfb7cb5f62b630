theorem dX1_isMove_0 : decode cX1_isMove 0 = .ok (.iload_n 0, 1) := by decide +kernel
theorem dX1_isMove_1 : decode cX1_isMove 1 = .ok (.ifCond .lt 13, 3) := by decide +kernel
theorem dX1_isMove_4 : decode cX1_isMove 4 = .ok (.iload_n 0, 1) := by decide +kernel
theorem dX1_isMove_5 : decode cX1_isMove 5 = .ok (.bipush 48, 2) := by decide +kernel
theorem dX1_isMove_7 : decode cX1_isMove 7 = .ok (.if_icmp .ge 7, 3) := by decide +kernel
theorem dX1_isMove_10 : decode cX1_isMove 10 = .ok (.iconst 1, 1) := by decide +kernel
theorem dX1_isMove_11 : decode cX1_isMove 11 = .ok (.goto 4, 3) := by decide +kernel
theorem dX1_isMove_14 : decode cX1_isMove 14 = .ok (.iconst 0, 1) := by decide +kernel
theorem dX1_isMove_15 : decode cX1_isMove 15 = .ok (.ireturn, 1) := by decide +kernel
theorem dX1_axisAt_0 : decode cX1_axisAt 0 = .ok (.getstatic 9, 3) := by decide +kernel
theorem dX1_axisAt_3 : decode cX1_axisAt 3 = .ok (.iconst 3, 1) := by decide +kernel
theorem dX1_axisAt_4 : decode cX1_axisAt 4 = .ok (.iload_n 0, 1) := by decide +kernel
theorem dX1_axisAt_5 : decode cX1_axisAt 5 = .ok (.bipush 8, 2) := by decide +kernel
theorem dX1_axisAt_7 : decode cX1_axisAt 7 = .ok (.idiv, 1) := by decide +kernel
theorem dX1_axisAt_8 : decode cX1_axisAt 8 = .ok (.imul, 1) := by decide +kernel
theorem dX1_axisAt_9 : decode cX1_axisAt 9 = .ok (.iload_n 1, 1) := by decide +kernel
theorem dX1_axisAt_10 : decode cX1_axisAt 10 = .ok (.iadd, 1) := by decide +kernel
theorem dX1_axisAt_11 : decode cX1_axisAt 11 = .ok (.iaload, 1) := by decide +kernel
theorem dX1_axisAt_12 : decode cX1_axisAt 12 = .ok (.ireturn, 1) := by decide +kernel
theorem dX1_signBit_0 : decode cX1_signBit 0 = .ok (.iload_n 0, 1) := by decide +kernel
theorem dX1_signBit_1 : decode cX1_signBit 1 = .ok (.iload_n 1, 1) := by decide +kernel
theorem dX1_signBit_2 : decode cX1_signBit 2 = .ok (.ishr, 1) := by decide +kernel
theorem dX1_signBit_3 : decode cX1_signBit 3 = .ok (.iconst 1, 1) := by decide +kernel
theorem dX1_signBit_4 : decode cX1_signBit 4 = .ok (.iand, 1) := by decide +kernel
theorem dX1_signBit_5 : decode cX1_signBit 5 = .ok (.ireturn, 1) := by decide +kernel
theorem dX1_multiply_0 : decode cX1_multiply 0 = .ok (.iconst 0, 1) := by decide +kernel
theorem dX1_multiply_1 : decode cX1_multiply 1 = .ok (.istore_n 2, 1) := by decide +kernel
theorem dX1_multiply_2 : decode cX1_multiply 2 = .ok (.iconst 0, 1) := by decide +kernel
theorem dX1_multiply_3 : decode cX1_multiply 3 = .ok (.istore_n 3, 1) := by decide +kernel
theorem dX1_multiply_4 : decode cX1_multiply 4 = .ok (.iload_n 3, 1) := by decide +kernel
theorem dX1_multiply_5 : decode cX1_multiply 5 = .ok (.iconst 3, 1) := by decide +kernel
theorem dX1_multiply_6 : decode cX1_multiply 6 = .ok (.if_icmp .ge 29, 3) := by decide +kernel
theorem dX1_multiply_9 : decode cX1_multiply 9 = .ok (.iload_n 2, 1) := by decide +kernel
theorem dX1_multiply_10 : decode cX1_multiply 10 = .ok (.iload_n 0, 1) := by decide +kernel
theorem dX1_multiply_11 : decode cX1_multiply 11 = .ok (.iload_n 3, 1) := by decide +kernel
theorem dX1_multiply_12 : decode cX1_multiply 12 = .ok (.invokestatic 13, 3) := by decide +kernel
theorem dX1_multiply_15 : decode cX1_multiply 15 = .ok (.iload_n 1, 1) := by decide +kernel
theorem dX1_multiply_16 : decode cX1_multiply 16 = .ok (.iload_n 0, 1) := by decide +kernel
theorem dX1_multiply_17 : decode cX1_multiply 17 = .ok (.iload_n 3, 1) := by decide +kernel
theorem dX1_multiply_18 : decode cX1_multiply 18 = .ok (.invokestatic 17, 3) := by decide +kernel
theorem dX1_multiply_21 : decode cX1_multiply 21 = .ok (.invokestatic 13, 3) := by decide +kernel
theorem dX1_multiply_24 : decode cX1_multiply 24 = .ok (.ixor, 1) := by decide +kernel
theorem dX1_multiply_25 : decode cX1_multiply 25 = .ok (.iload_n 3, 1) := by decide +kernel
theorem dX1_multiply_26 : decode cX1_multiply 26 = .ok (.ishl, 1) := by decide +kernel
theorem dX1_multiply_27 : decode cX1_multiply 27 = .ok (.ior, 1) := by decide +kernel
theorem dX1_multiply_28 : decode cX1_multiply 28 = .ok (.istore_n 2, 1) := by decide +kernel
theorem dX1_multiply_29 : decode cX1_multiply 29 = .ok (.iinc 3 1, 3) := by decide +kernel
theorem dX1_multiply_32 : decode cX1_multiply 32 = .ok (.goto (-28), 3) := by decide +kernel
theorem dX1_multiply_35 : decode cX1_multiply 35 = .ok (.iload_n 1, 1) := by decide +kernel
theorem dX1_multiply_36 : decode cX1_multiply 36 = .ok (.iload_n 0, 1) := by decide +kernel
theorem dX1_multiply_37 : decode cX1_multiply 37 = .ok (.iconst 0, 1) := by decide +kernel
theorem dX1_multiply_38 : decode cX1_multiply 38 = .ok (.invokestatic 17, 3) := by decide +kernel
theorem dX1_multiply_41 : decode cX1_multiply 41 = .ok (.invokestatic 17, 3) := by decide +kernel
theorem dX1_multiply_44 : decode cX1_multiply 44 = .ok (.istore_n 3, 1) := by decide +kernel
theorem dX1_multiply_45 : decode cX1_multiply 45 = .ok (.iload_n 1, 1) := by decide +kernel
theorem dX1_multiply_46 : decode cX1_multiply 46 = .ok (.iload_n 0, 1) := by decide +kernel
theorem dX1_multiply_47 : decode cX1_multiply 47 = .ok (.iconst 1, 1) := by decide +kernel
theorem dX1_multiply_48 : decode cX1_multiply 48 = .ok (.invokestatic 17, 3) := by decide +kernel
theorem dX1_multiply_51 : decode cX1_multiply 51 = .ok (.invokestatic 17, 3) := by decide +kernel
theorem dX1_multiply_54 : decode cX1_multiply 54 = .ok (.istore 4, 2) := by decide +kernel
theorem dX1_multiply_56 : decode cX1_multiply 56 = .ok (.iload_n 1, 1) := by decide +kernel
theorem dX1_multiply_57 : decode cX1_multiply 57 = .ok (.iload_n 0, 1) := by decide +kernel
theorem dX1_multiply_58 : decode cX1_multiply 58 = .ok (.iconst 2, 1) := by decide +kernel
theorem dX1_multiply_59 : decode cX1_multiply 59 = .ok (.invokestatic 17, 3) := by decide +kernel
theorem dX1_multiply_62 : decode cX1_multiply 62 = .ok (.invokestatic 17, 3) := by decide +kernel
theorem dX1_multiply_65 : decode cX1_multiply 65 = .ok (.istore 5, 2) := by decide +kernel
theorem dX1_multiply_67 : decode cX1_multiply 67 = .ok (.iconst 2, 1) := by decide +kernel
theorem dX1_multiply_68 : decode cX1_multiply 68 = .ok (.iload_n 3, 1) := by decide +kernel
theorem dX1_multiply_69 : decode cX1_multiply 69 = .ok (.imul, 1) := by decide +kernel
theorem dX1_multiply_70 : decode cX1_multiply 70 = .ok (.iload 4, 2) := by decide +kernel
theorem dX1_multiply_72 : decode cX1_multiply 72 = .ok (.iload 5, 2) := by decide +kernel
theorem dX1_multiply_74 : decode cX1_multiply 74 = .ok (.if_icmp .le 7, 3) := by decide +kernel
theorem dX1_multiply_77 : decode cX1_multiply 77 = .ok (.iconst 1, 1) := by decide +kernel
theorem dX1_multiply_78 : decode cX1_multiply 78 = .ok (.goto 4, 3) := by decide +kernel
theorem dX1_multiply_81 : decode cX1_multiply 81 = .ok (.iconst 0, 1) := by decide +kernel
theorem dX1_multiply_82 : decode cX1_multiply 82 = .ok (.iadd, 1) := by decide +kernel
theorem dX1_multiply_83 : decode cX1_multiply 83 = .ok (.istore 6, 2) := by decide +kernel
theorem dX1_multiply_85 : decode cX1_multiply 85 = .ok (.bipush 8, 2) := by decide +kernel
theorem dX1_multiply_87 : decode cX1_multiply 87 = .ok (.iload 6, 2) := by decide +kernel
theorem dX1_multiply_89 : decode cX1_multiply 89 = .ok (.imul, 1) := by decide +kernel
theorem dX1_multiply_90 : decode cX1_multiply 90 = .ok (.iload_n 2, 1) := by decide +kernel
theorem dX1_multiply_91 : decode cX1_multiply 91 = .ok (.iadd, 1) := by decide +kernel
theorem dX1_multiply_92 : decode cX1_multiply 92 = .ok (.ireturn, 1) := by decide +kernel
theorem dX1_invert_0 : decode cX1_invert 0 = .ok (.iconst 0, 1) := by decide +kernel
theorem dX1_invert_1 : decode cX1_invert 1 = .ok (.istore_n 1, 1) := by decide +kernel
theorem dX1_invert_2 : decode cX1_invert 2 = .ok (.iconst 0, 1) := by decide +kernel
theorem dX1_invert_3 : decode cX1_invert 3 = .ok (.istore_n 2, 1) := by decide +kernel
theorem dX1_invert_4 : decode cX1_invert 4 = .ok (.iload_n 2, 1) := by decide +kernel
theorem dX1_invert_5 : decode cX1_invert 5 = .ok (.iconst 3, 1) := by decide +kernel
theorem dX1_invert_6 : decode cX1_invert 6 = .ok (.if_icmp .ge 23, 3) := by decide +kernel
theorem dX1_invert_9 : decode cX1_invert 9 = .ok (.iload_n 1, 1) := by decide +kernel
theorem dX1_invert_10 : decode cX1_invert 10 = .ok (.iload_n 0, 1) := by decide +kernel
theorem dX1_invert_11 : decode cX1_invert 11 = .ok (.iload_n 2, 1) := by decide +kernel
theorem dX1_invert_12 : decode cX1_invert 12 = .ok (.invokestatic 13, 3) := by decide +kernel
theorem dX1_invert_15 : decode cX1_invert 15 = .ok (.iload_n 0, 1) := by decide +kernel
theorem dX1_invert_16 : decode cX1_invert 16 = .ok (.iload_n 2, 1) := by decide +kernel
theorem dX1_invert_17 : decode cX1_invert 17 = .ok (.invokestatic 17, 3) := by decide +kernel
theorem dX1_invert_20 : decode cX1_invert 20 = .ok (.ishl, 1) := by decide +kernel
theorem dX1_invert_21 : decode cX1_invert 21 = .ok (.ior, 1) := by decide +kernel
theorem dX1_invert_22 : decode cX1_invert 22 = .ok (.istore_n 1, 1) := by decide +kernel
theorem dX1_invert_23 : decode cX1_invert 23 = .ok (.iinc 2 1, 3) := by decide +kernel
theorem dX1_invert_26 : decode cX1_invert 26 = .ok (.goto (-22), 3) := by decide +kernel
theorem dX1_invert_29 : decode cX1_invert 29 = .ok (.bipush 8, 2) := by decide +kernel
theorem dX1_invert_31 : decode cX1_invert 31 = .ok (.getstatic 20, 3) := by decide +kernel
theorem dX1_invert_34 : decode cX1_invert 34 = .ok (.iload_n 0, 1) := by decide +kernel
theorem dX1_invert_35 : decode cX1_invert 35 = .ok (.bipush 8, 2) := by decide +kernel
theorem dX1_invert_37 : decode cX1_invert 37 = .ok (.idiv, 1) := by decide +kernel
theorem dX1_invert_38 : decode cX1_invert 38 = .ok (.iaload, 1) := by decide +kernel
theorem dX1_invert_39 : decode cX1_invert 39 = .ok (.imul, 1) := by decide +kernel
theorem dX1_invert_40 : decode cX1_invert 40 = .ok (.iload_n 1, 1) := by decide +kernel
theorem dX1_invert_41 : decode cX1_invert 41 = .ok (.iadd, 1) := by decide +kernel
theorem dX1_invert_42 : decode cX1_invert 42 = .ok (.ireturn, 1) := by decide +kernel
theorem dX1_orderOf_0 : decode cX1_orderOf 0 = .ok (.iconst 1, 1) := by decide +kernel
theorem dX1_orderOf_1 : decode cX1_orderOf 1 = .ok (.istore_n 1, 1) := by decide +kernel
theorem dX1_orderOf_2 : decode cX1_orderOf 2 = .ok (.iload_n 0, 1) := by decide +kernel
theorem dX1_orderOf_3 : decode cX1_orderOf 3 = .ok (.istore_n 2, 1) := by decide +kernel
theorem dX1_orderOf_4 : decode cX1_orderOf 4 = .ok (.iload_n 2, 1) := by decide +kernel
theorem dX1_orderOf_5 : decode cX1_orderOf 5 = .ok (.ifCond .eq 21, 3) := by decide +kernel
theorem dX1_orderOf_8 : decode cX1_orderOf 8 = .ok (.iload_n 1, 1) := by decide +kernel
theorem dX1_orderOf_9 : decode cX1_orderOf 9 = .ok (.bipush 6, 2) := by decide +kernel
theorem dX1_orderOf_11 : decode cX1_orderOf 11 = .ok (.if_icmp .ge 15, 3) := by decide +kernel
theorem dX1_orderOf_14 : decode cX1_orderOf 14 = .ok (.iload_n 0, 1) := by decide +kernel
theorem dX1_orderOf_15 : decode cX1_orderOf 15 = .ok (.iload_n 2, 1) := by decide +kernel
theorem dX1_orderOf_16 : decode cX1_orderOf 16 = .ok (.invokestatic 23, 3) := by decide +kernel
theorem dX1_orderOf_19 : decode cX1_orderOf 19 = .ok (.istore_n 2, 1) := by decide +kernel
theorem dX1_orderOf_20 : decode cX1_orderOf 20 = .ok (.iinc 1 1, 3) := by decide +kernel
theorem dX1_orderOf_23 : decode cX1_orderOf 23 = .ok (.goto (-19), 3) := by decide +kernel
theorem dX1_orderOf_26 : decode cX1_orderOf 26 = .ok (.iload_n 1, 1) := by decide +kernel
theorem dX1_orderOf_27 : decode cX1_orderOf 27 = .ok (.ireturn, 1) := by decide +kernel
theorem dX1_traceOf_0 : decode cX1_traceOf 0 = .ok (.iconst 0, 1) := by decide +kernel
theorem dX1_traceOf_1 : decode cX1_traceOf 1 = .ok (.istore_n 1, 1) := by decide +kernel
theorem dX1_traceOf_2 : decode cX1_traceOf 2 = .ok (.iconst 0, 1) := by decide +kernel
theorem dX1_traceOf_3 : decode cX1_traceOf 3 = .ok (.istore_n 2, 1) := by decide +kernel
theorem dX1_traceOf_4 : decode cX1_traceOf 4 = .ok (.iload_n 2, 1) := by decide +kernel
theorem dX1_traceOf_5 : decode cX1_traceOf 5 = .ok (.iconst 3, 1) := by decide +kernel
theorem dX1_traceOf_6 : decode cX1_traceOf 6 = .ok (.if_icmp .ge 30, 3) := by decide +kernel
theorem dX1_traceOf_9 : decode cX1_traceOf 9 = .ok (.iload_n 0, 1) := by decide +kernel
theorem dX1_traceOf_10 : decode cX1_traceOf 10 = .ok (.iload_n 2, 1) := by decide +kernel
theorem dX1_traceOf_11 : decode cX1_traceOf 11 = .ok (.invokestatic 17, 3) := by decide +kernel
theorem dX1_traceOf_14 : decode cX1_traceOf 14 = .ok (.iload_n 2, 1) := by decide +kernel
theorem dX1_traceOf_15 : decode cX1_traceOf 15 = .ok (.if_icmp .ne 15, 3) := by decide +kernel
theorem dX1_traceOf_18 : decode cX1_traceOf 18 = .ok (.iload_n 1, 1) := by decide +kernel
theorem dX1_traceOf_19 : decode cX1_traceOf 19 = .ok (.iconst 1, 1) := by decide +kernel
theorem dX1_traceOf_20 : decode cX1_traceOf 20 = .ok (.iconst 2, 1) := by decide +kernel
theorem dX1_traceOf_21 : decode cX1_traceOf 21 = .ok (.iload_n 0, 1) := by decide +kernel
theorem dX1_traceOf_22 : decode cX1_traceOf 22 = .ok (.iload_n 2, 1) := by decide +kernel
theorem dX1_traceOf_23 : decode cX1_traceOf 23 = .ok (.invokestatic 13, 3) := by decide +kernel
theorem dX1_traceOf_26 : decode cX1_traceOf 26 = .ok (.imul, 1) := by decide +kernel
theorem dX1_traceOf_27 : decode cX1_traceOf 27 = .ok (.isub, 1) := by decide +kernel
theorem dX1_traceOf_28 : decode cX1_traceOf 28 = .ok (.iadd, 1) := by decide +kernel
theorem dX1_traceOf_29 : decode cX1_traceOf 29 = .ok (.istore_n 1, 1) := by decide +kernel
theorem dX1_traceOf_30 : decode cX1_traceOf 30 = .ok (.iinc 2 1, 3) := by decide +kernel
theorem dX1_traceOf_33 : decode cX1_traceOf 33 = .ok (.goto (-29), 3) := by decide +kernel
theorem dX1_traceOf_36 : decode cX1_traceOf 36 = .ok (.iload_n 1, 1) := by decide +kernel
theorem dX1_traceOf_37 : decode cX1_traceOf 37 = .ok (.ireturn, 1) := by decide +kernel
theorem dX1_turnOf_0 : decode cX1_turnOf 0 = .ok (.getstatic 26, 3) := by decide +kernel
theorem dX1_turnOf_3 : decode cX1_turnOf 3 = .ok (.iload_n 0, 1) := by decide +kernel
theorem dX1_turnOf_4 : decode cX1_turnOf 4 = .ok (.bipush 8, 2) := by decide +kernel
theorem dX1_turnOf_6 : decode cX1_turnOf 6 = .ok (.idiv, 1) := by decide +kernel
theorem dX1_turnOf_7 : decode cX1_turnOf 7 = .ok (.iaload, 1) := by decide +kernel
theorem dX1_turnOf_8 : decode cX1_turnOf 8 = .ok (.istore_n 1, 1) := by decide +kernel
theorem dX1_turnOf_9 : decode cX1_turnOf 9 = .ok (.iload_n 0, 1) := by decide +kernel
theorem dX1_turnOf_10 : decode cX1_turnOf 10 = .ok (.bipush 8, 2) := by decide +kernel
theorem dX1_turnOf_12 : decode cX1_turnOf 12 = .ok (.irem, 1) := by decide +kernel
theorem dX1_turnOf_13 : decode cX1_turnOf 13 = .ok (.invokestatic 29, 3) := by decide +kernel
theorem dX1_turnOf_16 : decode cX1_turnOf 16 = .ok (.iconst 2, 1) := by decide +kernel
theorem dX1_turnOf_17 : decode cX1_turnOf 17 = .ok (.irem, 1) := by decide +kernel
theorem dX1_turnOf_18 : decode cX1_turnOf 18 = .ok (.ifCond .ne 7, 3) := by decide +kernel
theorem dX1_turnOf_21 : decode cX1_turnOf 21 = .ok (.iload_n 1, 1) := by decide +kernel
theorem dX1_turnOf_22 : decode cX1_turnOf 22 = .ok (.goto 5, 3) := by decide +kernel
theorem dX1_turnOf_25 : decode cX1_turnOf 25 = .ok (.iload_n 1, 1) := by decide +kernel
theorem dX1_turnOf_26 : decode cX1_turnOf 26 = .ok (.ineg, 1) := by decide +kernel
theorem dX1_turnOf_27 : decode cX1_turnOf 27 = .ok (.ireturn, 1) := by decide +kernel
theorem dX2_init_0 : decode cX2_init 0 = .ok (.aload_n 0, 1) := by decide +kernel
theorem dX2_init_1 : decode cX2_init 1 = .ok (.invokespecial 1, 3) := by decide +kernel
theorem dX2_init_4 : decode cX2_init 4 = .ok (.aload_n 0, 1) := by decide +kernel
theorem dX2_init_5 : decode cX2_init 5 = .ok (.iconst 0, 1) := by decide +kernel
theorem dX2_init_6 : decode cX2_init 6 = .ok (.putfield 7, 3) := by decide +kernel
theorem dX2_init_9 : decode cX2_init 9 = .ok (.aload_n 0, 1) := by decide +kernel
theorem dX2_init_10 : decode cX2_init 10 = .ok (.iload_n 1, 1) := by decide +kernel
theorem dX2_init_11 : decode cX2_init 11 = .ok (.newarray .int, 2) := by decide +kernel
theorem dX2_init_13 : decode cX2_init 13 = .ok (.putfield 13, 3) := by decide +kernel
theorem dX2_init_16 : decode cX2_init 16 = .ok (.aload_n 0, 1) := by decide +kernel
theorem dX2_init_17 : decode cX2_init 17 = .ok (.iload_n 1, 1) := by decide +kernel
theorem dX2_init_18 : decode cX2_init 18 = .ok (.newarray .int, 2) := by decide +kernel
theorem dX2_init_20 : decode cX2_init 20 = .ok (.putfield 17, 3) := by decide +kernel
theorem dX2_init_23 : decode cX2_init 23 = .ok (.return_, 1) := by decide +kernel
theorem dX2_isFull_0 : decode cX2_isFull 0 = .ok (.aload_n 0, 1) := by decide +kernel
theorem dX2_isFull_1 : decode cX2_isFull 1 = .ok (.getfield 7, 3) := by decide +kernel
theorem dX2_isFull_4 : decode cX2_isFull 4 = .ok (.aload_n 0, 1) := by decide +kernel
theorem dX2_isFull_5 : decode cX2_isFull 5 = .ok (.getfield 13, 3) := by decide +kernel
theorem dX2_isFull_8 : decode cX2_isFull 8 = .ok (.arraylength, 1) := by decide +kernel
theorem dX2_isFull_9 : decode cX2_isFull 9 = .ok (.if_icmp .ne 7, 3) := by decide +kernel
theorem dX2_isFull_12 : decode cX2_isFull 12 = .ok (.iconst 1, 1) := by decide +kernel
theorem dX2_isFull_13 : decode cX2_isFull 13 = .ok (.goto 4, 3) := by decide +kernel
theorem dX2_isFull_16 : decode cX2_isFull 16 = .ok (.iconst 0, 1) := by decide +kernel
theorem dX2_isFull_17 : decode cX2_isFull 17 = .ok (.ireturn, 1) := by decide +kernel
theorem dX2_add_0 : decode cX2_add 0 = .ok (.aload_n 0, 1) := by decide +kernel
theorem dX2_add_1 : decode cX2_add 1 = .ok (.getfield 13, 3) := by decide +kernel
theorem dX2_add_4 : decode cX2_add 4 = .ok (.aload_n 0, 1) := by decide +kernel
theorem dX2_add_5 : decode cX2_add 5 = .ok (.getfield 7, 3) := by decide +kernel
theorem dX2_add_8 : decode cX2_add 8 = .ok (.iload_n 1, 1) := by decide +kernel
theorem dX2_add_9 : decode cX2_add 9 = .ok (.iastore, 1) := by decide +kernel
theorem dX2_add_10 : decode cX2_add 10 = .ok (.aload_n 0, 1) := by decide +kernel
theorem dX2_add_11 : decode cX2_add 11 = .ok (.getfield 17, 3) := by decide +kernel
theorem dX2_add_14 : decode cX2_add 14 = .ok (.aload_n 0, 1) := by decide +kernel
theorem dX2_add_15 : decode cX2_add 15 = .ok (.getfield 7, 3) := by decide +kernel
theorem dX2_add_18 : decode cX2_add 18 = .ok (.iload_n 2, 1) := by decide +kernel
theorem dX2_add_19 : decode cX2_add 19 = .ok (.iastore, 1) := by decide +kernel
theorem dX2_add_20 : decode cX2_add 20 = .ok (.aload_n 0, 1) := by decide +kernel
theorem dX2_add_21 : decode cX2_add 21 = .ok (.dup, 1) := by decide +kernel
theorem dX2_add_22 : decode cX2_add 22 = .ok (.getfield 7, 3) := by decide +kernel
theorem dX2_add_25 : decode cX2_add 25 = .ok (.iconst 1, 1) := by decide +kernel
theorem dX2_add_26 : decode cX2_add 26 = .ok (.iadd, 1) := by decide +kernel
theorem dX2_add_27 : decode cX2_add 27 = .ok (.putfield 7, 3) := by decide +kernel
theorem dX2_add_30 : decode cX2_add 30 = .ok (.aload_n 0, 1) := by decide +kernel
theorem dX2_add_31 : decode cX2_add 31 = .ok (.getfield 7, 3) := by decide +kernel
theorem dX2_add_34 : decode cX2_add 34 = .ok (.ireturn, 1) := by decide +kernel
theorem dX2_empty_0 : decode cX2_empty 0 = .ok (.aload_n 0, 1) := by decide +kernel
theorem dX2_empty_1 : decode cX2_empty 1 = .ok (.iconst 0, 1) := by decide +kernel
theorem dX2_empty_2 : decode cX2_empty 2 = .ok (.putfield 7, 3) := by decide +kernel
theorem dX2_empty_5 : decode cX2_empty 5 = .ok (.iconst 0, 1) := by decide +kernel
theorem dX2_empty_6 : decode cX2_empty 6 = .ok (.ireturn, 1) := by decide +kernel
theorem dX2_become_0 : decode cX2_become 0 = .ok (.aload_n 1, 1) := by decide +kernel
theorem dX2_become_1 : decode cX2_become 1 = .ok (.getfield 13, 3) := by decide +kernel
theorem dX2_become_4 : decode cX2_become 4 = .ok (.iconst 0, 1) := by decide +kernel
theorem dX2_become_5 : decode cX2_become 5 = .ok (.aload_n 0, 1) := by decide +kernel
theorem dX2_become_6 : decode cX2_become 6 = .ok (.getfield 13, 3) := by decide +kernel
theorem dX2_become_9 : decode cX2_become 9 = .ok (.iconst 0, 1) := by decide +kernel
theorem dX2_become_10 : decode cX2_become 10 = .ok (.aload_n 1, 1) := by decide +kernel
theorem dX2_become_11 : decode cX2_become 11 = .ok (.getfield 7, 3) := by decide +kernel
theorem dX2_become_14 : decode cX2_become 14 = .ok (.invokestatic 20, 3) := by decide +kernel
theorem dX2_become_17 : decode cX2_become 17 = .ok (.aload_n 1, 1) := by decide +kernel
theorem dX2_become_18 : decode cX2_become 18 = .ok (.getfield 17, 3) := by decide +kernel
theorem dX2_become_21 : decode cX2_become 21 = .ok (.iconst 0, 1) := by decide +kernel
theorem dX2_become_22 : decode cX2_become 22 = .ok (.aload_n 0, 1) := by decide +kernel
theorem dX2_become_23 : decode cX2_become 23 = .ok (.getfield 17, 3) := by decide +kernel
theorem dX2_become_26 : decode cX2_become 26 = .ok (.iconst 0, 1) := by decide +kernel
theorem dX2_become_27 : decode cX2_become 27 = .ok (.aload_n 1, 1) := by decide +kernel
theorem dX2_become_28 : decode cX2_become 28 = .ok (.getfield 7, 3) := by decide +kernel
theorem dX2_become_31 : decode cX2_become 31 = .ok (.invokestatic 20, 3) := by decide +kernel
theorem dX2_become_34 : decode cX2_become 34 = .ok (.aload_n 0, 1) := by decide +kernel
theorem dX2_become_35 : decode cX2_become 35 = .ok (.aload_n 1, 1) := by decide +kernel
theorem dX2_become_36 : decode cX2_become 36 = .ok (.getfield 7, 3) := by decide +kernel
theorem dX2_become_39 : decode cX2_become 39 = .ok (.putfield 7, 3) := by decide +kernel
theorem dX2_become_42 : decode cX2_become 42 = .ok (.return_, 1) := by decide +kernel
theorem dX3_init_0 : decode cX3_init 0 = .ok (.aload_n 0, 1) := by decide +kernel
theorem dX3_init_1 : decode cX3_init 1 = .ok (.invokespecial 1, 3) := by decide +kernel
theorem dX3_init_4 : decode cX3_init 4 = .ok (.aload_n 0, 1) := by decide +kernel
theorem dX3_init_5 : decode cX3_init 5 = .ok (.new 7, 3) := by decide +kernel
theorem dX3_init_8 : decode cX3_init 8 = .ok (.dup, 1) := by decide +kernel
theorem dX3_init_9 : decode cX3_init 9 = .ok (.invokespecial 9, 3) := by decide +kernel
theorem dX3_init_12 : decode cX3_init 12 = .ok (.putfield 10, 3) := by decide +kernel
theorem dX3_init_15 : decode cX3_init 15 = .ok (.aload_n 0, 1) := by decide +kernel
theorem dX3_init_16 : decode cX3_init 16 = .ok (.new 16, 3) := by decide +kernel
theorem dX3_init_19 : decode cX3_init 19 = .ok (.dup, 1) := by decide +kernel
theorem dX3_init_20 : decode cX3_init 20 = .ok (.iconst 5, 1) := by decide +kernel
theorem dX3_init_21 : decode cX3_init 21 = .ok (.invokespecial 18, 3) := by decide +kernel
theorem dX3_init_24 : decode cX3_init 24 = .ok (.putfield 21, 3) := by decide +kernel
theorem dX3_init_27 : decode cX3_init 27 = .ok (.aload_n 0, 1) := by decide +kernel
theorem dX3_init_28 : decode cX3_init 28 = .ok (.new 16, 3) := by decide +kernel
theorem dX3_init_31 : decode cX3_init 31 = .ok (.dup, 1) := by decide +kernel
theorem dX3_init_32 : decode cX3_init 32 = .ok (.bipush 8, 2) := by decide +kernel
theorem dX3_init_34 : decode cX3_init 34 = .ok (.invokespecial 18, 3) := by decide +kernel
theorem dX3_init_37 : decode cX3_init 37 = .ok (.putfield 25, 3) := by decide +kernel
theorem dX3_init_40 : decode cX3_init 40 = .ok (.aload_n 0, 1) := by decide +kernel
theorem dX3_init_41 : decode cX3_init 41 = .ok (.new 16, 3) := by decide +kernel
theorem dX3_init_44 : decode cX3_init 44 = .ok (.dup, 1) := by decide +kernel
theorem dX3_init_45 : decode cX3_init 45 = .ok (.bipush 8, 2) := by decide +kernel
theorem dX3_init_47 : decode cX3_init 47 = .ok (.invokespecial 18, 3) := by decide +kernel
theorem dX3_init_50 : decode cX3_init 50 = .ok (.putfield 28, 3) := by decide +kernel
theorem dX3_init_53 : decode cX3_init 53 = .ok (.return_, 1) := by decide +kernel
theorem dX3_become_0 : decode cX3_become 0 = .ok (.aload_n 0, 1) := by decide +kernel
theorem dX3_become_1 : decode cX3_become 1 = .ok (.getfield 10, 3) := by decide +kernel
theorem dX3_become_4 : decode cX3_become 4 = .ok (.aload_n 1, 1) := by decide +kernel
theorem dX3_become_5 : decode cX3_become 5 = .ok (.getfield 10, 3) := by decide +kernel
theorem dX3_become_8 : decode cX3_become 8 = .ok (.invokevirtual 31, 3) := by decide +kernel
theorem dX3_become_11 : decode cX3_become 11 = .ok (.aload_n 0, 1) := by decide +kernel
theorem dX3_become_12 : decode cX3_become 12 = .ok (.getfield 21, 3) := by decide +kernel
theorem dX3_become_15 : decode cX3_become 15 = .ok (.aload_n 1, 1) := by decide +kernel
theorem dX3_become_16 : decode cX3_become 16 = .ok (.getfield 21, 3) := by decide +kernel
theorem dX3_become_19 : decode cX3_become 19 = .ok (.invokevirtual 35, 3) := by decide +kernel
theorem dX3_become_22 : decode cX3_become 22 = .ok (.aload_n 0, 1) := by decide +kernel
theorem dX3_become_23 : decode cX3_become 23 = .ok (.getfield 25, 3) := by decide +kernel
theorem dX3_become_26 : decode cX3_become 26 = .ok (.aload_n 1, 1) := by decide +kernel
theorem dX3_become_27 : decode cX3_become 27 = .ok (.getfield 25, 3) := by decide +kernel
theorem dX3_become_30 : decode cX3_become 30 = .ok (.invokevirtual 35, 3) := by decide +kernel
theorem dX3_become_33 : decode cX3_become 33 = .ok (.aload_n 0, 1) := by decide +kernel
theorem dX3_become_34 : decode cX3_become 34 = .ok (.getfield 28, 3) := by decide +kernel
theorem dX3_become_37 : decode cX3_become 37 = .ok (.aload_n 1, 1) := by decide +kernel
theorem dX3_become_38 : decode cX3_become 38 = .ok (.getfield 28, 3) := by decide +kernel
theorem dX3_become_41 : decode cX3_become 41 = .ok (.invokevirtual 35, 3) := by decide +kernel
theorem dX3_become_44 : decode cX3_become 44 = .ok (.return_, 1) := by decide +kernel
theorem dX5_init_0 : decode cX5_init 0 = .ok (.aload_n 0, 1) := by decide +kernel
theorem dX5_init_1 : decode cX5_init 1 = .ok (.invokespecial 1, 3) := by decide +kernel
theorem dX5_init_4 : decode cX5_init 4 = .ok (.aload_n 0, 1) := by decide +kernel
theorem dX5_init_5 : decode cX5_init 5 = .ok (.bipush 60, 2) := by decide +kernel
theorem dX5_init_7 : decode cX5_init 7 = .ok (.newarray .long, 2) := by decide +kernel
theorem dX5_init_9 : decode cX5_init 9 = .ok (.putfield 9, 3) := by decide +kernel
theorem dX5_init_12 : decode cX5_init 12 = .ok (.aload_n 0, 1) := by decide +kernel
theorem dX5_init_13 : decode cX5_init 13 = .ok (.iconst (-1), 1) := by decide +kernel
theorem dX5_init_14 : decode cX5_init 14 = .ok (.putfield 13, 3) := by decide +kernel
theorem dX5_init_17 : decode cX5_init 17 = .ok (.aload_n 0, 1) := by decide +kernel
theorem dX5_init_18 : decode cX5_init 18 = .ok (.iconst 0, 1) := by decide +kernel
theorem dX5_init_19 : decode cX5_init 19 = .ok (.putfield 17, 3) := by decide +kernel
theorem dX5_init_22 : decode cX5_init 22 = .ok (.return_, 1) := by decide +kernel
theorem dX5_become_0 : decode cX5_become 0 = .ok (.aload_n 0, 1) := by decide +kernel
theorem dX5_become_1 : decode cX5_become 1 = .ok (.iload_n 1, 1) := by decide +kernel
theorem dX5_become_2 : decode cX5_become 2 = .ok (.putfield 13, 3) := by decide +kernel
theorem dX5_become_5 : decode cX5_become 5 = .ok (.aload_n 0, 1) := by decide +kernel
theorem dX5_become_6 : decode cX5_become 6 = .ok (.iload_n 2, 1) := by decide +kernel
theorem dX5_become_7 : decode cX5_become 7 = .ok (.putfield 17, 3) := by decide +kernel
theorem dX5_become_10 : decode cX5_become 10 = .ok (.iconst 0, 1) := by decide +kernel
theorem dX5_become_11 : decode cX5_become 11 = .ok (.istore_n 3, 1) := by decide +kernel
theorem dX5_become_12 : decode cX5_become 12 = .ok (.iload_n 3, 1) := by decide +kernel
theorem dX5_become_13 : decode cX5_become 13 = .ok (.bipush 60, 2) := by decide +kernel
theorem dX5_become_15 : decode cX5_become 15 = .ok (.if_icmp .ge 16, 3) := by decide +kernel
theorem dX5_become_18 : decode cX5_become 18 = .ok (.aload_n 0, 1) := by decide +kernel
theorem dX5_become_19 : decode cX5_become 19 = .ok (.getfield 9, 3) := by decide +kernel
theorem dX5_become_22 : decode cX5_become 22 = .ok (.iload_n 3, 1) := by decide +kernel
theorem dX5_become_23 : decode cX5_become 23 = .ok (.lconst 0, 1) := by decide +kernel
theorem dX5_become_24 : decode cX5_become 24 = .ok (.lastore, 1) := by decide +kernel
theorem dX5_become_25 : decode cX5_become 25 = .ok (.iinc 3 1, 3) := by decide +kernel
theorem dX5_become_28 : decode cX5_become 28 = .ok (.goto (-16), 3) := by decide +kernel
theorem dX5_become_31 : decode cX5_become 31 = .ok (.return_, 1) := by decide +kernel
theorem dX5_hasPlace_0 : decode cX5_hasPlace 0 = .ok (.iload_n 1, 1) := by decide +kernel
theorem dX5_hasPlace_1 : decode cX5_hasPlace 1 = .ok (.ifCond .lt 15, 3) := by decide +kernel
theorem dX5_hasPlace_4 : decode cX5_hasPlace 4 = .ok (.iload_n 1, 1) := by decide +kernel
theorem dX5_hasPlace_5 : decode cX5_hasPlace 5 = .ok (.aload_n 0, 1) := by decide +kernel
theorem dX5_hasPlace_6 : decode cX5_hasPlace 6 = .ok (.getfield 17, 3) := by decide +kernel
theorem dX5_hasPlace_9 : decode cX5_hasPlace 9 = .ok (.if_icmp .ge 7, 3) := by decide +kernel
theorem dX5_hasPlace_12 : decode cX5_hasPlace 12 = .ok (.iconst 1, 1) := by decide +kernel
theorem dX5_hasPlace_13 : decode cX5_hasPlace 13 = .ok (.goto 4, 3) := by decide +kernel
theorem dX5_hasPlace_16 : decode cX5_hasPlace 16 = .ok (.iconst 0, 1) := by decide +kernel
theorem dX5_hasPlace_17 : decode cX5_hasPlace 17 = .ok (.ireturn, 1) := by decide +kernel
theorem dX5_hasRun_0 : decode cX5_hasRun 0 = .ok (.iload_n 2, 1) := by decide +kernel
theorem dX5_hasRun_1 : decode cX5_hasRun 1 = .ok (.ifCond .lt 29, 3) := by decide +kernel
theorem dX5_hasRun_4 : decode cX5_hasRun 4 = .ok (.iload_n 2, 1) := by decide +kernel
theorem dX5_hasRun_5 : decode cX5_hasRun 5 = .ok (.aload_n 0, 1) := by decide +kernel
theorem dX5_hasRun_6 : decode cX5_hasRun 6 = .ok (.getfield 17, 3) := by decide +kernel
theorem dX5_hasRun_9 : decode cX5_hasRun 9 = .ok (.if_icmp .gt 21, 3) := by decide +kernel
theorem dX5_hasRun_12 : decode cX5_hasRun 12 = .ok (.iload_n 1, 1) := by decide +kernel
theorem dX5_hasRun_13 : decode cX5_hasRun 13 = .ok (.ifCond .lt 17, 3) := by decide +kernel
theorem dX5_hasRun_16 : decode cX5_hasRun 16 = .ok (.iload_n 1, 1) := by decide +kernel
theorem dX5_hasRun_17 : decode cX5_hasRun 17 = .ok (.aload_n 0, 1) := by decide +kernel
theorem dX5_hasRun_18 : decode cX5_hasRun 18 = .ok (.getfield 17, 3) := by decide +kernel
theorem dX5_hasRun_21 : decode cX5_hasRun 21 = .ok (.iload_n 2, 1) := by decide +kernel
theorem dX5_hasRun_22 : decode cX5_hasRun 22 = .ok (.isub, 1) := by decide +kernel
theorem dX5_hasRun_23 : decode cX5_hasRun 23 = .ok (.if_icmp .gt 7, 3) := by decide +kernel
theorem dX5_hasRun_26 : decode cX5_hasRun 26 = .ok (.iconst 1, 1) := by decide +kernel
theorem dX5_hasRun_27 : decode cX5_hasRun 27 = .ok (.goto 4, 3) := by decide +kernel
theorem dX5_hasRun_30 : decode cX5_hasRun 30 = .ok (.iconst 0, 1) := by decide +kernel
theorem dX5_hasRun_31 : decode cX5_hasRun 31 = .ok (.ireturn, 1) := by decide +kernel
theorem dX5_asItem_0 : decode cX5_asItem 0 = .ok (.aload_n 0, 1) := by decide +kernel
theorem dX5_asItem_1 : decode cX5_asItem 1 = .ok (.getfield 13, 3) := by decide +kernel
theorem dX5_asItem_4 : decode cX5_asItem 4 = .ok (.tableswitch 48 0 3 #[32, 37, 42, 46], 32) := by decide +kernel
theorem dX5_asItem_36 : decode cX5_asItem 36 = .ok (.lload_n 1, 1) := by decide +kernel
theorem dX5_asItem_37 : decode cX5_asItem 37 = .ok (.l2i, 1) := by decide +kernel
theorem dX5_asItem_38 : decode cX5_asItem 38 = .ok (.i2b, 1) := by decide +kernel
theorem dX5_asItem_39 : decode cX5_asItem 39 = .ok (.i2l, 1) := by decide +kernel
theorem dX5_asItem_40 : decode cX5_asItem 40 = .ok (.lreturn, 1) := by decide +kernel
theorem dX5_asItem_41 : decode cX5_asItem 41 = .ok (.lload_n 1, 1) := by decide +kernel
theorem dX5_asItem_42 : decode cX5_asItem 42 = .ok (.l2i, 1) := by decide +kernel
theorem dX5_asItem_43 : decode cX5_asItem 43 = .ok (.i2s, 1) := by decide +kernel
theorem dX5_asItem_44 : decode cX5_asItem 44 = .ok (.i2l, 1) := by decide +kernel
theorem dX5_asItem_45 : decode cX5_asItem 45 = .ok (.lreturn, 1) := by decide +kernel
theorem dX5_asItem_46 : decode cX5_asItem 46 = .ok (.lload_n 1, 1) := by decide +kernel
theorem dX5_asItem_47 : decode cX5_asItem 47 = .ok (.l2i, 1) := by decide +kernel
theorem dX5_asItem_48 : decode cX5_asItem 48 = .ok (.i2l, 1) := by decide +kernel
theorem dX5_asItem_49 : decode cX5_asItem 49 = .ok (.lreturn, 1) := by decide +kernel
theorem dX5_asItem_50 : decode cX5_asItem 50 = .ok (.lload_n 1, 1) := by decide +kernel
theorem dX5_asItem_51 : decode cX5_asItem 51 = .ok (.lreturn, 1) := by decide +kernel
theorem dX5_asItem_52 : decode cX5_asItem 52 = .ok (.lload_n 1, 1) := by decide +kernel
theorem dX5_asItem_53 : decode cX5_asItem 53 = .ok (.lconst 0, 1) := by decide +kernel
theorem dX5_asItem_54 : decode cX5_asItem 54 = .ok (.lcmp, 1) := by decide +kernel
theorem dX5_asItem_55 : decode cX5_asItem 55 = .ok (.ifCond .eq 7, 3) := by decide +kernel
theorem dX5_asItem_58 : decode cX5_asItem 58 = .ok (.lconst 1, 1) := by decide +kernel
theorem dX5_asItem_59 : decode cX5_asItem 59 = .ok (.goto 4, 3) := by decide +kernel
theorem dX5_asItem_62 : decode cX5_asItem 62 = .ok (.lconst 0, 1) := by decide +kernel
theorem dX5_asItem_63 : decode cX5_asItem 63 = .ok (.lreturn, 1) := by decide +kernel
theorem dX6_init_0 : decode cX6_init 0 = .ok (.aload_n 0, 1) := by decide +kernel
theorem dX6_init_1 : decode cX6_init 1 = .ok (.invokespecial 1, 3) := by decide +kernel
theorem dX6_init_4 : decode cX6_init 4 = .ok (.aload_n 0, 1) := by decide +kernel
theorem dX6_init_5 : decode cX6_init 5 = .ok (.bipush 100, 2) := by decide +kernel
theorem dX6_init_7 : decode cX6_init 7 = .ok (.newarray .byte, 2) := by decide +kernel
theorem dX6_init_9 : decode cX6_init 9 = .ok (.putfield 9, 3) := by decide +kernel
theorem dX6_init_12 : decode cX6_init 12 = .ok (.aload_n 0, 1) := by decide +kernel
theorem dX6_init_13 : decode cX6_init 13 = .ok (.iconst 0, 1) := by decide +kernel
theorem dX6_init_14 : decode cX6_init 14 = .ok (.putfield 13, 3) := by decide +kernel
theorem dX6_init_17 : decode cX6_init 17 = .ok (.aload_n 0, 1) := by decide +kernel
theorem dX6_init_18 : decode cX6_init 18 = .ok (.iconst 0, 1) := by decide +kernel
theorem dX6_init_19 : decode cX6_init 19 = .ok (.putfield 17, 3) := by decide +kernel
theorem dX6_init_22 : decode cX6_init 22 = .ok (.aload_n 0, 1) := by decide +kernel
theorem dX6_init_23 : decode cX6_init 23 = .ok (.bipush 60, 2) := by decide +kernel
theorem dX6_init_25 : decode cX6_init 25 = .ok (.newarray .int, 2) := by decide +kernel
theorem dX6_init_27 : decode cX6_init 27 = .ok (.putfield 20, 3) := by decide +kernel
theorem dX6_init_30 : decode cX6_init 30 = .ok (.aload_n 0, 1) := by decide +kernel
theorem dX6_init_31 : decode cX6_init 31 = .ok (.iconst 0, 1) := by decide +kernel
theorem dX6_init_32 : decode cX6_init 32 = .ok (.putfield 24, 3) := by decide +kernel
theorem dX6_init_35 : decode cX6_init 35 = .ok (.return_, 1) := by decide +kernel
theorem dX6_add_0 : decode cX6_add 0 = .ok (.aload_n 0, 1) := by decide +kernel
theorem dX6_add_1 : decode cX6_add 1 = .ok (.getfield 9, 3) := by decide +kernel
theorem dX6_add_4 : decode cX6_add 4 = .ok (.aload_n 0, 1) := by decide +kernel
theorem dX6_add_5 : decode cX6_add 5 = .ok (.getfield 13, 3) := by decide +kernel
theorem dX6_add_8 : decode cX6_add 8 = .ok (.iload_n 1, 1) := by decide +kernel
theorem dX6_add_9 : decode cX6_add 9 = .ok (.i2b, 1) := by decide +kernel
theorem dX6_add_10 : decode cX6_add 10 = .ok (.bastore, 1) := by decide +kernel
theorem dX6_add_11 : decode cX6_add 11 = .ok (.aload_n 0, 1) := by decide +kernel
theorem dX6_add_12 : decode cX6_add 12 = .ok (.dup, 1) := by decide +kernel
theorem dX6_add_13 : decode cX6_add 13 = .ok (.getfield 13, 3) := by decide +kernel
theorem dX6_add_16 : decode cX6_add 16 = .ok (.iconst 1, 1) := by decide +kernel
theorem dX6_add_17 : decode cX6_add 17 = .ok (.iadd, 1) := by decide +kernel
theorem dX6_add_18 : decode cX6_add 18 = .ok (.putfield 13, 3) := by decide +kernel
theorem dX6_add_21 : decode cX6_add 21 = .ok (.aload_n 0, 1) := by decide +kernel
theorem dX6_add_22 : decode cX6_add 22 = .ok (.getfield 13, 3) := by decide +kernel
theorem dX6_add_25 : decode cX6_add 25 = .ok (.ireturn, 1) := by decide +kernel
theorem dX6_part_0 : decode cX6_part 0 = .ok (.aload_n 0, 1) := by decide +kernel
theorem dX6_part_1 : decode cX6_part 1 = .ok (.getfield 20, 3) := by decide +kernel
theorem dX6_part_4 : decode cX6_part 4 = .ok (.iconst 5, 1) := by decide +kernel
theorem dX6_part_5 : decode cX6_part 5 = .ok (.iload_n 1, 1) := by decide +kernel
theorem dX6_part_6 : decode cX6_part 6 = .ok (.imul, 1) := by decide +kernel
theorem dX6_part_7 : decode cX6_part 7 = .ok (.iload_n 2, 1) := by decide +kernel
theorem dX6_part_8 : decode cX6_part 8 = .ok (.iadd, 1) := by decide +kernel
theorem dX6_part_9 : decode cX6_part 9 = .ok (.iaload, 1) := by decide +kernel
theorem dX6_part_10 : decode cX6_part 10 = .ok (.ireturn, 1) := by decide +kernel
theorem dX6_parse_0 : decode cX6_parse 0 = .ok (.aload_n 0, 1) := by decide +kernel
theorem dX6_parse_1 : decode cX6_parse 1 = .ok (.iconst 0, 1) := by decide +kernel
theorem dX6_parse_2 : decode cX6_parse 2 = .ok (.putfield 17, 3) := by decide +kernel
theorem dX6_parse_5 : decode cX6_parse 5 = .ok (.aload_n 0, 1) := by decide +kernel
theorem dX6_parse_6 : decode cX6_parse 6 = .ok (.iconst 0, 1) := by decide +kernel
theorem dX6_parse_7 : decode cX6_parse 7 = .ok (.putfield 24, 3) := by decide +kernel
theorem dX6_parse_10 : decode cX6_parse 10 = .ok (.iconst 0, 1) := by decide +kernel
theorem dX6_parse_11 : decode cX6_parse 11 = .ok (.istore_n 1, 1) := by decide +kernel
theorem dX6_parse_12 : decode cX6_parse 12 = .ok (.iload_n 1, 1) := by decide +kernel
theorem dX6_parse_13 : decode cX6_parse 13 = .ok (.bipush 12, 2) := by decide +kernel
theorem dX6_parse_15 : decode cX6_parse 15 = .ok (.if_icmp .ge 65, 3) := by decide +kernel
theorem dX6_parse_18 : decode cX6_parse 18 = .ok (.iload_n 1, 1) := by decide +kernel
theorem dX6_parse_19 : decode cX6_parse 19 = .ok (.ifCond .le 17, 3) := by decide +kernel
theorem dX6_parse_22 : decode cX6_parse 22 = .ok (.aload_n 0, 1) := by decide +kernel
theorem dX6_parse_23 : decode cX6_parse 23 = .ok (.bipush 59, 2) := by decide +kernel
theorem dX6_parse_25 : decode cX6_parse 25 = .ok (.invokevirtual 27, 3) := by decide +kernel
theorem dX6_parse_28 : decode cX6_parse 28 = .ok (.ifCond .ne 8, 3) := by decide +kernel
theorem dX6_parse_31 : decode cX6_parse 31 = .ok (.aload_n 0, 1) := by decide +kernel
theorem dX6_parse_32 : decode cX6_parse 32 = .ok (.getfield 17, 3) := by decide +kernel
theorem dX6_parse_35 : decode cX6_parse 35 = .ok (.ireturn, 1) := by decide +kernel
theorem dX6_parse_36 : decode cX6_parse 36 = .ok (.aload_n 0, 1) := by decide +kernel
theorem dX6_parse_37 : decode cX6_parse 37 = .ok (.iconst 5, 1) := by decide +kernel
theorem dX6_parse_38 : decode cX6_parse 38 = .ok (.iload_n 1, 1) := by decide +kernel
theorem dX6_parse_39 : decode cX6_parse 39 = .ok (.imul, 1) := by decide +kernel
theorem dX6_parse_40 : decode cX6_parse 40 = .ok (.invokevirtual 31, 3) := by decide +kernel
theorem dX6_parse_43 : decode cX6_parse 43 = .ok (.ifCond .ne 8, 3) := by decide +kernel
theorem dX6_parse_46 : decode cX6_parse 46 = .ok (.aload_n 0, 1) := by decide +kernel
theorem dX6_parse_47 : decode cX6_parse 47 = .ok (.getfield 17, 3) := by decide +kernel
theorem dX6_parse_50 : decode cX6_parse 50 = .ok (.ireturn, 1) := by decide +kernel
theorem dX6_parse_51 : decode cX6_parse 51 = .ok (.aload_n 0, 1) := by decide +kernel
theorem dX6_parse_52 : decode cX6_parse 52 = .ok (.dup, 1) := by decide +kernel
theorem dX6_parse_53 : decode cX6_parse 53 = .ok (.getfield 24, 3) := by decide +kernel
theorem dX6_parse_56 : decode cX6_parse 56 = .ok (.iconst 1, 1) := by decide +kernel
theorem dX6_parse_57 : decode cX6_parse 57 = .ok (.iadd, 1) := by decide +kernel
theorem dX6_parse_58 : decode cX6_parse 58 = .ok (.putfield 24, 3) := by decide +kernel
theorem dX6_parse_61 : decode cX6_parse 61 = .ok (.aload_n 0, 1) := by decide +kernel
theorem dX6_parse_62 : decode cX6_parse 62 = .ok (.getfield 17, 3) := by decide +kernel
theorem dX6_parse_65 : decode cX6_parse 65 = .ok (.aload_n 0, 1) := by decide +kernel
theorem dX6_parse_66 : decode cX6_parse 66 = .ok (.getfield 13, 3) := by decide +kernel
theorem dX6_parse_69 : decode cX6_parse 69 = .ok (.if_icmp .ne 5, 3) := by decide +kernel
theorem dX6_parse_72 : decode cX6_parse 72 = .ok (.iconst (-1), 1) := by decide +kernel
theorem dX6_parse_73 : decode cX6_parse 73 = .ok (.ireturn, 1) := by decide +kernel
theorem dX6_parse_74 : decode cX6_parse 74 = .ok (.iinc 1 1, 3) := by decide +kernel
theorem dX6_parse_77 : decode cX6_parse 77 = .ok (.goto (-65), 3) := by decide +kernel
theorem dX6_parse_80 : decode cX6_parse 80 = .ok (.aload_n 0, 1) := by decide +kernel
theorem dX6_parse_81 : decode cX6_parse 81 = .ok (.getfield 17, 3) := by decide +kernel
theorem dX6_parse_84 : decode cX6_parse 84 = .ok (.ireturn, 1) := by decide +kernel
theorem dX6_takeClause_0 : decode cX6_takeClause 0 = .ok (.aload_n 0, 1) := by decide +kernel
theorem dX6_takeClause_1 : decode cX6_takeClause 1 = .ok (.bipush 112, 2) := by decide +kernel
theorem dX6_takeClause_3 : decode cX6_takeClause 3 = .ok (.invokevirtual 27, 3) := by decide +kernel
theorem dX6_takeClause_6 : decode cX6_takeClause 6 = .ok (.ifCond .eq 57, 3) := by decide +kernel
theorem dX6_takeClause_9 : decode cX6_takeClause 9 = .ok (.aload_n 0, 1) := by decide +kernel
theorem dX6_takeClause_10 : decode cX6_takeClause 10 = .ok (.getfield 20, 3) := by decide +kernel
theorem dX6_takeClause_13 : decode cX6_takeClause 13 = .ok (.iload_n 1, 1) := by decide +kernel
theorem dX6_takeClause_14 : decode cX6_takeClause 14 = .ok (.bipush 112, 2) := by decide +kernel
theorem dX6_takeClause_16 : decode cX6_takeClause 16 = .ok (.iastore, 1) := by decide +kernel
theorem dX6_takeClause_17 : decode cX6_takeClause 17 = .ok (.aload_n 0, 1) := by decide +kernel
theorem dX6_takeClause_18 : decode cX6_takeClause 18 = .ok (.iload_n 1, 1) := by decide +kernel
theorem dX6_takeClause_19 : decode cX6_takeClause 19 = .ok (.iconst 1, 1) := by decide +kernel
theorem dX6_takeClause_20 : decode cX6_takeClause 20 = .ok (.iadd, 1) := by decide +kernel
theorem dX6_takeClause_21 : decode cX6_takeClause 21 = .ok (.invokevirtual 35, 3) := by decide +kernel
theorem dX6_takeClause_24 : decode cX6_takeClause 24 = .ok (.ifCond .eq 37, 3) := by decide +kernel
theorem dX6_takeClause_27 : decode cX6_takeClause 27 = .ok (.aload_n 0, 1) := by decide +kernel
theorem dX6_takeClause_28 : decode cX6_takeClause 28 = .ok (.iload_n 1, 1) := by decide +kernel
theorem dX6_takeClause_29 : decode cX6_takeClause 29 = .ok (.iconst 2, 1) := by decide +kernel
theorem dX6_takeClause_30 : decode cX6_takeClause 30 = .ok (.iadd, 1) := by decide +kernel
theorem dX6_takeClause_31 : decode cX6_takeClause 31 = .ok (.invokevirtual 35, 3) := by decide +kernel
theorem dX6_takeClause_34 : decode cX6_takeClause 34 = .ok (.ifCond .eq 27, 3) := by decide +kernel
theorem dX6_takeClause_37 : decode cX6_takeClause 37 = .ok (.aload_n 0, 1) := by decide +kernel
theorem dX6_takeClause_38 : decode cX6_takeClause 38 = .ok (.iload_n 1, 1) := by decide +kernel
theorem dX6_takeClause_39 : decode cX6_takeClause 39 = .ok (.iconst 3, 1) := by decide +kernel
theorem dX6_takeClause_40 : decode cX6_takeClause 40 = .ok (.iadd, 1) := by decide +kernel
theorem dX6_takeClause_41 : decode cX6_takeClause 41 = .ok (.invokevirtual 35, 3) := by decide +kernel
theorem dX6_takeClause_44 : decode cX6_takeClause 44 = .ok (.ifCond .eq 17, 3) := by decide +kernel
theorem dX6_takeClause_47 : decode cX6_takeClause 47 = .ok (.aload_n 0, 1) := by decide +kernel
theorem dX6_takeClause_48 : decode cX6_takeClause 48 = .ok (.iload_n 1, 1) := by decide +kernel
theorem dX6_takeClause_49 : decode cX6_takeClause 49 = .ok (.iconst 4, 1) := by decide +kernel
theorem dX6_takeClause_50 : decode cX6_takeClause 50 = .ok (.iadd, 1) := by decide +kernel
theorem dX6_takeClause_51 : decode cX6_takeClause 51 = .ok (.invokevirtual 38, 3) := by decide +kernel
theorem dX6_takeClause_54 : decode cX6_takeClause 54 = .ok (.ifCond .eq 7, 3) := by decide +kernel
theorem dX6_takeClause_57 : decode cX6_takeClause 57 = .ok (.iconst 1, 1) := by decide +kernel
theorem dX6_takeClause_58 : decode cX6_takeClause 58 = .ok (.goto 4, 3) := by decide +kernel
theorem dX6_takeClause_61 : decode cX6_takeClause 61 = .ok (.iconst 0, 1) := by decide +kernel
theorem dX6_takeClause_62 : decode cX6_takeClause 62 = .ok (.ireturn, 1) := by decide +kernel
theorem dX6_takeClause_63 : decode cX6_takeClause 63 = .ok (.aload_n 0, 1) := by decide +kernel
theorem dX6_takeClause_64 : decode cX6_takeClause 64 = .ok (.bipush 109, 2) := by decide +kernel
theorem dX6_takeClause_66 : decode cX6_takeClause 66 = .ok (.invokevirtual 27, 3) := by decide +kernel
theorem dX6_takeClause_69 : decode cX6_takeClause 69 = .ok (.ifCond .eq 37, 3) := by decide +kernel
theorem dX6_takeClause_72 : decode cX6_takeClause 72 = .ok (.aload_n 0, 1) := by decide +kernel
theorem dX6_takeClause_73 : decode cX6_takeClause 73 = .ok (.getfield 20, 3) := by decide +kernel
theorem dX6_takeClause_76 : decode cX6_takeClause 76 = .ok (.iload_n 1, 1) := by decide +kernel
theorem dX6_takeClause_77 : decode cX6_takeClause 77 = .ok (.bipush 109, 2) := by decide +kernel
theorem dX6_takeClause_79 : decode cX6_takeClause 79 = .ok (.iastore, 1) := by decide +kernel
theorem dX6_takeClause_80 : decode cX6_takeClause 80 = .ok (.aload_n 0, 1) := by decide +kernel
theorem dX6_takeClause_81 : decode cX6_takeClause 81 = .ok (.iload_n 1, 1) := by decide +kernel
theorem dX6_takeClause_82 : decode cX6_takeClause 82 = .ok (.iconst 1, 1) := by decide +kernel
theorem dX6_takeClause_83 : decode cX6_takeClause 83 = .ok (.iadd, 1) := by decide +kernel
theorem dX6_takeClause_84 : decode cX6_takeClause 84 = .ok (.invokevirtual 38, 3) := by decide +kernel
theorem dX6_takeClause_87 : decode cX6_takeClause 87 = .ok (.ifCond .eq 17, 3) := by decide +kernel
theorem dX6_takeClause_90 : decode cX6_takeClause 90 = .ok (.aload_n 0, 1) := by decide +kernel
theorem dX6_takeClause_91 : decode cX6_takeClause 91 = .ok (.iload_n 1, 1) := by decide +kernel
theorem dX6_takeClause_92 : decode cX6_takeClause 92 = .ok (.iconst 2, 1) := by decide +kernel
theorem dX6_takeClause_93 : decode cX6_takeClause 93 = .ok (.iadd, 1) := by decide +kernel
theorem dX6_takeClause_94 : decode cX6_takeClause 94 = .ok (.invokevirtual 38, 3) := by decide +kernel
theorem dX6_takeClause_97 : decode cX6_takeClause 97 = .ok (.ifCond .eq 7, 3) := by decide +kernel
theorem dX6_takeClause_100 : decode cX6_takeClause 100 = .ok (.iconst 1, 1) := by decide +kernel
theorem dX6_takeClause_101 : decode cX6_takeClause 101 = .ok (.goto 4, 3) := by decide +kernel
theorem dX6_takeClause_104 : decode cX6_takeClause 104 = .ok (.iconst 0, 1) := by decide +kernel
theorem dX6_takeClause_105 : decode cX6_takeClause 105 = .ok (.ireturn, 1) := by decide +kernel
theorem dX6_takeClause_106 : decode cX6_takeClause 106 = .ok (.aload_n 0, 1) := by decide +kernel
theorem dX6_takeClause_107 : decode cX6_takeClause 107 = .ok (.getfield 20, 3) := by decide +kernel
theorem dX6_takeClause_110 : decode cX6_takeClause 110 = .ok (.iload_n 1, 1) := by decide +kernel
theorem dX6_takeClause_111 : decode cX6_takeClause 111 = .ok (.bipush 100, 2) := by decide +kernel
theorem dX6_takeClause_113 : decode cX6_takeClause 113 = .ok (.iastore, 1) := by decide +kernel
theorem dX6_takeClause_114 : decode cX6_takeClause 114 = .ok (.aload_n 0, 1) := by decide +kernel
theorem dX6_takeClause_115 : decode cX6_takeClause 115 = .ok (.bipush 100, 2) := by decide +kernel
theorem dX6_takeClause_117 : decode cX6_takeClause 117 = .ok (.invokevirtual 27, 3) := by decide +kernel
theorem dX6_takeClause_120 : decode cX6_takeClause 120 = .ok (.ifCond .eq 17, 3) := by decide +kernel
theorem dX6_takeClause_123 : decode cX6_takeClause 123 = .ok (.aload_n 0, 1) := by decide +kernel
theorem dX6_takeClause_124 : decode cX6_takeClause 124 = .ok (.iload_n 1, 1) := by decide +kernel
theorem dX6_takeClause_125 : decode cX6_takeClause 125 = .ok (.iconst 1, 1) := by decide +kernel
theorem dX6_takeClause_126 : decode cX6_takeClause 126 = .ok (.iadd, 1) := by decide +kernel
theorem dX6_takeClause_127 : decode cX6_takeClause 127 = .ok (.invokevirtual 38, 3) := by decide +kernel
theorem dX6_takeClause_130 : decode cX6_takeClause 130 = .ok (.ifCond .eq 7, 3) := by decide +kernel
theorem dX6_takeClause_133 : decode cX6_takeClause 133 = .ok (.iconst 1, 1) := by decide +kernel
theorem dX6_takeClause_134 : decode cX6_takeClause 134 = .ok (.goto 4, 3) := by decide +kernel
theorem dX6_takeClause_137 : decode cX6_takeClause 137 = .ok (.iconst 0, 1) := by decide +kernel
theorem dX6_takeClause_138 : decode cX6_takeClause 138 = .ok (.ireturn, 1) := by decide +kernel
theorem dX6_takeAxis_0 : decode cX6_takeAxis 0 = .ok (.aload_n 0, 1) := by decide +kernel
theorem dX6_takeAxis_1 : decode cX6_takeAxis 1 = .ok (.bipush 45, 2) := by decide +kernel
theorem dX6_takeAxis_3 : decode cX6_takeAxis 3 = .ok (.invokevirtual 27, 3) := by decide +kernel
theorem dX6_takeAxis_6 : decode cX6_takeAxis 6 = .ok (.istore_n 2, 1) := by decide +kernel
theorem dX6_takeAxis_7 : decode cX6_takeAxis 7 = .ok (.aload_n 0, 1) := by decide +kernel
theorem dX6_takeAxis_8 : decode cX6_takeAxis 8 = .ok (.iload_n 1, 1) := by decide +kernel
theorem dX6_takeAxis_9 : decode cX6_takeAxis 9 = .ok (.invokevirtual 38, 3) := by decide +kernel
theorem dX6_takeAxis_12 : decode cX6_takeAxis 12 = .ok (.ifCond .ne 5, 3) := by decide +kernel
theorem dX6_takeAxis_15 : decode cX6_takeAxis 15 = .ok (.iconst 0, 1) := by decide +kernel
theorem dX6_takeAxis_16 : decode cX6_takeAxis 16 = .ok (.ireturn, 1) := by decide +kernel
theorem dX6_takeAxis_17 : decode cX6_takeAxis 17 = .ok (.iload_n 2, 1) := by decide +kernel
theorem dX6_takeAxis_18 : decode cX6_takeAxis 18 = .ok (.ifCond .eq 16, 3) := by decide +kernel
theorem dX6_takeAxis_21 : decode cX6_takeAxis 21 = .ok (.aload_n 0, 1) := by decide +kernel
theorem dX6_takeAxis_22 : decode cX6_takeAxis 22 = .ok (.getfield 20, 3) := by decide +kernel
theorem dX6_takeAxis_25 : decode cX6_takeAxis 25 = .ok (.iload_n 1, 1) := by decide +kernel
theorem dX6_takeAxis_26 : decode cX6_takeAxis 26 = .ok (.aload_n 0, 1) := by decide +kernel
theorem dX6_takeAxis_27 : decode cX6_takeAxis 27 = .ok (.getfield 20, 3) := by decide +kernel
theorem dX6_takeAxis_30 : decode cX6_takeAxis 30 = .ok (.iload_n 1, 1) := by decide +kernel
theorem dX6_takeAxis_31 : decode cX6_takeAxis 31 = .ok (.iaload, 1) := by decide +kernel
theorem dX6_takeAxis_32 : decode cX6_takeAxis 32 = .ok (.ineg, 1) := by decide +kernel
theorem dX6_takeAxis_33 : decode cX6_takeAxis 33 = .ok (.iastore, 1) := by decide +kernel
theorem dX6_takeAxis_34 : decode cX6_takeAxis 34 = .ok (.aload_n 0, 1) := by decide +kernel
theorem dX6_takeAxis_35 : decode cX6_takeAxis 35 = .ok (.bipush 44, 2) := by decide +kernel
theorem dX6_takeAxis_37 : decode cX6_takeAxis 37 = .ok (.invokevirtual 27, 3) := by decide +kernel
theorem dX6_takeAxis_40 : decode cX6_takeAxis 40 = .ok (.ireturn, 1) := by decide +kernel
theorem dX6_takeDigit_0 : decode cX6_takeDigit 0 = .ok (.aload_n 0, 1) := by decide +kernel
theorem dX6_takeDigit_1 : decode cX6_takeDigit 1 = .ok (.getfield 17, 3) := by decide +kernel
theorem dX6_takeDigit_4 : decode cX6_takeDigit 4 = .ok (.aload_n 0, 1) := by decide +kernel
theorem dX6_takeDigit_5 : decode cX6_takeDigit 5 = .ok (.getfield 13, 3) := by decide +kernel
theorem dX6_takeDigit_8 : decode cX6_takeDigit 8 = .ok (.if_icmp .ge 31, 3) := by decide +kernel
theorem dX6_takeDigit_11 : decode cX6_takeDigit 11 = .ok (.aload_n 0, 1) := by decide +kernel
theorem dX6_takeDigit_12 : decode cX6_takeDigit 12 = .ok (.getfield 9, 3) := by decide +kernel
theorem dX6_takeDigit_15 : decode cX6_takeDigit 15 = .ok (.aload_n 0, 1) := by decide +kernel
theorem dX6_takeDigit_16 : decode cX6_takeDigit 16 = .ok (.getfield 17, 3) := by decide +kernel
theorem dX6_takeDigit_19 : decode cX6_takeDigit 19 = .ok (.baload, 1) := by decide +kernel
theorem dX6_takeDigit_20 : decode cX6_takeDigit 20 = .ok (.bipush 48, 2) := by decide +kernel
theorem dX6_takeDigit_22 : decode cX6_takeDigit 22 = .ok (.if_icmp .lt 17, 3) := by decide +kernel
theorem dX6_takeDigit_25 : decode cX6_takeDigit 25 = .ok (.aload_n 0, 1) := by decide +kernel
theorem dX6_takeDigit_26 : decode cX6_takeDigit 26 = .ok (.getfield 9, 3) := by decide +kernel
theorem dX6_takeDigit_29 : decode cX6_takeDigit 29 = .ok (.aload_n 0, 1) := by decide +kernel
theorem dX6_takeDigit_30 : decode cX6_takeDigit 30 = .ok (.getfield 17, 3) := by decide +kernel
theorem dX6_takeDigit_33 : decode cX6_takeDigit 33 = .ok (.baload, 1) := by decide +kernel
theorem dX6_takeDigit_34 : decode cX6_takeDigit 34 = .ok (.bipush 57, 2) := by decide +kernel
theorem dX6_takeDigit_36 : decode cX6_takeDigit 36 = .ok (.if_icmp .le 5, 3) := by decide +kernel
theorem dX6_takeDigit_39 : decode cX6_takeDigit 39 = .ok (.iconst 0, 1) := by decide +kernel
theorem dX6_takeDigit_40 : decode cX6_takeDigit 40 = .ok (.ireturn, 1) := by decide +kernel
theorem dX6_takeDigit_41 : decode cX6_takeDigit 41 = .ok (.aload_n 0, 1) := by decide +kernel
theorem dX6_takeDigit_42 : decode cX6_takeDigit 42 = .ok (.getfield 20, 3) := by decide +kernel
theorem dX6_takeDigit_45 : decode cX6_takeDigit 45 = .ok (.iload_n 1, 1) := by decide +kernel
theorem dX6_takeDigit_46 : decode cX6_takeDigit 46 = .ok (.aload_n 0, 1) := by decide +kernel
theorem dX6_takeDigit_47 : decode cX6_takeDigit 47 = .ok (.getfield 9, 3) := by decide +kernel
theorem dX6_takeDigit_50 : decode cX6_takeDigit 50 = .ok (.aload_n 0, 1) := by decide +kernel
theorem dX6_takeDigit_51 : decode cX6_takeDigit 51 = .ok (.getfield 17, 3) := by decide +kernel
theorem dX6_takeDigit_54 : decode cX6_takeDigit 54 = .ok (.baload, 1) := by decide +kernel
theorem dX6_takeDigit_55 : decode cX6_takeDigit 55 = .ok (.bipush 48, 2) := by decide +kernel
theorem dX6_takeDigit_57 : decode cX6_takeDigit 57 = .ok (.isub, 1) := by decide +kernel
theorem dX6_takeDigit_58 : decode cX6_takeDigit 58 = .ok (.iastore, 1) := by decide +kernel
theorem dX6_takeDigit_59 : decode cX6_takeDigit 59 = .ok (.aload_n 0, 1) := by decide +kernel
theorem dX6_takeDigit_60 : decode cX6_takeDigit 60 = .ok (.dup, 1) := by decide +kernel
theorem dX6_takeDigit_61 : decode cX6_takeDigit 61 = .ok (.getfield 17, 3) := by decide +kernel
theorem dX6_takeDigit_64 : decode cX6_takeDigit 64 = .ok (.iconst 1, 1) := by decide +kernel
theorem dX6_takeDigit_65 : decode cX6_takeDigit 65 = .ok (.iadd, 1) := by decide +kernel
theorem dX6_takeDigit_66 : decode cX6_takeDigit 66 = .ok (.putfield 17, 3) := by decide +kernel
theorem dX6_takeDigit_69 : decode cX6_takeDigit 69 = .ok (.iconst 1, 1) := by decide +kernel
theorem dX6_takeDigit_70 : decode cX6_takeDigit 70 = .ok (.ireturn, 1) := by decide +kernel
theorem dX6_takeSign_0 : decode cX6_takeSign 0 = .ok (.aload_n 0, 1) := by decide +kernel
theorem dX6_takeSign_1 : decode cX6_takeSign 1 = .ok (.getfield 17, 3) := by decide +kernel
theorem dX6_takeSign_4 : decode cX6_takeSign 4 = .ok (.aload_n 0, 1) := by decide +kernel
theorem dX6_takeSign_5 : decode cX6_takeSign 5 = .ok (.getfield 13, 3) := by decide +kernel
theorem dX6_takeSign_8 : decode cX6_takeSign 8 = .ok (.if_icmp .ge 16, 3) := by decide +kernel
theorem dX6_takeSign_11 : decode cX6_takeSign 11 = .ok (.aload_n 0, 1) := by decide +kernel
theorem dX6_takeSign_12 : decode cX6_takeSign 12 = .ok (.getfield 9, 3) := by decide +kernel
theorem dX6_takeSign_15 : decode cX6_takeSign 15 = .ok (.aload_n 0, 1) := by decide +kernel
theorem dX6_takeSign_16 : decode cX6_takeSign 16 = .ok (.getfield 17, 3) := by decide +kernel
theorem dX6_takeSign_19 : decode cX6_takeSign 19 = .ok (.baload, 1) := by decide +kernel
theorem dX6_takeSign_20 : decode cX6_takeSign 20 = .ok (.iload_n 1, 1) := by decide +kernel
theorem dX6_takeSign_21 : decode cX6_takeSign 21 = .ok (.if_icmp .eq 5, 3) := by decide +kernel
theorem dX6_takeSign_24 : decode cX6_takeSign 24 = .ok (.iconst 0, 1) := by decide +kernel
theorem dX6_takeSign_25 : decode cX6_takeSign 25 = .ok (.ireturn, 1) := by decide +kernel
theorem dX6_takeSign_26 : decode cX6_takeSign 26 = .ok (.aload_n 0, 1) := by decide +kernel
theorem dX6_takeSign_27 : decode cX6_takeSign 27 = .ok (.dup, 1) := by decide +kernel
theorem dX6_takeSign_28 : decode cX6_takeSign 28 = .ok (.getfield 17, 3) := by decide +kernel
theorem dX6_takeSign_31 : decode cX6_takeSign 31 = .ok (.iconst 1, 1) := by decide +kernel
theorem dX6_takeSign_32 : decode cX6_takeSign 32 = .ok (.iadd, 1) := by decide +kernel
theorem dX6_takeSign_33 : decode cX6_takeSign 33 = .ok (.putfield 17, 3) := by decide +kernel
theorem dX6_takeSign_36 : decode cX6_takeSign 36 = .ok (.iconst 1, 1) := by decide +kernel
theorem dX6_takeSign_37 : decode cX6_takeSign 37 = .ok (.ireturn, 1) := by decide +kernel
theorem dJ0_charAt_5068e_0 : decode cJ0_charAt_5068e 0 = .ok (.aload_n 0, 1) := by decide +kernel
theorem dJ0_charAt_5068e_1 : decode cJ0_charAt_5068e 1 = .ok (.invokevirtual 492, 3) := by decide +kernel
theorem dJ0_charAt_5068e_4 : decode cJ0_charAt_5068e 4 = .ok (.ifCond .eq 12, 3) := by decide +kernel
theorem dJ0_charAt_5068e_7 : decode cJ0_charAt_5068e 7 = .ok (.aload_n 0, 1) := by decide +kernel
theorem dJ0_charAt_5068e_8 : decode cJ0_charAt_5068e 8 = .ok (.getfield 9, 3) := by decide +kernel
theorem dJ0_charAt_5068e_11 : decode cJ0_charAt_5068e 11 = .ok (.iload_n 1, 1) := by decide +kernel
theorem dJ0_charAt_5068e_12 : decode cJ0_charAt_5068e 12 = .ok (.invokestatic 495, 3) := by decide +kernel
theorem dJ0_charAt_5068e_15 : decode cJ0_charAt_5068e 15 = .ok (.ireturn, 1) := by decide +kernel
theorem dJ0_charAt_5068e_16 : decode cJ0_charAt_5068e 16 = .ok (.aload_n 0, 1) := by decide +kernel
theorem dJ0_charAt_5068e_17 : decode cJ0_charAt_5068e 17 = .ok (.getfield 9, 3) := by decide +kernel
theorem dJ0_charAt_5068e_20 : decode cJ0_charAt_5068e 20 = .ok (.iload_n 1, 1) := by decide +kernel
theorem dJ0_charAt_5068e_21 : decode cJ0_charAt_5068e 21 = .ok (.invokestatic 498, 3) := by decide +kernel
theorem dJ0_charAt_5068e_24 : decode cJ0_charAt_5068e 24 = .ok (.ireturn, 1) := by decide +kernel
theorem dJ0_isLatin1_aae02_0 : decode cJ0_isLatin1_aae02 0 = .ok (.getstatic 38, 3) := by decide +kernel
theorem dJ0_isLatin1_aae02_3 : decode cJ0_isLatin1_aae02 3 = .ok (.ifCond .eq 14, 3) := by decide +kernel
theorem dJ0_isLatin1_aae02_6 : decode cJ0_isLatin1_aae02 6 = .ok (.aload_n 0, 1) := by decide +kernel
theorem dJ0_isLatin1_aae02_7 : decode cJ0_isLatin1_aae02 7 = .ok (.getfield 15, 3) := by decide +kernel
theorem dJ0_isLatin1_aae02_10 : decode cJ0_isLatin1_aae02 10 = .ok (.ifCond .ne 7, 3) := by decide +kernel
theorem dJ0_isLatin1_aae02_13 : decode cJ0_isLatin1_aae02 13 = .ok (.iconst 1, 1) := by decide +kernel
theorem dJ0_isLatin1_aae02_14 : decode cJ0_isLatin1_aae02 14 = .ok (.goto 4, 3) := by decide +kernel
theorem dJ0_isLatin1_aae02_17 : decode cJ0_isLatin1_aae02 17 = .ok (.iconst 0, 1) := by decide +kernel
theorem dJ0_isLatin1_aae02_18 : decode cJ0_isLatin1_aae02 18 = .ok (.ireturn, 1) := by decide +kernel
theorem dJ0_checkIndex_df160_0 : decode cJ0_checkIndex_df160 0 = .ok (.iload_n 0, 1) := by decide +kernel
theorem dJ0_checkIndex_df160_1 : decode cJ0_checkIndex_df160 1 = .ok (.iload_n 1, 1) := by decide +kernel
theorem dJ0_checkIndex_df160_2 : decode cJ0_checkIndex_df160 2 = .ok (.getstatic 1053, 3) := by decide +kernel
theorem dJ0_checkIndex_df160_5 : decode cJ0_checkIndex_df160 5 = .ok (.invokestatic 1059, 3) := by decide +kernel
theorem dJ0_checkIndex_df160_8 : decode cJ0_checkIndex_df160 8 = .ok (.pop, 1) := by decide +kernel
theorem dJ0_checkIndex_df160_9 : decode cJ0_checkIndex_df160 9 = .ok (.return_, 1) := by decide +kernel
theorem dJ1_charAt_3b067_0 : decode cJ1_charAt_3b067 0 = .ok (.iload_n 1, 1) := by decide +kernel
theorem dJ1_charAt_3b067_1 : decode cJ1_charAt_3b067 1 = .ok (.aload_n 0, 1) := by decide +kernel
theorem dJ1_charAt_3b067_2 : decode cJ1_charAt_3b067 2 = .ok (.arraylength, 1) := by decide +kernel
theorem dJ1_charAt_3b067_3 : decode cJ1_charAt_3b067 3 = .ok (.invokestatic 9, 3) := by decide +kernel
theorem dJ1_charAt_3b067_6 : decode cJ1_charAt_3b067 6 = .ok (.aload_n 0, 1) := by decide +kernel
theorem dJ1_charAt_3b067_7 : decode cJ1_charAt_3b067 7 = .ok (.iload_n 1, 1) := by decide +kernel
theorem dJ1_charAt_3b067_8 : decode cJ1_charAt_3b067 8 = .ok (.baload, 1) := by decide +kernel
theorem dJ1_charAt_3b067_9 : decode cJ1_charAt_3b067 9 = .ok (.sipush 255, 3) := by decide +kernel
theorem dJ1_charAt_3b067_12 : decode cJ1_charAt_3b067 12 = .ok (.iand, 1) := by decide +kernel
theorem dJ1_charAt_3b067_13 : decode cJ1_charAt_3b067 13 = .ok (.i2c, 1) := by decide +kernel
theorem dJ1_charAt_3b067_14 : decode cJ1_charAt_3b067 14 = .ok (.ireturn, 1) := by decide +kernel
theorem dJ6_bitCount_0f7a4_0 : decode cJ6_bitCount_0f7a4 0 = .ok (.iload_n 0, 1) := by decide +kernel
theorem dJ6_bitCount_0f7a4_1 : decode cJ6_bitCount_0f7a4 1 = .ok (.iload_n 0, 1) := by decide +kernel
theorem dJ6_bitCount_0f7a4_2 : decode cJ6_bitCount_0f7a4 2 = .ok (.iconst 1, 1) := by decide +kernel
theorem dJ6_bitCount_0f7a4_3 : decode cJ6_bitCount_0f7a4 3 = .ok (.iushr, 1) := by decide +kernel
theorem dJ6_bitCount_0f7a4_4 : decode cJ6_bitCount_0f7a4 4 = .ok (.ldc_w 265, 3) := by decide +kernel
theorem dJ6_bitCount_0f7a4_7 : decode cJ6_bitCount_0f7a4 7 = .ok (.iand, 1) := by decide +kernel
theorem dJ6_bitCount_0f7a4_8 : decode cJ6_bitCount_0f7a4 8 = .ok (.isub, 1) := by decide +kernel
theorem dJ6_bitCount_0f7a4_9 : decode cJ6_bitCount_0f7a4 9 = .ok (.istore_n 0, 1) := by decide +kernel
theorem dJ6_bitCount_0f7a4_10 : decode cJ6_bitCount_0f7a4 10 = .ok (.iload_n 0, 1) := by decide +kernel
theorem dJ6_bitCount_0f7a4_11 : decode cJ6_bitCount_0f7a4 11 = .ok (.ldc_w 266, 3) := by decide +kernel
theorem dJ6_bitCount_0f7a4_14 : decode cJ6_bitCount_0f7a4 14 = .ok (.iand, 1) := by decide +kernel
theorem dJ6_bitCount_0f7a4_15 : decode cJ6_bitCount_0f7a4 15 = .ok (.iload_n 0, 1) := by decide +kernel
theorem dJ6_bitCount_0f7a4_16 : decode cJ6_bitCount_0f7a4 16 = .ok (.iconst 2, 1) := by decide +kernel
theorem dJ6_bitCount_0f7a4_17 : decode cJ6_bitCount_0f7a4 17 = .ok (.iushr, 1) := by decide +kernel
theorem dJ6_bitCount_0f7a4_18 : decode cJ6_bitCount_0f7a4 18 = .ok (.ldc_w 266, 3) := by decide +kernel
theorem dJ6_bitCount_0f7a4_21 : decode cJ6_bitCount_0f7a4 21 = .ok (.iand, 1) := by decide +kernel
theorem dJ6_bitCount_0f7a4_22 : decode cJ6_bitCount_0f7a4 22 = .ok (.iadd, 1) := by decide +kernel
theorem dJ6_bitCount_0f7a4_23 : decode cJ6_bitCount_0f7a4 23 = .ok (.istore_n 0, 1) := by decide +kernel
theorem dJ6_bitCount_0f7a4_24 : decode cJ6_bitCount_0f7a4 24 = .ok (.iload_n 0, 1) := by decide +kernel
theorem dJ6_bitCount_0f7a4_25 : decode cJ6_bitCount_0f7a4 25 = .ok (.iload_n 0, 1) := by decide +kernel
theorem dJ6_bitCount_0f7a4_26 : decode cJ6_bitCount_0f7a4 26 = .ok (.iconst 4, 1) := by decide +kernel
theorem dJ6_bitCount_0f7a4_27 : decode cJ6_bitCount_0f7a4 27 = .ok (.iushr, 1) := by decide +kernel
theorem dJ6_bitCount_0f7a4_28 : decode cJ6_bitCount_0f7a4 28 = .ok (.iadd, 1) := by decide +kernel
theorem dJ6_bitCount_0f7a4_29 : decode cJ6_bitCount_0f7a4 29 = .ok (.ldc_w 267, 3) := by decide +kernel
theorem dJ6_bitCount_0f7a4_32 : decode cJ6_bitCount_0f7a4 32 = .ok (.iand, 1) := by decide +kernel
theorem dJ6_bitCount_0f7a4_33 : decode cJ6_bitCount_0f7a4 33 = .ok (.istore_n 0, 1) := by decide +kernel
theorem dJ6_bitCount_0f7a4_34 : decode cJ6_bitCount_0f7a4 34 = .ok (.iload_n 0, 1) := by decide +kernel
theorem dJ6_bitCount_0f7a4_35 : decode cJ6_bitCount_0f7a4 35 = .ok (.iload_n 0, 1) := by decide +kernel
theorem dJ6_bitCount_0f7a4_36 : decode cJ6_bitCount_0f7a4 36 = .ok (.bipush 8, 2) := by decide +kernel
theorem dJ6_bitCount_0f7a4_38 : decode cJ6_bitCount_0f7a4 38 = .ok (.iushr, 1) := by decide +kernel
theorem dJ6_bitCount_0f7a4_39 : decode cJ6_bitCount_0f7a4 39 = .ok (.iadd, 1) := by decide +kernel
theorem dJ6_bitCount_0f7a4_40 : decode cJ6_bitCount_0f7a4 40 = .ok (.istore_n 0, 1) := by decide +kernel
theorem dJ6_bitCount_0f7a4_41 : decode cJ6_bitCount_0f7a4 41 = .ok (.iload_n 0, 1) := by decide +kernel
theorem dJ6_bitCount_0f7a4_42 : decode cJ6_bitCount_0f7a4 42 = .ok (.iload_n 0, 1) := by decide +kernel
theorem dJ6_bitCount_0f7a4_43 : decode cJ6_bitCount_0f7a4 43 = .ok (.bipush 16, 2) := by decide +kernel
theorem dJ6_bitCount_0f7a4_45 : decode cJ6_bitCount_0f7a4 45 = .ok (.iushr, 1) := by decide +kernel
theorem dJ6_bitCount_0f7a4_46 : decode cJ6_bitCount_0f7a4 46 = .ok (.iadd, 1) := by decide +kernel
theorem dJ6_bitCount_0f7a4_47 : decode cJ6_bitCount_0f7a4 47 = .ok (.istore_n 0, 1) := by decide +kernel
theorem dJ6_bitCount_0f7a4_48 : decode cJ6_bitCount_0f7a4 48 = .ok (.iload_n 0, 1) := by decide +kernel
theorem dJ6_bitCount_0f7a4_49 : decode cJ6_bitCount_0f7a4 49 = .ok (.bipush 63, 2) := by decide +kernel
theorem dJ6_bitCount_0f7a4_51 : decode cJ6_bitCount_0f7a4 51 = .ok (.iand, 1) := by decide +kernel
theorem dJ6_bitCount_0f7a4_52 : decode cJ6_bitCount_0f7a4 52 = .ok (.ireturn, 1) := by decide +kernel
theorem dJ9_max_7cf53_0 : decode cJ9_max_7cf53 0 = .ok (.iload_n 0, 1) := by decide +kernel
theorem dJ9_max_7cf53_1 : decode cJ9_max_7cf53 1 = .ok (.iload_n 1, 1) := by decide +kernel
theorem dJ9_max_7cf53_2 : decode cJ9_max_7cf53 2 = .ok (.if_icmp .lt 7, 3) := by decide +kernel
theorem dJ9_max_7cf53_5 : decode cJ9_max_7cf53 5 = .ok (.iload_n 0, 1) := by decide +kernel
theorem dJ9_max_7cf53_6 : decode cJ9_max_7cf53 6 = .ok (.goto 4, 3) := by decide +kernel
theorem dJ9_max_7cf53_9 : decode cJ9_max_7cf53 9 = .ok (.iload_n 1, 1) := by decide +kernel
theorem dJ9_max_7cf53_10 : decode cJ9_max_7cf53 10 = .ok (.ireturn, 1) := by decide +kernel
theorem dJ9_min_7cf53_0 : decode cJ9_min_7cf53 0 = .ok (.iload_n 0, 1) := by decide +kernel
theorem dJ9_min_7cf53_1 : decode cJ9_min_7cf53 1 = .ok (.iload_n 1, 1) := by decide +kernel
theorem dJ9_min_7cf53_2 : decode cJ9_min_7cf53 2 = .ok (.if_icmp .gt 7, 3) := by decide +kernel
theorem dJ9_min_7cf53_5 : decode cJ9_min_7cf53 5 = .ok (.iload_n 0, 1) := by decide +kernel
theorem dJ9_min_7cf53_6 : decode cJ9_min_7cf53 6 = .ok (.goto 4, 3) := by decide +kernel
theorem dJ9_min_7cf53_9 : decode cJ9_min_7cf53 9 = .ok (.iload_n 1, 1) := by decide +kernel
theorem dJ9_min_7cf53_10 : decode cJ9_min_7cf53 10 = .ok (.ireturn, 1) := by decide +kernel
