theorem dX7_init_0 : decode cX7_init 0 = .ok (.aload_n 0, 1) := by decide +kernel
theorem dX7_init_1 : decode cX7_init 1 = .ok (.invokespecial 3, 3) := by decide +kernel
theorem dX7_init_4 : decode cX7_init 4 = .ok (.aload_n 0, 1) := by decide +kernel
theorem dX7_init_5 : decode cX7_init 5 = .ok (.new 9, 3) := by decide +kernel
theorem dX7_init_8 : decode cX7_init 8 = .ok (.dup, 1) := by decide +kernel
theorem dX7_init_9 : decode cX7_init 9 = .ok (.invokespecial 11, 3) := by decide +kernel
theorem dX7_init_12 : decode cX7_init 12 = .ok (.putfield 12, 3) := by decide +kernel
theorem dX7_init_15 : decode cX7_init 15 = .ok (.aload_n 0, 1) := by decide +kernel
theorem dX7_init_16 : decode cX7_init 16 = .ok (.new 9, 3) := by decide +kernel
theorem dX7_init_19 : decode cX7_init 19 = .ok (.dup, 1) := by decide +kernel
theorem dX7_init_20 : decode cX7_init 20 = .ok (.invokespecial 11, 3) := by decide +kernel
theorem dX7_init_23 : decode cX7_init 23 = .ok (.putfield 18, 3) := by decide +kernel
theorem dX7_init_26 : decode cX7_init 26 = .ok (.aload_n 0, 1) := by decide +kernel
theorem dX7_init_27 : decode cX7_init 27 = .ok (.iconst 0, 1) := by decide +kernel
theorem dX7_init_28 : decode cX7_init 28 = .ok (.putfield 21, 3) := by decide +kernel
theorem dX7_init_31 : decode cX7_init 31 = .ok (.aload_n 0, 1) := by decide +kernel
theorem dX7_init_32 : decode cX7_init 32 = .ok (.new 25, 3) := by decide +kernel
theorem dX7_init_35 : decode cX7_init 35 = .ok (.dup, 1) := by decide +kernel
theorem dX7_init_36 : decode cX7_init 36 = .ok (.invokespecial 27, 3) := by decide +kernel
theorem dX7_init_39 : decode cX7_init 39 = .ok (.putfield 28, 3) := by decide +kernel
theorem dX7_init_42 : decode cX7_init 42 = .ok (.aload_n 0, 1) := by decide +kernel
theorem dX7_init_43 : decode cX7_init 43 = .ok (.iconst 1, 1) := by decide +kernel
theorem dX7_init_44 : decode cX7_init 44 = .ok (.putfield 32, 3) := by decide +kernel
theorem dX7_init_47 : decode cX7_init 47 = .ok (.aload_n 0, 1) := by decide +kernel
theorem dX7_init_48 : decode cX7_init 48 = .ok (.new 35, 3) := by decide +kernel
theorem dX7_init_51 : decode cX7_init 51 = .ok (.dup, 1) := by decide +kernel
theorem dX7_init_52 : decode cX7_init 52 = .ok (.invokespecial 37, 3) := by decide +kernel
theorem dX7_init_55 : decode cX7_init 55 = .ok (.putfield 38, 3) := by decide +kernel
theorem dX7_init_58 : decode cX7_init 58 = .ok (.aload_n 0, 1) := by decide +kernel
theorem dX7_init_59 : decode cX7_init 59 = .ok (.new 25, 3) := by decide +kernel
theorem dX7_init_62 : decode cX7_init 62 = .ok (.dup, 1) := by decide +kernel
theorem dX7_init_63 : decode cX7_init 63 = .ok (.invokespecial 27, 3) := by decide +kernel
theorem dX7_init_66 : decode cX7_init 66 = .ok (.putfield 42, 3) := by decide +kernel
theorem dX7_init_69 : decode cX7_init 69 = .ok (.aload_n 0, 1) := by decide +kernel
theorem dX7_init_70 : decode cX7_init 70 = .ok (.new 45, 3) := by decide +kernel
theorem dX7_init_73 : decode cX7_init 73 = .ok (.dup, 1) := by decide +kernel
theorem dX7_init_74 : decode cX7_init 74 = .ok (.invokespecial 47, 3) := by decide +kernel
theorem dX7_init_77 : decode cX7_init 77 = .ok (.putfield 48, 3) := by decide +kernel
theorem dX7_init_80 : decode cX7_init 80 = .ok (.aload_n 0, 1) := by decide +kernel
theorem dX7_init_81 : decode cX7_init 81 = .ok (.bipush 6, 2) := by decide +kernel
theorem dX7_init_83 : decode cX7_init 83 = .ok (.anewarray 52, 3) := by decide +kernel
theorem dX7_init_86 : decode cX7_init 86 = .ok (.putfield 54, 3) := by decide +kernel
theorem dX7_init_89 : decode cX7_init 89 = .ok (.iconst 0, 1) := by decide +kernel
theorem dX7_init_90 : decode cX7_init 90 = .ok (.istore_n 1, 1) := by decide +kernel
theorem dX7_init_91 : decode cX7_init 91 = .ok (.iload_n 1, 1) := by decide +kernel
theorem dX7_init_92 : decode cX7_init 92 = .ok (.bipush 6, 2) := by decide +kernel
theorem dX7_init_94 : decode cX7_init 94 = .ok (.if_icmp .ge 22, 3) := by decide +kernel
theorem dX7_init_97 : decode cX7_init 97 = .ok (.aload_n 0, 1) := by decide +kernel
theorem dX7_init_98 : decode cX7_init 98 = .ok (.getfield 54, 3) := by decide +kernel
theorem dX7_init_101 : decode cX7_init 101 = .ok (.iload_n 1, 1) := by decide +kernel
theorem dX7_init_102 : decode cX7_init 102 = .ok (.new 52, 3) := by decide +kernel
theorem dX7_init_105 : decode cX7_init 105 = .ok (.dup, 1) := by decide +kernel
theorem dX7_init_106 : decode cX7_init 106 = .ok (.invokespecial 58, 3) := by decide +kernel
theorem dX7_init_109 : decode cX7_init 109 = .ok (.aastore, 1) := by decide +kernel
theorem dX7_init_110 : decode cX7_init 110 = .ok (.iinc 1 1, 3) := by decide +kernel
theorem dX7_init_113 : decode cX7_init 113 = .ok (.goto (-22), 3) := by decide +kernel
theorem dX7_init_116 : decode cX7_init 116 = .ok (.return_, 1) := by decide +kernel
theorem dX7_point_0 : decode cX7_point 0 = .ok (.iload_n 1, 1) := by decide +kernel
theorem dX7_point_1 : decode cX7_point 1 = .ok (.iload_n 2, 1) := by decide +kernel
theorem dX7_point_2 : decode cX7_point 2 = .ok (.iload_n 3, 1) := by decide +kernel
theorem dX7_point_3 : decode cX7_point 3 = .ok (.invokestatic 59, 3) := by decide +kernel
theorem dX7_point_6 : decode cX7_point 6 = .ok (.ifCond .eq 11, 3) := by decide +kernel
theorem dX7_point_9 : decode cX7_point 9 = .ok (.iload 4, 2) := by decide +kernel
theorem dX7_point_11 : decode cX7_point 11 = .ok (.invokestatic 63, 3) := by decide +kernel
theorem dX7_point_14 : decode cX7_point 14 = .ok (.ifCond .ne 6, 3) := by decide +kernel
theorem dX7_point_17 : decode cX7_point 17 = .ok (.bipush (-2), 2) := by decide +kernel
theorem dX7_point_19 : decode cX7_point 19 = .ok (.ireturn, 1) := by decide +kernel
theorem dX7_point_20 : decode cX7_point 20 = .ok (.aload_n 0, 1) := by decide +kernel
theorem dX7_point_21 : decode cX7_point 21 = .ok (.getfield 12, 3) := by decide +kernel
theorem dX7_point_24 : decode cX7_point 24 = .ok (.getfield 67, 3) := by decide +kernel
theorem dX7_point_27 : decode cX7_point 27 = .ok (.iload_n 1, 1) := by decide +kernel
theorem dX7_point_28 : decode cX7_point 28 = .ok (.iload_n 2, 1) := by decide +kernel
theorem dX7_point_29 : decode cX7_point 29 = .ok (.iload_n 3, 1) := by decide +kernel
theorem dX7_point_30 : decode cX7_point 30 = .ok (.invokevirtual 70, 3) := by decide +kernel
theorem dX7_point_33 : decode cX7_point 33 = .ok (.bipush (-5), 2) := by decide +kernel
theorem dX7_point_35 : decode cX7_point 35 = .ok (.if_icmp .eq 6, 3) := by decide +kernel
theorem dX7_point_38 : decode cX7_point 38 = .ok (.bipush (-3), 2) := by decide +kernel
theorem dX7_point_40 : decode cX7_point 40 = .ok (.ireturn, 1) := by decide +kernel
theorem dX7_point_41 : decode cX7_point 41 = .ok (.aload_n 0, 1) := by decide +kernel
theorem dX7_point_42 : decode cX7_point 42 = .ok (.getfield 12, 3) := by decide +kernel
theorem dX7_point_45 : decode cX7_point 45 = .ok (.getfield 67, 3) := by decide +kernel
theorem dX7_point_48 : decode cX7_point 48 = .ok (.getfield 74, 3) := by decide +kernel
theorem dX7_point_51 : decode cX7_point 51 = .ok (.bipush 8, 2) := by decide +kernel
theorem dX7_point_53 : decode cX7_point 53 = .ok (.if_icmp .ne 6, 3) := by decide +kernel
theorem dX7_point_56 : decode cX7_point 56 = .ok (.bipush (-4), 2) := by decide +kernel
theorem dX7_point_58 : decode cX7_point 58 = .ok (.ireturn, 1) := by decide +kernel
theorem dX7_point_59 : decode cX7_point 59 = .ok (.aload_n 0, 1) := by decide +kernel
theorem dX7_point_60 : decode cX7_point 60 = .ok (.iconst 1, 1) := by decide +kernel
theorem dX7_point_61 : decode cX7_point 61 = .ok (.putfield 32, 3) := by decide +kernel
theorem dX7_point_64 : decode cX7_point 64 = .ok (.aload_n 0, 1) := by decide +kernel
theorem dX7_point_65 : decode cX7_point 65 = .ok (.getfield 12, 3) := by decide +kernel
theorem dX7_point_68 : decode cX7_point 68 = .ok (.getfield 67, 3) := by decide +kernel
theorem dX7_point_71 : decode cX7_point 71 = .ok (.iload_n 1, 1) := by decide +kernel
theorem dX7_point_72 : decode cX7_point 72 = .ok (.iload_n 2, 1) := by decide +kernel
theorem dX7_point_73 : decode cX7_point 73 = .ok (.iload_n 3, 1) := by decide +kernel
theorem dX7_point_74 : decode cX7_point 74 = .ok (.iload 4, 2) := by decide +kernel
theorem dX7_point_76 : decode cX7_point 76 = .ok (.invokevirtual 78, 3) := by decide +kernel
theorem dX7_point_79 : decode cX7_point 79 = .ok (.ireturn, 1) := by decide +kernel
theorem dX7_mark_0 : decode cX7_mark 0 = .ok (.aload_n 0, 1) := by decide +kernel
theorem dX7_mark_1 : decode cX7_mark 1 = .ok (.iload_n 1, 1) := by decide +kernel
theorem dX7_mark_2 : decode cX7_mark 2 = .ok (.invokevirtual 82, 3) := by decide +kernel
theorem dX7_mark_5 : decode cX7_mark 5 = .ok (.ifCond .ne 5, 3) := by decide +kernel
theorem dX7_mark_8 : decode cX7_mark 8 = .ok (.iconst (-1), 1) := by decide +kernel
theorem dX7_mark_9 : decode cX7_mark 9 = .ok (.ireturn, 1) := by decide +kernel
theorem dX7_mark_10 : decode cX7_mark 10 = .ok (.iload_n 2, 1) := by decide +kernel
theorem dX7_mark_11 : decode cX7_mark 11 = .ok (.invokestatic 63, 3) := by decide +kernel
theorem dX7_mark_14 : decode cX7_mark 14 = .ok (.ifCond .ne 6, 3) := by decide +kernel
theorem dX7_mark_17 : decode cX7_mark 17 = .ok (.bipush (-2), 2) := by decide +kernel
theorem dX7_mark_19 : decode cX7_mark 19 = .ok (.ireturn, 1) := by decide +kernel
theorem dX7_mark_20 : decode cX7_mark 20 = .ok (.aload_n 0, 1) := by decide +kernel
theorem dX7_mark_21 : decode cX7_mark 21 = .ok (.getfield 12, 3) := by decide +kernel
theorem dX7_mark_24 : decode cX7_mark 24 = .ok (.getfield 67, 3) := by decide +kernel
theorem dX7_mark_27 : decode cX7_mark 27 = .ok (.getfield 85, 3) := by decide +kernel
theorem dX7_mark_30 : decode cX7_mark 30 = .ok (.iload_n 1, 1) := by decide +kernel
theorem dX7_mark_31 : decode cX7_mark 31 = .ok (.iaload, 1) := by decide +kernel
theorem dX7_mark_32 : decode cX7_mark 32 = .ok (.istore_n 3, 1) := by decide +kernel
theorem dX7_mark_33 : decode cX7_mark 33 = .ok (.aload_n 0, 1) := by decide +kernel
theorem dX7_mark_34 : decode cX7_mark 34 = .ok (.getfield 12, 3) := by decide +kernel
theorem dX7_mark_37 : decode cX7_mark 37 = .ok (.getfield 67, 3) := by decide +kernel
theorem dX7_mark_40 : decode cX7_mark 40 = .ok (.getfield 85, 3) := by decide +kernel
theorem dX7_mark_43 : decode cX7_mark 43 = .ok (.iload_n 1, 1) := by decide +kernel
theorem dX7_mark_44 : decode cX7_mark 44 = .ok (.iload_n 2, 1) := by decide +kernel
theorem dX7_mark_45 : decode cX7_mark 45 = .ok (.iastore, 1) := by decide +kernel
theorem dX7_mark_46 : decode cX7_mark 46 = .ok (.aload_n 0, 1) := by decide +kernel
theorem dX7_mark_47 : decode cX7_mark 47 = .ok (.iconst 1, 1) := by decide +kernel
theorem dX7_mark_48 : decode cX7_mark 48 = .ok (.putfield 32, 3) := by decide +kernel
theorem dX7_mark_51 : decode cX7_mark 51 = .ok (.iload_n 3, 1) := by decide +kernel
theorem dX7_mark_52 : decode cX7_mark 52 = .ok (.ireturn, 1) := by decide +kernel
theorem dX7_drop_0 : decode cX7_drop 0 = .ok (.aload_n 0, 1) := by decide +kernel
theorem dX7_drop_1 : decode cX7_drop 1 = .ok (.iload_n 1, 1) := by decide +kernel
theorem dX7_drop_2 : decode cX7_drop 2 = .ok (.invokevirtual 82, 3) := by decide +kernel
theorem dX7_drop_5 : decode cX7_drop 5 = .ok (.ifCond .ne 5, 3) := by decide +kernel
theorem dX7_drop_8 : decode cX7_drop 8 = .ok (.iconst (-1), 1) := by decide +kernel
theorem dX7_drop_9 : decode cX7_drop 9 = .ok (.ireturn, 1) := by decide +kernel
theorem dX7_drop_10 : decode cX7_drop 10 = .ok (.aload_n 0, 1) := by decide +kernel
theorem dX7_drop_11 : decode cX7_drop 11 = .ok (.getfield 12, 3) := by decide +kernel
theorem dX7_drop_14 : decode cX7_drop 14 = .ok (.getfield 67, 3) := by decide +kernel
theorem dX7_drop_17 : decode cX7_drop 17 = .ok (.iload_n 1, 1) := by decide +kernel
theorem dX7_drop_18 : decode cX7_drop 18 = .ok (.invokevirtual 89, 3) := by decide +kernel
theorem dX7_drop_21 : decode cX7_drop 21 = .ok (.aload_n 0, 1) := by decide +kernel
theorem dX7_drop_22 : decode cX7_drop 22 = .ok (.iconst 1, 1) := by decide +kernel
theorem dX7_drop_23 : decode cX7_drop 23 = .ok (.putfield 32, 3) := by decide +kernel
theorem dX7_drop_26 : decode cX7_drop 26 = .ok (.aload_n 0, 1) := by decide +kernel
theorem dX7_drop_27 : decode cX7_drop 27 = .ok (.getfield 12, 3) := by decide +kernel
theorem dX7_drop_30 : decode cX7_drop 30 = .ok (.getfield 67, 3) := by decide +kernel
theorem dX7_drop_33 : decode cX7_drop 33 = .ok (.getfield 74, 3) := by decide +kernel
theorem dX7_drop_36 : decode cX7_drop 36 = .ok (.ireturn, 1) := by decide +kernel
theorem dX7_of_0 : decode cX7_of 0 = .ok (.aload_n 0, 1) := by decide +kernel
theorem dX7_of_1 : decode cX7_of 1 = .ok (.iload_n 1, 1) := by decide +kernel
theorem dX7_of_2 : decode cX7_of 2 = .ok (.invokevirtual 82, 3) := by decide +kernel
theorem dX7_of_5 : decode cX7_of 5 = .ok (.ifCond .eq 12, 3) := by decide +kernel
theorem dX7_of_8 : decode cX7_of 8 = .ok (.iload_n 2, 1) := by decide +kernel
theorem dX7_of_9 : decode cX7_of 9 = .ok (.ifCond .lt 8, 3) := by decide +kernel
theorem dX7_of_12 : decode cX7_of 12 = .ok (.iload_n 2, 1) := by decide +kernel
theorem dX7_of_13 : decode cX7_of 13 = .ok (.iconst 4, 1) := by decide +kernel
theorem dX7_of_14 : decode cX7_of 14 = .ok (.if_icmp .le 6, 3) := by decide +kernel
theorem dX7_of_17 : decode cX7_of 17 = .ok (.bipush (-9), 2) := by decide +kernel
theorem dX7_of_19 : decode cX7_of 19 = .ok (.ireturn, 1) := by decide +kernel
theorem dX7_of_20 : decode cX7_of 20 = .ok (.iload_n 2, 1) := by decide +kernel
theorem dX7_of_21 : decode cX7_of 21 = .ok (.iconst 4, 1) := by decide +kernel
theorem dX7_of_22 : decode cX7_of 22 = .ok (.if_icmp .ne 13, 3) := by decide +kernel
theorem dX7_of_25 : decode cX7_of 25 = .ok (.aload_n 0, 1) := by decide +kernel
theorem dX7_of_26 : decode cX7_of 26 = .ok (.invokevirtual 93, 3) := by decide +kernel
theorem dX7_of_29 : decode cX7_of 29 = .ok (.getfield 97, 3) := by decide +kernel
theorem dX7_of_32 : decode cX7_of 32 = .ok (.iload_n 1, 1) := by decide +kernel
theorem dX7_of_33 : decode cX7_of 33 = .ok (.iaload, 1) := by decide +kernel
theorem dX7_of_34 : decode cX7_of 34 = .ok (.ireturn, 1) := by decide +kernel
theorem dX7_of_35 : decode cX7_of 35 = .ok (.iload_n 2, 1) := by decide +kernel
theorem dX7_of_36 : decode cX7_of 36 = .ok (.iconst 3, 1) := by decide +kernel
theorem dX7_of_37 : decode cX7_of 37 = .ok (.if_icmp .ne 18, 3) := by decide +kernel
theorem dX7_of_40 : decode cX7_of 40 = .ok (.aload_n 0, 1) := by decide +kernel
theorem dX7_of_41 : decode cX7_of 41 = .ok (.getfield 12, 3) := by decide +kernel
theorem dX7_of_44 : decode cX7_of 44 = .ok (.getfield 67, 3) := by decide +kernel
theorem dX7_of_47 : decode cX7_of 47 = .ok (.getfield 85, 3) := by decide +kernel
theorem dX7_of_50 : decode cX7_of 50 = .ok (.iload_n 1, 1) := by decide +kernel
theorem dX7_of_51 : decode cX7_of 51 = .ok (.iaload, 1) := by decide +kernel
theorem dX7_of_52 : decode cX7_of 52 = .ok (.goto 19, 3) := by decide +kernel
theorem dX7_of_55 : decode cX7_of 55 = .ok (.aload_n 0, 1) := by decide +kernel
theorem dX7_of_56 : decode cX7_of 56 = .ok (.getfield 12, 3) := by decide +kernel
theorem dX7_of_59 : decode cX7_of 59 = .ok (.getfield 67, 3) := by decide +kernel
theorem dX7_of_62 : decode cX7_of 62 = .ok (.getfield 100, 3) := by decide +kernel
theorem dX7_of_65 : decode cX7_of 65 = .ok (.iconst 3, 1) := by decide +kernel
theorem dX7_of_66 : decode cX7_of 66 = .ok (.iload_n 1, 1) := by decide +kernel
theorem dX7_of_67 : decode cX7_of 67 = .ok (.imul, 1) := by decide +kernel
theorem dX7_of_68 : decode cX7_of 68 = .ok (.iload_n 2, 1) := by decide +kernel
theorem dX7_of_69 : decode cX7_of 69 = .ok (.iadd, 1) := by decide +kernel
theorem dX7_of_70 : decode cX7_of 70 = .ok (.iaload, 1) := by decide +kernel
theorem dX7_of_71 : decode cX7_of 71 = .ok (.ireturn, 1) := by decide +kernel
theorem dX7_move_0 : decode cX7_move 0 = .ok (.iload_n 1, 1) := by decide +kernel
theorem dX7_move_1 : decode cX7_move 1 = .ok (.invokestatic 130, 3) := by decide +kernel
theorem dX7_move_4 : decode cX7_move 4 = .ok (.ifCond .eq 12, 3) := by decide +kernel
theorem dX7_move_7 : decode cX7_move 7 = .ok (.iload_n 2, 1) := by decide +kernel
theorem dX7_move_8 : decode cX7_move 8 = .ok (.ifCond .lt 8, 3) := by decide +kernel
theorem dX7_move_11 : decode cX7_move 11 = .ok (.iload_n 2, 1) := by decide +kernel
theorem dX7_move_12 : decode cX7_move 12 = .ok (.iconst 3, 1) := by decide +kernel
theorem dX7_move_13 : decode cX7_move 13 = .ok (.if_icmp .le 5, 3) := by decide +kernel
theorem dX7_move_16 : decode cX7_move 16 = .ok (.iconst (-1), 1) := by decide +kernel
theorem dX7_move_17 : decode cX7_move 17 = .ok (.ireturn, 1) := by decide +kernel
theorem dX7_move_18 : decode cX7_move 18 = .ok (.iload_n 2, 1) := by decide +kernel
theorem dX7_move_19 : decode cX7_move 19 = .ok (.tableswitch 55 0 2 #[25, 30, 35], 25) := by decide +kernel
theorem dX7_move_44 : decode cX7_move 44 = .ok (.iload_n 1, 1) := by decide +kernel
theorem dX7_move_45 : decode cX7_move 45 = .ok (.invokestatic 138, 3) := by decide +kernel
theorem dX7_move_48 : decode cX7_move 48 = .ok (.ireturn, 1) := by decide +kernel
theorem dX7_move_49 : decode cX7_move 49 = .ok (.iload_n 1, 1) := by decide +kernel
theorem dX7_move_50 : decode cX7_move 50 = .ok (.invokestatic 141, 3) := by decide +kernel
theorem dX7_move_53 : decode cX7_move 53 = .ok (.ireturn, 1) := by decide +kernel
theorem dX7_move_54 : decode cX7_move 54 = .ok (.aload_n 0, 1) := by decide +kernel
theorem dX7_move_55 : decode cX7_move 55 = .ok (.getfield 12, 3) := by decide +kernel
theorem dX7_move_58 : decode cX7_move 58 = .ok (.getfield 67, 3) := by decide +kernel
theorem dX7_move_61 : decode cX7_move 61 = .ok (.iload_n 1, 1) := by decide +kernel
theorem dX7_move_62 : decode cX7_move 62 = .ok (.invokevirtual 144, 3) := by decide +kernel
theorem dX7_move_65 : decode cX7_move 65 = .ok (.ifCond .eq 7, 3) := by decide +kernel
theorem dX7_move_68 : decode cX7_move 68 = .ok (.iconst 1, 1) := by decide +kernel
theorem dX7_move_69 : decode cX7_move 69 = .ok (.goto 4, 3) := by decide +kernel
theorem dX7_move_72 : decode cX7_move 72 = .ok (.iconst 0, 1) := by decide +kernel
theorem dX7_move_73 : decode cX7_move 73 = .ok (.ireturn, 1) := by decide +kernel
theorem dX7_move_74 : decode cX7_move 74 = .ok (.aload_n 0, 1) := by decide +kernel
theorem dX7_move_75 : decode cX7_move 75 = .ok (.getfield 12, 3) := by decide +kernel
theorem dX7_move_78 : decode cX7_move 78 = .ok (.getfield 67, 3) := by decide +kernel
theorem dX7_move_81 : decode cX7_move 81 = .ok (.iload_n 1, 1) := by decide +kernel
theorem dX7_move_82 : decode cX7_move 82 = .ok (.invokevirtual 147, 3) := by decide +kernel
theorem dX7_move_85 : decode cX7_move 85 = .ok (.ireturn, 1) := by decide +kernel
theorem dX7_takes_0 : decode cX7_takes 0 = .ok (.iload_n 1, 1) := by decide +kernel
theorem dX7_takes_1 : decode cX7_takes 1 = .ok (.invokestatic 130, 3) := by decide +kernel
theorem dX7_takes_4 : decode cX7_takes 4 = .ok (.ifCond .eq 26, 3) := by decide +kernel
theorem dX7_takes_7 : decode cX7_takes 7 = .ok (.aload_n 0, 1) := by decide +kernel
theorem dX7_takes_8 : decode cX7_takes 8 = .ok (.iload_n 2, 1) := by decide +kernel
theorem dX7_takes_9 : decode cX7_takes 9 = .ok (.invokevirtual 82, 3) := by decide +kernel
theorem dX7_takes_12 : decode cX7_takes 12 = .ok (.ifCond .eq 18, 3) := by decide +kernel
theorem dX7_takes_15 : decode cX7_takes 15 = .ok (.aload_n 0, 1) := by decide +kernel
theorem dX7_takes_16 : decode cX7_takes 16 = .ok (.getfield 12, 3) := by decide +kernel
theorem dX7_takes_19 : decode cX7_takes 19 = .ok (.getfield 67, 3) := by decide +kernel
theorem dX7_takes_22 : decode cX7_takes 22 = .ok (.iload_n 1, 1) := by decide +kernel
theorem dX7_takes_23 : decode cX7_takes 23 = .ok (.iload_n 2, 1) := by decide +kernel
theorem dX7_takes_24 : decode cX7_takes 24 = .ok (.invokevirtual 156, 3) := by decide +kernel
theorem dX7_takes_27 : decode cX7_takes 27 = .ok (.goto 4, 3) := by decide +kernel
theorem dX7_takes_30 : decode cX7_takes 30 = .ok (.iconst (-1), 1) := by decide +kernel
theorem dX7_takes_31 : decode cX7_takes 31 = .ok (.ireturn, 1) := by decide +kernel
theorem dX7_told_0 : decode cX7_told 0 = .ok (.iload_n 1, 1) := by decide +kernel
theorem dX7_told_1 : decode cX7_told 1 = .ok (.ifCond .lt 9, 3) := by decide +kernel
theorem dX7_told_4 : decode cX7_told 4 = .ok (.iload_n 1, 1) := by decide +kernel
theorem dX7_told_5 : decode cX7_told 5 = .ok (.bipush 7, 2) := by decide +kernel
theorem dX7_told_7 : decode cX7_told 7 = .ok (.if_icmp .le 5, 3) := by decide +kernel
theorem dX7_told_10 : decode cX7_told 10 = .ok (.iconst (-1), 1) := by decide +kernel
theorem dX7_told_11 : decode cX7_told 11 = .ok (.ireturn, 1) := by decide +kernel
theorem dX7_told_12 : decode cX7_told 12 = .ok (.aload_n 0, 1) := by decide +kernel
theorem dX7_told_13 : decode cX7_told 13 = .ok (.invokevirtual 93, 3) := by decide +kernel
theorem dX7_told_16 : decode cX7_told 16 = .ok (.astore_n 2, 1) := by decide +kernel
theorem dX7_told_17 : decode cX7_told 17 = .ok (.iload_n 1, 1) := by decide +kernel
theorem dX7_told_18 : decode cX7_told 18 = .ok (.tableswitch 102 0 6 #[42, 53, 58, 63, 68, 81, 97], 42) := by decide +kernel
theorem dX7_told_60 : decode cX7_told 60 = .ok (.aload_n 0, 1) := by decide +kernel
theorem dX7_told_61 : decode cX7_told 61 = .ok (.getfield 12, 3) := by decide +kernel
theorem dX7_told_64 : decode cX7_told 64 = .ok (.getfield 67, 3) := by decide +kernel
theorem dX7_told_67 : decode cX7_told 67 = .ok (.getfield 74, 3) := by decide +kernel
theorem dX7_told_70 : decode cX7_told 70 = .ok (.ireturn, 1) := by decide +kernel
theorem dX7_told_71 : decode cX7_told 71 = .ok (.aload_n 2, 1) := by decide +kernel
theorem dX7_told_72 : decode cX7_told 72 = .ok (.getfield 159, 3) := by decide +kernel
theorem dX7_told_75 : decode cX7_told 75 = .ok (.ireturn, 1) := by decide +kernel
theorem dX7_told_76 : decode cX7_told 76 = .ok (.aload_n 2, 1) := by decide +kernel
theorem dX7_told_77 : decode cX7_told 77 = .ok (.getfield 160, 3) := by decide +kernel
theorem dX7_told_80 : decode cX7_told 80 = .ok (.ireturn, 1) := by decide +kernel
theorem dX7_told_81 : decode cX7_told 81 = .ok (.aload_n 2, 1) := by decide +kernel
theorem dX7_told_82 : decode cX7_told 82 = .ok (.getfield 163, 3) := by decide +kernel
theorem dX7_told_85 : decode cX7_told 85 = .ok (.ireturn, 1) := by decide +kernel
theorem dX7_told_86 : decode cX7_told 86 = .ok (.aload_n 2, 1) := by decide +kernel
theorem dX7_told_87 : decode cX7_told 87 = .ok (.invokevirtual 166, 3) := by decide +kernel
theorem dX7_told_90 : decode cX7_told 90 = .ok (.ifCond .eq 7, 3) := by decide +kernel
theorem dX7_told_93 : decode cX7_told 93 = .ok (.iconst 1, 1) := by decide +kernel
theorem dX7_told_94 : decode cX7_told 94 = .ok (.goto 4, 3) := by decide +kernel
theorem dX7_told_97 : decode cX7_told 97 = .ok (.iconst 0, 1) := by decide +kernel
theorem dX7_told_98 : decode cX7_told 98 = .ok (.ireturn, 1) := by decide +kernel
theorem dX7_told_99 : decode cX7_told 99 = .ok (.aload_n 2, 1) := by decide +kernel
theorem dX7_told_100 : decode cX7_told 100 = .ok (.getfield 170, 3) := by decide +kernel
theorem dX7_told_103 : decode cX7_told 103 = .ok (.bipush 7, 2) := by decide +kernel
theorem dX7_told_105 : decode cX7_told 105 = .ok (.baload, 1) := by decide +kernel
theorem dX7_told_106 : decode cX7_told 106 = .ok (.ifCond .eq 7, 3) := by decide +kernel
theorem dX7_told_109 : decode cX7_told 109 = .ok (.iconst 1, 1) := by decide +kernel
theorem dX7_told_110 : decode cX7_told 110 = .ok (.goto 4, 3) := by decide +kernel
theorem dX7_told_113 : decode cX7_told 113 = .ok (.iconst 0, 1) := by decide +kernel
theorem dX7_told_114 : decode cX7_told 114 = .ok (.ireturn, 1) := by decide +kernel
theorem dX7_told_115 : decode cX7_told 115 = .ok (.aload_n 2, 1) := by decide +kernel
theorem dX7_told_116 : decode cX7_told 116 = .ok (.invokevirtual 174, 3) := by decide +kernel
theorem dX7_told_119 : decode cX7_told 119 = .ok (.ireturn, 1) := by decide +kernel
theorem dX7_told_120 : decode cX7_told 120 = .ok (.aload_n 0, 1) := by decide +kernel
theorem dX7_told_121 : decode cX7_told 121 = .ok (.aload_n 2, 1) := by decide +kernel
theorem dX7_told_122 : decode cX7_told 122 = .ok (.invokevirtual 177, 3) := by decide +kernel
theorem dX7_told_125 : decode cX7_told 125 = .ok (.ireturn, 1) := by decide +kernel
theorem dX7_nearest_0 : decode cX7_nearest 0 = .ok (.bipush (-5), 2) := by decide +kernel
theorem dX7_nearest_2 : decode cX7_nearest 2 = .ok (.istore_n 2, 1) := by decide +kernel
theorem dX7_nearest_3 : decode cX7_nearest 3 = .ok (.bipush 9, 2) := by decide +kernel
theorem dX7_nearest_5 : decode cX7_nearest 5 = .ok (.istore_n 3, 1) := by decide +kernel
theorem dX7_nearest_6 : decode cX7_nearest 6 = .ok (.iconst 0, 1) := by decide +kernel
theorem dX7_nearest_7 : decode cX7_nearest 7 = .ok (.istore 4, 2) := by decide +kernel
theorem dX7_nearest_9 : decode cX7_nearest 9 = .ok (.iload 4, 2) := by decide +kernel
theorem dX7_nearest_11 : decode cX7_nearest 11 = .ok (.bipush 48, 2) := by decide +kernel
theorem dX7_nearest_13 : decode cX7_nearest 13 = .ok (.if_icmp .ge 45, 3) := by decide +kernel
theorem dX7_nearest_16 : decode cX7_nearest 16 = .ok (.aload_n 1, 1) := by decide +kernel
theorem dX7_nearest_17 : decode cX7_nearest 17 = .ok (.getfield 170, 3) := by decide +kernel
theorem dX7_nearest_20 : decode cX7_nearest 20 = .ok (.iload 4, 2) := by decide +kernel
theorem dX7_nearest_22 : decode cX7_nearest 22 = .ok (.baload, 1) := by decide +kernel
theorem dX7_nearest_23 : decode cX7_nearest 23 = .ok (.ifCond .ne 29, 3) := by decide +kernel
theorem dX7_nearest_26 : decode cX7_nearest 26 = .ok (.aload_n 0, 1) := by decide +kernel
theorem dX7_nearest_27 : decode cX7_nearest 27 = .ok (.getfield 12, 3) := by decide +kernel
theorem dX7_nearest_30 : decode cX7_nearest 30 = .ok (.getfield 67, 3) := by decide +kernel
theorem dX7_nearest_33 : decode cX7_nearest 33 = .ok (.iload 4, 2) := by decide +kernel
theorem dX7_nearest_35 : decode cX7_nearest 35 = .ok (.invokevirtual 147, 3) := by decide +kernel
theorem dX7_nearest_38 : decode cX7_nearest 38 = .ok (.istore 5, 2) := by decide +kernel
theorem dX7_nearest_40 : decode cX7_nearest 40 = .ok (.iload 5, 2) := by decide +kernel
theorem dX7_nearest_42 : decode cX7_nearest 42 = .ok (.iload_n 3, 1) := by decide +kernel
theorem dX7_nearest_43 : decode cX7_nearest 43 = .ok (.if_icmp .ge 9, 3) := by decide +kernel
theorem dX7_nearest_46 : decode cX7_nearest 46 = .ok (.iload 5, 2) := by decide +kernel
theorem dX7_nearest_48 : decode cX7_nearest 48 = .ok (.istore_n 3, 1) := by decide +kernel
theorem dX7_nearest_49 : decode cX7_nearest 49 = .ok (.iload 4, 2) := by decide +kernel
theorem dX7_nearest_51 : decode cX7_nearest 51 = .ok (.istore_n 2, 1) := by decide +kernel
theorem dX7_nearest_52 : decode cX7_nearest 52 = .ok (.iinc 4 1, 3) := by decide +kernel
theorem dX7_nearest_55 : decode cX7_nearest 55 = .ok (.goto (-46), 3) := by decide +kernel
theorem dX7_nearest_58 : decode cX7_nearest 58 = .ok (.iload_n 2, 1) := by decide +kernel
theorem dX7_nearest_59 : decode cX7_nearest 59 = .ok (.ireturn, 1) := by decide +kernel
theorem dX7_group_0 : decode cX7_group 0 = .ok (.iload_n 1, 1) := by decide +kernel
theorem dX7_group_1 : decode cX7_group 1 = .ok (.ifCond .ge 5, 3) := by decide +kernel
theorem dX7_group_4 : decode cX7_group 4 = .ok (.iconst (-1), 1) := by decide +kernel
theorem dX7_group_5 : decode cX7_group 5 = .ok (.ireturn, 1) := by decide +kernel
theorem dX7_group_6 : decode cX7_group 6 = .ok (.aload_n 0, 1) := by decide +kernel
theorem dX7_group_7 : decode cX7_group 7 = .ok (.invokevirtual 93, 3) := by decide +kernel
theorem dX7_group_10 : decode cX7_group 10 = .ok (.astore_n 2, 1) := by decide +kernel
theorem dX7_group_11 : decode cX7_group 11 = .ok (.iload_n 1, 1) := by decide +kernel
theorem dX7_group_12 : decode cX7_group 12 = .ok (.aload_n 2, 1) := by decide +kernel
theorem dX7_group_13 : decode cX7_group 13 = .ok (.getfield 159, 3) := by decide +kernel
theorem dX7_group_16 : decode cX7_group 16 = .ok (.if_icmp .ge 12, 3) := by decide +kernel
theorem dX7_group_19 : decode cX7_group 19 = .ok (.aload_n 2, 1) := by decide +kernel
theorem dX7_group_20 : decode cX7_group 20 = .ok (.getfield 181, 3) := by decide +kernel
theorem dX7_group_23 : decode cX7_group 23 = .ok (.iload_n 1, 1) := by decide +kernel
theorem dX7_group_24 : decode cX7_group 24 = .ok (.iaload, 1) := by decide +kernel
theorem dX7_group_25 : decode cX7_group 25 = .ok (.goto 5, 3) := by decide +kernel
theorem dX7_group_28 : decode cX7_group 28 = .ok (.bipush (-5), 2) := by decide +kernel
theorem dX7_group_30 : decode cX7_group 30 = .ok (.ireturn, 1) := by decide +kernel
theorem dX7_see_0 : decode cX7_see 0 = .ok (.iload_n 1, 1) := by decide +kernel
theorem dX7_see_1 : decode cX7_see 1 = .ok (.iconst (-1), 1) := by decide +kernel
theorem dX7_see_2 : decode cX7_see 2 = .ok (.if_icmp .ne 14, 3) := by decide +kernel
theorem dX7_see_5 : decode cX7_see 5 = .ok (.aload_n 0, 1) := by decide +kernel
theorem dX7_see_6 : decode cX7_see 6 = .ok (.getfield 12, 3) := by decide +kernel
theorem dX7_see_9 : decode cX7_see 9 = .ok (.getfield 209, 3) := by decide +kernel
theorem dX7_see_12 : decode cX7_see 12 = .ok (.invokevirtual 213, 3) := by decide +kernel
theorem dX7_see_15 : decode cX7_see 15 = .ok (.ireturn, 1) := by decide +kernel
theorem dX7_see_16 : decode cX7_see 16 = .ok (.iload_n 1, 1) := by decide +kernel
theorem dX7_see_17 : decode cX7_see 17 = .ok (.invokestatic 130, 3) := by decide +kernel
theorem dX7_see_20 : decode cX7_see 20 = .ok (.ifCond .ne 5, 3) := by decide +kernel
theorem dX7_see_23 : decode cX7_see 23 = .ok (.iconst (-1), 1) := by decide +kernel
theorem dX7_see_24 : decode cX7_see 24 = .ok (.ireturn, 1) := by decide +kernel
theorem dX7_see_25 : decode cX7_see 25 = .ok (.aload_n 0, 1) := by decide +kernel
theorem dX7_see_26 : decode cX7_see 26 = .ok (.getfield 12, 3) := by decide +kernel
theorem dX7_see_29 : decode cX7_see 29 = .ok (.getfield 209, 3) := by decide +kernel
theorem dX7_see_32 : decode cX7_see 32 = .ok (.invokevirtual 218, 3) := by decide +kernel
theorem dX7_see_35 : decode cX7_see 35 = .ok (.ifCond .eq 8, 3) := by decide +kernel
theorem dX7_see_38 : decode cX7_see 38 = .ok (.bipush (-4), 2) := by decide +kernel
theorem dX7_see_40 : decode cX7_see 40 = .ok (.goto 23, 3) := by decide +kernel
theorem dX7_see_43 : decode cX7_see 43 = .ok (.aload_n 0, 1) := by decide +kernel
theorem dX7_see_44 : decode cX7_see 44 = .ok (.getfield 12, 3) := by decide +kernel
theorem dX7_see_47 : decode cX7_see 47 = .ok (.getfield 209, 3) := by decide +kernel
theorem dX7_see_50 : decode cX7_see 50 = .ok (.iload_n 1, 1) := by decide +kernel
theorem dX7_see_51 : decode cX7_see 51 = .ok (.iload_n 2, 1) := by decide +kernel
theorem dX7_see_52 : decode cX7_see 52 = .ok (.ifCond .eq 7, 3) := by decide +kernel
theorem dX7_see_55 : decode cX7_see 55 = .ok (.iconst 1, 1) := by decide +kernel
theorem dX7_see_56 : decode cX7_see 56 = .ok (.goto 4, 3) := by decide +kernel
theorem dX7_see_59 : decode cX7_see 59 = .ok (.iconst 0, 1) := by decide +kernel
theorem dX7_see_60 : decode cX7_see 60 = .ok (.invokevirtual 221, 3) := by decide +kernel
theorem dX7_see_63 : decode cX7_see 63 = .ok (.ireturn, 1) := by decide +kernel
theorem dX7_fits_0 : decode cX7_fits 0 = .ok (.aload_n 0, 1) := by decide +kernel
theorem dX7_fits_1 : decode cX7_fits 1 = .ok (.iload_n 1, 1) := by decide +kernel
theorem dX7_fits_2 : decode cX7_fits 2 = .ok (.invokevirtual 82, 3) := by decide +kernel
theorem dX7_fits_5 : decode cX7_fits 5 = .ok (.ifCond .eq 12, 3) := by decide +kernel
theorem dX7_fits_8 : decode cX7_fits 8 = .ok (.iload_n 2, 1) := by decide +kernel
theorem dX7_fits_9 : decode cX7_fits 9 = .ok (.ifCond .lt 8, 3) := by decide +kernel
theorem dX7_fits_12 : decode cX7_fits 12 = .ok (.iload_n 2, 1) := by decide +kernel
theorem dX7_fits_13 : decode cX7_fits 13 = .ok (.iconst 1, 1) := by decide +kernel
theorem dX7_fits_14 : decode cX7_fits 14 = .ok (.if_icmp .le 5, 3) := by decide +kernel
theorem dX7_fits_17 : decode cX7_fits 17 = .ok (.iconst (-1), 1) := by decide +kernel
theorem dX7_fits_18 : decode cX7_fits 18 = .ok (.ireturn, 1) := by decide +kernel
theorem dX7_fits_19 : decode cX7_fits 19 = .ok (.iconst 0, 1) := by decide +kernel
theorem dX7_fits_20 : decode cX7_fits 20 = .ok (.istore_n 3, 1) := by decide +kernel
theorem dX7_fits_21 : decode cX7_fits 21 = .ok (.bipush (-5), 2) := by decide +kernel
theorem dX7_fits_23 : decode cX7_fits 23 = .ok (.istore 4, 2) := by decide +kernel
theorem dX7_fits_25 : decode cX7_fits 25 = .ok (.aload_n 0, 1) := by decide +kernel
theorem dX7_fits_26 : decode cX7_fits 26 = .ok (.getfield 38, 3) := by decide +kernel
theorem dX7_fits_29 : decode cX7_fits 29 = .ok (.aload_n 0, 1) := by decide +kernel
theorem dX7_fits_30 : decode cX7_fits 30 = .ok (.getfield 12, 3) := by decide +kernel
theorem dX7_fits_33 : decode cX7_fits 33 = .ok (.getfield 67, 3) := by decide +kernel
theorem dX7_fits_36 : decode cX7_fits 36 = .ok (.invokevirtual 223, 3) := by decide +kernel
theorem dX7_fits_39 : decode cX7_fits 39 = .ok (.iconst 4, 1) := by decide +kernel
theorem dX7_fits_40 : decode cX7_fits 40 = .ok (.istore 5, 2) := by decide +kernel
theorem dX7_fits_42 : decode cX7_fits 42 = .ok (.iload 5, 2) := by decide +kernel
theorem dX7_fits_44 : decode cX7_fits 44 = .ok (.ifCond .lt 38, 3) := by decide +kernel
theorem dX7_fits_47 : decode cX7_fits 47 = .ok (.aload_n 0, 1) := by decide +kernel
theorem dX7_fits_48 : decode cX7_fits 48 = .ok (.getfield 38, 3) := by decide +kernel
theorem dX7_fits_51 : decode cX7_fits 51 = .ok (.getfield 85, 3) := by decide +kernel
theorem dX7_fits_54 : decode cX7_fits 54 = .ok (.iload_n 1, 1) := by decide +kernel
theorem dX7_fits_55 : decode cX7_fits 55 = .ok (.iload 5, 2) := by decide +kernel
theorem dX7_fits_57 : decode cX7_fits 57 = .ok (.iastore, 1) := by decide +kernel
theorem dX7_fits_58 : decode cX7_fits 58 = .ok (.aload_n 0, 1) := by decide +kernel
theorem dX7_fits_59 : decode cX7_fits 59 = .ok (.aload_n 0, 1) := by decide +kernel
theorem dX7_fits_60 : decode cX7_fits 60 = .ok (.getfield 38, 3) := by decide +kernel
theorem dX7_fits_63 : decode cX7_fits 63 = .ok (.invokevirtual 227, 3) := by decide +kernel
theorem dX7_fits_66 : decode cX7_fits 66 = .ok (.ifCond .eq 10, 3) := by decide +kernel
theorem dX7_fits_69 : decode cX7_fits 69 = .ok (.iinc 3 1, 3) := by decide +kernel
theorem dX7_fits_72 : decode cX7_fits 72 = .ok (.iload 5, 2) := by decide +kernel
theorem dX7_fits_74 : decode cX7_fits 74 = .ok (.istore 4, 2) := by decide +kernel
theorem dX7_fits_76 : decode cX7_fits 76 = .ok (.iinc 5 (-1), 3) := by decide +kernel
theorem dX7_fits_79 : decode cX7_fits 79 = .ok (.goto (-37), 3) := by decide +kernel
theorem dX7_fits_82 : decode cX7_fits 82 = .ok (.iload_n 2, 1) := by decide +kernel
theorem dX7_fits_83 : decode cX7_fits 83 = .ok (.ifCond .ne 7, 3) := by decide +kernel
theorem dX7_fits_86 : decode cX7_fits 86 = .ok (.iload_n 3, 1) := by decide +kernel
theorem dX7_fits_87 : decode cX7_fits 87 = .ok (.goto 5, 3) := by decide +kernel
theorem dX7_fits_90 : decode cX7_fits 90 = .ok (.iload 4, 2) := by decide +kernel
theorem dX7_fits_92 : decode cX7_fits 92 = .ok (.ireturn, 1) := by decide +kernel
theorem dX7_isAllAsSeen_0 : decode cX7_isAllAsSeen 0 = .ok (.iconst 0, 1) := by decide +kernel
theorem dX7_isAllAsSeen_1 : decode cX7_isAllAsSeen 1 = .ok (.istore_n 2, 1) := by decide +kernel
theorem dX7_isAllAsSeen_2 : decode cX7_isAllAsSeen 2 = .ok (.iload_n 2, 1) := by decide +kernel
theorem dX7_isAllAsSeen_3 : decode cX7_isAllAsSeen 3 = .ok (.aload_n 0, 1) := by decide +kernel
theorem dX7_isAllAsSeen_4 : decode cX7_isAllAsSeen 4 = .ok (.getfield 12, 3) := by decide +kernel
theorem dX7_isAllAsSeen_7 : decode cX7_isAllAsSeen 7 = .ok (.getfield 209, 3) := by decide +kernel
theorem dX7_isAllAsSeen_10 : decode cX7_isAllAsSeen 10 = .ok (.getfield 231, 3) := by decide +kernel
theorem dX7_isAllAsSeen_13 : decode cX7_isAllAsSeen 13 = .ok (.if_icmp .ge 53, 3) := by decide +kernel
theorem dX7_isAllAsSeen_16 : decode cX7_isAllAsSeen 16 = .ok (.aload_n 0, 1) := by decide +kernel
theorem dX7_isAllAsSeen_17 : decode cX7_isAllAsSeen 17 = .ok (.getfield 12, 3) := by decide +kernel
theorem dX7_isAllAsSeen_20 : decode cX7_isAllAsSeen 20 = .ok (.getfield 209, 3) := by decide +kernel
theorem dX7_isAllAsSeen_23 : decode cX7_isAllAsSeen 23 = .ok (.getfield 232, 3) := by decide +kernel
theorem dX7_isAllAsSeen_26 : decode cX7_isAllAsSeen 26 = .ok (.iload_n 2, 1) := by decide +kernel
theorem dX7_isAllAsSeen_27 : decode cX7_isAllAsSeen 27 = .ok (.iaload, 1) := by decide +kernel
theorem dX7_isAllAsSeen_28 : decode cX7_isAllAsSeen 28 = .ok (.iconst 1, 1) := by decide +kernel
theorem dX7_isAllAsSeen_29 : decode cX7_isAllAsSeen 29 = .ok (.if_icmp .ne 7, 3) := by decide +kernel
theorem dX7_isAllAsSeen_32 : decode cX7_isAllAsSeen 32 = .ok (.iconst 1, 1) := by decide +kernel
theorem dX7_isAllAsSeen_33 : decode cX7_isAllAsSeen 33 = .ok (.goto 4, 3) := by decide +kernel
theorem dX7_isAllAsSeen_36 : decode cX7_isAllAsSeen 36 = .ok (.iconst 0, 1) := by decide +kernel
theorem dX7_isAllAsSeen_37 : decode cX7_isAllAsSeen 37 = .ok (.istore_n 3, 1) := by decide +kernel
theorem dX7_isAllAsSeen_38 : decode cX7_isAllAsSeen 38 = .ok (.aload_n 1, 1) := by decide +kernel
theorem dX7_isAllAsSeen_39 : decode cX7_isAllAsSeen 39 = .ok (.aload_n 0, 1) := by decide +kernel
theorem dX7_isAllAsSeen_40 : decode cX7_isAllAsSeen 40 = .ok (.getfield 12, 3) := by decide +kernel
theorem dX7_isAllAsSeen_43 : decode cX7_isAllAsSeen 43 = .ok (.getfield 209, 3) := by decide +kernel
theorem dX7_isAllAsSeen_46 : decode cX7_isAllAsSeen 46 = .ok (.getfield 235, 3) := by decide +kernel
theorem dX7_isAllAsSeen_49 : decode cX7_isAllAsSeen 49 = .ok (.iload_n 2, 1) := by decide +kernel
theorem dX7_isAllAsSeen_50 : decode cX7_isAllAsSeen 50 = .ok (.iaload, 1) := by decide +kernel
theorem dX7_isAllAsSeen_51 : decode cX7_isAllAsSeen 51 = .ok (.invokevirtual 144, 3) := by decide +kernel
theorem dX7_isAllAsSeen_54 : decode cX7_isAllAsSeen 54 = .ok (.iload_n 3, 1) := by decide +kernel
theorem dX7_isAllAsSeen_55 : decode cX7_isAllAsSeen 55 = .ok (.if_icmp .eq 5, 3) := by decide +kernel
theorem dX7_isAllAsSeen_58 : decode cX7_isAllAsSeen 58 = .ok (.iconst 0, 1) := by decide +kernel
theorem dX7_isAllAsSeen_59 : decode cX7_isAllAsSeen 59 = .ok (.ireturn, 1) := by decide +kernel
theorem dX7_isAllAsSeen_60 : decode cX7_isAllAsSeen 60 = .ok (.iinc 2 1, 3) := by decide +kernel
theorem dX7_isAllAsSeen_63 : decode cX7_isAllAsSeen 63 = .ok (.goto (-61), 3) := by decide +kernel
theorem dX7_isAllAsSeen_66 : decode cX7_isAllAsSeen 66 = .ok (.iconst 1, 1) := by decide +kernel
theorem dX7_isAllAsSeen_67 : decode cX7_isAllAsSeen 67 = .ok (.ireturn, 1) := by decide +kernel
theorem dX7_odds_0 : decode cX7_odds 0 = .ok (.aload_n 0, 1) := by decide +kernel
theorem dX7_odds_1 : decode cX7_odds 1 = .ok (.iload_n 1, 1) := by decide +kernel
theorem dX7_odds_2 : decode cX7_odds 2 = .ok (.invokevirtual 82, 3) := by decide +kernel
theorem dX7_odds_5 : decode cX7_odds 5 = .ok (.ifCond .eq 20, 3) := by decide +kernel
theorem dX7_odds_8 : decode cX7_odds 8 = .ok (.iload_n 2, 1) := by decide +kernel
theorem dX7_odds_9 : decode cX7_odds 9 = .ok (.ifCond .lt 16, 3) := by decide +kernel
theorem dX7_odds_12 : decode cX7_odds 12 = .ok (.iload_n 2, 1) := by decide +kernel
theorem dX7_odds_13 : decode cX7_odds 13 = .ok (.bipush 48, 2) := by decide +kernel
theorem dX7_odds_15 : decode cX7_odds 15 = .ok (.if_icmp .gt 10, 3) := by decide +kernel
theorem dX7_odds_18 : decode cX7_odds 18 = .ok (.iload_n 3, 1) := by decide +kernel
theorem dX7_odds_19 : decode cX7_odds 19 = .ok (.invokestatic 238, 3) := by decide +kernel
theorem dX7_odds_22 : decode cX7_odds 22 = .ok (.ifCond .ne 7, 3) := by decide +kernel
theorem dX7_odds_25 : decode cX7_odds 25 = .ok (.ldc2_w 241, 3) := by decide +kernel
theorem dX7_odds_28 : decode cX7_odds 28 = .ok (.lreturn, 1) := by decide +kernel
theorem dX7_odds_29 : decode cX7_odds 29 = .ok (.iconst 0, 1) := by decide +kernel
theorem dX7_odds_30 : decode cX7_odds 30 = .ok (.istore 4, 2) := by decide +kernel
theorem dX7_odds_32 : decode cX7_odds 32 = .ok (.aload_n 0, 1) := by decide +kernel
theorem dX7_odds_33 : decode cX7_odds 33 = .ok (.getfield 38, 3) := by decide +kernel
theorem dX7_odds_36 : decode cX7_odds 36 = .ok (.aload_n 0, 1) := by decide +kernel
theorem dX7_odds_37 : decode cX7_odds 37 = .ok (.getfield 12, 3) := by decide +kernel
theorem dX7_odds_40 : decode cX7_odds 40 = .ok (.getfield 67, 3) := by decide +kernel
theorem dX7_odds_43 : decode cX7_odds 43 = .ok (.invokevirtual 223, 3) := by decide +kernel
theorem dX7_odds_46 : decode cX7_odds 46 = .ok (.iconst 0, 1) := by decide +kernel
theorem dX7_odds_47 : decode cX7_odds 47 = .ok (.istore 5, 2) := by decide +kernel
theorem dX7_odds_49 : decode cX7_odds 49 = .ok (.iload 5, 2) := by decide +kernel
theorem dX7_odds_51 : decode cX7_odds 51 = .ok (.iconst 5, 1) := by decide +kernel
theorem dX7_odds_52 : decode cX7_odds 52 = .ok (.if_icmp .ge 34, 3) := by decide +kernel
theorem dX7_odds_55 : decode cX7_odds 55 = .ok (.aload_n 0, 1) := by decide +kernel
theorem dX7_odds_56 : decode cX7_odds 56 = .ok (.getfield 38, 3) := by decide +kernel
theorem dX7_odds_59 : decode cX7_odds 59 = .ok (.getfield 85, 3) := by decide +kernel
theorem dX7_odds_62 : decode cX7_odds 62 = .ok (.iload_n 1, 1) := by decide +kernel
theorem dX7_odds_63 : decode cX7_odds 63 = .ok (.iload 5, 2) := by decide +kernel
theorem dX7_odds_65 : decode cX7_odds 65 = .ok (.iastore, 1) := by decide +kernel
theorem dX7_odds_66 : decode cX7_odds 66 = .ok (.aload_n 0, 1) := by decide +kernel
theorem dX7_odds_67 : decode cX7_odds 67 = .ok (.getfield 38, 3) := by decide +kernel
theorem dX7_odds_70 : decode cX7_odds 70 = .ok (.invokevirtual 243, 3) := by decide +kernel
theorem dX7_odds_73 : decode cX7_odds 73 = .ok (.iload_n 2, 1) := by decide +kernel
theorem dX7_odds_74 : decode cX7_odds 74 = .ok (.if_icmp .lt 6, 3) := by decide +kernel
theorem dX7_odds_77 : decode cX7_odds 77 = .ok (.iinc 4 1, 3) := by decide +kernel
theorem dX7_odds_80 : decode cX7_odds 80 = .ok (.iinc 5 1, 3) := by decide +kernel
theorem dX7_odds_83 : decode cX7_odds 83 = .ok (.goto (-34), 3) := by decide +kernel
theorem dX7_odds_86 : decode cX7_odds 86 = .ok (.iload 4, 2) := by decide +kernel
theorem dX7_odds_88 : decode cX7_odds 88 = .ok (.iconst 5, 1) := by decide +kernel
theorem dX7_odds_89 : decode cX7_odds 89 = .ok (.iload_n 3, 1) := by decide +kernel
theorem dX7_odds_90 : decode cX7_odds 90 = .ok (.invokestatic 246, 3) := by decide +kernel
theorem dX7_odds_93 : decode cX7_odds 93 = .ok (.i2l, 1) := by decide +kernel
theorem dX7_odds_94 : decode cX7_odds 94 = .ok (.lreturn, 1) := by decide +kernel
theorem dX7_mean_0 : decode cX7_mean 0 = .ok (.iload_n 1, 1) := by decide +kernel
theorem dX7_mean_1 : decode cX7_mean 1 = .ok (.invokestatic 238, 3) := by decide +kernel
theorem dX7_mean_4 : decode cX7_mean 4 = .ok (.ifCond .ne 7, 3) := by decide +kernel
theorem dX7_mean_7 : decode cX7_mean 7 = .ok (.ldc2_w 241, 3) := by decide +kernel
theorem dX7_mean_10 : decode cX7_mean 10 = .ok (.lreturn, 1) := by decide +kernel
theorem dX7_mean_11 : decode cX7_mean 11 = .ok (.aload_n 0, 1) := by decide +kernel
theorem dX7_mean_12 : decode cX7_mean 12 = .ok (.invokevirtual 93, 3) := by decide +kernel
theorem dX7_mean_15 : decode cX7_mean 15 = .ok (.astore_n 2, 1) := by decide +kernel
theorem dX7_mean_16 : decode cX7_mean 16 = .ok (.aload_n 2, 1) := by decide +kernel
theorem dX7_mean_17 : decode cX7_mean 17 = .ok (.invokevirtual 249, 3) := by decide +kernel
theorem dX7_mean_20 : decode cX7_mean 20 = .ok (.aload_n 2, 1) := by decide +kernel
theorem dX7_mean_21 : decode cX7_mean 21 = .ok (.getfield 159, 3) := by decide +kernel
theorem dX7_mean_24 : decode cX7_mean 24 = .ok (.iload_n 1, 1) := by decide +kernel
theorem dX7_mean_25 : decode cX7_mean 25 = .ok (.invokestatic 246, 3) := by decide +kernel
theorem dX7_mean_28 : decode cX7_mean 28 = .ok (.i2l, 1) := by decide +kernel
theorem dX7_mean_29 : decode cX7_mean 29 = .ok (.lreturn, 1) := by decide +kernel
theorem dX7_partOfFraction_0 : decode cX7_partOfFraction 0 = .ok (.iload_n 2, 1) := by decide +kernel
theorem dX7_partOfFraction_1 : decode cX7_partOfFraction 1 = .ok (.ifCond .ne 7, 3) := by decide +kernel
theorem dX7_partOfFraction_4 : decode cX7_partOfFraction 4 = .ok (.iload_n 0, 1) := by decide +kernel
theorem dX7_partOfFraction_5 : decode cX7_partOfFraction 5 = .ok (.goto 4, 3) := by decide +kernel
theorem dX7_partOfFraction_8 : decode cX7_partOfFraction 8 = .ok (.iload_n 1, 1) := by decide +kernel
theorem dX7_partOfFraction_9 : decode cX7_partOfFraction 9 = .ok (.istore_n 3, 1) := by decide +kernel
theorem dX7_partOfFraction_10 : decode cX7_partOfFraction 10 = .ok (.iload_n 1, 1) := by decide +kernel
theorem dX7_partOfFraction_11 : decode cX7_partOfFraction 11 = .ok (.istore 4, 2) := by decide +kernel
theorem dX7_partOfFraction_13 : decode cX7_partOfFraction 13 = .ok (.iload 4, 2) := by decide +kernel
theorem dX7_partOfFraction_15 : decode cX7_partOfFraction 15 = .ok (.iconst 1, 1) := by decide +kernel
theorem dX7_partOfFraction_16 : decode cX7_partOfFraction 16 = .ok (.if_icmp .le 28, 3) := by decide +kernel
theorem dX7_partOfFraction_19 : decode cX7_partOfFraction 19 = .ok (.iload_n 0, 1) := by decide +kernel
theorem dX7_partOfFraction_20 : decode cX7_partOfFraction 20 = .ok (.iload 4, 2) := by decide +kernel
theorem dX7_partOfFraction_22 : decode cX7_partOfFraction 22 = .ok (.irem, 1) := by decide +kernel
theorem dX7_partOfFraction_23 : decode cX7_partOfFraction 23 = .ok (.ifCond .ne 15, 3) := by decide +kernel
theorem dX7_partOfFraction_26 : decode cX7_partOfFraction 26 = .ok (.iload_n 1, 1) := by decide +kernel
theorem dX7_partOfFraction_27 : decode cX7_partOfFraction 27 = .ok (.iload 4, 2) := by decide +kernel
theorem dX7_partOfFraction_29 : decode cX7_partOfFraction 29 = .ok (.irem, 1) := by decide +kernel
theorem dX7_partOfFraction_30 : decode cX7_partOfFraction 30 = .ok (.ifCond .ne 8, 3) := by decide +kernel
theorem dX7_partOfFraction_33 : decode cX7_partOfFraction 33 = .ok (.iload_n 3, 1) := by decide +kernel
theorem dX7_partOfFraction_34 : decode cX7_partOfFraction 34 = .ok (.iload 4, 2) := by decide +kernel
theorem dX7_partOfFraction_36 : decode cX7_partOfFraction 36 = .ok (.idiv, 1) := by decide +kernel
theorem dX7_partOfFraction_37 : decode cX7_partOfFraction 37 = .ok (.ireturn, 1) := by decide +kernel
theorem dX7_partOfFraction_38 : decode cX7_partOfFraction 38 = .ok (.iinc 4 (-1), 3) := by decide +kernel
theorem dX7_partOfFraction_41 : decode cX7_partOfFraction 41 = .ok (.goto (-28), 3) := by decide +kernel
theorem dX7_partOfFraction_44 : decode cX7_partOfFraction 44 = .ok (.iload_n 3, 1) := by decide +kernel
theorem dX7_partOfFraction_45 : decode cX7_partOfFraction 45 = .ok (.ireturn, 1) := by decide +kernel
theorem dX7_event_0 : decode cX7_event 0 = .ok (.iload_n 1, 1) := by decide +kernel
theorem dX7_event_1 : decode cX7_event 1 = .ok (.iconst (-1), 1) := by decide +kernel
theorem dX7_event_2 : decode cX7_event 2 = .ok (.if_icmp .ne 14, 3) := by decide +kernel
theorem dX7_event_5 : decode cX7_event 5 = .ok (.aload_n 0, 1) := by decide +kernel
theorem dX7_event_6 : decode cX7_event 6 = .ok (.getfield 12, 3) := by decide +kernel
theorem dX7_event_9 : decode cX7_event 9 = .ok (.getfield 252, 3) := by decide +kernel
theorem dX7_event_12 : decode cX7_event 12 = .ok (.invokevirtual 213, 3) := by decide +kernel
theorem dX7_event_15 : decode cX7_event 15 = .ok (.ireturn, 1) := by decide +kernel
theorem dX7_event_16 : decode cX7_event 16 = .ok (.iload_n 1, 1) := by decide +kernel
theorem dX7_event_17 : decode cX7_event 17 = .ok (.ifCond .lt 8, 3) := by decide +kernel
theorem dX7_event_20 : decode cX7_event 20 = .ok (.iload_n 1, 1) := by decide +kernel
theorem dX7_event_21 : decode cX7_event 21 = .ok (.iconst 3, 1) := by decide +kernel
theorem dX7_event_22 : decode cX7_event 22 = .ok (.if_icmp .le 5, 3) := by decide +kernel
theorem dX7_event_25 : decode cX7_event 25 = .ok (.iconst (-1), 1) := by decide +kernel
theorem dX7_event_26 : decode cX7_event 26 = .ok (.ireturn, 1) := by decide +kernel
theorem dX7_event_27 : decode cX7_event 27 = .ok (.iload_n 1, 1) := by decide +kernel
theorem dX7_event_28 : decode cX7_event 28 = .ok (.iload_n 2, 1) := by decide +kernel
theorem dX7_event_29 : decode cX7_event 29 = .ok (.invokestatic 255, 3) := by decide +kernel
theorem dX7_event_32 : decode cX7_event 32 = .ok (.ifCond .ne 6, 3) := by decide +kernel
theorem dX7_event_35 : decode cX7_event 35 = .ok (.bipush (-2), 2) := by decide +kernel
theorem dX7_event_37 : decode cX7_event 37 = .ok (.ireturn, 1) := by decide +kernel
theorem dX7_event_38 : decode cX7_event 38 = .ok (.aload_n 0, 1) := by decide +kernel
theorem dX7_event_39 : decode cX7_event 39 = .ok (.getfield 12, 3) := by decide +kernel
theorem dX7_event_42 : decode cX7_event 42 = .ok (.getfield 252, 3) := by decide +kernel
theorem dX7_event_45 : decode cX7_event 45 = .ok (.invokevirtual 218, 3) := by decide +kernel
theorem dX7_event_48 : decode cX7_event 48 = .ok (.ifCond .eq 8, 3) := by decide +kernel
theorem dX7_event_51 : decode cX7_event 51 = .ok (.bipush (-4), 2) := by decide +kernel
theorem dX7_event_53 : decode cX7_event 53 = .ok (.goto 15, 3) := by decide +kernel
theorem dX7_event_56 : decode cX7_event 56 = .ok (.aload_n 0, 1) := by decide +kernel
theorem dX7_event_57 : decode cX7_event 57 = .ok (.getfield 12, 3) := by decide +kernel
theorem dX7_event_60 : decode cX7_event 60 = .ok (.getfield 252, 3) := by decide +kernel
theorem dX7_event_63 : decode cX7_event 63 = .ok (.iload_n 1, 1) := by decide +kernel
theorem dX7_event_64 : decode cX7_event 64 = .ok (.iload_n 2, 1) := by decide +kernel
theorem dX7_event_65 : decode cX7_event 65 = .ok (.invokevirtual 221, 3) := by decide +kernel
theorem dX7_event_68 : decode cX7_event 68 = .ok (.ireturn, 1) := by decide +kernel
theorem dX7_isForEvent_0 : decode cX7_isForEvent 0 = .ok (.iload_n 0, 1) := by decide +kernel
theorem dX7_isForEvent_1 : decode cX7_isForEvent 1 = .ok (.lookupswitch 48 #[(0, 27), (2, 43)], 27) := by decide +kernel
theorem dX7_isForEvent_28 : decode cX7_isForEvent 28 = .ok (.iload_n 1, 1) := by decide +kernel
theorem dX7_isForEvent_29 : decode cX7_isForEvent 29 = .ok (.ifCond .lt 13, 3) := by decide +kernel
theorem dX7_isForEvent_32 : decode cX7_isForEvent 32 = .ok (.iload_n 1, 1) := by decide +kernel
theorem dX7_isForEvent_33 : decode cX7_isForEvent 33 = .ok (.bipush 8, 2) := by decide +kernel
theorem dX7_isForEvent_35 : decode cX7_isForEvent 35 = .ok (.if_icmp .ge 7, 3) := by decide +kernel
theorem dX7_isForEvent_38 : decode cX7_isForEvent 38 = .ok (.iconst 1, 1) := by decide +kernel
theorem dX7_isForEvent_39 : decode cX7_isForEvent 39 = .ok (.goto 4, 3) := by decide +kernel
theorem dX7_isForEvent_42 : decode cX7_isForEvent 42 = .ok (.iconst 0, 1) := by decide +kernel
theorem dX7_isForEvent_43 : decode cX7_isForEvent 43 = .ok (.ireturn, 1) := by decide +kernel
theorem dX7_isForEvent_44 : decode cX7_isForEvent 44 = .ok (.iload_n 1, 1) := by decide +kernel
theorem dX7_isForEvent_45 : decode cX7_isForEvent 45 = .ok (.invokestatic 130, 3) := by decide +kernel
theorem dX7_isForEvent_48 : decode cX7_isForEvent 48 = .ok (.ireturn, 1) := by decide +kernel
theorem dX7_isForEvent_49 : decode cX7_isForEvent 49 = .ok (.iload_n 1, 1) := by decide +kernel
theorem dX7_isForEvent_50 : decode cX7_isForEvent 50 = .ok (.invokestatic 63, 3) := by decide +kernel
theorem dX7_isForEvent_53 : decode cX7_isForEvent 53 = .ok (.ireturn, 1) := by decide +kernel
theorem dX7_after_0 : decode cX7_after 0 = .ok (.iload_n 1, 1) := by decide +kernel
theorem dX7_after_1 : decode cX7_after 1 = .ok (.ifCond .lt 8, 3) := by decide +kernel
theorem dX7_after_4 : decode cX7_after 4 = .ok (.iload_n 1, 1) := by decide +kernel
theorem dX7_after_5 : decode cX7_after 5 = .ok (.iconst 2, 1) := by decide +kernel
theorem dX7_after_6 : decode cX7_after 6 = .ok (.if_icmp .le 5, 3) := by decide +kernel
theorem dX7_after_9 : decode cX7_after 9 = .ok (.iconst (-1), 1) := by decide +kernel
theorem dX7_after_10 : decode cX7_after 10 = .ok (.ireturn, 1) := by decide +kernel
theorem dX7_after_11 : decode cX7_after 11 = .ok (.aload_n 0, 1) := by decide +kernel
theorem dX7_after_12 : decode cX7_after 12 = .ok (.getfield 38, 3) := by decide +kernel
theorem dX7_after_15 : decode cX7_after 15 = .ok (.aload_n 0, 1) := by decide +kernel
theorem dX7_after_16 : decode cX7_after 16 = .ok (.getfield 12, 3) := by decide +kernel
theorem dX7_after_19 : decode cX7_after 19 = .ok (.getfield 67, 3) := by decide +kernel
theorem dX7_after_22 : decode cX7_after 22 = .ok (.invokevirtual 223, 3) := by decide +kernel
theorem dX7_after_25 : decode cX7_after 25 = .ok (.iconst 0, 1) := by decide +kernel
theorem dX7_after_26 : decode cX7_after 26 = .ok (.istore_n 2, 1) := by decide +kernel
theorem dX7_after_27 : decode cX7_after 27 = .ok (.iload_n 2, 1) := by decide +kernel
theorem dX7_after_28 : decode cX7_after 28 = .ok (.aload_n 0, 1) := by decide +kernel
theorem dX7_after_29 : decode cX7_after 29 = .ok (.getfield 12, 3) := by decide +kernel
theorem dX7_after_32 : decode cX7_after 32 = .ok (.getfield 252, 3) := by decide +kernel
theorem dX7_after_35 : decode cX7_after 35 = .ok (.getfield 231, 3) := by decide +kernel
theorem dX7_after_38 : decode cX7_after 38 = .ok (.if_icmp .ge 40, 3) := by decide +kernel
theorem dX7_after_41 : decode cX7_after 41 = .ok (.aload_n 0, 1) := by decide +kernel
theorem dX7_after_42 : decode cX7_after 42 = .ok (.getfield 38, 3) := by decide +kernel
theorem dX7_after_45 : decode cX7_after 45 = .ok (.aload_n 0, 1) := by decide +kernel
theorem dX7_after_46 : decode cX7_after 46 = .ok (.getfield 12, 3) := by decide +kernel
theorem dX7_after_49 : decode cX7_after 49 = .ok (.getfield 252, 3) := by decide +kernel
theorem dX7_after_52 : decode cX7_after 52 = .ok (.getfield 235, 3) := by decide +kernel
theorem dX7_after_55 : decode cX7_after 55 = .ok (.iload_n 2, 1) := by decide +kernel
theorem dX7_after_56 : decode cX7_after 56 = .ok (.iaload, 1) := by decide +kernel
theorem dX7_after_57 : decode cX7_after 57 = .ok (.aload_n 0, 1) := by decide +kernel
theorem dX7_after_58 : decode cX7_after 58 = .ok (.getfield 12, 3) := by decide +kernel
theorem dX7_after_61 : decode cX7_after 61 = .ok (.getfield 252, 3) := by decide +kernel
theorem dX7_after_64 : decode cX7_after 64 = .ok (.getfield 232, 3) := by decide +kernel
theorem dX7_after_67 : decode cX7_after 67 = .ok (.iload_n 2, 1) := by decide +kernel
theorem dX7_after_68 : decode cX7_after 68 = .ok (.iaload, 1) := by decide +kernel
theorem dX7_after_69 : decode cX7_after 69 = .ok (.invokevirtual 259, 3) := by decide +kernel
theorem dX7_after_72 : decode cX7_after 72 = .ok (.iinc 2 1, 3) := by decide +kernel
theorem dX7_after_75 : decode cX7_after 75 = .ok (.goto (-48), 3) := by decide +kernel
theorem dX7_after_78 : decode cX7_after 78 = .ok (.aload_n 0, 1) := by decide +kernel
theorem dX7_after_79 : decode cX7_after 79 = .ok (.getfield 42, 3) := by decide +kernel
theorem dX7_after_82 : decode cX7_after 82 = .ok (.aload_n 0, 1) := by decide +kernel
theorem dX7_after_83 : decode cX7_after 83 = .ok (.getfield 38, 3) := by decide +kernel
theorem dX7_after_86 : decode cX7_after 86 = .ok (.invokevirtual 263, 3) := by decide +kernel
theorem dX7_after_89 : decode cX7_after 89 = .ok (.iload_n 1, 1) := by decide +kernel
theorem dX7_after_90 : decode cX7_after 90 = .ok (.lookupswitch 42 #[(0, 26), (1, 34)], 26) := by decide +kernel
theorem dX7_after_116 : decode cX7_after 116 = .ok (.aload_n 0, 1) := by decide +kernel
theorem dX7_after_117 : decode cX7_after 117 = .ok (.getfield 42, 3) := by decide +kernel
theorem dX7_after_120 : decode cX7_after 120 = .ok (.getfield 159, 3) := by decide +kernel
theorem dX7_after_123 : decode cX7_after 123 = .ok (.ireturn, 1) := by decide +kernel
theorem dX7_after_124 : decode cX7_after 124 = .ok (.aload_n 0, 1) := by decide +kernel
theorem dX7_after_125 : decode cX7_after 125 = .ok (.getfield 42, 3) := by decide +kernel
theorem dX7_after_128 : decode cX7_after 128 = .ok (.getfield 160, 3) := by decide +kernel
theorem dX7_after_131 : decode cX7_after 131 = .ok (.ireturn, 1) := by decide +kernel
theorem dX7_after_132 : decode cX7_after 132 = .ok (.aload_n 0, 1) := by decide +kernel
theorem dX7_after_133 : decode cX7_after 133 = .ok (.getfield 42, 3) := by decide +kernel
theorem dX7_after_136 : decode cX7_after 136 = .ok (.getfield 163, 3) := by decide +kernel
theorem dX7_after_139 : decode cX7_after 139 = .ok (.ireturn, 1) := by decide +kernel
theorem dX7_book_0 : decode cX7_book 0 = .ok (.iload_n 1, 1) := by decide +kernel
theorem dX7_book_1 : decode cX7_book 1 = .ok (.iconst (-1), 1) := by decide +kernel
theorem dX7_book_2 : decode cX7_book 2 = .ok (.if_icmp .ne 14, 3) := by decide +kernel
theorem dX7_book_5 : decode cX7_book 5 = .ok (.aload_n 0, 1) := by decide +kernel
theorem dX7_book_6 : decode cX7_book 6 = .ok (.getfield 12, 3) := by decide +kernel
theorem dX7_book_9 : decode cX7_book 9 = .ok (.getfield 266, 3) := by decide +kernel
theorem dX7_book_12 : decode cX7_book 12 = .ok (.invokevirtual 213, 3) := by decide +kernel
theorem dX7_book_15 : decode cX7_book 15 = .ok (.ireturn, 1) := by decide +kernel
theorem dX7_book_16 : decode cX7_book 16 = .ok (.iload_n 1, 1) := by decide +kernel
theorem dX7_book_17 : decode cX7_book 17 = .ok (.invokestatic 130, 3) := by decide +kernel
theorem dX7_book_20 : decode cX7_book 20 = .ok (.ifCond .ne 5, 3) := by decide +kernel
theorem dX7_book_23 : decode cX7_book 23 = .ok (.iconst (-1), 1) := by decide +kernel
theorem dX7_book_24 : decode cX7_book 24 = .ok (.ireturn, 1) := by decide +kernel
theorem dX7_book_25 : decode cX7_book 25 = .ok (.iload_n 2, 1) := by decide +kernel
theorem dX7_book_26 : decode cX7_book 26 = .ok (.iconst 1, 1) := by decide +kernel
theorem dX7_book_27 : decode cX7_book 27 = .ok (.if_icmp .lt 9, 3) := by decide +kernel
theorem dX7_book_30 : decode cX7_book 30 = .ok (.iload_n 2, 1) := by decide +kernel
theorem dX7_book_31 : decode cX7_book 31 = .ok (.bipush 6, 2) := by decide +kernel
theorem dX7_book_33 : decode cX7_book 33 = .ok (.if_icmp .le 6, 3) := by decide +kernel
theorem dX7_book_36 : decode cX7_book 36 = .ok (.bipush (-2), 2) := by decide +kernel
theorem dX7_book_38 : decode cX7_book 38 = .ok (.ireturn, 1) := by decide +kernel
theorem dX7_book_39 : decode cX7_book 39 = .ok (.aload_n 0, 1) := by decide +kernel
theorem dX7_book_40 : decode cX7_book 40 = .ok (.getfield 12, 3) := by decide +kernel
theorem dX7_book_43 : decode cX7_book 43 = .ok (.getfield 266, 3) := by decide +kernel
theorem dX7_book_46 : decode cX7_book 46 = .ok (.invokevirtual 218, 3) := by decide +kernel
theorem dX7_book_49 : decode cX7_book 49 = .ok (.ifCond .eq 8, 3) := by decide +kernel
theorem dX7_book_52 : decode cX7_book 52 = .ok (.bipush (-4), 2) := by decide +kernel
theorem dX7_book_54 : decode cX7_book 54 = .ok (.goto 15, 3) := by decide +kernel
theorem dX7_book_57 : decode cX7_book 57 = .ok (.aload_n 0, 1) := by decide +kernel
theorem dX7_book_58 : decode cX7_book 58 = .ok (.getfield 12, 3) := by decide +kernel
theorem dX7_book_61 : decode cX7_book 61 = .ok (.getfield 266, 3) := by decide +kernel
theorem dX7_book_64 : decode cX7_book 64 = .ok (.iload_n 1, 1) := by decide +kernel
theorem dX7_book_65 : decode cX7_book 65 = .ok (.iload_n 2, 1) := by decide +kernel
theorem dX7_book_66 : decode cX7_book 66 = .ok (.invokevirtual 221, 3) := by decide +kernel
theorem dX7_book_69 : decode cX7_book 69 = .ok (.ireturn, 1) := by decide +kernel
theorem dX7_looked_0 : decode cX7_looked 0 = .ok (.aload_n 0, 1) := by decide +kernel
theorem dX7_looked_1 : decode cX7_looked 1 = .ok (.invokevirtual 93, 3) := by decide +kernel
theorem dX7_looked_4 : decode cX7_looked 4 = .ok (.astore_n 1, 1) := by decide +kernel
theorem dX7_looked_5 : decode cX7_looked 5 = .ok (.iconst 0, 1) := by decide +kernel
theorem dX7_looked_6 : decode cX7_looked 6 = .ok (.istore_n 2, 1) := by decide +kernel
theorem dX7_looked_7 : decode cX7_looked 7 = .ok (.iload_n 2, 1) := by decide +kernel
theorem dX7_looked_8 : decode cX7_looked 8 = .ok (.aload_n 0, 1) := by decide +kernel
theorem dX7_looked_9 : decode cX7_looked 9 = .ok (.getfield 12, 3) := by decide +kernel
theorem dX7_looked_12 : decode cX7_looked 12 = .ok (.getfield 266, 3) := by decide +kernel
theorem dX7_looked_15 : decode cX7_looked 15 = .ok (.getfield 231, 3) := by decide +kernel
theorem dX7_looked_18 : decode cX7_looked 18 = .ok (.if_icmp .ge 52, 3) := by decide +kernel
theorem dX7_looked_21 : decode cX7_looked 21 = .ok (.aload_n 0, 1) := by decide +kernel
theorem dX7_looked_22 : decode cX7_looked 22 = .ok (.getfield 12, 3) := by decide +kernel
theorem dX7_looked_25 : decode cX7_looked 25 = .ok (.getfield 266, 3) := by decide +kernel
theorem dX7_looked_28 : decode cX7_looked 28 = .ok (.getfield 235, 3) := by decide +kernel
theorem dX7_looked_31 : decode cX7_looked 31 = .ok (.iload_n 2, 1) := by decide +kernel
theorem dX7_looked_32 : decode cX7_looked 32 = .ok (.iaload, 1) := by decide +kernel
theorem dX7_looked_33 : decode cX7_looked 33 = .ok (.istore_n 3, 1) := by decide +kernel
theorem dX7_looked_34 : decode cX7_looked 34 = .ok (.aload_n 1, 1) := by decide +kernel
theorem dX7_looked_35 : decode cX7_looked 35 = .ok (.getfield 170, 3) := by decide +kernel
theorem dX7_looked_38 : decode cX7_looked 38 = .ok (.iload_n 3, 1) := by decide +kernel
theorem dX7_looked_39 : decode cX7_looked 39 = .ok (.baload, 1) := by decide +kernel
theorem dX7_looked_40 : decode cX7_looked 40 = .ok (.ifCond .eq 22, 3) := by decide +kernel
theorem dX7_looked_43 : decode cX7_looked 43 = .ok (.iload_n 3, 1) := by decide +kernel
theorem dX7_looked_44 : decode cX7_looked 44 = .ok (.invokestatic 141, 3) := by decide +kernel
theorem dX7_looked_47 : decode cX7_looked 47 = .ok (.aload_n 0, 1) := by decide +kernel
theorem dX7_looked_48 : decode cX7_looked 48 = .ok (.getfield 12, 3) := by decide +kernel
theorem dX7_looked_51 : decode cX7_looked 51 = .ok (.getfield 266, 3) := by decide +kernel
theorem dX7_looked_54 : decode cX7_looked 54 = .ok (.getfield 232, 3) := by decide +kernel
theorem dX7_looked_57 : decode cX7_looked 57 = .ok (.iload_n 2, 1) := by decide +kernel
theorem dX7_looked_58 : decode cX7_looked 58 = .ok (.iaload, 1) := by decide +kernel
theorem dX7_looked_59 : decode cX7_looked 59 = .ok (.if_icmp .eq 5, 3) := by decide +kernel
theorem dX7_looked_62 : decode cX7_looked 62 = .ok (.iload_n 2, 1) := by decide +kernel
theorem dX7_looked_63 : decode cX7_looked 63 = .ok (.ireturn, 1) := by decide +kernel
theorem dX7_looked_64 : decode cX7_looked 64 = .ok (.iinc 2 1, 3) := by decide +kernel
theorem dX7_looked_67 : decode cX7_looked 67 = .ok (.goto (-60), 3) := by decide +kernel
theorem dX7_looked_70 : decode cX7_looked 70 = .ok (.bipush (-5), 2) := by decide +kernel
theorem dX7_looked_72 : decode cX7_looked 72 = .ok (.ireturn, 1) := by decide +kernel
theorem dX7_judge_0 : decode cX7_judge 0 = .ok (.iload_n 1, 1) := by decide +kernel
theorem dX7_judge_1 : decode cX7_judge 1 = .ok (.invokestatic 269, 3) := by decide +kernel
theorem dX7_judge_4 : decode cX7_judge 4 = .ok (.ifCond .ne 5, 3) := by decide +kernel
theorem dX7_judge_7 : decode cX7_judge 7 = .ok (.iconst (-1), 1) := by decide +kernel
theorem dX7_judge_8 : decode cX7_judge 8 = .ok (.ireturn, 1) := by decide +kernel
theorem dX7_judge_9 : decode cX7_judge 9 = .ok (.aload_n 0, 1) := by decide +kernel
theorem dX7_judge_10 : decode cX7_judge 10 = .ok (.getfield 54, 3) := by decide +kernel
theorem dX7_judge_13 : decode cX7_judge 13 = .ok (.iload_n 1, 1) := by decide +kernel
theorem dX7_judge_14 : decode cX7_judge 14 = .ok (.aaload, 1) := by decide +kernel
theorem dX7_judge_15 : decode cX7_judge 15 = .ok (.astore_n 3, 1) := by decide +kernel
theorem dX7_judge_16 : decode cX7_judge 16 = .ok (.aload_n 3, 1) := by decide +kernel
theorem dX7_judge_17 : decode cX7_judge 17 = .ok (.getfield 272, 3) := by decide +kernel
theorem dX7_judge_20 : decode cX7_judge 20 = .ok (.iconst (-1), 1) := by decide +kernel
theorem dX7_judge_21 : decode cX7_judge 21 = .ok (.if_icmp .eq 13, 3) := by decide +kernel
theorem dX7_judge_24 : decode cX7_judge 24 = .ok (.aload_n 3, 1) := by decide +kernel
theorem dX7_judge_25 : decode cX7_judge 25 = .ok (.getfield 272, 3) := by decide +kernel
theorem dX7_judge_28 : decode cX7_judge 28 = .ok (.ifCond .eq 6, 3) := by decide +kernel
theorem dX7_judge_31 : decode cX7_judge 31 = .ok (.bipush (-12), 2) := by decide +kernel
theorem dX7_judge_33 : decode cX7_judge 33 = .ok (.ireturn, 1) := by decide +kernel
theorem dX7_judge_34 : decode cX7_judge 34 = .ok (.aload_n 0, 1) := by decide +kernel
theorem dX7_judge_35 : decode cX7_judge 35 = .ok (.invokevirtual 93, 3) := by decide +kernel
theorem dX7_judge_38 : decode cX7_judge 38 = .ok (.astore 4, 2) := by decide +kernel
theorem dX7_judge_40 : decode cX7_judge 40 = .ok (.iconst 0, 1) := by decide +kernel
theorem dX7_judge_41 : decode cX7_judge 41 = .ok (.istore 5, 2) := by decide +kernel
theorem dX7_judge_43 : decode cX7_judge 43 = .ok (.iload 5, 2) := by decide +kernel
theorem dX7_judge_45 : decode cX7_judge 45 = .ok (.aload 4, 2) := by decide +kernel
theorem dX7_judge_47 : decode cX7_judge 47 = .ok (.getfield 159, 3) := by decide +kernel
theorem dX7_judge_50 : decode cX7_judge 50 = .ok (.if_icmp .ge 59, 3) := by decide +kernel
theorem dX7_judge_53 : decode cX7_judge 53 = .ok (.aload_n 3, 1) := by decide +kernel
theorem dX7_judge_54 : decode cX7_judge 54 = .ok (.iload_n 2, 1) := by decide +kernel
theorem dX7_judge_55 : decode cX7_judge 55 = .ok (.invokevirtual 275, 3) := by decide +kernel
theorem dX7_judge_58 : decode cX7_judge 58 = .ok (.ifCond .eq 14, 3) := by decide +kernel
theorem dX7_judge_61 : decode cX7_judge 61 = .ok (.aload_n 3, 1) := by decide +kernel
theorem dX7_judge_62 : decode cX7_judge 62 = .ok (.iload_n 2, 1) := by decide +kernel
theorem dX7_judge_63 : decode cX7_judge 63 = .ok (.iload 5, 2) := by decide +kernel
theorem dX7_judge_65 : decode cX7_judge 65 = .ok (.iadd, 1) := by decide +kernel
theorem dX7_judge_66 : decode cX7_judge 66 = .ok (.invokevirtual 275, 3) := by decide +kernel
theorem dX7_judge_69 : decode cX7_judge 69 = .ok (.ifCond .ne 9, 3) := by decide +kernel
theorem dX7_judge_72 : decode cX7_judge 72 = .ok (.bipush 100, 2) := by decide +kernel
theorem dX7_judge_74 : decode cX7_judge 74 = .ok (.iload 5, 2) := by decide +kernel
theorem dX7_judge_76 : decode cX7_judge 76 = .ok (.iadd, 1) := by decide +kernel
theorem dX7_judge_77 : decode cX7_judge 77 = .ok (.ireturn, 1) := by decide +kernel
theorem dX7_judge_78 : decode cX7_judge 78 = .ok (.aload_n 3, 1) := by decide +kernel
theorem dX7_judge_79 : decode cX7_judge 79 = .ok (.getfield 278, 3) := by decide +kernel
theorem dX7_judge_82 : decode cX7_judge 82 = .ok (.iload_n 2, 1) := by decide +kernel
theorem dX7_judge_83 : decode cX7_judge 83 = .ok (.iload 5, 2) := by decide +kernel
theorem dX7_judge_85 : decode cX7_judge 85 = .ok (.iadd, 1) := by decide +kernel
theorem dX7_judge_86 : decode cX7_judge 86 = .ok (.laload, 1) := by decide +kernel
theorem dX7_judge_87 : decode cX7_judge 87 = .ok (.aload 4, 2) := by decide +kernel
theorem dX7_judge_89 : decode cX7_judge 89 = .ok (.getfield 181, 3) := by decide +kernel
theorem dX7_judge_92 : decode cX7_judge 92 = .ok (.iload 5, 2) := by decide +kernel
theorem dX7_judge_94 : decode cX7_judge 94 = .ok (.iaload, 1) := by decide +kernel
theorem dX7_judge_95 : decode cX7_judge 95 = .ok (.i2l, 1) := by decide +kernel
theorem dX7_judge_96 : decode cX7_judge 96 = .ok (.lcmp, 1) := by decide +kernel
theorem dX7_judge_97 : decode cX7_judge 97 = .ok (.ifCond .eq 6, 3) := by decide +kernel
theorem dX7_judge_100 : decode cX7_judge 100 = .ok (.iload 5, 2) := by decide +kernel
theorem dX7_judge_102 : decode cX7_judge 102 = .ok (.ireturn, 1) := by decide +kernel
theorem dX7_judge_103 : decode cX7_judge 103 = .ok (.iinc 5 1, 3) := by decide +kernel
theorem dX7_judge_106 : decode cX7_judge 106 = .ok (.goto (-63), 3) := by decide +kernel
theorem dX7_judge_109 : decode cX7_judge 109 = .ok (.bipush (-5), 2) := by decide +kernel
theorem dX7_judge_111 : decode cX7_judge 111 = .ok (.ireturn, 1) := by decide +kernel
theorem dX7_image_0 : decode cX7_image 0 = .ok (.aload_n 0, 1) := by decide +kernel
theorem dX7_image_1 : decode cX7_image 1 = .ok (.getfield 18, 3) := by decide +kernel
theorem dX7_image_4 : decode cX7_image 4 = .ok (.aload_n 0, 1) := by decide +kernel
theorem dX7_image_5 : decode cX7_image 5 = .ok (.getfield 12, 3) := by decide +kernel
theorem dX7_image_8 : decode cX7_image 8 = .ok (.invokevirtual 282, 3) := by decide +kernel
theorem dX7_image_11 : decode cX7_image 11 = .ok (.aload_n 0, 1) := by decide +kernel
theorem dX7_image_12 : decode cX7_image 12 = .ok (.iconst 1, 1) := by decide +kernel
theorem dX7_image_13 : decode cX7_image 13 = .ok (.putfield 21, 3) := by decide +kernel
theorem dX7_image_16 : decode cX7_image 16 = .ok (.aload_n 0, 1) := by decide +kernel
theorem dX7_image_17 : decode cX7_image 17 = .ok (.getfield 12, 3) := by decide +kernel
theorem dX7_image_20 : decode cX7_image 20 = .ok (.getfield 67, 3) := by decide +kernel
theorem dX7_image_23 : decode cX7_image 23 = .ok (.getfield 74, 3) := by decide +kernel
theorem dX7_image_26 : decode cX7_image 26 = .ok (.ireturn, 1) := by decide +kernel
theorem dX7_undo_0 : decode cX7_undo 0 = .ok (.aload_n 0, 1) := by decide +kernel
theorem dX7_undo_1 : decode cX7_undo 1 = .ok (.getfield 21, 3) := by decide +kernel
theorem dX7_undo_4 : decode cX7_undo 4 = .ok (.ifCond .ne 6, 3) := by decide +kernel
theorem dX7_undo_7 : decode cX7_undo 7 = .ok (.bipush (-3), 2) := by decide +kernel
theorem dX7_undo_9 : decode cX7_undo 9 = .ok (.ireturn, 1) := by decide +kernel
theorem dX7_undo_10 : decode cX7_undo 10 = .ok (.aload_n 0, 1) := by decide +kernel
theorem dX7_undo_11 : decode cX7_undo 11 = .ok (.getfield 12, 3) := by decide +kernel
theorem dX7_undo_14 : decode cX7_undo 14 = .ok (.aload_n 0, 1) := by decide +kernel
theorem dX7_undo_15 : decode cX7_undo 15 = .ok (.getfield 18, 3) := by decide +kernel
theorem dX7_undo_18 : decode cX7_undo 18 = .ok (.invokevirtual 282, 3) := by decide +kernel
theorem dX7_undo_21 : decode cX7_undo 21 = .ok (.aload_n 0, 1) := by decide +kernel
theorem dX7_undo_22 : decode cX7_undo 22 = .ok (.iconst 1, 1) := by decide +kernel
theorem dX7_undo_23 : decode cX7_undo 23 = .ok (.putfield 32, 3) := by decide +kernel
theorem dX7_undo_26 : decode cX7_undo 26 = .ok (.aload_n 0, 1) := by decide +kernel
theorem dX7_undo_27 : decode cX7_undo 27 = .ok (.getfield 12, 3) := by decide +kernel
theorem dX7_undo_30 : decode cX7_undo 30 = .ok (.getfield 67, 3) := by decide +kernel
theorem dX7_undo_33 : decode cX7_undo 33 = .ok (.getfield 74, 3) := by decide +kernel
theorem dX7_undo_36 : decode cX7_undo 36 = .ok (.ireturn, 1) := by decide +kernel
theorem dX7_count_0 : decode cX7_count 0 = .ok (.iload_n 1, 1) := by decide +kernel
theorem dX7_count_1 : decode cX7_count 1 = .ok (.tableswitch 72 0 3 #[31, 42, 53, 64], 31) := by decide +kernel
theorem dX7_count_32 : decode cX7_count 32 = .ok (.aload_n 0, 1) := by decide +kernel
theorem dX7_count_33 : decode cX7_count 33 = .ok (.getfield 12, 3) := by decide +kernel
theorem dX7_count_36 : decode cX7_count 36 = .ok (.getfield 209, 3) := by decide +kernel
theorem dX7_count_39 : decode cX7_count 39 = .ok (.getfield 231, 3) := by decide +kernel
theorem dX7_count_42 : decode cX7_count 42 = .ok (.ireturn, 1) := by decide +kernel
theorem dX7_count_43 : decode cX7_count 43 = .ok (.aload_n 0, 1) := by decide +kernel
theorem dX7_count_44 : decode cX7_count 44 = .ok (.getfield 12, 3) := by decide +kernel
theorem dX7_count_47 : decode cX7_count 47 = .ok (.getfield 252, 3) := by decide +kernel
theorem dX7_count_50 : decode cX7_count 50 = .ok (.getfield 231, 3) := by decide +kernel
theorem dX7_count_53 : decode cX7_count 53 = .ok (.ireturn, 1) := by decide +kernel
theorem dX7_count_54 : decode cX7_count 54 = .ok (.aload_n 0, 1) := by decide +kernel
theorem dX7_count_55 : decode cX7_count 55 = .ok (.getfield 12, 3) := by decide +kernel
theorem dX7_count_58 : decode cX7_count 58 = .ok (.getfield 266, 3) := by decide +kernel
theorem dX7_count_61 : decode cX7_count 61 = .ok (.getfield 231, 3) := by decide +kernel
theorem dX7_count_64 : decode cX7_count 64 = .ok (.ireturn, 1) := by decide +kernel
theorem dX7_count_65 : decode cX7_count 65 = .ok (.aload_n 0, 1) := by decide +kernel
theorem dX7_count_66 : decode cX7_count 66 = .ok (.getfield 48, 3) := by decide +kernel
theorem dX7_count_69 : decode cX7_count 69 = .ok (.getfield 103, 3) := by decide +kernel
theorem dX7_count_72 : decode cX7_count 72 = .ok (.ireturn, 1) := by decide +kernel
theorem dX7_count_73 : decode cX7_count 73 = .ok (.bipush (-2), 2) := by decide +kernel
theorem dX7_count_75 : decode cX7_count 75 = .ok (.ireturn, 1) := by decide +kernel
theorem dX7_tape_0 : decode cX7_tape 0 = .ok (.iload_n 1, 1) := by decide +kernel
theorem dX7_tape_1 : decode cX7_tape 1 = .ok (.invokestatic 269, 3) := by decide +kernel
theorem dX7_tape_4 : decode cX7_tape 4 = .ok (.ifCond .ne 5, 3) := by decide +kernel
theorem dX7_tape_7 : decode cX7_tape 7 = .ok (.iconst (-1), 1) := by decide +kernel
theorem dX7_tape_8 : decode cX7_tape 8 = .ok (.ireturn, 1) := by decide +kernel
theorem dX7_tape_9 : decode cX7_tape 9 = .ok (.iload_n 2, 1) := by decide +kernel
theorem dX7_tape_10 : decode cX7_tape 10 = .ok (.iconst (-1), 1) := by decide +kernel
theorem dX7_tape_11 : decode cX7_tape 11 = .ok (.if_icmp .ne 16, 3) := by decide +kernel
theorem dX7_tape_14 : decode cX7_tape 14 = .ok (.aload_n 0, 1) := by decide +kernel
theorem dX7_tape_15 : decode cX7_tape 15 = .ok (.getfield 54, 3) := by decide +kernel
theorem dX7_tape_18 : decode cX7_tape 18 = .ok (.iload_n 1, 1) := by decide +kernel
theorem dX7_tape_19 : decode cX7_tape 19 = .ok (.aaload, 1) := by decide +kernel
theorem dX7_tape_20 : decode cX7_tape 20 = .ok (.iconst (-1), 1) := by decide +kernel
theorem dX7_tape_21 : decode cX7_tape 21 = .ok (.iconst 0, 1) := by decide +kernel
theorem dX7_tape_22 : decode cX7_tape 22 = .ok (.invokevirtual 285, 3) := by decide +kernel
theorem dX7_tape_25 : decode cX7_tape 25 = .ok (.iconst 1, 1) := by decide +kernel
theorem dX7_tape_26 : decode cX7_tape 26 = .ok (.ireturn, 1) := by decide +kernel
theorem dX7_tape_27 : decode cX7_tape 27 = .ok (.iload_n 2, 1) := by decide +kernel
theorem dX7_tape_28 : decode cX7_tape 28 = .ok (.ifCond .lt 14, 3) := by decide +kernel
theorem dX7_tape_31 : decode cX7_tape 31 = .ok (.iload_n 2, 1) := by decide +kernel
theorem dX7_tape_32 : decode cX7_tape 32 = .ok (.iconst 4, 1) := by decide +kernel
theorem dX7_tape_33 : decode cX7_tape 33 = .ok (.if_icmp .gt 9, 3) := by decide +kernel
theorem dX7_tape_36 : decode cX7_tape 36 = .ok (.iload_n 3, 1) := by decide +kernel
theorem dX7_tape_37 : decode cX7_tape 37 = .ok (.bipush 60, 2) := by decide +kernel
theorem dX7_tape_39 : decode cX7_tape 39 = .ok (.if_icmp .le 6, 3) := by decide +kernel
theorem dX7_tape_42 : decode cX7_tape 42 = .ok (.bipush (-2), 2) := by decide +kernel
theorem dX7_tape_44 : decode cX7_tape 44 = .ok (.ireturn, 1) := by decide +kernel
theorem dX7_tape_45 : decode cX7_tape 45 = .ok (.iload_n 3, 1) := by decide +kernel
theorem dX7_tape_46 : decode cX7_tape 46 = .ok (.ifCond .ge 6, 3) := by decide +kernel
theorem dX7_tape_49 : decode cX7_tape 49 = .ok (.bipush (-14), 2) := by decide +kernel
theorem dX7_tape_51 : decode cX7_tape 51 = .ok (.ireturn, 1) := by decide +kernel
theorem dX7_tape_52 : decode cX7_tape 52 = .ok (.aload_n 0, 1) := by decide +kernel
theorem dX7_tape_53 : decode cX7_tape 53 = .ok (.getfield 54, 3) := by decide +kernel
theorem dX7_tape_56 : decode cX7_tape 56 = .ok (.iload_n 1, 1) := by decide +kernel
theorem dX7_tape_57 : decode cX7_tape 57 = .ok (.aaload, 1) := by decide +kernel
theorem dX7_tape_58 : decode cX7_tape 58 = .ok (.iload_n 2, 1) := by decide +kernel
theorem dX7_tape_59 : decode cX7_tape 59 = .ok (.iload_n 3, 1) := by decide +kernel
theorem dX7_tape_60 : decode cX7_tape 60 = .ok (.invokevirtual 285, 3) := by decide +kernel
theorem dX7_tape_63 : decode cX7_tape 63 = .ok (.iconst 1, 1) := by decide +kernel
theorem dX7_tape_64 : decode cX7_tape 64 = .ok (.ireturn, 1) := by decide +kernel
theorem dX7_item_0 : decode cX7_item 0 = .ok (.iload_n 1, 1) := by decide +kernel
theorem dX7_item_1 : decode cX7_item 1 = .ok (.invokestatic 269, 3) := by decide +kernel
theorem dX7_item_4 : decode cX7_item 4 = .ok (.ifCond .ne 5, 3) := by decide +kernel
theorem dX7_item_7 : decode cX7_item 7 = .ok (.iconst (-1), 1) := by decide +kernel
theorem dX7_item_8 : decode cX7_item 8 = .ok (.ireturn, 1) := by decide +kernel
theorem dX7_item_9 : decode cX7_item 9 = .ok (.aload_n 0, 1) := by decide +kernel
theorem dX7_item_10 : decode cX7_item 10 = .ok (.getfield 54, 3) := by decide +kernel
theorem dX7_item_13 : decode cX7_item 13 = .ok (.iload_n 1, 1) := by decide +kernel
theorem dX7_item_14 : decode cX7_item 14 = .ok (.aaload, 1) := by decide +kernel
theorem dX7_item_15 : decode cX7_item 15 = .ok (.astore 5, 2) := by decide +kernel
theorem dX7_item_17 : decode cX7_item 17 = .ok (.aload 5, 2) := by decide +kernel
theorem dX7_item_19 : decode cX7_item 19 = .ok (.getfield 272, 3) := by decide +kernel
theorem dX7_item_22 : decode cX7_item 22 = .ok (.iconst (-1), 1) := by decide +kernel
theorem dX7_item_23 : decode cX7_item 23 = .ok (.if_icmp .ne 6, 3) := by decide +kernel
theorem dX7_item_26 : decode cX7_item 26 = .ok (.bipush (-11), 2) := by decide +kernel
theorem dX7_item_28 : decode cX7_item 28 = .ok (.ireturn, 1) := by decide +kernel
theorem dX7_item_29 : decode cX7_item 29 = .ok (.aload 5, 2) := by decide +kernel
theorem dX7_item_31 : decode cX7_item 31 = .ok (.iload_n 2, 1) := by decide +kernel
theorem dX7_item_32 : decode cX7_item 32 = .ok (.invokevirtual 275, 3) := by decide +kernel
theorem dX7_item_35 : decode cX7_item 35 = .ok (.ifCond .ne 6, 3) := by decide +kernel
theorem dX7_item_38 : decode cX7_item 38 = .ok (.bipush (-13), 2) := by decide +kernel
theorem dX7_item_40 : decode cX7_item 40 = .ok (.ireturn, 1) := by decide +kernel
theorem dX7_item_41 : decode cX7_item 41 = .ok (.aload 5, 2) := by decide +kernel
theorem dX7_item_43 : decode cX7_item 43 = .ok (.getfield 278, 3) := by decide +kernel
theorem dX7_item_46 : decode cX7_item 46 = .ok (.iload_n 2, 1) := by decide +kernel
theorem dX7_item_47 : decode cX7_item 47 = .ok (.aload 5, 2) := by decide +kernel
theorem dX7_item_49 : decode cX7_item 49 = .ok (.lload_n 3, 1) := by decide +kernel
theorem dX7_item_50 : decode cX7_item 50 = .ok (.invokevirtual 287, 3) := by decide +kernel
theorem dX7_item_53 : decode cX7_item 53 = .ok (.lastore, 1) := by decide +kernel
theorem dX7_item_54 : decode cX7_item 54 = .ok (.iconst 1, 1) := by decide +kernel
theorem dX7_item_55 : decode cX7_item 55 = .ok (.ireturn, 1) := by decide +kernel
theorem dX7_groupNow_0 : decode cX7_groupNow 0 = .ok (.aload_n 0, 1) := by decide +kernel
theorem dX7_groupNow_1 : decode cX7_groupNow 1 = .ok (.getfield 32, 3) := by decide +kernel
theorem dX7_groupNow_4 : decode cX7_groupNow 4 = .ok (.ifCond .eq 22, 3) := by decide +kernel
theorem dX7_groupNow_7 : decode cX7_groupNow 7 = .ok (.aload_n 0, 1) := by decide +kernel
theorem dX7_groupNow_8 : decode cX7_groupNow 8 = .ok (.getfield 28, 3) := by decide +kernel
theorem dX7_groupNow_11 : decode cX7_groupNow 11 = .ok (.aload_n 0, 1) := by decide +kernel
theorem dX7_groupNow_12 : decode cX7_groupNow 12 = .ok (.getfield 12, 3) := by decide +kernel
theorem dX7_groupNow_15 : decode cX7_groupNow 15 = .ok (.getfield 67, 3) := by decide +kernel
theorem dX7_groupNow_18 : decode cX7_groupNow 18 = .ok (.invokevirtual 263, 3) := by decide +kernel
theorem dX7_groupNow_21 : decode cX7_groupNow 21 = .ok (.aload_n 0, 1) := by decide +kernel
theorem dX7_groupNow_22 : decode cX7_groupNow 22 = .ok (.iconst 0, 1) := by decide +kernel
theorem dX7_groupNow_23 : decode cX7_groupNow 23 = .ok (.putfield 32, 3) := by decide +kernel
theorem dX7_groupNow_26 : decode cX7_groupNow 26 = .ok (.aload_n 0, 1) := by decide +kernel
theorem dX7_groupNow_27 : decode cX7_groupNow 27 = .ok (.getfield 28, 3) := by decide +kernel
theorem dX7_groupNow_30 : decode cX7_groupNow 30 = .ok (.areturn, 1) := by decide +kernel
theorem dX7_isPoint_0 : decode cX7_isPoint 0 = .ok (.iload_n 1, 1) := by decide +kernel
theorem dX7_isPoint_1 : decode cX7_isPoint 1 = .ok (.ifCond .lt 21, 3) := by decide +kernel
theorem dX7_isPoint_4 : decode cX7_isPoint 4 = .ok (.iload_n 1, 1) := by decide +kernel
theorem dX7_isPoint_5 : decode cX7_isPoint 5 = .ok (.aload_n 0, 1) := by decide +kernel
theorem dX7_isPoint_6 : decode cX7_isPoint 6 = .ok (.getfield 12, 3) := by decide +kernel
theorem dX7_isPoint_9 : decode cX7_isPoint 9 = .ok (.getfield 67, 3) := by decide +kernel
theorem dX7_isPoint_12 : decode cX7_isPoint 12 = .ok (.getfield 74, 3) := by decide +kernel
theorem dX7_isPoint_15 : decode cX7_isPoint 15 = .ok (.if_icmp .ge 7, 3) := by decide +kernel
theorem dX7_isPoint_18 : decode cX7_isPoint 18 = .ok (.iconst 1, 1) := by decide +kernel
theorem dX7_isPoint_19 : decode cX7_isPoint 19 = .ok (.goto 4, 3) := by decide +kernel
theorem dX7_isPoint_22 : decode cX7_isPoint 22 = .ok (.iconst 0, 1) := by decide +kernel
theorem dX7_isPoint_23 : decode cX7_isPoint 23 = .ok (.ireturn, 1) := by decide +kernel
theorem dX7_isPlace_0 : decode cX7_isPlace 0 = .ok (.iload_n 0, 1) := by decide +kernel
theorem dX7_isPlace_1 : decode cX7_isPlace 1 = .ok (.invokestatic 300, 3) := by decide +kernel
theorem dX7_isPlace_4 : decode cX7_isPlace 4 = .ok (.ifCond .eq 21, 3) := by decide +kernel
theorem dX7_isPlace_7 : decode cX7_isPlace 7 = .ok (.iload_n 1, 1) := by decide +kernel
theorem dX7_isPlace_8 : decode cX7_isPlace 8 = .ok (.invokestatic 300, 3) := by decide +kernel
theorem dX7_isPlace_11 : decode cX7_isPlace 11 = .ok (.ifCond .eq 14, 3) := by decide +kernel
theorem dX7_isPlace_14 : decode cX7_isPlace 14 = .ok (.iload_n 2, 1) := by decide +kernel
theorem dX7_isPlace_15 : decode cX7_isPlace 15 = .ok (.invokestatic 300, 3) := by decide +kernel
theorem dX7_isPlace_18 : decode cX7_isPlace 18 = .ok (.ifCond .eq 7, 3) := by decide +kernel
theorem dX7_isPlace_21 : decode cX7_isPlace 21 = .ok (.iconst 1, 1) := by decide +kernel
theorem dX7_isPlace_22 : decode cX7_isPlace 22 = .ok (.goto 4, 3) := by decide +kernel
theorem dX7_isPlace_25 : decode cX7_isPlace 25 = .ok (.iconst 0, 1) := by decide +kernel
theorem dX7_isPlace_26 : decode cX7_isPlace 26 = .ok (.ireturn, 1) := by decide +kernel
theorem dX7_isAxis_0 : decode cX7_isAxis 0 = .ok (.iload_n 0, 1) := by decide +kernel
theorem dX7_isAxis_1 : decode cX7_isAxis 1 = .ok (.bipush (-3), 2) := by decide +kernel
theorem dX7_isAxis_3 : decode cX7_isAxis 3 = .ok (.if_icmp .lt 12, 3) := by decide +kernel
theorem dX7_isAxis_6 : decode cX7_isAxis 6 = .ok (.iload_n 0, 1) := by decide +kernel
theorem dX7_isAxis_7 : decode cX7_isAxis 7 = .ok (.iconst 3, 1) := by decide +kernel
theorem dX7_isAxis_8 : decode cX7_isAxis 8 = .ok (.if_icmp .gt 7, 3) := by decide +kernel
theorem dX7_isAxis_11 : decode cX7_isAxis 11 = .ok (.iconst 1, 1) := by decide +kernel
theorem dX7_isAxis_12 : decode cX7_isAxis 12 = .ok (.goto 4, 3) := by decide +kernel
theorem dX7_isAxis_15 : decode cX7_isAxis 15 = .ok (.iconst 0, 1) := by decide +kernel
theorem dX7_isAxis_16 : decode cX7_isAxis 16 = .ok (.ireturn, 1) := by decide +kernel
theorem dX7_isMark_0 : decode cX7_isMark 0 = .ok (.iload_n 0, 1) := by decide +kernel
theorem dX7_isMark_1 : decode cX7_isMark 1 = .ok (.ifCond .lt 12, 3) := by decide +kernel
theorem dX7_isMark_4 : decode cX7_isMark 4 = .ok (.iload_n 0, 1) := by decide +kernel
theorem dX7_isMark_5 : decode cX7_isMark 5 = .ok (.iconst 5, 1) := by decide +kernel
theorem dX7_isMark_6 : decode cX7_isMark 6 = .ok (.if_icmp .ge 7, 3) := by decide +kernel
theorem dX7_isMark_9 : decode cX7_isMark 9 = .ok (.iconst 1, 1) := by decide +kernel
theorem dX7_isMark_10 : decode cX7_isMark 10 = .ok (.goto 4, 3) := by decide +kernel
theorem dX7_isMark_13 : decode cX7_isMark 13 = .ok (.iconst 0, 1) := by decide +kernel
theorem dX7_isMark_14 : decode cX7_isMark 14 = .ok (.ireturn, 1) := by decide +kernel
theorem dX7_isPart_0 : decode cX7_isPart 0 = .ok (.iload_n 0, 1) := by decide +kernel
theorem dX7_isPart_1 : decode cX7_isPart 1 = .ok (.ifCond .eq 8, 3) := by decide +kernel
theorem dX7_isPart_4 : decode cX7_isPart 4 = .ok (.iload_n 0, 1) := by decide +kernel
theorem dX7_isPart_5 : decode cX7_isPart 5 = .ok (.iconst 1, 1) := by decide +kernel
theorem dX7_isPart_6 : decode cX7_isPart 6 = .ok (.if_icmp .ne 7, 3) := by decide +kernel
theorem dX7_isPart_9 : decode cX7_isPart 9 = .ok (.iconst 1, 1) := by decide +kernel
theorem dX7_isPart_10 : decode cX7_isPart 10 = .ok (.goto 4, 3) := by decide +kernel
theorem dX7_isPart_13 : decode cX7_isPart 13 = .ok (.iconst 0, 1) := by decide +kernel
theorem dX7_isPart_14 : decode cX7_isPart 14 = .ok (.ireturn, 1) := by decide +kernel
theorem dX7_isTape_0 : decode cX7_isTape 0 = .ok (.iload_n 0, 1) := by decide +kernel
theorem dX7_isTape_1 : decode cX7_isTape 1 = .ok (.ifCond .lt 13, 3) := by decide +kernel
theorem dX7_isTape_4 : decode cX7_isTape 4 = .ok (.iload_n 0, 1) := by decide +kernel
theorem dX7_isTape_5 : decode cX7_isTape 5 = .ok (.bipush 6, 2) := by decide +kernel
theorem dX7_isTape_7 : decode cX7_isTape 7 = .ok (.if_icmp .ge 7, 3) := by decide +kernel
theorem dX7_isTape_10 : decode cX7_isTape 10 = .ok (.iconst 1, 1) := by decide +kernel
theorem dX7_isTape_11 : decode cX7_isTape 11 = .ok (.goto 4, 3) := by decide +kernel
theorem dX7_isTape_14 : decode cX7_isTape 14 = .ok (.iconst 0, 1) := by decide +kernel
theorem dX7_isTape_15 : decode cX7_isTape 15 = .ok (.ireturn, 1) := by decide +kernel
