theorem dX0_init_0 : decode cX0_init 0 = .ok (.aload_n 0, 1) := by decide +kernel
theorem dX0_init_1 : decode cX0_init 1 = .ok (.invokespecial 1, 3) := by decide +kernel
theorem dX0_init_4 : decode cX0_init 4 = .ok (.aload_n 0, 1) := by decide +kernel
theorem dX0_init_5 : decode cX0_init 5 = .ok (.bipush 48, 2) := by decide +kernel
theorem dX0_init_7 : decode cX0_init 7 = .ok (.newarray .boolean, 2) := by decide +kernel
theorem dX0_init_9 : decode cX0_init 9 = .ok (.putfield 9, 3) := by decide +kernel
theorem dX0_init_12 : decode cX0_init 12 = .ok (.aload_n 0, 1) := by decide +kernel
theorem dX0_init_13 : decode cX0_init 13 = .ok (.bipush 48, 2) := by decide +kernel
theorem dX0_init_15 : decode cX0_init 15 = .ok (.newarray .int, 2) := by decide +kernel
theorem dX0_init_17 : decode cX0_init 17 = .ok (.putfield 15, 3) := by decide +kernel
theorem dX0_init_20 : decode cX0_init 20 = .ok (.aload_n 0, 1) := by decide +kernel
theorem dX0_init_21 : decode cX0_init 21 = .ok (.iconst 0, 1) := by decide +kernel
theorem dX0_init_22 : decode cX0_init 22 = .ok (.putfield 19, 3) := by decide +kernel
theorem dX0_init_25 : decode cX0_init 25 = .ok (.aload_n 0, 1) := by decide +kernel
theorem dX0_init_26 : decode cX0_init 26 = .ok (.bipush 48, 2) := by decide +kernel
theorem dX0_init_28 : decode cX0_init 28 = .ok (.newarray .int, 2) := by decide +kernel
theorem dX0_init_30 : decode cX0_init 30 = .ok (.putfield 23, 3) := by decide +kernel
theorem dX0_init_33 : decode cX0_init 33 = .ok (.aload_n 0, 1) := by decide +kernel
theorem dX0_init_34 : decode cX0_init 34 = .ok (.bipush 8, 2) := by decide +kernel
theorem dX0_init_36 : decode cX0_init 36 = .ok (.newarray .int, 2) := by decide +kernel
theorem dX0_init_38 : decode cX0_init 38 = .ok (.putfield 28, 3) := by decide +kernel
theorem dX0_init_41 : decode cX0_init 41 = .ok (.aload_n 0, 1) := by decide +kernel
theorem dX0_init_42 : decode cX0_init 42 = .ok (.iconst 0, 1) := by decide +kernel
theorem dX0_init_43 : decode cX0_init 43 = .ok (.putfield 31, 3) := by decide +kernel
theorem dX0_init_46 : decode cX0_init 46 = .ok (.aload_n 0, 1) := by decide +kernel
theorem dX0_init_47 : decode cX0_init 47 = .ok (.bipush 48, 2) := by decide +kernel
theorem dX0_init_49 : decode cX0_init 49 = .ok (.newarray .int, 2) := by decide +kernel
theorem dX0_init_51 : decode cX0_init 51 = .ok (.putfield 34, 3) := by decide +kernel
theorem dX0_init_54 : decode cX0_init 54 = .ok (.aload_n 0, 1) := by decide +kernel
theorem dX0_init_55 : decode cX0_init 55 = .ok (.bipush 48, 2) := by decide +kernel
theorem dX0_init_57 : decode cX0_init 57 = .ok (.newarray .int, 2) := by decide +kernel
theorem dX0_init_59 : decode cX0_init 59 = .ok (.putfield 37, 3) := by decide +kernel
theorem dX0_init_62 : decode cX0_init 62 = .ok (.aload_n 0, 1) := by decide +kernel
theorem dX0_init_63 : decode cX0_init 63 = .ok (.iconst 0, 1) := by decide +kernel
theorem dX0_init_64 : decode cX0_init 64 = .ok (.putfield 40, 3) := by decide +kernel
theorem dX0_init_67 : decode cX0_init 67 = .ok (.aload_n 0, 1) := by decide +kernel
theorem dX0_init_68 : decode cX0_init 68 = .ok (.bipush 48, 2) := by decide +kernel
theorem dX0_init_70 : decode cX0_init 70 = .ok (.newarray .int, 2) := by decide +kernel
theorem dX0_init_72 : decode cX0_init 72 = .ok (.putfield 43, 3) := by decide +kernel
theorem dX0_init_75 : decode cX0_init 75 = .ok (.aload_n 0, 1) := by decide +kernel
theorem dX0_init_76 : decode cX0_init 76 = .ok (.bipush 48, 2) := by decide +kernel
theorem dX0_init_78 : decode cX0_init 78 = .ok (.newarray .int, 2) := by decide +kernel
theorem dX0_init_80 : decode cX0_init 80 = .ok (.putfield 46, 3) := by decide +kernel
theorem dX0_init_83 : decode cX0_init 83 = .ok (.aload_n 0, 1) := by decide +kernel
theorem dX0_init_84 : decode cX0_init 84 = .ok (.iconst 0, 1) := by decide +kernel
theorem dX0_init_85 : decode cX0_init 85 = .ok (.putfield 49, 3) := by decide +kernel
theorem dX0_init_88 : decode cX0_init 88 = .ok (.aload_n 0, 1) := by decide +kernel
theorem dX0_init_89 : decode cX0_init 89 = .ok (.iconst 0, 1) := by decide +kernel
theorem dX0_init_90 : decode cX0_init 90 = .ok (.putfield 52, 3) := by decide +kernel
theorem dX0_init_93 : decode cX0_init 93 = .ok (.return_, 1) := by decide +kernel
theorem dX0_find_0 : decode cX0_find 0 = .ok (.aload_n 0, 1) := by decide +kernel
theorem dX0_find_1 : decode cX0_find 1 = .ok (.iconst 0, 1) := by decide +kernel
theorem dX0_find_2 : decode cX0_find 2 = .ok (.putfield 19, 3) := by decide +kernel
theorem dX0_find_5 : decode cX0_find 5 = .ok (.iconst 0, 1) := by decide +kernel
theorem dX0_find_6 : decode cX0_find 6 = .ok (.istore_n 2, 1) := by decide +kernel
theorem dX0_find_7 : decode cX0_find 7 = .ok (.iload_n 2, 1) := by decide +kernel
theorem dX0_find_8 : decode cX0_find 8 = .ok (.bipush 48, 2) := by decide +kernel
theorem dX0_find_10 : decode cX0_find 10 = .ok (.if_icmp .ge 49, 3) := by decide +kernel
theorem dX0_find_13 : decode cX0_find 13 = .ok (.aload_n 0, 1) := by decide +kernel
theorem dX0_find_14 : decode cX0_find 14 = .ok (.getfield 9, 3) := by decide +kernel
theorem dX0_find_17 : decode cX0_find 17 = .ok (.iload_n 2, 1) := by decide +kernel
theorem dX0_find_18 : decode cX0_find 18 = .ok (.aload_n 1, 1) := by decide +kernel
theorem dX0_find_19 : decode cX0_find 19 = .ok (.iload_n 2, 1) := by decide +kernel
theorem dX0_find_20 : decode cX0_find 20 = .ok (.invokevirtual 55, 3) := by decide +kernel
theorem dX0_find_23 : decode cX0_find 23 = .ok (.bastore, 1) := by decide +kernel
theorem dX0_find_24 : decode cX0_find 24 = .ok (.aload_n 0, 1) := by decide +kernel
theorem dX0_find_25 : decode cX0_find 25 = .ok (.getfield 9, 3) := by decide +kernel
theorem dX0_find_28 : decode cX0_find 28 = .ok (.iload_n 2, 1) := by decide +kernel
theorem dX0_find_29 : decode cX0_find 29 = .ok (.baload, 1) := by decide +kernel
theorem dX0_find_30 : decode cX0_find 30 = .ok (.ifCond .eq 23, 3) := by decide +kernel
theorem dX0_find_33 : decode cX0_find 33 = .ok (.aload_n 0, 1) := by decide +kernel
theorem dX0_find_34 : decode cX0_find 34 = .ok (.getfield 15, 3) := by decide +kernel
theorem dX0_find_37 : decode cX0_find 37 = .ok (.aload_n 0, 1) := by decide +kernel
theorem dX0_find_38 : decode cX0_find 38 = .ok (.getfield 19, 3) := by decide +kernel
theorem dX0_find_41 : decode cX0_find 41 = .ok (.iload_n 2, 1) := by decide +kernel
theorem dX0_find_42 : decode cX0_find 42 = .ok (.iastore, 1) := by decide +kernel
theorem dX0_find_43 : decode cX0_find 43 = .ok (.aload_n 0, 1) := by decide +kernel
theorem dX0_find_44 : decode cX0_find 44 = .ok (.dup, 1) := by decide +kernel
theorem dX0_find_45 : decode cX0_find 45 = .ok (.getfield 19, 3) := by decide +kernel
theorem dX0_find_48 : decode cX0_find 48 = .ok (.iconst 1, 1) := by decide +kernel
theorem dX0_find_49 : decode cX0_find 49 = .ok (.iadd, 1) := by decide +kernel
theorem dX0_find_50 : decode cX0_find 50 = .ok (.putfield 19, 3) := by decide +kernel
theorem dX0_find_53 : decode cX0_find 53 = .ok (.iinc 2 1, 3) := by decide +kernel
theorem dX0_find_56 : decode cX0_find 56 = .ok (.goto (-49), 3) := by decide +kernel
theorem dX0_find_59 : decode cX0_find 59 = .ok (.aload_n 0, 1) := by decide +kernel
theorem dX0_find_60 : decode cX0_find 60 = .ok (.aload_n 1, 1) := by decide +kernel
theorem dX0_find_61 : decode cX0_find 61 = .ok (.invokevirtual 59, 3) := by decide +kernel
theorem dX0_find_64 : decode cX0_find 64 = .ok (.aload_n 0, 1) := by decide +kernel
theorem dX0_find_65 : decode cX0_find 65 = .ok (.invokevirtual 63, 3) := by decide +kernel
theorem dX0_find_68 : decode cX0_find 68 = .ok (.aload_n 0, 1) := by decide +kernel
theorem dX0_find_69 : decode cX0_find 69 = .ok (.iconst 0, 1) := by decide +kernel
theorem dX0_find_70 : decode cX0_find 70 = .ok (.putfield 52, 3) := by decide +kernel
theorem dX0_find_73 : decode cX0_find 73 = .ok (.return_, 1) := by decide +kernel
theorem dX0_findOrbits_0 : decode cX0_findOrbits 0 = .ok (.iconst 0, 1) := by decide +kernel
theorem dX0_findOrbits_1 : decode cX0_findOrbits 1 = .ok (.istore_n 2, 1) := by decide +kernel
theorem dX0_findOrbits_2 : decode cX0_findOrbits 2 = .ok (.iload_n 2, 1) := by decide +kernel
theorem dX0_findOrbits_3 : decode cX0_findOrbits 3 = .ok (.aload_n 0, 1) := by decide +kernel
theorem dX0_findOrbits_4 : decode cX0_findOrbits 4 = .ok (.getfield 19, 3) := by decide +kernel
theorem dX0_findOrbits_7 : decode cX0_findOrbits 7 = .ok (.if_icmp .ge 21, 3) := by decide +kernel
theorem dX0_findOrbits_10 : decode cX0_findOrbits 10 = .ok (.aload_n 0, 1) := by decide +kernel
theorem dX0_findOrbits_11 : decode cX0_findOrbits 11 = .ok (.getfield 23, 3) := by decide +kernel
theorem dX0_findOrbits_14 : decode cX0_findOrbits 14 = .ok (.aload_n 0, 1) := by decide +kernel
theorem dX0_findOrbits_15 : decode cX0_findOrbits 15 = .ok (.getfield 15, 3) := by decide +kernel
theorem dX0_findOrbits_18 : decode cX0_findOrbits 18 = .ok (.iload_n 2, 1) := by decide +kernel
theorem dX0_findOrbits_19 : decode cX0_findOrbits 19 = .ok (.iaload, 1) := by decide +kernel
theorem dX0_findOrbits_20 : decode cX0_findOrbits 20 = .ok (.iconst 0, 1) := by decide +kernel
theorem dX0_findOrbits_21 : decode cX0_findOrbits 21 = .ok (.iastore, 1) := by decide +kernel
theorem dX0_findOrbits_22 : decode cX0_findOrbits 22 = .ok (.iinc 2 1, 3) := by decide +kernel
theorem dX0_findOrbits_25 : decode cX0_findOrbits 25 = .ok (.goto (-23), 3) := by decide +kernel
theorem dX0_findOrbits_28 : decode cX0_findOrbits 28 = .ok (.aload_n 0, 1) := by decide +kernel
theorem dX0_findOrbits_29 : decode cX0_findOrbits 29 = .ok (.iconst 0, 1) := by decide +kernel
theorem dX0_findOrbits_30 : decode cX0_findOrbits 30 = .ok (.putfield 31, 3) := by decide +kernel
theorem dX0_findOrbits_33 : decode cX0_findOrbits 33 = .ok (.iconst 0, 1) := by decide +kernel
theorem dX0_findOrbits_34 : decode cX0_findOrbits 34 = .ok (.istore_n 2, 1) := by decide +kernel
theorem dX0_findOrbits_35 : decode cX0_findOrbits 35 = .ok (.iload_n 2, 1) := by decide +kernel
theorem dX0_findOrbits_36 : decode cX0_findOrbits 36 = .ok (.aload_n 1, 1) := by decide +kernel
theorem dX0_findOrbits_37 : decode cX0_findOrbits 37 = .ok (.getfield 66, 3) := by decide +kernel
theorem dX0_findOrbits_40 : decode cX0_findOrbits 40 = .ok (.if_icmp .ge 35, 3) := by decide +kernel
theorem dX0_findOrbits_43 : decode cX0_findOrbits 43 = .ok (.aload_n 0, 1) := by decide +kernel
theorem dX0_findOrbits_44 : decode cX0_findOrbits 44 = .ok (.aload_n 1, 1) := by decide +kernel
theorem dX0_findOrbits_45 : decode cX0_findOrbits 45 = .ok (.iload_n 2, 1) := by decide +kernel
theorem dX0_findOrbits_46 : decode cX0_findOrbits 46 = .ok (.invokevirtual 67, 3) := by decide +kernel
theorem dX0_findOrbits_49 : decode cX0_findOrbits 49 = .ok (.aload_n 0, 1) := by decide +kernel
theorem dX0_findOrbits_50 : decode cX0_findOrbits 50 = .ok (.getfield 28, 3) := by decide +kernel
theorem dX0_findOrbits_53 : decode cX0_findOrbits 53 = .ok (.iload_n 2, 1) := by decide +kernel
theorem dX0_findOrbits_54 : decode cX0_findOrbits 54 = .ok (.iaload, 1) := by decide +kernel
theorem dX0_findOrbits_55 : decode cX0_findOrbits 55 = .ok (.iload_n 2, 1) := by decide +kernel
theorem dX0_findOrbits_56 : decode cX0_findOrbits 56 = .ok (.if_icmp .ne 13, 3) := by decide +kernel
theorem dX0_findOrbits_59 : decode cX0_findOrbits 59 = .ok (.aload_n 0, 1) := by decide +kernel
theorem dX0_findOrbits_60 : decode cX0_findOrbits 60 = .ok (.dup, 1) := by decide +kernel
theorem dX0_findOrbits_61 : decode cX0_findOrbits 61 = .ok (.getfield 31, 3) := by decide +kernel
theorem dX0_findOrbits_64 : decode cX0_findOrbits 64 = .ok (.iconst 1, 1) := by decide +kernel
theorem dX0_findOrbits_65 : decode cX0_findOrbits 65 = .ok (.iadd, 1) := by decide +kernel
theorem dX0_findOrbits_66 : decode cX0_findOrbits 66 = .ok (.putfield 31, 3) := by decide +kernel
theorem dX0_findOrbits_69 : decode cX0_findOrbits 69 = .ok (.iinc 2 1, 3) := by decide +kernel
theorem dX0_findOrbits_72 : decode cX0_findOrbits 72 = .ok (.goto (-37), 3) := by decide +kernel
theorem dX0_findOrbits_75 : decode cX0_findOrbits 75 = .ok (.return_, 1) := by decide +kernel
theorem dX0_findOrbit_0 : decode cX0_findOrbit 0 = .ok (.aload_n 0, 1) := by decide +kernel
theorem dX0_findOrbit_1 : decode cX0_findOrbit 1 = .ok (.getfield 28, 3) := by decide +kernel
theorem dX0_findOrbit_4 : decode cX0_findOrbit 4 = .ok (.iload_n 2, 1) := by decide +kernel
theorem dX0_findOrbit_5 : decode cX0_findOrbit 5 = .ok (.iload_n 2, 1) := by decide +kernel
theorem dX0_findOrbit_6 : decode cX0_findOrbit 6 = .ok (.iastore, 1) := by decide +kernel
theorem dX0_findOrbit_7 : decode cX0_findOrbit 7 = .ok (.iconst 0, 1) := by decide +kernel
theorem dX0_findOrbit_8 : decode cX0_findOrbit 8 = .ok (.istore_n 3, 1) := by decide +kernel
theorem dX0_findOrbit_9 : decode cX0_findOrbit 9 = .ok (.iload_n 3, 1) := by decide +kernel
theorem dX0_findOrbit_10 : decode cX0_findOrbit 10 = .ok (.aload_n 0, 1) := by decide +kernel
theorem dX0_findOrbit_11 : decode cX0_findOrbit 11 = .ok (.getfield 19, 3) := by decide +kernel
theorem dX0_findOrbit_14 : decode cX0_findOrbit 14 = .ok (.if_icmp .ge 60, 3) := by decide +kernel
theorem dX0_findOrbit_17 : decode cX0_findOrbit 17 = .ok (.aload_n 1, 1) := by decide +kernel
theorem dX0_findOrbit_18 : decode cX0_findOrbit 18 = .ok (.aload_n 0, 1) := by decide +kernel
theorem dX0_findOrbit_19 : decode cX0_findOrbit 19 = .ok (.getfield 15, 3) := by decide +kernel
theorem dX0_findOrbit_22 : decode cX0_findOrbit 22 = .ok (.iload_n 3, 1) := by decide +kernel
theorem dX0_findOrbit_23 : decode cX0_findOrbit 23 = .ok (.iaload, 1) := by decide +kernel
theorem dX0_findOrbit_24 : decode cX0_findOrbit 24 = .ok (.iload_n 2, 1) := by decide +kernel
theorem dX0_findOrbit_25 : decode cX0_findOrbit 25 = .ok (.invokevirtual 71, 3) := by decide +kernel
theorem dX0_findOrbit_28 : decode cX0_findOrbit 28 = .ok (.istore 4, 2) := by decide +kernel
theorem dX0_findOrbit_30 : decode cX0_findOrbit 30 = .ok (.aload_n 0, 1) := by decide +kernel
theorem dX0_findOrbit_31 : decode cX0_findOrbit 31 = .ok (.getfield 28, 3) := by decide +kernel
theorem dX0_findOrbit_34 : decode cX0_findOrbit 34 = .ok (.iload_n 2, 1) := by decide +kernel
theorem dX0_findOrbit_35 : decode cX0_findOrbit 35 = .ok (.aload_n 0, 1) := by decide +kernel
theorem dX0_findOrbit_36 : decode cX0_findOrbit 36 = .ok (.getfield 28, 3) := by decide +kernel
theorem dX0_findOrbit_39 : decode cX0_findOrbit 39 = .ok (.iload_n 2, 1) := by decide +kernel
theorem dX0_findOrbit_40 : decode cX0_findOrbit 40 = .ok (.iaload, 1) := by decide +kernel
theorem dX0_findOrbit_41 : decode cX0_findOrbit 41 = .ok (.iload 4, 2) := by decide +kernel
theorem dX0_findOrbit_43 : decode cX0_findOrbit 43 = .ok (.invokestatic 75, 3) := by decide +kernel
theorem dX0_findOrbit_46 : decode cX0_findOrbit 46 = .ok (.iastore, 1) := by decide +kernel
theorem dX0_findOrbit_47 : decode cX0_findOrbit 47 = .ok (.iload 4, 2) := by decide +kernel
theorem dX0_findOrbit_49 : decode cX0_findOrbit 49 = .ok (.iload_n 2, 1) := by decide +kernel
theorem dX0_findOrbit_50 : decode cX0_findOrbit 50 = .ok (.if_icmp .ne 18, 3) := by decide +kernel
theorem dX0_findOrbit_53 : decode cX0_findOrbit 53 = .ok (.aload_n 0, 1) := by decide +kernel
theorem dX0_findOrbit_54 : decode cX0_findOrbit 54 = .ok (.getfield 23, 3) := by decide +kernel
theorem dX0_findOrbit_57 : decode cX0_findOrbit 57 = .ok (.aload_n 0, 1) := by decide +kernel
theorem dX0_findOrbit_58 : decode cX0_findOrbit 58 = .ok (.getfield 15, 3) := by decide +kernel
theorem dX0_findOrbit_61 : decode cX0_findOrbit 61 = .ok (.iload_n 3, 1) := by decide +kernel
theorem dX0_findOrbit_62 : decode cX0_findOrbit 62 = .ok (.iaload, 1) := by decide +kernel
theorem dX0_findOrbit_63 : decode cX0_findOrbit 63 = .ok (.dup2, 1) := by decide +kernel
theorem dX0_findOrbit_64 : decode cX0_findOrbit 64 = .ok (.iaload, 1) := by decide +kernel
theorem dX0_findOrbit_65 : decode cX0_findOrbit 65 = .ok (.iconst 1, 1) := by decide +kernel
theorem dX0_findOrbit_66 : decode cX0_findOrbit 66 = .ok (.iadd, 1) := by decide +kernel
theorem dX0_findOrbit_67 : decode cX0_findOrbit 67 = .ok (.iastore, 1) := by decide +kernel
theorem dX0_findOrbit_68 : decode cX0_findOrbit 68 = .ok (.iinc 3 1, 3) := by decide +kernel
theorem dX0_findOrbit_71 : decode cX0_findOrbit 71 = .ok (.goto (-62), 3) := by decide +kernel
theorem dX0_findOrbit_74 : decode cX0_findOrbit 74 = .ok (.return_, 1) := by decide +kernel
theorem dX0_findClasses_0 : decode cX0_findClasses 0 = .ok (.iconst 0, 1) := by decide +kernel
theorem dX0_findClasses_1 : decode cX0_findClasses 1 = .ok (.istore_n 1, 1) := by decide +kernel
theorem dX0_findClasses_2 : decode cX0_findClasses 2 = .ok (.iload_n 1, 1) := by decide +kernel
theorem dX0_findClasses_3 : decode cX0_findClasses 3 = .ok (.aload_n 0, 1) := by decide +kernel
theorem dX0_findClasses_4 : decode cX0_findClasses 4 = .ok (.getfield 19, 3) := by decide +kernel
theorem dX0_findClasses_7 : decode cX0_findClasses 7 = .ok (.if_icmp .ge 21, 3) := by decide +kernel
theorem dX0_findClasses_10 : decode cX0_findClasses 10 = .ok (.aload_n 0, 1) := by decide +kernel
theorem dX0_findClasses_11 : decode cX0_findClasses 11 = .ok (.getfield 34, 3) := by decide +kernel
theorem dX0_findClasses_14 : decode cX0_findClasses 14 = .ok (.aload_n 0, 1) := by decide +kernel
theorem dX0_findClasses_15 : decode cX0_findClasses 15 = .ok (.getfield 15, 3) := by decide +kernel
theorem dX0_findClasses_18 : decode cX0_findClasses 18 = .ok (.iload_n 1, 1) := by decide +kernel
theorem dX0_findClasses_19 : decode cX0_findClasses 19 = .ok (.iaload, 1) := by decide +kernel
theorem dX0_findClasses_20 : decode cX0_findClasses 20 = .ok (.iconst (-1), 1) := by decide +kernel
theorem dX0_findClasses_21 : decode cX0_findClasses 21 = .ok (.iastore, 1) := by decide +kernel
theorem dX0_findClasses_22 : decode cX0_findClasses 22 = .ok (.iinc 1 1, 3) := by decide +kernel
theorem dX0_findClasses_25 : decode cX0_findClasses 25 = .ok (.goto (-23), 3) := by decide +kernel
theorem dX0_findClasses_28 : decode cX0_findClasses 28 = .ok (.aload_n 0, 1) := by decide +kernel
theorem dX0_findClasses_29 : decode cX0_findClasses 29 = .ok (.iconst 0, 1) := by decide +kernel
theorem dX0_findClasses_30 : decode cX0_findClasses 30 = .ok (.putfield 40, 3) := by decide +kernel
theorem dX0_findClasses_33 : decode cX0_findClasses 33 = .ok (.iconst 0, 1) := by decide +kernel
theorem dX0_findClasses_34 : decode cX0_findClasses 34 = .ok (.istore_n 1, 1) := by decide +kernel
theorem dX0_findClasses_35 : decode cX0_findClasses 35 = .ok (.iload_n 1, 1) := by decide +kernel
theorem dX0_findClasses_36 : decode cX0_findClasses 36 = .ok (.aload_n 0, 1) := by decide +kernel
theorem dX0_findClasses_37 : decode cX0_findClasses 37 = .ok (.getfield 19, 3) := by decide +kernel
theorem dX0_findClasses_40 : decode cX0_findClasses 40 = .ok (.if_icmp .ge 51, 3) := by decide +kernel
theorem dX0_findClasses_43 : decode cX0_findClasses 43 = .ok (.aload_n 0, 1) := by decide +kernel
theorem dX0_findClasses_44 : decode cX0_findClasses 44 = .ok (.getfield 15, 3) := by decide +kernel
theorem dX0_findClasses_47 : decode cX0_findClasses 47 = .ok (.iload_n 1, 1) := by decide +kernel
theorem dX0_findClasses_48 : decode cX0_findClasses 48 = .ok (.iaload, 1) := by decide +kernel
theorem dX0_findClasses_49 : decode cX0_findClasses 49 = .ok (.istore_n 2, 1) := by decide +kernel
theorem dX0_findClasses_50 : decode cX0_findClasses 50 = .ok (.aload_n 0, 1) := by decide +kernel
theorem dX0_findClasses_51 : decode cX0_findClasses 51 = .ok (.getfield 34, 3) := by decide +kernel
theorem dX0_findClasses_54 : decode cX0_findClasses 54 = .ok (.iload_n 2, 1) := by decide +kernel
theorem dX0_findClasses_55 : decode cX0_findClasses 55 = .ok (.iaload, 1) := by decide +kernel
theorem dX0_findClasses_56 : decode cX0_findClasses 56 = .ok (.iconst (-1), 1) := by decide +kernel
theorem dX0_findClasses_57 : decode cX0_findClasses 57 = .ok (.if_icmp .ne 28, 3) := by decide +kernel
theorem dX0_findClasses_60 : decode cX0_findClasses 60 = .ok (.aload_n 0, 1) := by decide +kernel
theorem dX0_findClasses_61 : decode cX0_findClasses 61 = .ok (.iload_n 2, 1) := by decide +kernel
theorem dX0_findClasses_62 : decode cX0_findClasses 62 = .ok (.invokevirtual 80, 3) := by decide +kernel
theorem dX0_findClasses_65 : decode cX0_findClasses 65 = .ok (.aload_n 0, 1) := by decide +kernel
theorem dX0_findClasses_66 : decode cX0_findClasses 66 = .ok (.getfield 37, 3) := by decide +kernel
theorem dX0_findClasses_69 : decode cX0_findClasses 69 = .ok (.aload_n 0, 1) := by decide +kernel
theorem dX0_findClasses_70 : decode cX0_findClasses 70 = .ok (.getfield 40, 3) := by decide +kernel
theorem dX0_findClasses_73 : decode cX0_findClasses 73 = .ok (.iload_n 2, 1) := by decide +kernel
theorem dX0_findClasses_74 : decode cX0_findClasses 74 = .ok (.iastore, 1) := by decide +kernel
theorem dX0_findClasses_75 : decode cX0_findClasses 75 = .ok (.aload_n 0, 1) := by decide +kernel
theorem dX0_findClasses_76 : decode cX0_findClasses 76 = .ok (.dup, 1) := by decide +kernel
theorem dX0_findClasses_77 : decode cX0_findClasses 77 = .ok (.getfield 40, 3) := by decide +kernel
theorem dX0_findClasses_80 : decode cX0_findClasses 80 = .ok (.iconst 1, 1) := by decide +kernel
theorem dX0_findClasses_81 : decode cX0_findClasses 81 = .ok (.iadd, 1) := by decide +kernel
theorem dX0_findClasses_82 : decode cX0_findClasses 82 = .ok (.putfield 40, 3) := by decide +kernel
theorem dX0_findClasses_85 : decode cX0_findClasses 85 = .ok (.iinc 1 1, 3) := by decide +kernel
theorem dX0_findClasses_88 : decode cX0_findClasses 88 = .ok (.goto (-53), 3) := by decide +kernel
theorem dX0_findClasses_91 : decode cX0_findClasses 91 = .ok (.return_, 1) := by decide +kernel
theorem dX0_findClass_0 : decode cX0_findClass 0 = .ok (.iconst 0, 1) := by decide +kernel
theorem dX0_findClass_1 : decode cX0_findClass 1 = .ok (.istore_n 2, 1) := by decide +kernel
theorem dX0_findClass_2 : decode cX0_findClass 2 = .ok (.iload_n 2, 1) := by decide +kernel
theorem dX0_findClass_3 : decode cX0_findClass 3 = .ok (.aload_n 0, 1) := by decide +kernel
theorem dX0_findClass_4 : decode cX0_findClass 4 = .ok (.getfield 19, 3) := by decide +kernel
theorem dX0_findClass_7 : decode cX0_findClass 7 = .ok (.if_icmp .ge 38, 3) := by decide +kernel
theorem dX0_findClass_10 : decode cX0_findClass 10 = .ok (.aload_n 0, 1) := by decide +kernel
theorem dX0_findClass_11 : decode cX0_findClass 11 = .ok (.getfield 15, 3) := by decide +kernel
theorem dX0_findClass_14 : decode cX0_findClass 14 = .ok (.iload_n 2, 1) := by decide +kernel
theorem dX0_findClass_15 : decode cX0_findClass 15 = .ok (.iaload, 1) := by decide +kernel
theorem dX0_findClass_16 : decode cX0_findClass 16 = .ok (.istore_n 3, 1) := by decide +kernel
theorem dX0_findClass_17 : decode cX0_findClass 17 = .ok (.iload_n 3, 1) := by decide +kernel
theorem dX0_findClass_18 : decode cX0_findClass 18 = .ok (.iload_n 1, 1) := by decide +kernel
theorem dX0_findClass_19 : decode cX0_findClass 19 = .ok (.invokestatic 84, 3) := by decide +kernel
theorem dX0_findClass_22 : decode cX0_findClass 22 = .ok (.iload_n 3, 1) := by decide +kernel
theorem dX0_findClass_23 : decode cX0_findClass 23 = .ok (.invokestatic 87, 3) := by decide +kernel
theorem dX0_findClass_26 : decode cX0_findClass 26 = .ok (.invokestatic 84, 3) := by decide +kernel
theorem dX0_findClass_29 : decode cX0_findClass 29 = .ok (.istore 4, 2) := by decide +kernel
theorem dX0_findClass_31 : decode cX0_findClass 31 = .ok (.aload_n 0, 1) := by decide +kernel
theorem dX0_findClass_32 : decode cX0_findClass 32 = .ok (.getfield 34, 3) := by decide +kernel
theorem dX0_findClass_35 : decode cX0_findClass 35 = .ok (.iload 4, 2) := by decide +kernel
theorem dX0_findClass_37 : decode cX0_findClass 37 = .ok (.iload_n 1, 1) := by decide +kernel
theorem dX0_findClass_38 : decode cX0_findClass 38 = .ok (.iastore, 1) := by decide +kernel
theorem dX0_findClass_39 : decode cX0_findClass 39 = .ok (.iinc 2 1, 3) := by decide +kernel
theorem dX0_findClass_42 : decode cX0_findClass 42 = .ok (.goto (-40), 3) := by decide +kernel
theorem dX0_findClass_45 : decode cX0_findClass 45 = .ok (.return_, 1) := by decide +kernel
theorem dX0_isHanded_0 : decode cX0_isHanded 0 = .ok (.iconst 0, 1) := by decide +kernel
theorem dX0_isHanded_1 : decode cX0_isHanded 1 = .ok (.istore_n 1, 1) := by decide +kernel
theorem dX0_isHanded_2 : decode cX0_isHanded 2 = .ok (.iload_n 1, 1) := by decide +kernel
theorem dX0_isHanded_3 : decode cX0_isHanded 3 = .ok (.aload_n 0, 1) := by decide +kernel
theorem dX0_isHanded_4 : decode cX0_isHanded 4 = .ok (.getfield 19, 3) := by decide +kernel
theorem dX0_isHanded_7 : decode cX0_isHanded 7 = .ok (.if_icmp .ge 24, 3) := by decide +kernel
theorem dX0_isHanded_10 : decode cX0_isHanded 10 = .ok (.aload_n 0, 1) := by decide +kernel
theorem dX0_isHanded_11 : decode cX0_isHanded 11 = .ok (.getfield 15, 3) := by decide +kernel
theorem dX0_isHanded_14 : decode cX0_isHanded 14 = .ok (.iload_n 1, 1) := by decide +kernel
theorem dX0_isHanded_15 : decode cX0_isHanded 15 = .ok (.iaload, 1) := by decide +kernel
theorem dX0_isHanded_16 : decode cX0_isHanded 16 = .ok (.invokestatic 91, 3) := by decide +kernel
theorem dX0_isHanded_19 : decode cX0_isHanded 19 = .ok (.iconst (-1), 1) := by decide +kernel
theorem dX0_isHanded_20 : decode cX0_isHanded 20 = .ok (.if_icmp .ne 5, 3) := by decide +kernel
theorem dX0_isHanded_23 : decode cX0_isHanded 23 = .ok (.iconst 0, 1) := by decide +kernel
theorem dX0_isHanded_24 : decode cX0_isHanded 24 = .ok (.ireturn, 1) := by decide +kernel
theorem dX0_isHanded_25 : decode cX0_isHanded 25 = .ok (.iinc 1 1, 3) := by decide +kernel
theorem dX0_isHanded_28 : decode cX0_isHanded 28 = .ok (.goto (-26), 3) := by decide +kernel
theorem dX0_isHanded_31 : decode cX0_isHanded 31 = .ok (.iconst 1, 1) := by decide +kernel
theorem dX0_isHanded_32 : decode cX0_isHanded 32 = .ok (.ireturn, 1) := by decide +kernel
theorem dX0_ordersTogether_0 : decode cX0_ordersTogether 0 = .ok (.iconst 0, 1) := by decide +kernel
theorem dX0_ordersTogether_1 : decode cX0_ordersTogether 1 = .ok (.istore_n 1, 1) := by decide +kernel
theorem dX0_ordersTogether_2 : decode cX0_ordersTogether 2 = .ok (.iconst 0, 1) := by decide +kernel
theorem dX0_ordersTogether_3 : decode cX0_ordersTogether 3 = .ok (.istore_n 2, 1) := by decide +kernel
theorem dX0_ordersTogether_4 : decode cX0_ordersTogether 4 = .ok (.iload_n 2, 1) := by decide +kernel
theorem dX0_ordersTogether_5 : decode cX0_ordersTogether 5 = .ok (.aload_n 0, 1) := by decide +kernel
theorem dX0_ordersTogether_6 : decode cX0_ordersTogether 6 = .ok (.getfield 19, 3) := by decide +kernel
theorem dX0_ordersTogether_9 : decode cX0_ordersTogether 9 = .ok (.if_icmp .ge 21, 3) := by decide +kernel
theorem dX0_ordersTogether_12 : decode cX0_ordersTogether 12 = .ok (.iload_n 1, 1) := by decide +kernel
theorem dX0_ordersTogether_13 : decode cX0_ordersTogether 13 = .ok (.aload_n 0, 1) := by decide +kernel
theorem dX0_ordersTogether_14 : decode cX0_ordersTogether 14 = .ok (.getfield 15, 3) := by decide +kernel
theorem dX0_ordersTogether_17 : decode cX0_ordersTogether 17 = .ok (.iload_n 2, 1) := by decide +kernel
theorem dX0_ordersTogether_18 : decode cX0_ordersTogether 18 = .ok (.iaload, 1) := by decide +kernel
theorem dX0_ordersTogether_19 : decode cX0_ordersTogether 19 = .ok (.invokestatic 94, 3) := by decide +kernel
theorem dX0_ordersTogether_22 : decode cX0_ordersTogether 22 = .ok (.iadd, 1) := by decide +kernel
theorem dX0_ordersTogether_23 : decode cX0_ordersTogether 23 = .ok (.istore_n 1, 1) := by decide +kernel
theorem dX0_ordersTogether_24 : decode cX0_ordersTogether 24 = .ok (.iinc 2 1, 3) := by decide +kernel
theorem dX0_ordersTogether_27 : decode cX0_ordersTogether 27 = .ok (.goto (-23), 3) := by decide +kernel
theorem dX0_ordersTogether_30 : decode cX0_ordersTogether 30 = .ok (.iload_n 1, 1) := by decide +kernel
theorem dX0_ordersTogether_31 : decode cX0_ordersTogether 31 = .ok (.ireturn, 1) := by decide +kernel
theorem dX0_signsInAll_0 : decode cX0_signsInAll 0 = .ok (.aload_n 0, 1) := by decide +kernel
theorem dX0_signsInAll_1 : decode cX0_signsInAll 1 = .ok (.getfield 52, 3) := by decide +kernel
theorem dX0_signsInAll_4 : decode cX0_signsInAll 4 = .ok (.ifCond .ne 7, 3) := by decide +kernel
theorem dX0_signsInAll_7 : decode cX0_signsInAll 7 = .ok (.aload_n 0, 1) := by decide +kernel
theorem dX0_signsInAll_8 : decode cX0_signsInAll 8 = .ok (.invokevirtual 106, 3) := by decide +kernel
theorem dX0_signsInAll_11 : decode cX0_signsInAll 11 = .ok (.aload_n 0, 1) := by decide +kernel
theorem dX0_signsInAll_12 : decode cX0_signsInAll 12 = .ok (.getfield 52, 3) := by decide +kernel
theorem dX0_signsInAll_15 : decode cX0_signsInAll 15 = .ok (.ireturn, 1) := by decide +kernel
theorem dX0_findSigns_0 : decode cX0_findSigns 0 = .ok (.aload_n 0, 1) := by decide +kernel
theorem dX0_findSigns_1 : decode cX0_findSigns 1 = .ok (.iconst 1, 1) := by decide +kernel
theorem dX0_findSigns_2 : decode cX0_findSigns 2 = .ok (.putfield 52, 3) := by decide +kernel
theorem dX0_findSigns_5 : decode cX0_findSigns 5 = .ok (.aload_n 0, 1) := by decide +kernel
theorem dX0_findSigns_6 : decode cX0_findSigns 6 = .ok (.invokevirtual 114, 3) := by decide +kernel
theorem dX0_findSigns_9 : decode cX0_findSigns 9 = .ok (.iconst 0, 1) := by decide +kernel
theorem dX0_findSigns_10 : decode cX0_findSigns 10 = .ok (.istore_n 1, 1) := by decide +kernel
theorem dX0_findSigns_11 : decode cX0_findSigns 11 = .ok (.iload_n 1, 1) := by decide +kernel
theorem dX0_findSigns_12 : decode cX0_findSigns 12 = .ok (.aload_n 0, 1) := by decide +kernel
theorem dX0_findSigns_13 : decode cX0_findSigns 13 = .ok (.getfield 19, 3) := by decide +kernel
theorem dX0_findSigns_16 : decode cX0_findSigns 16 = .ok (.if_icmp .ge 44, 3) := by decide +kernel
theorem dX0_findSigns_19 : decode cX0_findSigns 19 = .ok (.aload_n 0, 1) := by decide +kernel
theorem dX0_findSigns_20 : decode cX0_findSigns 20 = .ok (.getfield 43, 3) := by decide +kernel
theorem dX0_findSigns_23 : decode cX0_findSigns 23 = .ok (.aload_n 0, 1) := by decide +kernel
theorem dX0_findSigns_24 : decode cX0_findSigns 24 = .ok (.getfield 15, 3) := by decide +kernel
theorem dX0_findSigns_27 : decode cX0_findSigns 27 = .ok (.iload_n 1, 1) := by decide +kernel
theorem dX0_findSigns_28 : decode cX0_findSigns 28 = .ok (.iaload, 1) := by decide +kernel
theorem dX0_findSigns_29 : decode cX0_findSigns 29 = .ok (.iaload, 1) := by decide +kernel
theorem dX0_findSigns_30 : decode cX0_findSigns 30 = .ok (.iconst (-1), 1) := by decide +kernel
theorem dX0_findSigns_31 : decode cX0_findSigns 31 = .ok (.if_icmp .ne 23, 3) := by decide +kernel
theorem dX0_findSigns_34 : decode cX0_findSigns 34 = .ok (.aload_n 0, 1) := by decide +kernel
theorem dX0_findSigns_35 : decode cX0_findSigns 35 = .ok (.aload_n 0, 1) := by decide +kernel
theorem dX0_findSigns_36 : decode cX0_findSigns 36 = .ok (.getfield 15, 3) := by decide +kernel
theorem dX0_findSigns_39 : decode cX0_findSigns 39 = .ok (.iload_n 1, 1) := by decide +kernel
theorem dX0_findSigns_40 : decode cX0_findSigns 40 = .ok (.iaload, 1) := by decide +kernel
theorem dX0_findSigns_41 : decode cX0_findSigns 41 = .ok (.invokevirtual 117, 3) := by decide +kernel
theorem dX0_findSigns_44 : decode cX0_findSigns 44 = .ok (.aload_n 0, 1) := by decide +kernel
theorem dX0_findSigns_45 : decode cX0_findSigns 45 = .ok (.dup, 1) := by decide +kernel
theorem dX0_findSigns_46 : decode cX0_findSigns 46 = .ok (.getfield 52, 3) := by decide +kernel
theorem dX0_findSigns_49 : decode cX0_findSigns 49 = .ok (.iconst 2, 1) := by decide +kernel
theorem dX0_findSigns_50 : decode cX0_findSigns 50 = .ok (.imul, 1) := by decide +kernel
theorem dX0_findSigns_51 : decode cX0_findSigns 51 = .ok (.putfield 52, 3) := by decide +kernel
theorem dX0_findSigns_54 : decode cX0_findSigns 54 = .ok (.iinc 1 1, 3) := by decide +kernel
theorem dX0_findSigns_57 : decode cX0_findSigns 57 = .ok (.goto (-46), 3) := by decide +kernel
theorem dX0_findSigns_60 : decode cX0_findSigns 60 = .ok (.return_, 1) := by decide +kernel
theorem dX0_findMadeOfSquares_0 : decode cX0_findMadeOfSquares 0 = .ok (.iconst 0, 1) := by decide +kernel
theorem dX0_findMadeOfSquares_1 : decode cX0_findMadeOfSquares 1 = .ok (.istore_n 1, 1) := by decide +kernel
theorem dX0_findMadeOfSquares_2 : decode cX0_findMadeOfSquares 2 = .ok (.iload_n 1, 1) := by decide +kernel
theorem dX0_findMadeOfSquares_3 : decode cX0_findMadeOfSquares 3 = .ok (.bipush 48, 2) := by decide +kernel
theorem dX0_findMadeOfSquares_5 : decode cX0_findMadeOfSquares 5 = .ok (.if_icmp .ge 16, 3) := by decide +kernel
theorem dX0_findMadeOfSquares_8 : decode cX0_findMadeOfSquares 8 = .ok (.aload_n 0, 1) := by decide +kernel
theorem dX0_findMadeOfSquares_9 : decode cX0_findMadeOfSquares 9 = .ok (.getfield 43, 3) := by decide +kernel
theorem dX0_findMadeOfSquares_12 : decode cX0_findMadeOfSquares 12 = .ok (.iload_n 1, 1) := by decide +kernel
theorem dX0_findMadeOfSquares_13 : decode cX0_findMadeOfSquares 13 = .ok (.iconst (-1), 1) := by decide +kernel
theorem dX0_findMadeOfSquares_14 : decode cX0_findMadeOfSquares 14 = .ok (.iastore, 1) := by decide +kernel
theorem dX0_findMadeOfSquares_15 : decode cX0_findMadeOfSquares 15 = .ok (.iinc 1 1, 3) := by decide +kernel
theorem dX0_findMadeOfSquares_18 : decode cX0_findMadeOfSquares 18 = .ok (.goto (-16), 3) := by decide +kernel
theorem dX0_findMadeOfSquares_21 : decode cX0_findMadeOfSquares 21 = .ok (.aload_n 0, 1) := by decide +kernel
theorem dX0_findMadeOfSquares_22 : decode cX0_findMadeOfSquares 22 = .ok (.iconst 0, 1) := by decide +kernel
theorem dX0_findMadeOfSquares_23 : decode cX0_findMadeOfSquares 23 = .ok (.putfield 49, 3) := by decide +kernel
theorem dX0_findMadeOfSquares_26 : decode cX0_findMadeOfSquares 26 = .ok (.aload_n 0, 1) := by decide +kernel
theorem dX0_findMadeOfSquares_27 : decode cX0_findMadeOfSquares 27 = .ok (.iconst 0, 1) := by decide +kernel
theorem dX0_findMadeOfSquares_28 : decode cX0_findMadeOfSquares 28 = .ok (.iconst 0, 1) := by decide +kernel
theorem dX0_findMadeOfSquares_29 : decode cX0_findMadeOfSquares 29 = .ok (.invokevirtual 120, 3) := by decide +kernel
theorem dX0_findMadeOfSquares_32 : decode cX0_findMadeOfSquares 32 = .ok (.iconst 0, 1) := by decide +kernel
theorem dX0_findMadeOfSquares_33 : decode cX0_findMadeOfSquares 33 = .ok (.istore_n 1, 1) := by decide +kernel
theorem dX0_findMadeOfSquares_34 : decode cX0_findMadeOfSquares 34 = .ok (.iload_n 1, 1) := by decide +kernel
theorem dX0_findMadeOfSquares_35 : decode cX0_findMadeOfSquares 35 = .ok (.bipush 48, 2) := by decide +kernel
theorem dX0_findMadeOfSquares_37 : decode cX0_findMadeOfSquares 37 = .ok (.if_icmp .ge 64, 3) := by decide +kernel
theorem dX0_findMadeOfSquares_40 : decode cX0_findMadeOfSquares 40 = .ok (.iload_n 1, 1) := by decide +kernel
theorem dX0_findMadeOfSquares_41 : decode cX0_findMadeOfSquares 41 = .ok (.aload_n 0, 1) := by decide +kernel
theorem dX0_findMadeOfSquares_42 : decode cX0_findMadeOfSquares 42 = .ok (.getfield 49, 3) := by decide +kernel
theorem dX0_findMadeOfSquares_45 : decode cX0_findMadeOfSquares 45 = .ok (.if_icmp .ge 56, 3) := by decide +kernel
theorem dX0_findMadeOfSquares_48 : decode cX0_findMadeOfSquares 48 = .ok (.iconst 0, 1) := by decide +kernel
theorem dX0_findMadeOfSquares_49 : decode cX0_findMadeOfSquares 49 = .ok (.istore_n 2, 1) := by decide +kernel
theorem dX0_findMadeOfSquares_50 : decode cX0_findMadeOfSquares 50 = .ok (.iload_n 2, 1) := by decide +kernel
theorem dX0_findMadeOfSquares_51 : decode cX0_findMadeOfSquares 51 = .ok (.aload_n 0, 1) := by decide +kernel
theorem dX0_findMadeOfSquares_52 : decode cX0_findMadeOfSquares 52 = .ok (.getfield 19, 3) := by decide +kernel
theorem dX0_findMadeOfSquares_55 : decode cX0_findMadeOfSquares 55 = .ok (.if_icmp .ge 40, 3) := by decide +kernel
theorem dX0_findMadeOfSquares_58 : decode cX0_findMadeOfSquares 58 = .ok (.aload_n 0, 1) := by decide +kernel
theorem dX0_findMadeOfSquares_59 : decode cX0_findMadeOfSquares 59 = .ok (.getfield 15, 3) := by decide +kernel
theorem dX0_findMadeOfSquares_62 : decode cX0_findMadeOfSquares 62 = .ok (.iload_n 2, 1) := by decide +kernel
theorem dX0_findMadeOfSquares_63 : decode cX0_findMadeOfSquares 63 = .ok (.iaload, 1) := by decide +kernel
theorem dX0_findMadeOfSquares_64 : decode cX0_findMadeOfSquares 64 = .ok (.aload_n 0, 1) := by decide +kernel
theorem dX0_findMadeOfSquares_65 : decode cX0_findMadeOfSquares 65 = .ok (.getfield 15, 3) := by decide +kernel
theorem dX0_findMadeOfSquares_68 : decode cX0_findMadeOfSquares 68 = .ok (.iload_n 2, 1) := by decide +kernel
theorem dX0_findMadeOfSquares_69 : decode cX0_findMadeOfSquares 69 = .ok (.iaload, 1) := by decide +kernel
theorem dX0_findMadeOfSquares_70 : decode cX0_findMadeOfSquares 70 = .ok (.invokestatic 84, 3) := by decide +kernel
theorem dX0_findMadeOfSquares_73 : decode cX0_findMadeOfSquares 73 = .ok (.istore_n 3, 1) := by decide +kernel
theorem dX0_findMadeOfSquares_74 : decode cX0_findMadeOfSquares 74 = .ok (.aload_n 0, 1) := by decide +kernel
theorem dX0_findMadeOfSquares_75 : decode cX0_findMadeOfSquares 75 = .ok (.aload_n 0, 1) := by decide +kernel
theorem dX0_findMadeOfSquares_76 : decode cX0_findMadeOfSquares 76 = .ok (.getfield 46, 3) := by decide +kernel
theorem dX0_findMadeOfSquares_79 : decode cX0_findMadeOfSquares 79 = .ok (.iload_n 1, 1) := by decide +kernel
theorem dX0_findMadeOfSquares_80 : decode cX0_findMadeOfSquares 80 = .ok (.iaload, 1) := by decide +kernel
theorem dX0_findMadeOfSquares_81 : decode cX0_findMadeOfSquares 81 = .ok (.iload_n 3, 1) := by decide +kernel
theorem dX0_findMadeOfSquares_82 : decode cX0_findMadeOfSquares 82 = .ok (.invokestatic 84, 3) := by decide +kernel
theorem dX0_findMadeOfSquares_85 : decode cX0_findMadeOfSquares 85 = .ok (.iconst 0, 1) := by decide +kernel
theorem dX0_findMadeOfSquares_86 : decode cX0_findMadeOfSquares 86 = .ok (.invokevirtual 120, 3) := by decide +kernel
theorem dX0_findMadeOfSquares_89 : decode cX0_findMadeOfSquares 89 = .ok (.iinc 2 1, 3) := by decide +kernel
theorem dX0_findMadeOfSquares_92 : decode cX0_findMadeOfSquares 92 = .ok (.goto (-42), 3) := by decide +kernel
theorem dX0_findMadeOfSquares_95 : decode cX0_findMadeOfSquares 95 = .ok (.iinc 1 1, 3) := by decide +kernel
theorem dX0_findMadeOfSquares_98 : decode cX0_findMadeOfSquares 98 = .ok (.goto (-64), 3) := by decide +kernel
theorem dX0_findMadeOfSquares_101 : decode cX0_findMadeOfSquares 101 = .ok (.return_, 1) := by decide +kernel
theorem dX0_reach_0 : decode cX0_reach 0 = .ok (.aload_n 0, 1) := by decide +kernel
theorem dX0_reach_1 : decode cX0_reach 1 = .ok (.getfield 43, 3) := by decide +kernel
theorem dX0_reach_4 : decode cX0_reach 4 = .ok (.iload_n 1, 1) := by decide +kernel
theorem dX0_reach_5 : decode cX0_reach 5 = .ok (.iaload, 1) := by decide +kernel
theorem dX0_reach_6 : decode cX0_reach 6 = .ok (.iconst (-1), 1) := by decide +kernel
theorem dX0_reach_7 : decode cX0_reach 7 = .ok (.if_icmp .ne 39, 3) := by decide +kernel
theorem dX0_reach_10 : decode cX0_reach 10 = .ok (.aload_n 0, 1) := by decide +kernel
theorem dX0_reach_11 : decode cX0_reach 11 = .ok (.getfield 49, 3) := by decide +kernel
theorem dX0_reach_14 : decode cX0_reach 14 = .ok (.bipush 48, 2) := by decide +kernel
theorem dX0_reach_16 : decode cX0_reach 16 = .ok (.if_icmp .ge 30, 3) := by decide +kernel
theorem dX0_reach_19 : decode cX0_reach 19 = .ok (.aload_n 0, 1) := by decide +kernel
theorem dX0_reach_20 : decode cX0_reach 20 = .ok (.getfield 43, 3) := by decide +kernel
theorem dX0_reach_23 : decode cX0_reach 23 = .ok (.iload_n 1, 1) := by decide +kernel
theorem dX0_reach_24 : decode cX0_reach 24 = .ok (.iload_n 2, 1) := by decide +kernel
theorem dX0_reach_25 : decode cX0_reach 25 = .ok (.iastore, 1) := by decide +kernel
theorem dX0_reach_26 : decode cX0_reach 26 = .ok (.aload_n 0, 1) := by decide +kernel
theorem dX0_reach_27 : decode cX0_reach 27 = .ok (.getfield 46, 3) := by decide +kernel
theorem dX0_reach_30 : decode cX0_reach 30 = .ok (.aload_n 0, 1) := by decide +kernel
theorem dX0_reach_31 : decode cX0_reach 31 = .ok (.getfield 49, 3) := by decide +kernel
theorem dX0_reach_34 : decode cX0_reach 34 = .ok (.iload_n 1, 1) := by decide +kernel
theorem dX0_reach_35 : decode cX0_reach 35 = .ok (.iastore, 1) := by decide +kernel
theorem dX0_reach_36 : decode cX0_reach 36 = .ok (.aload_n 0, 1) := by decide +kernel
theorem dX0_reach_37 : decode cX0_reach 37 = .ok (.dup, 1) := by decide +kernel
theorem dX0_reach_38 : decode cX0_reach 38 = .ok (.getfield 49, 3) := by decide +kernel
theorem dX0_reach_41 : decode cX0_reach 41 = .ok (.iconst 1, 1) := by decide +kernel
theorem dX0_reach_42 : decode cX0_reach 42 = .ok (.iadd, 1) := by decide +kernel
theorem dX0_reach_43 : decode cX0_reach 43 = .ok (.putfield 49, 3) := by decide +kernel
theorem dX0_reach_46 : decode cX0_reach 46 = .ok (.return_, 1) := by decide +kernel
theorem dX0_addFree_0 : decode cX0_addFree 0 = .ok (.aload_n 0, 1) := by decide +kernel
theorem dX0_addFree_1 : decode cX0_addFree 1 = .ok (.getfield 49, 3) := by decide +kernel
theorem dX0_addFree_4 : decode cX0_addFree 4 = .ok (.istore_n 2, 1) := by decide +kernel
theorem dX0_addFree_5 : decode cX0_addFree 5 = .ok (.iconst 0, 1) := by decide +kernel
theorem dX0_addFree_6 : decode cX0_addFree 6 = .ok (.istore_n 3, 1) := by decide +kernel
theorem dX0_addFree_7 : decode cX0_addFree 7 = .ok (.iload_n 3, 1) := by decide +kernel
theorem dX0_addFree_8 : decode cX0_addFree 8 = .ok (.iload_n 2, 1) := by decide +kernel
theorem dX0_addFree_9 : decode cX0_addFree 9 = .ok (.if_icmp .ge 47, 3) := by decide +kernel
theorem dX0_addFree_12 : decode cX0_addFree 12 = .ok (.aload_n 0, 1) := by decide +kernel
theorem dX0_addFree_13 : decode cX0_addFree 13 = .ok (.getfield 46, 3) := by decide +kernel
theorem dX0_addFree_16 : decode cX0_addFree 16 = .ok (.iload_n 3, 1) := by decide +kernel
theorem dX0_addFree_17 : decode cX0_addFree 17 = .ok (.iaload, 1) := by decide +kernel
theorem dX0_addFree_18 : decode cX0_addFree 18 = .ok (.istore 4, 2) := by decide +kernel
theorem dX0_addFree_20 : decode cX0_addFree 20 = .ok (.aload_n 0, 1) := by decide +kernel
theorem dX0_addFree_21 : decode cX0_addFree 21 = .ok (.getfield 43, 3) := by decide +kernel
theorem dX0_addFree_24 : decode cX0_addFree 24 = .ok (.iload 4, 2) := by decide +kernel
theorem dX0_addFree_26 : decode cX0_addFree 26 = .ok (.dup2, 1) := by decide +kernel
theorem dX0_addFree_27 : decode cX0_addFree 27 = .ok (.iaload, 1) := by decide +kernel
theorem dX0_addFree_28 : decode cX0_addFree 28 = .ok (.iconst 2, 1) := by decide +kernel
theorem dX0_addFree_29 : decode cX0_addFree 29 = .ok (.imul, 1) := by decide +kernel
theorem dX0_addFree_30 : decode cX0_addFree 30 = .ok (.iastore, 1) := by decide +kernel
theorem dX0_addFree_31 : decode cX0_addFree 31 = .ok (.aload_n 0, 1) := by decide +kernel
theorem dX0_addFree_32 : decode cX0_addFree 32 = .ok (.iload_n 1, 1) := by decide +kernel
theorem dX0_addFree_33 : decode cX0_addFree 33 = .ok (.iload 4, 2) := by decide +kernel
theorem dX0_addFree_35 : decode cX0_addFree 35 = .ok (.invokestatic 84, 3) := by decide +kernel
theorem dX0_addFree_38 : decode cX0_addFree 38 = .ok (.aload_n 0, 1) := by decide +kernel
theorem dX0_addFree_39 : decode cX0_addFree 39 = .ok (.getfield 43, 3) := by decide +kernel
theorem dX0_addFree_42 : decode cX0_addFree 42 = .ok (.iload 4, 2) := by decide +kernel
theorem dX0_addFree_44 : decode cX0_addFree 44 = .ok (.iaload, 1) := by decide +kernel
theorem dX0_addFree_45 : decode cX0_addFree 45 = .ok (.iconst 1, 1) := by decide +kernel
theorem dX0_addFree_46 : decode cX0_addFree 46 = .ok (.iadd, 1) := by decide +kernel
theorem dX0_addFree_47 : decode cX0_addFree 47 = .ok (.invokevirtual 120, 3) := by decide +kernel
theorem dX0_addFree_50 : decode cX0_addFree 50 = .ok (.iinc 3 1, 3) := by decide +kernel
theorem dX0_addFree_53 : decode cX0_addFree 53 = .ok (.goto (-46), 3) := by decide +kernel
theorem dX0_addFree_56 : decode cX0_addFree 56 = .ok (.return_, 1) := by decide +kernel
