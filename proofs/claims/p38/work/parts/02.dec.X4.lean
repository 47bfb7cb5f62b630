theorem dX4_init_0 : decode cX4_init 0 = .ok (.aload_n 0, 1) := by decide +kernel
theorem dX4_init_1 : decode cX4_init 1 = .ok (.invokespecial 3, 3) := by decide +kernel
theorem dX4_init_4 : decode cX4_init 4 = .ok (.aload_n 0, 1) := by decide +kernel
theorem dX4_init_5 : decode cX4_init 5 = .ok (.bipush 24, 2) := by decide +kernel
theorem dX4_init_7 : decode cX4_init 7 = .ok (.newarray .int, 2) := by decide +kernel
theorem dX4_init_9 : decode cX4_init 9 = .ok (.putfield 11, 3) := by decide +kernel
theorem dX4_init_12 : decode cX4_init 12 = .ok (.aload_n 0, 1) := by decide +kernel
theorem dX4_init_13 : decode cX4_init 13 = .ok (.bipush 8, 2) := by decide +kernel
theorem dX4_init_15 : decode cX4_init 15 = .ok (.newarray .int, 2) := by decide +kernel
theorem dX4_init_17 : decode cX4_init 17 = .ok (.putfield 15, 3) := by decide +kernel
theorem dX4_init_20 : decode cX4_init 20 = .ok (.aload_n 0, 1) := by decide +kernel
theorem dX4_init_21 : decode cX4_init 21 = .ok (.iconst 0, 1) := by decide +kernel
theorem dX4_init_22 : decode cX4_init 22 = .ok (.putfield 18, 3) := by decide +kernel
theorem dX4_init_25 : decode cX4_init 25 = .ok (.return_, 1) := by decide +kernel
theorem dX4_become_0 : decode cX4_become 0 = .ok (.aload_n 1, 1) := by decide +kernel
theorem dX4_become_1 : decode cX4_become 1 = .ok (.getfield 11, 3) := by decide +kernel
theorem dX4_become_4 : decode cX4_become 4 = .ok (.iconst 0, 1) := by decide +kernel
theorem dX4_become_5 : decode cX4_become 5 = .ok (.aload_n 0, 1) := by decide +kernel
theorem dX4_become_6 : decode cX4_become 6 = .ok (.getfield 11, 3) := by decide +kernel
theorem dX4_become_9 : decode cX4_become 9 = .ok (.iconst 0, 1) := by decide +kernel
theorem dX4_become_10 : decode cX4_become 10 = .ok (.bipush 24, 2) := by decide +kernel
theorem dX4_become_12 : decode cX4_become 12 = .ok (.invokestatic 22, 3) := by decide +kernel
theorem dX4_become_15 : decode cX4_become 15 = .ok (.aload_n 1, 1) := by decide +kernel
theorem dX4_become_16 : decode cX4_become 16 = .ok (.getfield 15, 3) := by decide +kernel
theorem dX4_become_19 : decode cX4_become 19 = .ok (.iconst 0, 1) := by decide +kernel
theorem dX4_become_20 : decode cX4_become 20 = .ok (.aload_n 0, 1) := by decide +kernel
theorem dX4_become_21 : decode cX4_become 21 = .ok (.getfield 15, 3) := by decide +kernel
theorem dX4_become_24 : decode cX4_become 24 = .ok (.iconst 0, 1) := by decide +kernel
theorem dX4_become_25 : decode cX4_become 25 = .ok (.bipush 8, 2) := by decide +kernel
theorem dX4_become_27 : decode cX4_become 27 = .ok (.invokestatic 22, 3) := by decide +kernel
theorem dX4_become_30 : decode cX4_become 30 = .ok (.aload_n 0, 1) := by decide +kernel
theorem dX4_become_31 : decode cX4_become 31 = .ok (.aload_n 1, 1) := by decide +kernel
theorem dX4_become_32 : decode cX4_become 32 = .ok (.getfield 18, 3) := by decide +kernel
theorem dX4_become_35 : decode cX4_become 35 = .ok (.putfield 18, 3) := by decide +kernel
theorem dX4_become_38 : decode cX4_become 38 = .ok (.return_, 1) := by decide +kernel
theorem dX4_add_0 : decode cX4_add 0 = .ok (.aload_n 0, 1) := by decide +kernel
theorem dX4_add_1 : decode cX4_add 1 = .ok (.getfield 18, 3) := by decide +kernel
theorem dX4_add_4 : decode cX4_add 4 = .ok (.istore 5, 2) := by decide +kernel
theorem dX4_add_6 : decode cX4_add 6 = .ok (.aload_n 0, 1) := by decide +kernel
theorem dX4_add_7 : decode cX4_add 7 = .ok (.iload 5, 2) := by decide +kernel
theorem dX4_add_9 : decode cX4_add 9 = .ok (.iload_n 1, 1) := by decide +kernel
theorem dX4_add_10 : decode cX4_add 10 = .ok (.iload_n 2, 1) := by decide +kernel
theorem dX4_add_11 : decode cX4_add 11 = .ok (.iload_n 3, 1) := by decide +kernel
theorem dX4_add_12 : decode cX4_add 12 = .ok (.invokevirtual 28, 3) := by decide +kernel
theorem dX4_add_15 : decode cX4_add 15 = .ok (.aload_n 0, 1) := by decide +kernel
theorem dX4_add_16 : decode cX4_add 16 = .ok (.getfield 15, 3) := by decide +kernel
theorem dX4_add_19 : decode cX4_add 19 = .ok (.iload 5, 2) := by decide +kernel
theorem dX4_add_21 : decode cX4_add 21 = .ok (.iload 4, 2) := by decide +kernel
theorem dX4_add_23 : decode cX4_add 23 = .ok (.iastore, 1) := by decide +kernel
theorem dX4_add_24 : decode cX4_add 24 = .ok (.aload_n 0, 1) := by decide +kernel
theorem dX4_add_25 : decode cX4_add 25 = .ok (.dup, 1) := by decide +kernel
theorem dX4_add_26 : decode cX4_add 26 = .ok (.getfield 18, 3) := by decide +kernel
theorem dX4_add_29 : decode cX4_add 29 = .ok (.iconst 1, 1) := by decide +kernel
theorem dX4_add_30 : decode cX4_add 30 = .ok (.iadd, 1) := by decide +kernel
theorem dX4_add_31 : decode cX4_add 31 = .ok (.putfield 18, 3) := by decide +kernel
theorem dX4_add_34 : decode cX4_add 34 = .ok (.iload 5, 2) := by decide +kernel
theorem dX4_add_36 : decode cX4_add 36 = .ok (.ireturn, 1) := by decide +kernel
theorem dX4_setPlace_0 : decode cX4_setPlace 0 = .ok (.aload_n 0, 1) := by decide +kernel
theorem dX4_setPlace_1 : decode cX4_setPlace 1 = .ok (.getfield 11, 3) := by decide +kernel
theorem dX4_setPlace_4 : decode cX4_setPlace 4 = .ok (.iconst 3, 1) := by decide +kernel
theorem dX4_setPlace_5 : decode cX4_setPlace 5 = .ok (.iload_n 1, 1) := by decide +kernel
theorem dX4_setPlace_6 : decode cX4_setPlace 6 = .ok (.imul, 1) := by decide +kernel
theorem dX4_setPlace_7 : decode cX4_setPlace 7 = .ok (.iload_n 2, 1) := by decide +kernel
theorem dX4_setPlace_8 : decode cX4_setPlace 8 = .ok (.iastore, 1) := by decide +kernel
theorem dX4_setPlace_9 : decode cX4_setPlace 9 = .ok (.aload_n 0, 1) := by decide +kernel
theorem dX4_setPlace_10 : decode cX4_setPlace 10 = .ok (.getfield 11, 3) := by decide +kernel
theorem dX4_setPlace_13 : decode cX4_setPlace 13 = .ok (.iconst 3, 1) := by decide +kernel
theorem dX4_setPlace_14 : decode cX4_setPlace 14 = .ok (.iload_n 1, 1) := by decide +kernel
theorem dX4_setPlace_15 : decode cX4_setPlace 15 = .ok (.imul, 1) := by decide +kernel
theorem dX4_setPlace_16 : decode cX4_setPlace 16 = .ok (.iconst 1, 1) := by decide +kernel
theorem dX4_setPlace_17 : decode cX4_setPlace 17 = .ok (.iadd, 1) := by decide +kernel
theorem dX4_setPlace_18 : decode cX4_setPlace 18 = .ok (.iload_n 3, 1) := by decide +kernel
theorem dX4_setPlace_19 : decode cX4_setPlace 19 = .ok (.iastore, 1) := by decide +kernel
theorem dX4_setPlace_20 : decode cX4_setPlace 20 = .ok (.aload_n 0, 1) := by decide +kernel
theorem dX4_setPlace_21 : decode cX4_setPlace 21 = .ok (.getfield 11, 3) := by decide +kernel
theorem dX4_setPlace_24 : decode cX4_setPlace 24 = .ok (.iconst 3, 1) := by decide +kernel
theorem dX4_setPlace_25 : decode cX4_setPlace 25 = .ok (.iload_n 1, 1) := by decide +kernel
theorem dX4_setPlace_26 : decode cX4_setPlace 26 = .ok (.imul, 1) := by decide +kernel
theorem dX4_setPlace_27 : decode cX4_setPlace 27 = .ok (.iconst 2, 1) := by decide +kernel
theorem dX4_setPlace_28 : decode cX4_setPlace 28 = .ok (.iadd, 1) := by decide +kernel
theorem dX4_setPlace_29 : decode cX4_setPlace 29 = .ok (.iload 4, 2) := by decide +kernel
theorem dX4_setPlace_31 : decode cX4_setPlace 31 = .ok (.iastore, 1) := by decide +kernel
theorem dX4_setPlace_32 : decode cX4_setPlace 32 = .ok (.return_, 1) := by decide +kernel
theorem dX4_remove_0 : decode cX4_remove 0 = .ok (.aload_n 0, 1) := by decide +kernel
theorem dX4_remove_1 : decode cX4_remove 1 = .ok (.getfield 18, 3) := by decide +kernel
theorem dX4_remove_4 : decode cX4_remove 4 = .ok (.iload_n 1, 1) := by decide +kernel
theorem dX4_remove_5 : decode cX4_remove 5 = .ok (.isub, 1) := by decide +kernel
theorem dX4_remove_6 : decode cX4_remove 6 = .ok (.iconst 1, 1) := by decide +kernel
theorem dX4_remove_7 : decode cX4_remove 7 = .ok (.isub, 1) := by decide +kernel
theorem dX4_remove_8 : decode cX4_remove 8 = .ok (.istore_n 2, 1) := by decide +kernel
theorem dX4_remove_9 : decode cX4_remove 9 = .ok (.aload_n 0, 1) := by decide +kernel
theorem dX4_remove_10 : decode cX4_remove 10 = .ok (.getfield 11, 3) := by decide +kernel
theorem dX4_remove_13 : decode cX4_remove 13 = .ok (.iconst 3, 1) := by decide +kernel
theorem dX4_remove_14 : decode cX4_remove 14 = .ok (.iload_n 1, 1) := by decide +kernel
theorem dX4_remove_15 : decode cX4_remove 15 = .ok (.imul, 1) := by decide +kernel
theorem dX4_remove_16 : decode cX4_remove 16 = .ok (.iconst 3, 1) := by decide +kernel
theorem dX4_remove_17 : decode cX4_remove 17 = .ok (.iadd, 1) := by decide +kernel
theorem dX4_remove_18 : decode cX4_remove 18 = .ok (.aload_n 0, 1) := by decide +kernel
theorem dX4_remove_19 : decode cX4_remove 19 = .ok (.getfield 11, 3) := by decide +kernel
theorem dX4_remove_22 : decode cX4_remove 22 = .ok (.iconst 3, 1) := by decide +kernel
theorem dX4_remove_23 : decode cX4_remove 23 = .ok (.iload_n 1, 1) := by decide +kernel
theorem dX4_remove_24 : decode cX4_remove 24 = .ok (.imul, 1) := by decide +kernel
theorem dX4_remove_25 : decode cX4_remove 25 = .ok (.iconst 3, 1) := by decide +kernel
theorem dX4_remove_26 : decode cX4_remove 26 = .ok (.iload_n 2, 1) := by decide +kernel
theorem dX4_remove_27 : decode cX4_remove 27 = .ok (.imul, 1) := by decide +kernel
theorem dX4_remove_28 : decode cX4_remove 28 = .ok (.invokestatic 22, 3) := by decide +kernel
theorem dX4_remove_31 : decode cX4_remove 31 = .ok (.aload_n 0, 1) := by decide +kernel
theorem dX4_remove_32 : decode cX4_remove 32 = .ok (.getfield 15, 3) := by decide +kernel
theorem dX4_remove_35 : decode cX4_remove 35 = .ok (.iload_n 1, 1) := by decide +kernel
theorem dX4_remove_36 : decode cX4_remove 36 = .ok (.iconst 1, 1) := by decide +kernel
theorem dX4_remove_37 : decode cX4_remove 37 = .ok (.iadd, 1) := by decide +kernel
theorem dX4_remove_38 : decode cX4_remove 38 = .ok (.aload_n 0, 1) := by decide +kernel
theorem dX4_remove_39 : decode cX4_remove 39 = .ok (.getfield 15, 3) := by decide +kernel
theorem dX4_remove_42 : decode cX4_remove 42 = .ok (.iload_n 1, 1) := by decide +kernel
theorem dX4_remove_43 : decode cX4_remove 43 = .ok (.iload_n 2, 1) := by decide +kernel
theorem dX4_remove_44 : decode cX4_remove 44 = .ok (.invokestatic 22, 3) := by decide +kernel
theorem dX4_remove_47 : decode cX4_remove 47 = .ok (.aload_n 0, 1) := by decide +kernel
theorem dX4_remove_48 : decode cX4_remove 48 = .ok (.dup, 1) := by decide +kernel
theorem dX4_remove_49 : decode cX4_remove 49 = .ok (.getfield 18, 3) := by decide +kernel
theorem dX4_remove_52 : decode cX4_remove 52 = .ok (.iconst 1, 1) := by decide +kernel
theorem dX4_remove_53 : decode cX4_remove 53 = .ok (.isub, 1) := by decide +kernel
theorem dX4_remove_54 : decode cX4_remove 54 = .ok (.putfield 18, 3) := by decide +kernel
theorem dX4_remove_57 : decode cX4_remove 57 = .ok (.return_, 1) := by decide +kernel
theorem dX4_pointAt_0 : decode cX4_pointAt 0 = .ok (.iconst 0, 1) := by decide +kernel
theorem dX4_pointAt_1 : decode cX4_pointAt 1 = .ok (.istore 4, 2) := by decide +kernel
theorem dX4_pointAt_3 : decode cX4_pointAt 3 = .ok (.iload 4, 2) := by decide +kernel
theorem dX4_pointAt_5 : decode cX4_pointAt 5 = .ok (.aload_n 0, 1) := by decide +kernel
theorem dX4_pointAt_6 : decode cX4_pointAt 6 = .ok (.getfield 18, 3) := by decide +kernel
theorem dX4_pointAt_9 : decode cX4_pointAt 9 = .ok (.if_icmp .ge 55, 3) := by decide +kernel
theorem dX4_pointAt_12 : decode cX4_pointAt 12 = .ok (.iconst 3, 1) := by decide +kernel
theorem dX4_pointAt_13 : decode cX4_pointAt 13 = .ok (.iload 4, 2) := by decide +kernel
theorem dX4_pointAt_15 : decode cX4_pointAt 15 = .ok (.imul, 1) := by decide +kernel
theorem dX4_pointAt_16 : decode cX4_pointAt 16 = .ok (.istore 5, 2) := by decide +kernel
theorem dX4_pointAt_18 : decode cX4_pointAt 18 = .ok (.aload_n 0, 1) := by decide +kernel
theorem dX4_pointAt_19 : decode cX4_pointAt 19 = .ok (.getfield 11, 3) := by decide +kernel
theorem dX4_pointAt_22 : decode cX4_pointAt 22 = .ok (.iload 5, 2) := by decide +kernel
theorem dX4_pointAt_24 : decode cX4_pointAt 24 = .ok (.iaload, 1) := by decide +kernel
theorem dX4_pointAt_25 : decode cX4_pointAt 25 = .ok (.iload_n 1, 1) := by decide +kernel
theorem dX4_pointAt_26 : decode cX4_pointAt 26 = .ok (.if_icmp .ne 32, 3) := by decide +kernel
theorem dX4_pointAt_29 : decode cX4_pointAt 29 = .ok (.aload_n 0, 1) := by decide +kernel
theorem dX4_pointAt_30 : decode cX4_pointAt 30 = .ok (.getfield 11, 3) := by decide +kernel
theorem dX4_pointAt_33 : decode cX4_pointAt 33 = .ok (.iload 5, 2) := by decide +kernel
theorem dX4_pointAt_35 : decode cX4_pointAt 35 = .ok (.iconst 1, 1) := by decide +kernel
theorem dX4_pointAt_36 : decode cX4_pointAt 36 = .ok (.iadd, 1) := by decide +kernel
theorem dX4_pointAt_37 : decode cX4_pointAt 37 = .ok (.iaload, 1) := by decide +kernel
theorem dX4_pointAt_38 : decode cX4_pointAt 38 = .ok (.iload_n 2, 1) := by decide +kernel
theorem dX4_pointAt_39 : decode cX4_pointAt 39 = .ok (.if_icmp .ne 19, 3) := by decide +kernel
theorem dX4_pointAt_42 : decode cX4_pointAt 42 = .ok (.aload_n 0, 1) := by decide +kernel
theorem dX4_pointAt_43 : decode cX4_pointAt 43 = .ok (.getfield 11, 3) := by decide +kernel
theorem dX4_pointAt_46 : decode cX4_pointAt 46 = .ok (.iload 5, 2) := by decide +kernel
theorem dX4_pointAt_48 : decode cX4_pointAt 48 = .ok (.iconst 2, 1) := by decide +kernel
theorem dX4_pointAt_49 : decode cX4_pointAt 49 = .ok (.iadd, 1) := by decide +kernel
theorem dX4_pointAt_50 : decode cX4_pointAt 50 = .ok (.iaload, 1) := by decide +kernel
theorem dX4_pointAt_51 : decode cX4_pointAt 51 = .ok (.iload_n 3, 1) := by decide +kernel
theorem dX4_pointAt_52 : decode cX4_pointAt 52 = .ok (.if_icmp .ne 6, 3) := by decide +kernel
theorem dX4_pointAt_55 : decode cX4_pointAt 55 = .ok (.iload 4, 2) := by decide +kernel
theorem dX4_pointAt_57 : decode cX4_pointAt 57 = .ok (.ireturn, 1) := by decide +kernel
theorem dX4_pointAt_58 : decode cX4_pointAt 58 = .ok (.iinc 4 1, 3) := by decide +kernel
theorem dX4_pointAt_61 : decode cX4_pointAt 61 = .ok (.goto (-58), 3) := by decide +kernel
theorem dX4_pointAt_64 : decode cX4_pointAt 64 = .ok (.bipush (-5), 2) := by decide +kernel
theorem dX4_pointAt_66 : decode cX4_pointAt 66 = .ok (.ireturn, 1) := by decide +kernel
theorem dX4_axisBehind_0 : decode cX4_axisBehind 0 = .ok (.aload_n 0, 1) := by decide +kernel
theorem dX4_axisBehind_1 : decode cX4_axisBehind 1 = .ok (.getfield 11, 3) := by decide +kernel
theorem dX4_axisBehind_4 : decode cX4_axisBehind 4 = .ok (.iconst 3, 1) := by decide +kernel
theorem dX4_axisBehind_5 : decode cX4_axisBehind 5 = .ok (.iload_n 2, 1) := by decide +kernel
theorem dX4_axisBehind_6 : decode cX4_axisBehind 6 = .ok (.imul, 1) := by decide +kernel
theorem dX4_axisBehind_7 : decode cX4_axisBehind 7 = .ok (.iload_n 1, 1) := by decide +kernel
theorem dX4_axisBehind_8 : decode cX4_axisBehind 8 = .ok (.iload_n 3, 1) := by decide +kernel
theorem dX4_axisBehind_9 : decode cX4_axisBehind 9 = .ok (.invokestatic 32, 3) := by decide +kernel
theorem dX4_axisBehind_12 : decode cX4_axisBehind 12 = .ok (.iadd, 1) := by decide +kernel
theorem dX4_axisBehind_13 : decode cX4_axisBehind 13 = .ok (.iaload, 1) := by decide +kernel
theorem dX4_axisBehind_14 : decode cX4_axisBehind 14 = .ok (.istore 4, 2) := by decide +kernel
theorem dX4_axisBehind_16 : decode cX4_axisBehind 16 = .ok (.iload_n 1, 1) := by decide +kernel
theorem dX4_axisBehind_17 : decode cX4_axisBehind 17 = .ok (.iload_n 3, 1) := by decide +kernel
theorem dX4_axisBehind_18 : decode cX4_axisBehind 18 = .ok (.invokestatic 38, 3) := by decide +kernel
theorem dX4_axisBehind_21 : decode cX4_axisBehind 21 = .ok (.ifCond .ne 8, 3) := by decide +kernel
theorem dX4_axisBehind_24 : decode cX4_axisBehind 24 = .ok (.iload 4, 2) := by decide +kernel
theorem dX4_axisBehind_26 : decode cX4_axisBehind 26 = .ok (.goto 6, 3) := by decide +kernel
theorem dX4_axisBehind_29 : decode cX4_axisBehind 29 = .ok (.iload 4, 2) := by decide +kernel
theorem dX4_axisBehind_31 : decode cX4_axisBehind 31 = .ok (.ineg, 1) := by decide +kernel
theorem dX4_axisBehind_32 : decode cX4_axisBehind 32 = .ok (.ireturn, 1) := by decide +kernel
theorem dX4_pointBehind_0 : decode cX4_pointBehind 0 = .ok (.aload_n 0, 1) := by decide +kernel
theorem dX4_pointBehind_1 : decode cX4_pointBehind 1 = .ok (.aload_n 0, 1) := by decide +kernel
theorem dX4_pointBehind_2 : decode cX4_pointBehind 2 = .ok (.iload_n 1, 1) := by decide +kernel
theorem dX4_pointBehind_3 : decode cX4_pointBehind 3 = .ok (.iload_n 2, 1) := by decide +kernel
theorem dX4_pointBehind_4 : decode cX4_pointBehind 4 = .ok (.iconst 0, 1) := by decide +kernel
theorem dX4_pointBehind_5 : decode cX4_pointBehind 5 = .ok (.invokevirtual 41, 3) := by decide +kernel
theorem dX4_pointBehind_8 : decode cX4_pointBehind 8 = .ok (.aload_n 0, 1) := by decide +kernel
theorem dX4_pointBehind_9 : decode cX4_pointBehind 9 = .ok (.iload_n 1, 1) := by decide +kernel
theorem dX4_pointBehind_10 : decode cX4_pointBehind 10 = .ok (.iload_n 2, 1) := by decide +kernel
theorem dX4_pointBehind_11 : decode cX4_pointBehind 11 = .ok (.iconst 1, 1) := by decide +kernel
theorem dX4_pointBehind_12 : decode cX4_pointBehind 12 = .ok (.invokevirtual 41, 3) := by decide +kernel
theorem dX4_pointBehind_15 : decode cX4_pointBehind 15 = .ok (.aload_n 0, 1) := by decide +kernel
theorem dX4_pointBehind_16 : decode cX4_pointBehind 16 = .ok (.iload_n 1, 1) := by decide +kernel
theorem dX4_pointBehind_17 : decode cX4_pointBehind 17 = .ok (.iload_n 2, 1) := by decide +kernel
theorem dX4_pointBehind_18 : decode cX4_pointBehind 18 = .ok (.iconst 2, 1) := by decide +kernel
theorem dX4_pointBehind_19 : decode cX4_pointBehind 19 = .ok (.invokevirtual 41, 3) := by decide +kernel
theorem dX4_pointBehind_22 : decode cX4_pointBehind 22 = .ok (.invokevirtual 45, 3) := by decide +kernel
theorem dX4_pointBehind_25 : decode cX4_pointBehind 25 = .ok (.ireturn, 1) := by decide +kernel
theorem dX4_isMovedBy_0 : decode cX4_isMovedBy 0 = .ok (.aload_n 0, 1) := by decide +kernel
theorem dX4_isMovedBy_1 : decode cX4_isMovedBy 1 = .ok (.iload_n 1, 1) := by decide +kernel
theorem dX4_isMovedBy_2 : decode cX4_isMovedBy 2 = .ok (.iload_n 2, 1) := by decide +kernel
theorem dX4_isMovedBy_3 : decode cX4_isMovedBy 3 = .ok (.invokevirtual 48, 3) := by decide +kernel
theorem dX4_isMovedBy_6 : decode cX4_isMovedBy 6 = .ok (.istore_n 3, 1) := by decide +kernel
theorem dX4_isMovedBy_7 : decode cX4_isMovedBy 7 = .ok (.iload_n 3, 1) := by decide +kernel
theorem dX4_isMovedBy_8 : decode cX4_isMovedBy 8 = .ok (.bipush (-5), 2) := by decide +kernel
theorem dX4_isMovedBy_10 : decode cX4_isMovedBy 10 = .ok (.if_icmp .eq 18, 3) := by decide +kernel
theorem dX4_isMovedBy_13 : decode cX4_isMovedBy 13 = .ok (.aload_n 0, 1) := by decide +kernel
theorem dX4_isMovedBy_14 : decode cX4_isMovedBy 14 = .ok (.getfield 15, 3) := by decide +kernel
theorem dX4_isMovedBy_17 : decode cX4_isMovedBy 17 = .ok (.iload_n 3, 1) := by decide +kernel
theorem dX4_isMovedBy_18 : decode cX4_isMovedBy 18 = .ok (.iaload, 1) := by decide +kernel
theorem dX4_isMovedBy_19 : decode cX4_isMovedBy 19 = .ok (.aload_n 0, 1) := by decide +kernel
theorem dX4_isMovedBy_20 : decode cX4_isMovedBy 20 = .ok (.getfield 15, 3) := by decide +kernel
theorem dX4_isMovedBy_23 : decode cX4_isMovedBy 23 = .ok (.iload_n 2, 1) := by decide +kernel
theorem dX4_isMovedBy_24 : decode cX4_isMovedBy 24 = .ok (.iaload, 1) := by decide +kernel
theorem dX4_isMovedBy_25 : decode cX4_isMovedBy 25 = .ok (.if_icmp .eq 7, 3) := by decide +kernel
theorem dX4_isMovedBy_28 : decode cX4_isMovedBy 28 = .ok (.iconst 1, 1) := by decide +kernel
theorem dX4_isMovedBy_29 : decode cX4_isMovedBy 29 = .ok (.goto 4, 3) := by decide +kernel
theorem dX4_isMovedBy_32 : decode cX4_isMovedBy 32 = .ok (.iconst 0, 1) := by decide +kernel
theorem dX4_isMovedBy_33 : decode cX4_isMovedBy 33 = .ok (.ireturn, 1) := by decide +kernel
theorem dX4_movedBy_0 : decode cX4_movedBy 0 = .ok (.iconst 0, 1) := by decide +kernel
theorem dX4_movedBy_1 : decode cX4_movedBy 1 = .ok (.istore_n 2, 1) := by decide +kernel
theorem dX4_movedBy_2 : decode cX4_movedBy 2 = .ok (.iconst 0, 1) := by decide +kernel
theorem dX4_movedBy_3 : decode cX4_movedBy 3 = .ok (.istore_n 3, 1) := by decide +kernel
theorem dX4_movedBy_4 : decode cX4_movedBy 4 = .ok (.iload_n 3, 1) := by decide +kernel
theorem dX4_movedBy_5 : decode cX4_movedBy 5 = .ok (.aload_n 0, 1) := by decide +kernel
theorem dX4_movedBy_6 : decode cX4_movedBy 6 = .ok (.getfield 18, 3) := by decide +kernel
theorem dX4_movedBy_9 : decode cX4_movedBy 9 = .ok (.if_icmp .ge 21, 3) := by decide +kernel
theorem dX4_movedBy_12 : decode cX4_movedBy 12 = .ok (.aload_n 0, 1) := by decide +kernel
theorem dX4_movedBy_13 : decode cX4_movedBy 13 = .ok (.iload_n 1, 1) := by decide +kernel
theorem dX4_movedBy_14 : decode cX4_movedBy 14 = .ok (.iload_n 3, 1) := by decide +kernel
theorem dX4_movedBy_15 : decode cX4_movedBy 15 = .ok (.invokevirtual 51, 3) := by decide +kernel
theorem dX4_movedBy_18 : decode cX4_movedBy 18 = .ok (.ifCond .eq 6, 3) := by decide +kernel
theorem dX4_movedBy_21 : decode cX4_movedBy 21 = .ok (.iinc 2 1, 3) := by decide +kernel
theorem dX4_movedBy_24 : decode cX4_movedBy 24 = .ok (.iinc 3 1, 3) := by decide +kernel
theorem dX4_movedBy_27 : decode cX4_movedBy 27 = .ok (.goto (-23), 3) := by decide +kernel
theorem dX4_movedBy_30 : decode cX4_movedBy 30 = .ok (.iload_n 2, 1) := by decide +kernel
theorem dX4_movedBy_31 : decode cX4_movedBy 31 = .ok (.ireturn, 1) := by decide +kernel
theorem dX4_isKeptBy_0 : decode cX4_isKeptBy 0 = .ok (.iconst 0, 1) := by decide +kernel
theorem dX4_isKeptBy_1 : decode cX4_isKeptBy 1 = .ok (.istore_n 2, 1) := by decide +kernel
theorem dX4_isKeptBy_2 : decode cX4_isKeptBy 2 = .ok (.iload_n 2, 1) := by decide +kernel
theorem dX4_isKeptBy_3 : decode cX4_isKeptBy 3 = .ok (.aload_n 0, 1) := by decide +kernel
theorem dX4_isKeptBy_4 : decode cX4_isKeptBy 4 = .ok (.getfield 18, 3) := by decide +kernel
theorem dX4_isKeptBy_7 : decode cX4_isKeptBy 7 = .ok (.if_icmp .ge 20, 3) := by decide +kernel
theorem dX4_isKeptBy_10 : decode cX4_isKeptBy 10 = .ok (.aload_n 0, 1) := by decide +kernel
theorem dX4_isKeptBy_11 : decode cX4_isKeptBy 11 = .ok (.iload_n 1, 1) := by decide +kernel
theorem dX4_isKeptBy_12 : decode cX4_isKeptBy 12 = .ok (.iload_n 2, 1) := by decide +kernel
theorem dX4_isKeptBy_13 : decode cX4_isKeptBy 13 = .ok (.invokevirtual 51, 3) := by decide +kernel
theorem dX4_isKeptBy_16 : decode cX4_isKeptBy 16 = .ok (.ifCond .eq 5, 3) := by decide +kernel
theorem dX4_isKeptBy_19 : decode cX4_isKeptBy 19 = .ok (.iconst 0, 1) := by decide +kernel
theorem dX4_isKeptBy_20 : decode cX4_isKeptBy 20 = .ok (.ireturn, 1) := by decide +kernel
theorem dX4_isKeptBy_21 : decode cX4_isKeptBy 21 = .ok (.iinc 2 1, 3) := by decide +kernel
theorem dX4_isKeptBy_24 : decode cX4_isKeptBy 24 = .ok (.goto (-22), 3) := by decide +kernel
theorem dX4_isKeptBy_27 : decode cX4_isKeptBy 27 = .ok (.iconst 1, 1) := by decide +kernel
theorem dX4_isKeptBy_28 : decode cX4_isKeptBy 28 = .ok (.ireturn, 1) := by decide +kernel
theorem dX4_keepers_0 : decode cX4_keepers 0 = .ok (.iconst 0, 1) := by decide +kernel
theorem dX4_keepers_1 : decode cX4_keepers 1 = .ok (.istore_n 1, 1) := by decide +kernel
theorem dX4_keepers_2 : decode cX4_keepers 2 = .ok (.iconst 0, 1) := by decide +kernel
theorem dX4_keepers_3 : decode cX4_keepers 3 = .ok (.istore_n 2, 1) := by decide +kernel
theorem dX4_keepers_4 : decode cX4_keepers 4 = .ok (.iload_n 2, 1) := by decide +kernel
theorem dX4_keepers_5 : decode cX4_keepers 5 = .ok (.bipush 48, 2) := by decide +kernel
theorem dX4_keepers_7 : decode cX4_keepers 7 = .ok (.if_icmp .ge 20, 3) := by decide +kernel
theorem dX4_keepers_10 : decode cX4_keepers 10 = .ok (.aload_n 0, 1) := by decide +kernel
theorem dX4_keepers_11 : decode cX4_keepers 11 = .ok (.iload_n 2, 1) := by decide +kernel
theorem dX4_keepers_12 : decode cX4_keepers 12 = .ok (.invokevirtual 55, 3) := by decide +kernel
theorem dX4_keepers_15 : decode cX4_keepers 15 = .ok (.ifCond .eq 6, 3) := by decide +kernel
theorem dX4_keepers_18 : decode cX4_keepers 18 = .ok (.iinc 1 1, 3) := by decide +kernel
theorem dX4_keepers_21 : decode cX4_keepers 21 = .ok (.iinc 2 1, 3) := by decide +kernel
theorem dX4_keepers_24 : decode cX4_keepers 24 = .ok (.goto (-20), 3) := by decide +kernel
theorem dX4_keepers_27 : decode cX4_keepers 27 = .ok (.iload_n 1, 1) := by decide +kernel
theorem dX4_keepers_28 : decode cX4_keepers 28 = .ok (.ireturn, 1) := by decide +kernel
theorem dX4_happen_0 : decode cX4_happen 0 = .ok (.iload_n 1, 1) := by decide +kernel
theorem dX4_happen_1 : decode cX4_happen 1 = .ok (.tableswitch 59 0 2 #[27, 43, 51], 27) := by decide +kernel
theorem dX4_happen_28 : decode cX4_happen 28 = .ok (.iload_n 2, 1) := by decide +kernel
theorem dX4_happen_29 : decode cX4_happen 29 = .ok (.aload_n 0, 1) := by decide +kernel
theorem dX4_happen_30 : decode cX4_happen 30 = .ok (.getfield 18, 3) := by decide +kernel
theorem dX4_happen_33 : decode cX4_happen 33 = .ok (.if_icmp .ge 32, 3) := by decide +kernel
theorem dX4_happen_36 : decode cX4_happen 36 = .ok (.aload_n 0, 1) := by decide +kernel
theorem dX4_happen_37 : decode cX4_happen 37 = .ok (.iload_n 2, 1) := by decide +kernel
theorem dX4_happen_38 : decode cX4_happen 38 = .ok (.invokevirtual 59, 3) := by decide +kernel
theorem dX4_happen_41 : decode cX4_happen 41 = .ok (.goto 24, 3) := by decide +kernel
theorem dX4_happen_44 : decode cX4_happen 44 = .ok (.aload_n 0, 1) := by decide +kernel
theorem dX4_happen_45 : decode cX4_happen 45 = .ok (.iload_n 2, 1) := by decide +kernel
theorem dX4_happen_46 : decode cX4_happen 46 = .ok (.invokevirtual 63, 3) := by decide +kernel
theorem dX4_happen_49 : decode cX4_happen 49 = .ok (.goto 16, 3) := by decide +kernel
theorem dX4_happen_52 : decode cX4_happen 52 = .ok (.aload_n 0, 1) := by decide +kernel
theorem dX4_happen_53 : decode cX4_happen 53 = .ok (.iload_n 2, 1) := by decide +kernel
theorem dX4_happen_54 : decode cX4_happen 54 = .ok (.invokevirtual 66, 3) := by decide +kernel
theorem dX4_happen_57 : decode cX4_happen 57 = .ok (.goto 8, 3) := by decide +kernel
theorem dX4_happen_60 : decode cX4_happen 60 = .ok (.aload_n 0, 1) := by decide +kernel
theorem dX4_happen_61 : decode cX4_happen 61 = .ok (.iload_n 2, 1) := by decide +kernel
theorem dX4_happen_62 : decode cX4_happen 62 = .ok (.invokevirtual 69, 3) := by decide +kernel
theorem dX4_happen_65 : decode cX4_happen 65 = .ok (.return_, 1) := by decide +kernel
theorem dX4_replaceMark_0 : decode cX4_replaceMark 0 = .ok (.iconst 0, 1) := by decide +kernel
theorem dX4_replaceMark_1 : decode cX4_replaceMark 1 = .ok (.istore_n 2, 1) := by decide +kernel
theorem dX4_replaceMark_2 : decode cX4_replaceMark 2 = .ok (.iload_n 2, 1) := by decide +kernel
theorem dX4_replaceMark_3 : decode cX4_replaceMark 3 = .ok (.aload_n 0, 1) := by decide +kernel
theorem dX4_replaceMark_4 : decode cX4_replaceMark 4 = .ok (.getfield 18, 3) := by decide +kernel
theorem dX4_replaceMark_7 : decode cX4_replaceMark 7 = .ok (.if_icmp .ge 26, 3) := by decide +kernel
theorem dX4_replaceMark_10 : decode cX4_replaceMark 10 = .ok (.aload_n 0, 1) := by decide +kernel
theorem dX4_replaceMark_11 : decode cX4_replaceMark 11 = .ok (.getfield 15, 3) := by decide +kernel
theorem dX4_replaceMark_14 : decode cX4_replaceMark 14 = .ok (.iload_n 2, 1) := by decide +kernel
theorem dX4_replaceMark_15 : decode cX4_replaceMark 15 = .ok (.iaload, 1) := by decide +kernel
theorem dX4_replaceMark_16 : decode cX4_replaceMark 16 = .ok (.iload_n 1, 1) := by decide +kernel
theorem dX4_replaceMark_17 : decode cX4_replaceMark 17 = .ok (.if_icmp .ne 10, 3) := by decide +kernel
theorem dX4_replaceMark_20 : decode cX4_replaceMark 20 = .ok (.aload_n 0, 1) := by decide +kernel
theorem dX4_replaceMark_21 : decode cX4_replaceMark 21 = .ok (.getfield 15, 3) := by decide +kernel
theorem dX4_replaceMark_24 : decode cX4_replaceMark 24 = .ok (.iload_n 2, 1) := by decide +kernel
theorem dX4_replaceMark_25 : decode cX4_replaceMark 25 = .ok (.iconst 0, 1) := by decide +kernel
theorem dX4_replaceMark_26 : decode cX4_replaceMark 26 = .ok (.iastore, 1) := by decide +kernel
theorem dX4_replaceMark_27 : decode cX4_replaceMark 27 = .ok (.iinc 2 1, 3) := by decide +kernel
theorem dX4_replaceMark_30 : decode cX4_replaceMark 30 = .ok (.goto (-28), 3) := by decide +kernel
theorem dX4_replaceMark_33 : decode cX4_replaceMark 33 = .ok (.return_, 1) := by decide +kernel
theorem dX4_takeBy_0 : decode cX4_takeBy 0 = .ok (.iconst 0, 1) := by decide +kernel
theorem dX4_takeBy_1 : decode cX4_takeBy 1 = .ok (.istore_n 2, 1) := by decide +kernel
theorem dX4_takeBy_2 : decode cX4_takeBy 2 = .ok (.iload_n 2, 1) := by decide +kernel
theorem dX4_takeBy_3 : decode cX4_takeBy 3 = .ok (.aload_n 0, 1) := by decide +kernel
theorem dX4_takeBy_4 : decode cX4_takeBy 4 = .ok (.getfield 18, 3) := by decide +kernel
theorem dX4_takeBy_7 : decode cX4_takeBy 7 = .ok (.if_icmp .ge 35, 3) := by decide +kernel
theorem dX4_takeBy_10 : decode cX4_takeBy 10 = .ok (.aload_n 0, 1) := by decide +kernel
theorem dX4_takeBy_11 : decode cX4_takeBy 11 = .ok (.iload_n 2, 1) := by decide +kernel
theorem dX4_takeBy_12 : decode cX4_takeBy 12 = .ok (.aload_n 0, 1) := by decide +kernel
theorem dX4_takeBy_13 : decode cX4_takeBy 13 = .ok (.iload_n 1, 1) := by decide +kernel
theorem dX4_takeBy_14 : decode cX4_takeBy 14 = .ok (.iload_n 2, 1) := by decide +kernel
theorem dX4_takeBy_15 : decode cX4_takeBy 15 = .ok (.iconst 0, 1) := by decide +kernel
theorem dX4_takeBy_16 : decode cX4_takeBy 16 = .ok (.invokevirtual 41, 3) := by decide +kernel
theorem dX4_takeBy_19 : decode cX4_takeBy 19 = .ok (.aload_n 0, 1) := by decide +kernel
theorem dX4_takeBy_20 : decode cX4_takeBy 20 = .ok (.iload_n 1, 1) := by decide +kernel
theorem dX4_takeBy_21 : decode cX4_takeBy 21 = .ok (.iload_n 2, 1) := by decide +kernel
theorem dX4_takeBy_22 : decode cX4_takeBy 22 = .ok (.iconst 1, 1) := by decide +kernel
theorem dX4_takeBy_23 : decode cX4_takeBy 23 = .ok (.invokevirtual 41, 3) := by decide +kernel
theorem dX4_takeBy_26 : decode cX4_takeBy 26 = .ok (.aload_n 0, 1) := by decide +kernel
theorem dX4_takeBy_27 : decode cX4_takeBy 27 = .ok (.iload_n 1, 1) := by decide +kernel
theorem dX4_takeBy_28 : decode cX4_takeBy 28 = .ok (.iload_n 2, 1) := by decide +kernel
theorem dX4_takeBy_29 : decode cX4_takeBy 29 = .ok (.iconst 2, 1) := by decide +kernel
theorem dX4_takeBy_30 : decode cX4_takeBy 30 = .ok (.invokevirtual 41, 3) := by decide +kernel
theorem dX4_takeBy_33 : decode cX4_takeBy 33 = .ok (.invokevirtual 28, 3) := by decide +kernel
theorem dX4_takeBy_36 : decode cX4_takeBy 36 = .ok (.iinc 2 1, 3) := by decide +kernel
theorem dX4_takeBy_39 : decode cX4_takeBy 39 = .ok (.goto (-37), 3) := by decide +kernel
theorem dX4_takeBy_42 : decode cX4_takeBy 42 = .ok (.return_, 1) := by decide +kernel
theorem dX4_markAll_0 : decode cX4_markAll 0 = .ok (.iconst 0, 1) := by decide +kernel
theorem dX4_markAll_1 : decode cX4_markAll 1 = .ok (.istore_n 2, 1) := by decide +kernel
theorem dX4_markAll_2 : decode cX4_markAll 2 = .ok (.iload_n 2, 1) := by decide +kernel
theorem dX4_markAll_3 : decode cX4_markAll 3 = .ok (.aload_n 0, 1) := by decide +kernel
theorem dX4_markAll_4 : decode cX4_markAll 4 = .ok (.getfield 18, 3) := by decide +kernel
theorem dX4_markAll_7 : decode cX4_markAll 7 = .ok (.if_icmp .ge 16, 3) := by decide +kernel
theorem dX4_markAll_10 : decode cX4_markAll 10 = .ok (.aload_n 0, 1) := by decide +kernel
theorem dX4_markAll_11 : decode cX4_markAll 11 = .ok (.getfield 15, 3) := by decide +kernel
theorem dX4_markAll_14 : decode cX4_markAll 14 = .ok (.iload_n 2, 1) := by decide +kernel
theorem dX4_markAll_15 : decode cX4_markAll 15 = .ok (.iload_n 1, 1) := by decide +kernel
theorem dX4_markAll_16 : decode cX4_markAll 16 = .ok (.iastore, 1) := by decide +kernel
theorem dX4_markAll_17 : decode cX4_markAll 17 = .ok (.iinc 2 1, 3) := by decide +kernel
theorem dX4_markAll_20 : decode cX4_markAll 20 = .ok (.goto (-18), 3) := by decide +kernel
theorem dX4_markAll_23 : decode cX4_markAll 23 = .ok (.return_, 1) := by decide +kernel
