theorem dX5_init_0 : decode cX5_init 0 = .ok (.aload_n 0, 1) := by decide +kernel
theorem dX5_init_1 : decode cX5_init 1 = .ok (.invokespecial 3, 3) := by decide +kernel
theorem dX5_init_4 : decode cX5_init 4 = .ok (.aload_n 0, 1) := by decide +kernel
theorem dX5_init_5 : decode cX5_init 5 = .ok (.bipush 8, 2) := by decide +kernel
theorem dX5_init_7 : decode cX5_init 7 = .ok (.bipush 8, 2) := by decide +kernel
theorem dX5_init_9 : decode cX5_init 9 = .ok (.multianewarray 9 2, 4) := by decide +kernel
theorem dX5_init_13 : decode cX5_init 13 = .ok (.putfield 11, 3) := by decide +kernel
theorem dX5_init_16 : decode cX5_init 16 = .ok (.iconst 0, 1) := by decide +kernel
theorem dX5_init_17 : decode cX5_init 17 = .ok (.istore_n 1, 1) := by decide +kernel
theorem dX5_init_18 : decode cX5_init 18 = .ok (.iload_n 1, 1) := by decide +kernel
theorem dX5_init_19 : decode cX5_init 19 = .ok (.bipush 8, 2) := by decide +kernel
theorem dX5_init_21 : decode cX5_init 21 = .ok (.if_icmp .ge 33, 3) := by decide +kernel
theorem dX5_init_24 : decode cX5_init 24 = .ok (.iconst 0, 1) := by decide +kernel
theorem dX5_init_25 : decode cX5_init 25 = .ok (.istore_n 2, 1) := by decide +kernel
theorem dX5_init_26 : decode cX5_init 26 = .ok (.iload_n 2, 1) := by decide +kernel
theorem dX5_init_27 : decode cX5_init 27 = .ok (.bipush 8, 2) := by decide +kernel
theorem dX5_init_29 : decode cX5_init 29 = .ok (.if_icmp .ge 19, 3) := by decide +kernel
theorem dX5_init_32 : decode cX5_init 32 = .ok (.aload_n 0, 1) := by decide +kernel
theorem dX5_init_33 : decode cX5_init 33 = .ok (.getfield 11, 3) := by decide +kernel
theorem dX5_init_36 : decode cX5_init 36 = .ok (.iload_n 1, 1) := by decide +kernel
theorem dX5_init_37 : decode cX5_init 37 = .ok (.iload_n 2, 1) := by decide +kernel
theorem dX5_init_38 : decode cX5_init 38 = .ok (.iconst (-1), 1) := by decide +kernel
theorem dX5_init_39 : decode cX5_init 39 = .ok (.invokestatic 16, 3) := by decide +kernel
theorem dX5_init_42 : decode cX5_init 42 = .ok (.iinc 2 1, 3) := by decide +kernel
theorem dX5_init_45 : decode cX5_init 45 = .ok (.goto (-19), 3) := by decide +kernel
theorem dX5_init_48 : decode cX5_init 48 = .ok (.iinc 1 1, 3) := by decide +kernel
theorem dX5_init_51 : decode cX5_init 51 = .ok (.goto (-33), 3) := by decide +kernel
theorem dX5_init_54 : decode cX5_init 54 = .ok (.return_, 1) := by decide +kernel
theorem dX5_between_0 : decode cX5_between 0 = .ok (.iload_n 1, 1) := by decide +kernel
theorem dX5_between_1 : decode cX5_between 1 = .ok (.iload_n 2, 1) := by decide +kernel
theorem dX5_between_2 : decode cX5_between 2 = .ok (.if_icmp .ne 7, 3) := by decide +kernel
theorem dX5_between_5 : decode cX5_between 5 = .ok (.iconst 0, 1) := by decide +kernel
theorem dX5_between_6 : decode cX5_between 6 = .ok (.goto 12, 3) := by decide +kernel
theorem dX5_between_9 : decode cX5_between 9 = .ok (.aload_n 0, 1) := by decide +kernel
theorem dX5_between_10 : decode cX5_between 10 = .ok (.getfield 11, 3) := by decide +kernel
theorem dX5_between_13 : decode cX5_between 13 = .ok (.iload_n 1, 1) := by decide +kernel
theorem dX5_between_14 : decode cX5_between 14 = .ok (.iload_n 2, 1) := by decide +kernel
theorem dX5_between_15 : decode cX5_between 15 = .ok (.invokestatic 20, 3) := by decide +kernel
theorem dX5_between_18 : decode cX5_between 18 = .ok (.ireturn, 1) := by decide +kernel
theorem dX6_init_0 : decode cX6_init 0 = .ok (.aload_n 0, 1) := by decide +kernel
theorem dX6_init_1 : decode cX6_init 1 = .ok (.invokespecial 3, 3) := by decide +kernel
theorem dX6_init_4 : decode cX6_init 4 = .ok (.aload_n 0, 1) := by decide +kernel
theorem dX6_init_5 : decode cX6_init 5 = .ok (.bipush 8, 2) := by decide +kernel
theorem dX6_init_7 : decode cX6_init 7 = .ok (.newarray .int, 2) := by decide +kernel
theorem dX6_init_9 : decode cX6_init 9 = .ok (.putfield 9, 3) := by decide +kernel
theorem dX6_init_12 : decode cX6_init 12 = .ok (.aload_n 0, 1) := by decide +kernel
theorem dX6_init_13 : decode cX6_init 13 = .ok (.bipush 8, 2) := by decide +kernel
theorem dX6_init_15 : decode cX6_init 15 = .ok (.newarray .int, 2) := by decide +kernel
theorem dX6_init_17 : decode cX6_init 17 = .ok (.putfield 15, 3) := by decide +kernel
theorem dX6_init_20 : decode cX6_init 20 = .ok (.aload_n 0, 1) := by decide +kernel
theorem dX6_init_21 : decode cX6_init 21 = .ok (.bipush 8, 2) := by decide +kernel
theorem dX6_init_23 : decode cX6_init 23 = .ok (.newarray .int, 2) := by decide +kernel
theorem dX6_init_25 : decode cX6_init 25 = .ok (.putfield 18, 3) := by decide +kernel
theorem dX6_init_28 : decode cX6_init 28 = .ok (.aload_n 0, 1) := by decide +kernel
theorem dX6_init_29 : decode cX6_init 29 = .ok (.bipush 8, 2) := by decide +kernel
theorem dX6_init_31 : decode cX6_init 31 = .ok (.newarray .boolean, 2) := by decide +kernel
theorem dX6_init_33 : decode cX6_init 33 = .ok (.putfield 21, 3) := by decide +kernel
theorem dX6_init_36 : decode cX6_init 36 = .ok (.aload_n 0, 1) := by decide +kernel
theorem dX6_init_37 : decode cX6_init 37 = .ok (.bipush 7, 2) := by decide +kernel
theorem dX6_init_39 : decode cX6_init 39 = .ok (.newarray .int, 2) := by decide +kernel
theorem dX6_init_41 : decode cX6_init 41 = .ok (.putfield 25, 3) := by decide +kernel
theorem dX6_init_44 : decode cX6_init 44 = .ok (.aload_n 0, 1) := by decide +kernel
theorem dX6_init_45 : decode cX6_init 45 = .ok (.bipush 7, 2) := by decide +kernel
theorem dX6_init_47 : decode cX6_init 47 = .ok (.newarray .int, 2) := by decide +kernel
theorem dX6_init_49 : decode cX6_init 49 = .ok (.putfield 28, 3) := by decide +kernel
theorem dX6_init_52 : decode cX6_init 52 = .ok (.aload_n 0, 1) := by decide +kernel
theorem dX6_init_53 : decode cX6_init 53 = .ok (.bipush 7, 2) := by decide +kernel
theorem dX6_init_55 : decode cX6_init 55 = .ok (.newarray .int, 2) := by decide +kernel
theorem dX6_init_57 : decode cX6_init 57 = .ok (.putfield 31, 3) := by decide +kernel
theorem dX6_init_60 : decode cX6_init 60 = .ok (.aload_n 0, 1) := by decide +kernel
theorem dX6_init_61 : decode cX6_init 61 = .ok (.iconst 0, 1) := by decide +kernel
theorem dX6_init_62 : decode cX6_init 62 = .ok (.invokevirtual 34, 3) := by decide +kernel
theorem dX6_init_65 : decode cX6_init 65 = .ok (.return_, 1) := by decide +kernel
theorem dX6_startAnew_0 : decode cX6_startAnew 0 = .ok (.aload_n 0, 1) := by decide +kernel
theorem dX6_startAnew_1 : decode cX6_startAnew 1 = .ok (.iload_n 1, 1) := by decide +kernel
theorem dX6_startAnew_2 : decode cX6_startAnew 2 = .ok (.putfield 38, 3) := by decide +kernel
theorem dX6_startAnew_5 : decode cX6_startAnew 5 = .ok (.aload_n 0, 1) := by decide +kernel
theorem dX6_startAnew_6 : decode cX6_startAnew 6 = .ok (.iconst 0, 1) := by decide +kernel
theorem dX6_startAnew_7 : decode cX6_startAnew 7 = .ok (.putfield 42, 3) := by decide +kernel
theorem dX6_startAnew_10 : decode cX6_startAnew 10 = .ok (.aload_n 0, 1) := by decide +kernel
theorem dX6_startAnew_11 : decode cX6_startAnew 11 = .ok (.iconst 0, 1) := by decide +kernel
theorem dX6_startAnew_12 : decode cX6_startAnew 12 = .ok (.putfield 45, 3) := by decide +kernel
theorem dX6_startAnew_15 : decode cX6_startAnew 15 = .ok (.aload_n 0, 1) := by decide +kernel
theorem dX6_startAnew_16 : decode cX6_startAnew 16 = .ok (.ldc 50, 2) := by decide +kernel
theorem dX6_startAnew_18 : decode cX6_startAnew 18 = .ok (.putfield 51, 3) := by decide +kernel
theorem dX6_startAnew_21 : decode cX6_startAnew 21 = .ok (.aload_n 0, 1) := by decide +kernel
theorem dX6_startAnew_22 : decode cX6_startAnew 22 = .ok (.ldc 50, 2) := by decide +kernel
theorem dX6_startAnew_24 : decode cX6_startAnew 24 = .ok (.putfield 54, 3) := by decide +kernel
theorem dX6_startAnew_27 : decode cX6_startAnew 27 = .ok (.iconst 0, 1) := by decide +kernel
theorem dX6_startAnew_28 : decode cX6_startAnew 28 = .ok (.istore_n 2, 1) := by decide +kernel
theorem dX6_startAnew_29 : decode cX6_startAnew 29 = .ok (.iload_n 2, 1) := by decide +kernel
theorem dX6_startAnew_30 : decode cX6_startAnew 30 = .ok (.bipush 8, 2) := by decide +kernel
theorem dX6_startAnew_32 : decode cX6_startAnew 32 = .ok (.if_icmp .ge 15, 3) := by decide +kernel
theorem dX6_startAnew_35 : decode cX6_startAnew 35 = .ok (.aload_n 0, 1) := by decide +kernel
theorem dX6_startAnew_36 : decode cX6_startAnew 36 = .ok (.iload_n 2, 1) := by decide +kernel
theorem dX6_startAnew_37 : decode cX6_startAnew 37 = .ok (.iconst 0, 1) := by decide +kernel
theorem dX6_startAnew_38 : decode cX6_startAnew 38 = .ok (.invokevirtual 57, 3) := by decide +kernel
theorem dX6_startAnew_41 : decode cX6_startAnew 41 = .ok (.iinc 2 1, 3) := by decide +kernel
theorem dX6_startAnew_44 : decode cX6_startAnew 44 = .ok (.goto (-15), 3) := by decide +kernel
theorem dX6_startAnew_47 : decode cX6_startAnew 47 = .ok (.return_, 1) := by decide +kernel
theorem dX6_add_0 : decode cX6_add 0 = .ok (.aload_n 0, 1) := by decide +kernel
theorem dX6_add_1 : decode cX6_add 1 = .ok (.getfield 15, 3) := by decide +kernel
theorem dX6_add_4 : decode cX6_add 4 = .ok (.iload_n 1, 1) := by decide +kernel
theorem dX6_add_5 : decode cX6_add 5 = .ok (.iload_n 2, 1) := by decide +kernel
theorem dX6_add_6 : decode cX6_add 6 = .ok (.invokestatic 61, 3) := by decide +kernel
theorem dX6_add_9 : decode cX6_add 9 = .ok (.aload_n 0, 1) := by decide +kernel
theorem dX6_add_10 : decode cX6_add 10 = .ok (.getfield 18, 3) := by decide +kernel
theorem dX6_add_13 : decode cX6_add 13 = .ok (.iload_n 1, 1) := by decide +kernel
theorem dX6_add_14 : decode cX6_add 14 = .ok (.iload_n 3, 1) := by decide +kernel
theorem dX6_add_15 : decode cX6_add 15 = .ok (.invokestatic 61, 3) := by decide +kernel
theorem dX6_add_18 : decode cX6_add 18 = .ok (.aload_n 0, 1) := by decide +kernel
theorem dX6_add_19 : decode cX6_add 19 = .ok (.getfield 9, 3) := by decide +kernel
theorem dX6_add_22 : decode cX6_add 22 = .ok (.iload_n 1, 1) := by decide +kernel
theorem dX6_add_23 : decode cX6_add 23 = .ok (.iload 4, 2) := by decide +kernel
theorem dX6_add_25 : decode cX6_add 25 = .ok (.invokestatic 61, 3) := by decide +kernel
theorem dX6_add_28 : decode cX6_add 28 = .ok (.aload_n 0, 1) := by decide +kernel
theorem dX6_add_29 : decode cX6_add 29 = .ok (.iload_n 1, 1) := by decide +kernel
theorem dX6_add_30 : decode cX6_add 30 = .ok (.iconst 1, 1) := by decide +kernel
theorem dX6_add_31 : decode cX6_add 31 = .ok (.invokevirtual 57, 3) := by decide +kernel
theorem dX6_add_34 : decode cX6_add 34 = .ok (.aload_n 0, 1) := by decide +kernel
theorem dX6_add_35 : decode cX6_add 35 = .ok (.dup, 1) := by decide +kernel
theorem dX6_add_36 : decode cX6_add 36 = .ok (.getfield 42, 3) := by decide +kernel
theorem dX6_add_39 : decode cX6_add 39 = .ok (.iconst 1, 1) := by decide +kernel
theorem dX6_add_40 : decode cX6_add 40 = .ok (.iadd, 1) := by decide +kernel
theorem dX6_add_41 : decode cX6_add 41 = .ok (.putfield 42, 3) := by decide +kernel
theorem dX6_add_44 : decode cX6_add 44 = .ok (.return_, 1) := by decide +kernel
theorem dX6_force_0 : decode cX6_force 0 = .ok (.aload_n 0, 1) := by decide +kernel
theorem dX6_force_1 : decode cX6_force 1 = .ok (.getfield 45, 3) := by decide +kernel
theorem dX6_force_4 : decode cX6_force 4 = .ok (.ifCond .le 19, 3) := by decide +kernel
theorem dX6_force_7 : decode cX6_force 7 = .ok (.aload_n 0, 1) := by decide +kernel
theorem dX6_force_8 : decode cX6_force 8 = .ok (.getfield 25, 3) := by decide +kernel
theorem dX6_force_11 : decode cX6_force 11 = .ok (.iconst 0, 1) := by decide +kernel
theorem dX6_force_12 : decode cX6_force 12 = .ok (.invokestatic 65, 3) := by decide +kernel
theorem dX6_force_15 : decode cX6_force 15 = .ok (.iload_n 1, 1) := by decide +kernel
theorem dX6_force_16 : decode cX6_force 16 = .ok (.if_icmp .ne 7, 3) := by decide +kernel
theorem dX6_force_19 : decode cX6_force 19 = .ok (.iconst 1, 1) := by decide +kernel
theorem dX6_force_20 : decode cX6_force 20 = .ok (.goto 4, 3) := by decide +kernel
theorem dX6_force_23 : decode cX6_force 23 = .ok (.iconst 0, 1) := by decide +kernel
theorem dX6_force_24 : decode cX6_force 24 = .ok (.istore_n 2, 1) := by decide +kernel
theorem dX6_force_25 : decode cX6_force 25 = .ok (.aload_n 0, 1) := by decide +kernel
theorem dX6_force_26 : decode cX6_force 26 = .ok (.iload_n 1, 1) := by decide +kernel
theorem dX6_force_27 : decode cX6_force 27 = .ok (.invokevirtual 69, 3) := by decide +kernel
theorem dX6_force_30 : decode cX6_force 30 = .ok (.ifCond .eq 29, 3) := by decide +kernel
theorem dX6_force_33 : decode cX6_force 33 = .ok (.iload_n 2, 1) := by decide +kernel
theorem dX6_force_34 : decode cX6_force 34 = .ok (.ifCond .ne 25, 3) := by decide +kernel
theorem dX6_force_37 : decode cX6_force 37 = .ok (.aload_n 0, 1) := by decide +kernel
theorem dX6_force_38 : decode cX6_force 38 = .ok (.getfield 25, 3) := by decide +kernel
theorem dX6_force_41 : decode cX6_force 41 = .ok (.aload_n 0, 1) := by decide +kernel
theorem dX6_force_42 : decode cX6_force 42 = .ok (.getfield 45, 3) := by decide +kernel
theorem dX6_force_45 : decode cX6_force 45 = .ok (.iload_n 1, 1) := by decide +kernel
theorem dX6_force_46 : decode cX6_force 46 = .ok (.invokestatic 61, 3) := by decide +kernel
theorem dX6_force_49 : decode cX6_force 49 = .ok (.aload_n 0, 1) := by decide +kernel
theorem dX6_force_50 : decode cX6_force 50 = .ok (.dup, 1) := by decide +kernel
theorem dX6_force_51 : decode cX6_force 51 = .ok (.getfield 45, 3) := by decide +kernel
theorem dX6_force_54 : decode cX6_force 54 = .ok (.iconst 1, 1) := by decide +kernel
theorem dX6_force_55 : decode cX6_force 55 = .ok (.iadd, 1) := by decide +kernel
theorem dX6_force_56 : decode cX6_force 56 = .ok (.putfield 45, 3) := by decide +kernel
theorem dX6_force_59 : decode cX6_force 59 = .ok (.return_, 1) := by decide +kernel
theorem dX6_find_0 : decode cX6_find 0 = .ok (.aload_n 0, 1) := by decide +kernel
theorem dX6_find_1 : decode cX6_find 1 = .ok (.getfield 42, 3) := by decide +kernel
theorem dX6_find_4 : decode cX6_find 4 = .ok (.ifCond .le 12, 3) := by decide +kernel
theorem dX6_find_7 : decode cX6_find 7 = .ok (.aload_n 0, 1) := by decide +kernel
theorem dX6_find_8 : decode cX6_find 8 = .ok (.aload_n 1, 1) := by decide +kernel
theorem dX6_find_9 : decode cX6_find 9 = .ok (.iconst 0, 1) := by decide +kernel
theorem dX6_find_10 : decode cX6_find 10 = .ok (.iload_n 2, 1) := by decide +kernel
theorem dX6_find_11 : decode cX6_find 11 = .ok (.iload_n 3, 1) := by decide +kernel
theorem dX6_find_12 : decode cX6_find 12 = .ok (.iconst 0, 1) := by decide +kernel
theorem dX6_find_13 : decode cX6_find 13 = .ok (.invokestatic 73, 3) := by decide +kernel
theorem dX6_find_16 : decode cX6_find 16 = .ok (.aload_n 0, 1) := by decide +kernel
theorem dX6_find_17 : decode cX6_find 17 = .ok (.getfield 54, 3) := by decide +kernel
theorem dX6_find_20 : decode cX6_find 20 = .ok (.ldc 50, 2) := by decide +kernel
theorem dX6_find_22 : decode cX6_find 22 = .ok (.if_icmp .eq 7, 3) := by decide +kernel
theorem dX6_find_25 : decode cX6_find 25 = .ok (.iconst 1, 1) := by decide +kernel
theorem dX6_find_26 : decode cX6_find 26 = .ok (.goto 4, 3) := by decide +kernel
theorem dX6_find_29 : decode cX6_find 29 = .ok (.iconst 0, 1) := by decide +kernel
theorem dX6_find_30 : decode cX6_find 30 = .ok (.ireturn, 1) := by decide +kernel
theorem dX6_extend_0 : decode cX6_extend 0 = .ok (.iload_n 2, 1) := by decide +kernel
theorem dX6_extend_1 : decode cX6_extend 1 = .ok (.aload_n 0, 1) := by decide +kernel
theorem dX6_extend_2 : decode cX6_extend 2 = .ok (.getfield 42, 3) := by decide +kernel
theorem dX6_extend_5 : decode cX6_extend 5 = .ok (.if_icmp .ge 9, 3) := by decide +kernel
theorem dX6_extend_8 : decode cX6_extend 8 = .ok (.iload_n 2, 1) := by decide +kernel
theorem dX6_extend_9 : decode cX6_extend 9 = .ok (.bipush 7, 2) := by decide +kernel
theorem dX6_extend_11 : decode cX6_extend 11 = .ok (.if_icmp .lt 12, 3) := by decide +kernel
theorem dX6_extend_14 : decode cX6_extend 14 = .ok (.aload_n 0, 1) := by decide +kernel
theorem dX6_extend_15 : decode cX6_extend 15 = .ok (.iload 4, 2) := by decide +kernel
theorem dX6_extend_17 : decode cX6_extend 17 = .ok (.iload 5, 2) := by decide +kernel
theorem dX6_extend_19 : decode cX6_extend 19 = .ok (.invokevirtual 77, 3) := by decide +kernel
theorem dX6_extend_22 : decode cX6_extend 22 = .ok (.return_, 1) := by decide +kernel
theorem dX6_extend_23 : decode cX6_extend 23 = .ok (.iconst 1, 1) := by decide +kernel
theorem dX6_extend_24 : decode cX6_extend 24 = .ok (.istore 6, 2) := by decide +kernel
theorem dX6_extend_26 : decode cX6_extend 26 = .ok (.iload 6, 2) := by decide +kernel
theorem dX6_extend_28 : decode cX6_extend 28 = .ok (.bipush 7, 2) := by decide +kernel
theorem dX6_extend_30 : decode cX6_extend 30 = .ok (.if_icmp .gt 109, 3) := by decide +kernel
theorem dX6_extend_33 : decode cX6_extend 33 = .ok (.aload_n 1, 1) := by decide +kernel
theorem dX6_extend_34 : decode cX6_extend 34 = .ok (.iload_n 3, 1) := by decide +kernel
theorem dX6_extend_35 : decode cX6_extend 35 = .ok (.iload 6, 2) := by decide +kernel
theorem dX6_extend_37 : decode cX6_extend 37 = .ok (.invokevirtual 81, 3) := by decide +kernel
theorem dX6_extend_40 : decode cX6_extend 40 = .ok (.istore 7, 2) := by decide +kernel
theorem dX6_extend_42 : decode cX6_extend 42 = .ok (.iload 7, 2) := by decide +kernel
theorem dX6_extend_44 : decode cX6_extend 44 = .ok (.iconst (-1), 1) := by decide +kernel
theorem dX6_extend_45 : decode cX6_extend 45 = .ok (.if_icmp .eq 88, 3) := by decide +kernel
theorem dX6_extend_48 : decode cX6_extend 48 = .ok (.aload_n 0, 1) := by decide +kernel
theorem dX6_extend_49 : decode cX6_extend 49 = .ok (.iload 6, 2) := by decide +kernel
theorem dX6_extend_51 : decode cX6_extend 51 = .ok (.iload_n 2, 1) := by decide +kernel
theorem dX6_extend_52 : decode cX6_extend 52 = .ok (.invokevirtual 87, 3) := by decide +kernel
theorem dX6_extend_55 : decode cX6_extend 55 = .ok (.ifCond .eq 78, 3) := by decide +kernel
theorem dX6_extend_58 : decode cX6_extend 58 = .ok (.aload_n 0, 1) := by decide +kernel
theorem dX6_extend_59 : decode cX6_extend 59 = .ok (.iload 6, 2) := by decide +kernel
theorem dX6_extend_61 : decode cX6_extend 61 = .ok (.iload 4, 2) := by decide +kernel
theorem dX6_extend_63 : decode cX6_extend 63 = .ok (.iload 7, 2) := by decide +kernel
theorem dX6_extend_65 : decode cX6_extend 65 = .ok (.iadd, 1) := by decide +kernel
theorem dX6_extend_66 : decode cX6_extend 66 = .ok (.invokevirtual 91, 3) := by decide +kernel
theorem dX6_extend_69 : decode cX6_extend 69 = .ok (.istore 8, 2) := by decide +kernel
theorem dX6_extend_71 : decode cX6_extend 71 = .ok (.iload 5, 2) := by decide +kernel
theorem dX6_extend_73 : decode cX6_extend 73 = .ok (.aload_n 0, 1) := by decide +kernel
theorem dX6_extend_74 : decode cX6_extend 74 = .ok (.iload 6, 2) := by decide +kernel
theorem dX6_extend_76 : decode cX6_extend 76 = .ok (.iload 8, 2) := by decide +kernel
theorem dX6_extend_78 : decode cX6_extend 78 = .ok (.invokevirtual 94, 3) := by decide +kernel
theorem dX6_extend_81 : decode cX6_extend 81 = .ok (.iadd, 1) := by decide +kernel
theorem dX6_extend_82 : decode cX6_extend 82 = .ok (.istore 9, 2) := by decide +kernel
theorem dX6_extend_84 : decode cX6_extend 84 = .ok (.aload_n 0, 1) := by decide +kernel
theorem dX6_extend_85 : decode cX6_extend 85 = .ok (.iload 8, 2) := by decide +kernel
theorem dX6_extend_87 : decode cX6_extend 87 = .ok (.iload 9, 2) := by decide +kernel
theorem dX6_extend_89 : decode cX6_extend 89 = .ok (.invokevirtual 97, 3) := by decide +kernel
theorem dX6_extend_92 : decode cX6_extend 92 = .ok (.ifCond .eq 41, 3) := by decide +kernel
theorem dX6_extend_95 : decode cX6_extend 95 = .ok (.aload_n 0, 1) := by decide +kernel
theorem dX6_extend_96 : decode cX6_extend 96 = .ok (.getfield 28, 3) := by decide +kernel
theorem dX6_extend_99 : decode cX6_extend 99 = .ok (.iload_n 2, 1) := by decide +kernel
theorem dX6_extend_100 : decode cX6_extend 100 = .ok (.iload 6, 2) := by decide +kernel
theorem dX6_extend_102 : decode cX6_extend 102 = .ok (.invokestatic 61, 3) := by decide +kernel
theorem dX6_extend_105 : decode cX6_extend 105 = .ok (.aload_n 0, 1) := by decide +kernel
theorem dX6_extend_106 : decode cX6_extend 106 = .ok (.iload 6, 2) := by decide +kernel
theorem dX6_extend_108 : decode cX6_extend 108 = .ok (.iconst 0, 1) := by decide +kernel
theorem dX6_extend_109 : decode cX6_extend 109 = .ok (.invokevirtual 57, 3) := by decide +kernel
theorem dX6_extend_112 : decode cX6_extend 112 = .ok (.aload_n 0, 1) := by decide +kernel
theorem dX6_extend_113 : decode cX6_extend 113 = .ok (.aload_n 1, 1) := by decide +kernel
theorem dX6_extend_114 : decode cX6_extend 114 = .ok (.iload_n 2, 1) := by decide +kernel
theorem dX6_extend_115 : decode cX6_extend 115 = .ok (.iconst 1, 1) := by decide +kernel
theorem dX6_extend_116 : decode cX6_extend 116 = .ok (.iadd, 1) := by decide +kernel
theorem dX6_extend_117 : decode cX6_extend 117 = .ok (.iload 6, 2) := by decide +kernel
theorem dX6_extend_119 : decode cX6_extend 119 = .ok (.iload 8, 2) := by decide +kernel
theorem dX6_extend_121 : decode cX6_extend 121 = .ok (.iload 9, 2) := by decide +kernel
theorem dX6_extend_123 : decode cX6_extend 123 = .ok (.invokestatic 73, 3) := by decide +kernel
theorem dX6_extend_126 : decode cX6_extend 126 = .ok (.aload_n 0, 1) := by decide +kernel
theorem dX6_extend_127 : decode cX6_extend 127 = .ok (.iload 6, 2) := by decide +kernel
theorem dX6_extend_129 : decode cX6_extend 129 = .ok (.iconst 1, 1) := by decide +kernel
theorem dX6_extend_130 : decode cX6_extend 130 = .ok (.invokevirtual 57, 3) := by decide +kernel
theorem dX6_extend_133 : decode cX6_extend 133 = .ok (.iinc 6 1, 3) := by decide +kernel
theorem dX6_extend_136 : decode cX6_extend 136 = .ok (.goto (-110), 3) := by decide +kernel
theorem dX6_extend_139 : decode cX6_extend 139 = .ok (.return_, 1) := by decide +kernel
theorem dX6_mayCome_0 : decode cX6_mayCome 0 = .ok (.aload_n 0, 1) := by decide +kernel
theorem dX6_mayCome_1 : decode cX6_mayCome 1 = .ok (.iload_n 1, 1) := by decide +kernel
theorem dX6_mayCome_2 : decode cX6_mayCome 2 = .ok (.invokevirtual 69, 3) := by decide +kernel
theorem dX6_mayCome_5 : decode cX6_mayCome 5 = .ok (.ifCond .eq 27, 3) := by decide +kernel
theorem dX6_mayCome_8 : decode cX6_mayCome 8 = .ok (.iload_n 2, 1) := by decide +kernel
theorem dX6_mayCome_9 : decode cX6_mayCome 9 = .ok (.aload_n 0, 1) := by decide +kernel
theorem dX6_mayCome_10 : decode cX6_mayCome 10 = .ok (.getfield 45, 3) := by decide +kernel
theorem dX6_mayCome_13 : decode cX6_mayCome 13 = .ok (.if_icmp .ge 15, 3) := by decide +kernel
theorem dX6_mayCome_16 : decode cX6_mayCome 16 = .ok (.aload_n 0, 1) := by decide +kernel
theorem dX6_mayCome_17 : decode cX6_mayCome 17 = .ok (.getfield 25, 3) := by decide +kernel
theorem dX6_mayCome_20 : decode cX6_mayCome 20 = .ok (.iload_n 2, 1) := by decide +kernel
theorem dX6_mayCome_21 : decode cX6_mayCome 21 = .ok (.invokestatic 65, 3) := by decide +kernel
theorem dX6_mayCome_24 : decode cX6_mayCome 24 = .ok (.iload_n 1, 1) := by decide +kernel
theorem dX6_mayCome_25 : decode cX6_mayCome 25 = .ok (.if_icmp .ne 7, 3) := by decide +kernel
theorem dX6_mayCome_28 : decode cX6_mayCome 28 = .ok (.iconst 1, 1) := by decide +kernel
theorem dX6_mayCome_29 : decode cX6_mayCome 29 = .ok (.goto 4, 3) := by decide +kernel
theorem dX6_mayCome_32 : decode cX6_mayCome 32 = .ok (.iconst 0, 1) := by decide +kernel
theorem dX6_mayCome_33 : decode cX6_mayCome 33 = .ok (.ireturn, 1) := by decide +kernel
theorem dX6_begins_0 : decode cX6_begins 0 = .ok (.iload_n 2, 1) := by decide +kernel
theorem dX6_begins_1 : decode cX6_begins 1 = .ok (.aload_n 0, 1) := by decide +kernel
theorem dX6_begins_2 : decode cX6_begins 2 = .ok (.getfield 15, 3) := by decide +kernel
theorem dX6_begins_5 : decode cX6_begins 5 = .ok (.iload_n 1, 1) := by decide +kernel
theorem dX6_begins_6 : decode cX6_begins 6 = .ok (.invokestatic 65, 3) := by decide +kernel
theorem dX6_begins_9 : decode cX6_begins 9 = .ok (.invokestatic 100, 3) := by decide +kernel
theorem dX6_begins_12 : decode cX6_begins 12 = .ok (.ireturn, 1) := by decide +kernel
theorem dX6_leaves_0 : decode cX6_leaves 0 = .ok (.aload_n 0, 1) := by decide +kernel
theorem dX6_leaves_1 : decode cX6_leaves 1 = .ok (.iload_n 1, 1) := by decide +kernel
theorem dX6_leaves_2 : decode cX6_leaves 2 = .ok (.iload_n 2, 1) := by decide +kernel
theorem dX6_leaves_3 : decode cX6_leaves 3 = .ok (.invokevirtual 105, 3) := by decide +kernel
theorem dX6_leaves_6 : decode cX6_leaves 6 = .ok (.aload_n 0, 1) := by decide +kernel
theorem dX6_leaves_7 : decode cX6_leaves 7 = .ok (.getfield 9, 3) := by decide +kernel
theorem dX6_leaves_10 : decode cX6_leaves 10 = .ok (.iload_n 1, 1) := by decide +kernel
theorem dX6_leaves_11 : decode cX6_leaves 11 = .ok (.invokestatic 65, 3) := by decide +kernel
theorem dX6_leaves_14 : decode cX6_leaves 14 = .ok (.iadd, 1) := by decide +kernel
theorem dX6_leaves_15 : decode cX6_leaves 15 = .ok (.ireturn, 1) := by decide +kernel
theorem dX6_lossOf_0 : decode cX6_lossOf 0 = .ok (.aload_n 0, 1) := by decide +kernel
theorem dX6_lossOf_1 : decode cX6_lossOf 1 = .ok (.getfield 38, 3) := by decide +kernel
theorem dX6_lossOf_4 : decode cX6_lossOf 4 = .ok (.iload_n 2, 1) := by decide +kernel
theorem dX6_lossOf_5 : decode cX6_lossOf 5 = .ok (.aload_n 0, 1) := by decide +kernel
theorem dX6_lossOf_6 : decode cX6_lossOf 6 = .ok (.getfield 18, 3) := by decide +kernel
theorem dX6_lossOf_9 : decode cX6_lossOf 9 = .ok (.iload_n 1, 1) := by decide +kernel
theorem dX6_lossOf_10 : decode cX6_lossOf 10 = .ok (.invokestatic 65, 3) := by decide +kernel
theorem dX6_lossOf_13 : decode cX6_lossOf 13 = .ok (.isub, 1) := by decide +kernel
theorem dX6_lossOf_14 : decode cX6_lossOf 14 = .ok (.iconst 1, 1) := by decide +kernel
theorem dX6_lossOf_15 : decode cX6_lossOf 15 = .ok (.isub, 1) := by decide +kernel
theorem dX6_lossOf_16 : decode cX6_lossOf 16 = .ok (.iconst 0, 1) := by decide +kernel
theorem dX6_lossOf_17 : decode cX6_lossOf 17 = .ok (.invokestatic 100, 3) := by decide +kernel
theorem dX6_lossOf_20 : decode cX6_lossOf 20 = .ok (.imul, 1) := by decide +kernel
theorem dX6_lossOf_21 : decode cX6_lossOf 21 = .ok (.ireturn, 1) := by decide +kernel
theorem dX6_beatsBest_0 : decode cX6_beatsBest 0 = .ok (.iload_n 2, 1) := by decide +kernel
theorem dX6_beatsBest_1 : decode cX6_beatsBest 1 = .ok (.aload_n 0, 1) := by decide +kernel
theorem dX6_beatsBest_2 : decode cX6_beatsBest 2 = .ok (.getfield 51, 3) := by decide +kernel
theorem dX6_beatsBest_5 : decode cX6_beatsBest 5 = .ok (.if_icmp .lt 19, 3) := by decide +kernel
theorem dX6_beatsBest_8 : decode cX6_beatsBest 8 = .ok (.iload_n 2, 1) := by decide +kernel
theorem dX6_beatsBest_9 : decode cX6_beatsBest 9 = .ok (.aload_n 0, 1) := by decide +kernel
theorem dX6_beatsBest_10 : decode cX6_beatsBest 10 = .ok (.getfield 51, 3) := by decide +kernel
theorem dX6_beatsBest_13 : decode cX6_beatsBest 13 = .ok (.if_icmp .ne 15, 3) := by decide +kernel
theorem dX6_beatsBest_16 : decode cX6_beatsBest 16 = .ok (.iload_n 1, 1) := by decide +kernel
theorem dX6_beatsBest_17 : decode cX6_beatsBest 17 = .ok (.aload_n 0, 1) := by decide +kernel
theorem dX6_beatsBest_18 : decode cX6_beatsBest 18 = .ok (.getfield 54, 3) := by decide +kernel
theorem dX6_beatsBest_21 : decode cX6_beatsBest 21 = .ok (.if_icmp .ge 7, 3) := by decide +kernel
theorem dX6_beatsBest_24 : decode cX6_beatsBest 24 = .ok (.iconst 1, 1) := by decide +kernel
theorem dX6_beatsBest_25 : decode cX6_beatsBest 25 = .ok (.goto 4, 3) := by decide +kernel
theorem dX6_beatsBest_28 : decode cX6_beatsBest 28 = .ok (.iconst 0, 1) := by decide +kernel
theorem dX6_beatsBest_29 : decode cX6_beatsBest 29 = .ok (.ireturn, 1) := by decide +kernel
theorem dX6_keepAsBest_0 : decode cX6_keepAsBest 0 = .ok (.aload_n 0, 1) := by decide +kernel
theorem dX6_keepAsBest_1 : decode cX6_keepAsBest 1 = .ok (.iload_n 1, 1) := by decide +kernel
theorem dX6_keepAsBest_2 : decode cX6_keepAsBest 2 = .ok (.putfield 54, 3) := by decide +kernel
theorem dX6_keepAsBest_5 : decode cX6_keepAsBest 5 = .ok (.aload_n 0, 1) := by decide +kernel
theorem dX6_keepAsBest_6 : decode cX6_keepAsBest 6 = .ok (.iload_n 2, 1) := by decide +kernel
theorem dX6_keepAsBest_7 : decode cX6_keepAsBest 7 = .ok (.putfield 51, 3) := by decide +kernel
theorem dX6_keepAsBest_10 : decode cX6_keepAsBest 10 = .ok (.iconst 0, 1) := by decide +kernel
theorem dX6_keepAsBest_11 : decode cX6_keepAsBest 11 = .ok (.istore_n 3, 1) := by decide +kernel
theorem dX6_keepAsBest_12 : decode cX6_keepAsBest 12 = .ok (.iload_n 3, 1) := by decide +kernel
theorem dX6_keepAsBest_13 : decode cX6_keepAsBest 13 = .ok (.bipush 7, 2) := by decide +kernel
theorem dX6_keepAsBest_15 : decode cX6_keepAsBest 15 = .ok (.if_icmp .ge 25, 3) := by decide +kernel
theorem dX6_keepAsBest_18 : decode cX6_keepAsBest 18 = .ok (.aload_n 0, 1) := by decide +kernel
theorem dX6_keepAsBest_19 : decode cX6_keepAsBest 19 = .ok (.getfield 31, 3) := by decide +kernel
theorem dX6_keepAsBest_22 : decode cX6_keepAsBest 22 = .ok (.iload_n 3, 1) := by decide +kernel
theorem dX6_keepAsBest_23 : decode cX6_keepAsBest 23 = .ok (.aload_n 0, 1) := by decide +kernel
theorem dX6_keepAsBest_24 : decode cX6_keepAsBest 24 = .ok (.getfield 28, 3) := by decide +kernel
theorem dX6_keepAsBest_27 : decode cX6_keepAsBest 27 = .ok (.iload_n 3, 1) := by decide +kernel
theorem dX6_keepAsBest_28 : decode cX6_keepAsBest 28 = .ok (.invokestatic 65, 3) := by decide +kernel
theorem dX6_keepAsBest_31 : decode cX6_keepAsBest 31 = .ok (.invokestatic 61, 3) := by decide +kernel
theorem dX6_keepAsBest_34 : decode cX6_keepAsBest 34 = .ok (.iinc 3 1, 3) := by decide +kernel
theorem dX6_keepAsBest_37 : decode cX6_keepAsBest 37 = .ok (.goto (-25), 3) := by decide +kernel
theorem dX6_keepAsBest_40 : decode cX6_keepAsBest 40 = .ok (.return_, 1) := by decide +kernel
theorem dX6_isWaiting_0 : decode cX6_isWaiting 0 = .ok (.iload_n 1, 1) := by decide +kernel
theorem dX6_isWaiting_1 : decode cX6_isWaiting 1 = .ok (.ifCond .lt 25, 3) := by decide +kernel
theorem dX6_isWaiting_4 : decode cX6_isWaiting 4 = .ok (.iload_n 1, 1) := by decide +kernel
theorem dX6_isWaiting_5 : decode cX6_isWaiting 5 = .ok (.aload_n 0, 1) := by decide +kernel
theorem dX6_isWaiting_6 : decode cX6_isWaiting 6 = .ok (.getfield 21, 3) := by decide +kernel
theorem dX6_isWaiting_9 : decode cX6_isWaiting 9 = .ok (.arraylength, 1) := by decide +kernel
theorem dX6_isWaiting_10 : decode cX6_isWaiting 10 = .ok (.if_icmp .ge 16, 3) := by decide +kernel
theorem dX6_isWaiting_13 : decode cX6_isWaiting 13 = .ok (.aload_n 0, 1) := by decide +kernel
theorem dX6_isWaiting_14 : decode cX6_isWaiting 14 = .ok (.getfield 21, 3) := by decide +kernel
theorem dX6_isWaiting_17 : decode cX6_isWaiting 17 = .ok (.iload_n 1, 1) := by decide +kernel
theorem dX6_isWaiting_18 : decode cX6_isWaiting 18 = .ok (.baload, 1) := by decide +kernel
theorem dX6_isWaiting_19 : decode cX6_isWaiting 19 = .ok (.ifCond .eq 7, 3) := by decide +kernel
theorem dX6_isWaiting_22 : decode cX6_isWaiting 22 = .ok (.iconst 1, 1) := by decide +kernel
theorem dX6_isWaiting_23 : decode cX6_isWaiting 23 = .ok (.goto 4, 3) := by decide +kernel
theorem dX6_isWaiting_26 : decode cX6_isWaiting 26 = .ok (.iconst 0, 1) := by decide +kernel
theorem dX6_isWaiting_27 : decode cX6_isWaiting 27 = .ok (.ireturn, 1) := by decide +kernel
theorem dX6_setWaits_0 : decode cX6_setWaits 0 = .ok (.iload_n 1, 1) := by decide +kernel
theorem dX6_setWaits_1 : decode cX6_setWaits 1 = .ok (.ifCond .lt 19, 3) := by decide +kernel
theorem dX6_setWaits_4 : decode cX6_setWaits 4 = .ok (.iload_n 1, 1) := by decide +kernel
theorem dX6_setWaits_5 : decode cX6_setWaits 5 = .ok (.aload_n 0, 1) := by decide +kernel
theorem dX6_setWaits_6 : decode cX6_setWaits 6 = .ok (.getfield 21, 3) := by decide +kernel
theorem dX6_setWaits_9 : decode cX6_setWaits 9 = .ok (.arraylength, 1) := by decide +kernel
theorem dX6_setWaits_10 : decode cX6_setWaits 10 = .ok (.if_icmp .ge 10, 3) := by decide +kernel
theorem dX6_setWaits_13 : decode cX6_setWaits 13 = .ok (.aload_n 0, 1) := by decide +kernel
theorem dX6_setWaits_14 : decode cX6_setWaits 14 = .ok (.getfield 21, 3) := by decide +kernel
theorem dX6_setWaits_17 : decode cX6_setWaits 17 = .ok (.iload_n 1, 1) := by decide +kernel
theorem dX6_setWaits_18 : decode cX6_setWaits 18 = .ok (.iload_n 2, 1) := by decide +kernel
theorem dX6_setWaits_19 : decode cX6_setWaits 19 = .ok (.bastore, 1) := by decide +kernel
theorem dX6_setWaits_20 : decode cX6_setWaits 20 = .ok (.return_, 1) := by decide +kernel
theorem dX7_init_0 : decode cX7_init 0 = .ok (.aload_n 0, 1) := by decide +kernel
theorem dX7_init_1 : decode cX7_init 1 = .ok (.invokespecial 3, 3) := by decide +kernel
theorem dX7_init_4 : decode cX7_init 4 = .ok (.aload_n 0, 1) := by decide +kernel
theorem dX7_init_5 : decode cX7_init 5 = .ok (.sipush 300, 3) := by decide +kernel
theorem dX7_init_8 : decode cX7_init 8 = .ok (.newarray .int, 2) := by decide +kernel
theorem dX7_init_10 : decode cX7_init 10 = .ok (.putfield 11, 3) := by decide +kernel
theorem dX7_init_13 : decode cX7_init 13 = .ok (.aload_n 0, 1) := by decide +kernel
theorem dX7_init_14 : decode cX7_init 14 = .ok (.iconst 0, 1) := by decide +kernel
theorem dX7_init_15 : decode cX7_init 15 = .ok (.putfield 15, 3) := by decide +kernel
theorem dX7_init_18 : decode cX7_init 18 = .ok (.aload_n 0, 1) := by decide +kernel
theorem dX7_init_19 : decode cX7_init 19 = .ok (.iconst 0, 1) := by decide +kernel
theorem dX7_init_20 : decode cX7_init 20 = .ok (.putfield 19, 3) := by decide +kernel
theorem dX7_init_23 : decode cX7_init 23 = .ok (.aload_n 0, 1) := by decide +kernel
theorem dX7_init_24 : decode cX7_init 24 = .ok (.iconst 0, 1) := by decide +kernel
theorem dX7_init_25 : decode cX7_init 25 = .ok (.putfield 22, 3) := by decide +kernel
theorem dX7_init_28 : decode cX7_init 28 = .ok (.return_, 1) := by decide +kernel
theorem dX7_hasRoomFor_0 : decode cX7_hasRoomFor 0 = .ok (.aload_n 0, 1) := by decide +kernel
theorem dX7_hasRoomFor_1 : decode cX7_hasRoomFor 1 = .ok (.getfield 15, 3) := by decide +kernel
theorem dX7_hasRoomFor_4 : decode cX7_hasRoomFor 4 = .ok (.iload_n 1, 1) := by decide +kernel
theorem dX7_hasRoomFor_5 : decode cX7_hasRoomFor 5 = .ok (.iadd, 1) := by decide +kernel
theorem dX7_hasRoomFor_6 : decode cX7_hasRoomFor 6 = .ok (.sipush 300, 3) := by decide +kernel
theorem dX7_hasRoomFor_9 : decode cX7_hasRoomFor 9 = .ok (.if_icmp .gt 7, 3) := by decide +kernel
theorem dX7_hasRoomFor_12 : decode cX7_hasRoomFor 12 = .ok (.iconst 1, 1) := by decide +kernel
theorem dX7_hasRoomFor_13 : decode cX7_hasRoomFor 13 = .ok (.goto 4, 3) := by decide +kernel
theorem dX7_hasRoomFor_16 : decode cX7_hasRoomFor 16 = .ok (.iconst 0, 1) := by decide +kernel
theorem dX7_hasRoomFor_17 : decode cX7_hasRoomFor 17 = .ok (.ireturn, 1) := by decide +kernel
theorem dX7_append_0 : decode cX7_append 0 = .ok (.bipush 24, 2) := by decide +kernel
theorem dX7_append_2 : decode cX7_append 2 = .ok (.istore_n 2, 1) := by decide +kernel
theorem dX7_append_3 : decode cX7_append 3 = .ok (.iload_n 2, 1) := by decide +kernel
theorem dX7_append_4 : decode cX7_append 4 = .ok (.ifCond .lt 37, 3) := by decide +kernel
theorem dX7_append_7 : decode cX7_append 7 = .ok (.aload_n 0, 1) := by decide +kernel
theorem dX7_append_8 : decode cX7_append 8 = .ok (.getfield 11, 3) := by decide +kernel
theorem dX7_append_11 : decode cX7_append 11 = .ok (.aload_n 0, 1) := by decide +kernel
theorem dX7_append_12 : decode cX7_append 12 = .ok (.getfield 15, 3) := by decide +kernel
theorem dX7_append_15 : decode cX7_append 15 = .ok (.iload_n 1, 1) := by decide +kernel
theorem dX7_append_16 : decode cX7_append 16 = .ok (.iload_n 2, 1) := by decide +kernel
theorem dX7_append_17 : decode cX7_append 17 = .ok (.iushr, 1) := by decide +kernel
theorem dX7_append_18 : decode cX7_append 18 = .ok (.sipush 255, 3) := by decide +kernel
theorem dX7_append_21 : decode cX7_append 21 = .ok (.iand, 1) := by decide +kernel
theorem dX7_append_22 : decode cX7_append 22 = .ok (.invokestatic 25, 3) := by decide +kernel
theorem dX7_append_25 : decode cX7_append 25 = .ok (.aload_n 0, 1) := by decide +kernel
theorem dX7_append_26 : decode cX7_append 26 = .ok (.dup, 1) := by decide +kernel
theorem dX7_append_27 : decode cX7_append 27 = .ok (.getfield 15, 3) := by decide +kernel
theorem dX7_append_30 : decode cX7_append 30 = .ok (.iconst 1, 1) := by decide +kernel
theorem dX7_append_31 : decode cX7_append 31 = .ok (.iadd, 1) := by decide +kernel
theorem dX7_append_32 : decode cX7_append 32 = .ok (.putfield 15, 3) := by decide +kernel
theorem dX7_append_35 : decode cX7_append 35 = .ok (.iinc 2 (-8), 3) := by decide +kernel
theorem dX7_append_38 : decode cX7_append 38 = .ok (.goto (-35), 3) := by decide +kernel
theorem dX7_append_41 : decode cX7_append 41 = .ok (.return_, 1) := by decide +kernel
theorem dX7_readFirst_0 : decode cX7_readFirst 0 = .ok (.aload_n 0, 1) := by decide +kernel
theorem dX7_readFirst_1 : decode cX7_readFirst 1 = .ok (.iconst 0, 1) := by decide +kernel
theorem dX7_readFirst_2 : decode cX7_readFirst 2 = .ok (.putfield 19, 3) := by decide +kernel
theorem dX7_readFirst_5 : decode cX7_readFirst 5 = .ok (.aload_n 0, 1) := by decide +kernel
theorem dX7_readFirst_6 : decode cX7_readFirst 6 = .ok (.iload_n 1, 1) := by decide +kernel
theorem dX7_readFirst_7 : decode cX7_readFirst 7 = .ok (.putfield 22, 3) := by decide +kernel
theorem dX7_readFirst_10 : decode cX7_readFirst 10 = .ok (.return_, 1) := by decide +kernel
theorem dX7_isAtEnd_0 : decode cX7_isAtEnd 0 = .ok (.aload_n 0, 1) := by decide +kernel
theorem dX7_isAtEnd_1 : decode cX7_isAtEnd 1 = .ok (.getfield 19, 3) := by decide +kernel
theorem dX7_isAtEnd_4 : decode cX7_isAtEnd 4 = .ok (.aload_n 0, 1) := by decide +kernel
theorem dX7_isAtEnd_5 : decode cX7_isAtEnd 5 = .ok (.getfield 22, 3) := by decide +kernel
theorem dX7_isAtEnd_8 : decode cX7_isAtEnd 8 = .ok (.if_icmp .lt 7, 3) := by decide +kernel
theorem dX7_isAtEnd_11 : decode cX7_isAtEnd 11 = .ok (.iconst 1, 1) := by decide +kernel
theorem dX7_isAtEnd_12 : decode cX7_isAtEnd 12 = .ok (.goto 4, 3) := by decide +kernel
theorem dX7_isAtEnd_15 : decode cX7_isAtEnd 15 = .ok (.iconst 0, 1) := by decide +kernel
theorem dX7_isAtEnd_16 : decode cX7_isAtEnd 16 = .ok (.ireturn, 1) := by decide +kernel
theorem dX7_byteAt_0 : decode cX7_byteAt 0 = .ok (.iload_n 1, 1) := by decide +kernel
theorem dX7_byteAt_1 : decode cX7_byteAt 1 = .ok (.aload_n 0, 1) := by decide +kernel
theorem dX7_byteAt_2 : decode cX7_byteAt 2 = .ok (.getfield 22, 3) := by decide +kernel
theorem dX7_byteAt_5 : decode cX7_byteAt 5 = .ok (.if_icmp .ge 14, 3) := by decide +kernel
theorem dX7_byteAt_8 : decode cX7_byteAt 8 = .ok (.aload_n 0, 1) := by decide +kernel
theorem dX7_byteAt_9 : decode cX7_byteAt 9 = .ok (.getfield 11, 3) := by decide +kernel
theorem dX7_byteAt_12 : decode cX7_byteAt 12 = .ok (.iload_n 1, 1) := by decide +kernel
theorem dX7_byteAt_13 : decode cX7_byteAt 13 = .ok (.invokestatic 29, 3) := by decide +kernel
theorem dX7_byteAt_16 : decode cX7_byteAt 16 = .ok (.goto 4, 3) := by decide +kernel
theorem dX7_byteAt_19 : decode cX7_byteAt 19 = .ok (.iconst (-1), 1) := by decide +kernel
theorem dX7_byteAt_20 : decode cX7_byteAt 20 = .ok (.ireturn, 1) := by decide +kernel
theorem dX7_skipBlanks_0 : decode cX7_skipBlanks 0 = .ok (.aload_n 0, 1) := by decide +kernel
theorem dX7_skipBlanks_1 : decode cX7_skipBlanks 1 = .ok (.getfield 19, 3) := by decide +kernel
theorem dX7_skipBlanks_4 : decode cX7_skipBlanks 4 = .ok (.aload_n 0, 1) := by decide +kernel
theorem dX7_skipBlanks_5 : decode cX7_skipBlanks 5 = .ok (.getfield 22, 3) := by decide +kernel
theorem dX7_skipBlanks_8 : decode cX7_skipBlanks 8 = .ok (.if_icmp .ge 42, 3) := by decide +kernel
theorem dX7_skipBlanks_11 : decode cX7_skipBlanks 11 = .ok (.aload_n 0, 1) := by decide +kernel
theorem dX7_skipBlanks_12 : decode cX7_skipBlanks 12 = .ok (.aload_n 0, 1) := by decide +kernel
theorem dX7_skipBlanks_13 : decode cX7_skipBlanks 13 = .ok (.getfield 19, 3) := by decide +kernel
theorem dX7_skipBlanks_16 : decode cX7_skipBlanks 16 = .ok (.invokevirtual 33, 3) := by decide +kernel
theorem dX7_skipBlanks_19 : decode cX7_skipBlanks 19 = .ok (.bipush 32, 2) := by decide +kernel
theorem dX7_skipBlanks_21 : decode cX7_skipBlanks 21 = .ok (.if_icmp .eq 16, 3) := by decide +kernel
theorem dX7_skipBlanks_24 : decode cX7_skipBlanks 24 = .ok (.aload_n 0, 1) := by decide +kernel
theorem dX7_skipBlanks_25 : decode cX7_skipBlanks 25 = .ok (.aload_n 0, 1) := by decide +kernel
theorem dX7_skipBlanks_26 : decode cX7_skipBlanks 26 = .ok (.getfield 19, 3) := by decide +kernel
theorem dX7_skipBlanks_29 : decode cX7_skipBlanks 29 = .ok (.invokevirtual 33, 3) := by decide +kernel
theorem dX7_skipBlanks_32 : decode cX7_skipBlanks 32 = .ok (.bipush 10, 2) := by decide +kernel
theorem dX7_skipBlanks_34 : decode cX7_skipBlanks 34 = .ok (.if_icmp .ne 16, 3) := by decide +kernel
theorem dX7_skipBlanks_37 : decode cX7_skipBlanks 37 = .ok (.aload_n 0, 1) := by decide +kernel
theorem dX7_skipBlanks_38 : decode cX7_skipBlanks 38 = .ok (.dup, 1) := by decide +kernel
theorem dX7_skipBlanks_39 : decode cX7_skipBlanks 39 = .ok (.getfield 19, 3) := by decide +kernel
theorem dX7_skipBlanks_42 : decode cX7_skipBlanks 42 = .ok (.iconst 1, 1) := by decide +kernel
theorem dX7_skipBlanks_43 : decode cX7_skipBlanks 43 = .ok (.iadd, 1) := by decide +kernel
theorem dX7_skipBlanks_44 : decode cX7_skipBlanks 44 = .ok (.putfield 19, 3) := by decide +kernel
theorem dX7_skipBlanks_47 : decode cX7_skipBlanks 47 = .ok (.goto (-47), 3) := by decide +kernel
theorem dX7_skipBlanks_50 : decode cX7_skipBlanks 50 = .ok (.return_, 1) := by decide +kernel
theorem dX7_endOfRow_0 : decode cX7_endOfRow 0 = .ok (.aload_n 0, 1) := by decide +kernel
theorem dX7_endOfRow_1 : decode cX7_endOfRow 1 = .ok (.getfield 19, 3) := by decide +kernel
theorem dX7_endOfRow_4 : decode cX7_endOfRow 4 = .ok (.istore_n 3, 1) := by decide +kernel
theorem dX7_endOfRow_5 : decode cX7_endOfRow 5 = .ok (.iload_n 3, 1) := by decide +kernel
theorem dX7_endOfRow_6 : decode cX7_endOfRow 6 = .ok (.aload_n 0, 1) := by decide +kernel
theorem dX7_endOfRow_7 : decode cX7_endOfRow 7 = .ok (.getfield 22, 3) := by decide +kernel
theorem dX7_endOfRow_10 : decode cX7_endOfRow 10 = .ok (.if_icmp .ge 22, 3) := by decide +kernel
theorem dX7_endOfRow_13 : decode cX7_endOfRow 13 = .ok (.aload_n 0, 1) := by decide +kernel
theorem dX7_endOfRow_14 : decode cX7_endOfRow 14 = .ok (.iload_n 3, 1) := by decide +kernel
theorem dX7_endOfRow_15 : decode cX7_endOfRow 15 = .ok (.invokevirtual 33, 3) := by decide +kernel
theorem dX7_endOfRow_18 : decode cX7_endOfRow 18 = .ok (.iload_n 1, 1) := by decide +kernel
theorem dX7_endOfRow_19 : decode cX7_endOfRow 19 = .ok (.iload_n 2, 1) := by decide +kernel
theorem dX7_endOfRow_20 : decode cX7_endOfRow 20 = .ok (.invokestatic 37, 3) := by decide +kernel
theorem dX7_endOfRow_23 : decode cX7_endOfRow 23 = .ok (.ifCond .eq 9, 3) := by decide +kernel
theorem dX7_endOfRow_26 : decode cX7_endOfRow 26 = .ok (.iinc 3 1, 3) := by decide +kernel
theorem dX7_endOfRow_29 : decode cX7_endOfRow 29 = .ok (.goto (-24), 3) := by decide +kernel
theorem dX7_endOfRow_32 : decode cX7_endOfRow 32 = .ok (.iload_n 3, 1) := by decide +kernel
theorem dX7_endOfRow_33 : decode cX7_endOfRow 33 = .ok (.ireturn, 1) := by decide +kernel
theorem dX7_numberUpTo_0 : decode cX7_numberUpTo 0 = .ok (.iconst 0, 1) := by decide +kernel
theorem dX7_numberUpTo_1 : decode cX7_numberUpTo 1 = .ok (.istore_n 2, 1) := by decide +kernel
theorem dX7_numberUpTo_2 : decode cX7_numberUpTo 2 = .ok (.aload_n 0, 1) := by decide +kernel
theorem dX7_numberUpTo_3 : decode cX7_numberUpTo 3 = .ok (.getfield 19, 3) := by decide +kernel
theorem dX7_numberUpTo_6 : decode cX7_numberUpTo 6 = .ok (.istore_n 3, 1) := by decide +kernel
theorem dX7_numberUpTo_7 : decode cX7_numberUpTo 7 = .ok (.iload_n 3, 1) := by decide +kernel
theorem dX7_numberUpTo_8 : decode cX7_numberUpTo 8 = .ok (.iload_n 1, 1) := by decide +kernel
theorem dX7_numberUpTo_9 : decode cX7_numberUpTo 9 = .ok (.if_icmp .ge 29, 3) := by decide +kernel
theorem dX7_numberUpTo_12 : decode cX7_numberUpTo 12 = .ok (.iload_n 2, 1) := by decide +kernel
theorem dX7_numberUpTo_13 : decode cX7_numberUpTo 13 = .ok (.bipush 10, 2) := by decide +kernel
theorem dX7_numberUpTo_15 : decode cX7_numberUpTo 15 = .ok (.imul, 1) := by decide +kernel
theorem dX7_numberUpTo_16 : decode cX7_numberUpTo 16 = .ok (.aload_n 0, 1) := by decide +kernel
theorem dX7_numberUpTo_17 : decode cX7_numberUpTo 17 = .ok (.iload_n 3, 1) := by decide +kernel
theorem dX7_numberUpTo_18 : decode cX7_numberUpTo 18 = .ok (.invokevirtual 33, 3) := by decide +kernel
theorem dX7_numberUpTo_21 : decode cX7_numberUpTo 21 = .ok (.iadd, 1) := by decide +kernel
theorem dX7_numberUpTo_22 : decode cX7_numberUpTo 22 = .ok (.bipush 48, 2) := by decide +kernel
theorem dX7_numberUpTo_24 : decode cX7_numberUpTo 24 = .ok (.isub, 1) := by decide +kernel
theorem dX7_numberUpTo_25 : decode cX7_numberUpTo 25 = .ok (.sipush 1000, 3) := by decide +kernel
theorem dX7_numberUpTo_28 : decode cX7_numberUpTo 28 = .ok (.invokestatic 41, 3) := by decide +kernel
theorem dX7_numberUpTo_31 : decode cX7_numberUpTo 31 = .ok (.istore_n 2, 1) := by decide +kernel
theorem dX7_numberUpTo_32 : decode cX7_numberUpTo 32 = .ok (.iinc 3 1, 3) := by decide +kernel
theorem dX7_numberUpTo_35 : decode cX7_numberUpTo 35 = .ok (.goto (-28), 3) := by decide +kernel
theorem dX7_numberUpTo_38 : decode cX7_numberUpTo 38 = .ok (.iload_n 2, 1) := by decide +kernel
theorem dX7_numberUpTo_39 : decode cX7_numberUpTo 39 = .ok (.ireturn, 1) := by decide +kernel
theorem dX7_isWordUpTo_0 : decode cX7_isWordUpTo 0 = .ok (.iload_n 1, 1) := by decide +kernel
theorem dX7_isWordUpTo_1 : decode cX7_isWordUpTo 1 = .ok (.aload_n 0, 1) := by decide +kernel
theorem dX7_isWordUpTo_2 : decode cX7_isWordUpTo 2 = .ok (.getfield 19, 3) := by decide +kernel
theorem dX7_isWordUpTo_5 : decode cX7_isWordUpTo 5 = .ok (.isub, 1) := by decide +kernel
theorem dX7_isWordUpTo_6 : decode cX7_isWordUpTo 6 = .ok (.aload_n 2, 1) := by decide +kernel
theorem dX7_isWordUpTo_7 : decode cX7_isWordUpTo 7 = .ok (.invokevirtual 47, 3) := by decide +kernel
theorem dX7_isWordUpTo_10 : decode cX7_isWordUpTo 10 = .ok (.if_icmp .eq 5, 3) := by decide +kernel
theorem dX7_isWordUpTo_13 : decode cX7_isWordUpTo 13 = .ok (.iconst 0, 1) := by decide +kernel
theorem dX7_isWordUpTo_14 : decode cX7_isWordUpTo 14 = .ok (.ireturn, 1) := by decide +kernel
theorem dX7_isWordUpTo_15 : decode cX7_isWordUpTo 15 = .ok (.iconst 0, 1) := by decide +kernel
theorem dX7_isWordUpTo_16 : decode cX7_isWordUpTo 16 = .ok (.istore_n 3, 1) := by decide +kernel
theorem dX7_isWordUpTo_17 : decode cX7_isWordUpTo 17 = .ok (.iload_n 3, 1) := by decide +kernel
theorem dX7_isWordUpTo_18 : decode cX7_isWordUpTo 18 = .ok (.aload_n 2, 1) := by decide +kernel
theorem dX7_isWordUpTo_19 : decode cX7_isWordUpTo 19 = .ok (.invokevirtual 47, 3) := by decide +kernel
theorem dX7_isWordUpTo_22 : decode cX7_isWordUpTo 22 = .ok (.if_icmp .ge 29, 3) := by decide +kernel
theorem dX7_isWordUpTo_25 : decode cX7_isWordUpTo 25 = .ok (.aload_n 0, 1) := by decide +kernel
theorem dX7_isWordUpTo_26 : decode cX7_isWordUpTo 26 = .ok (.aload_n 0, 1) := by decide +kernel
theorem dX7_isWordUpTo_27 : decode cX7_isWordUpTo 27 = .ok (.getfield 19, 3) := by decide +kernel
theorem dX7_isWordUpTo_30 : decode cX7_isWordUpTo 30 = .ok (.iload_n 3, 1) := by decide +kernel
theorem dX7_isWordUpTo_31 : decode cX7_isWordUpTo 31 = .ok (.iadd, 1) := by decide +kernel
theorem dX7_isWordUpTo_32 : decode cX7_isWordUpTo 32 = .ok (.invokevirtual 33, 3) := by decide +kernel
theorem dX7_isWordUpTo_35 : decode cX7_isWordUpTo 35 = .ok (.aload_n 2, 1) := by decide +kernel
theorem dX7_isWordUpTo_36 : decode cX7_isWordUpTo 36 = .ok (.iload_n 3, 1) := by decide +kernel
theorem dX7_isWordUpTo_37 : decode cX7_isWordUpTo 37 = .ok (.invokevirtual 52, 3) := by decide +kernel
theorem dX7_isWordUpTo_40 : decode cX7_isWordUpTo 40 = .ok (.if_icmp .eq 5, 3) := by decide +kernel
theorem dX7_isWordUpTo_43 : decode cX7_isWordUpTo 43 = .ok (.iconst 0, 1) := by decide +kernel
theorem dX7_isWordUpTo_44 : decode cX7_isWordUpTo 44 = .ok (.ireturn, 1) := by decide +kernel
theorem dX7_isWordUpTo_45 : decode cX7_isWordUpTo 45 = .ok (.iinc 3 1, 3) := by decide +kernel
theorem dX7_isWordUpTo_48 : decode cX7_isWordUpTo 48 = .ok (.goto (-31), 3) := by decide +kernel
theorem dX7_isWordUpTo_51 : decode cX7_isWordUpTo 51 = .ok (.iconst 1, 1) := by decide +kernel
theorem dX7_isWordUpTo_52 : decode cX7_isWordUpTo 52 = .ok (.ireturn, 1) := by decide +kernel
theorem dJ0_length_8abf5_0 : decode cJ0_length_8abf5 0 = .ok (.aload_n 0, 1) := by decide +kernel
theorem dJ0_length_8abf5_1 : decode cJ0_length_8abf5 1 = .ok (.getfield 9, 3) := by decide +kernel
theorem dJ0_length_8abf5_4 : decode cJ0_length_8abf5 4 = .ok (.arraylength, 1) := by decide +kernel
theorem dJ0_length_8abf5_5 : decode cJ0_length_8abf5 5 = .ok (.aload_n 0, 1) := by decide +kernel
theorem dJ0_length_8abf5_6 : decode cJ0_length_8abf5 6 = .ok (.invokevirtual 335, 3) := by decide +kernel
theorem dJ0_length_8abf5_9 : decode cJ0_length_8abf5 9 = .ok (.ishr, 1) := by decide +kernel
theorem dJ0_length_8abf5_10 : decode cJ0_length_8abf5 10 = .ok (.ireturn, 1) := by decide +kernel
theorem dJ0_charAt_5068e_0 : decode cJ0_charAt_5068e 0 = .ok (.aload_n 0, 1) := by decide +kernel
theorem dJ0_charAt_5068e_1 : decode cJ0_charAt_5068e 1 = .ok (.invokevirtual 492, 3) := by decide +kernel
theorem dJ0_charAt_5068e_4 : decode cJ0_charAt_5068e 4 = .ok (.ifCond .eq 12, 3) := by decide +kernel
theorem dJ0_charAt_5068e_7 : decode cJ0_charAt_5068e 7 = .ok (.aload_n 0, 1) := by decide +kernel
theorem dJ0_charAt_5068e_8 : decode cJ0_charAt_5068e 8 = .ok (.getfield 9, 3) := by decide +kernel
theorem dJ0_charAt_5068e_11 : decode cJ0_charAt_5068e 11 = .ok (.iload_n 1, 1) := by decide +kernel
theorem dJ0_charAt_5068e_12 : decode cJ0_charAt_5068e 12 = .ok (.invokestatic 495, 3) := by decide +kernel
theorem dJ0_charAt_5068e_15 : decode cJ0_charAt_5068e 15 = .ok (.ireturn, 1) := by decide +kernel
theorem dJ0_charAt_5068e_16 : decode cJ0_charAt_5068e 16 = .ok (.aload_n 0, 1) := by decide +kernel
theorem dJ0_charAt_5068e_17 : decode cJ0_charAt_5068e 17 = .ok (.getfield 9, 3) := by decide +kernel
theorem dJ0_charAt_5068e_20 : decode cJ0_charAt_5068e 20 = .ok (.iload_n 1, 1) := by decide +kernel
theorem dJ0_charAt_5068e_21 : decode cJ0_charAt_5068e 21 = .ok (.invokestatic 498, 3) := by decide +kernel
theorem dJ0_charAt_5068e_24 : decode cJ0_charAt_5068e 24 = .ok (.ireturn, 1) := by decide +kernel
theorem dJ0_coder_7d493_0 : decode cJ0_coder_7d493 0 = .ok (.getstatic 38, 3) := by decide +kernel
theorem dJ0_coder_7d493_3 : decode cJ0_coder_7d493 3 = .ok (.ifCond .eq 10, 3) := by decide +kernel
theorem dJ0_coder_7d493_6 : decode cJ0_coder_7d493 6 = .ok (.aload_n 0, 1) := by decide +kernel
theorem dJ0_coder_7d493_7 : decode cJ0_coder_7d493 7 = .ok (.getfield 15, 3) := by decide +kernel
theorem dJ0_coder_7d493_10 : decode cJ0_coder_7d493 10 = .ok (.goto 4, 3) := by decide +kernel
theorem dJ0_coder_7d493_13 : decode cJ0_coder_7d493 13 = .ok (.iconst 1, 1) := by decide +kernel
theorem dJ0_coder_7d493_14 : decode cJ0_coder_7d493 14 = .ok (.ireturn, 1) := by decide +kernel
theorem dJ0_isLatin1_aae02_0 : decode cJ0_isLatin1_aae02 0 = .ok (.getstatic 38, 3) := by decide +kernel
theorem dJ0_isLatin1_aae02_3 : decode cJ0_isLatin1_aae02 3 = .ok (.ifCond .eq 14, 3) := by decide +kernel
theorem dJ0_isLatin1_aae02_6 : decode cJ0_isLatin1_aae02 6 = .ok (.aload_n 0, 1) := by decide +kernel
theorem dJ0_isLatin1_aae02_7 : decode cJ0_isLatin1_aae02 7 = .ok (.getfield 15, 3) := by decide +kernel
theorem dJ0_isLatin1_aae02_10 : decode cJ0_isLatin1_aae02 10 = .ok (.ifCond .ne 7, 3) := by decide +kernel
theorem dJ0_isLatin1_aae02_13 : decode cJ0_isLatin1_aae02 13 = .ok (.iconst 1, 1) := by decide +kernel
theorem dJ0_isLatin1_aae02_14 : decode cJ0_isLatin1_aae02 14 = .ok (.goto 4, 3) := by decide +kernel
theorem dJ0_isLatin1_aae02_17 : decode cJ0_isLatin1_aae02 17 = .ok (.iconst 0, 1) := by decide +kernel
theorem dJ0_isLatin1_aae02_18 : decode cJ0_isLatin1_aae02 18 = .ok (.ireturn, 1) := by decide +kernel
theorem dJ0_checkIndex_df160_0 : decode cJ0_checkIndex_df160 0 = .ok (.iload_n 0, 1) := by decide +kernel
theorem dJ0_checkIndex_df160_1 : decode cJ0_checkIndex_df160 1 = .ok (.iload_n 1, 1) := by decide +kernel
theorem dJ0_checkIndex_df160_2 : decode cJ0_checkIndex_df160 2 = .ok (.getstatic 1053, 3) := by decide +kernel
theorem dJ0_checkIndex_df160_5 : decode cJ0_checkIndex_df160 5 = .ok (.invokestatic 1059, 3) := by decide +kernel
theorem dJ0_checkIndex_df160_8 : decode cJ0_checkIndex_df160 8 = .ok (.pop, 1) := by decide +kernel
theorem dJ0_checkIndex_df160_9 : decode cJ0_checkIndex_df160 9 = .ok (.return_, 1) := by decide +kernel
theorem dJ1_charAt_3b067_0 : decode cJ1_charAt_3b067 0 = .ok (.iload_n 1, 1) := by decide +kernel
theorem dJ1_charAt_3b067_1 : decode cJ1_charAt_3b067 1 = .ok (.aload_n 0, 1) := by decide +kernel
theorem dJ1_charAt_3b067_2 : decode cJ1_charAt_3b067 2 = .ok (.arraylength, 1) := by decide +kernel
theorem dJ1_charAt_3b067_3 : decode cJ1_charAt_3b067 3 = .ok (.invokestatic 9, 3) := by decide +kernel
theorem dJ1_charAt_3b067_6 : decode cJ1_charAt_3b067 6 = .ok (.aload_n 0, 1) := by decide +kernel
theorem dJ1_charAt_3b067_7 : decode cJ1_charAt_3b067 7 = .ok (.iload_n 1, 1) := by decide +kernel
theorem dJ1_charAt_3b067_8 : decode cJ1_charAt_3b067 8 = .ok (.baload, 1) := by decide +kernel
theorem dJ1_charAt_3b067_9 : decode cJ1_charAt_3b067 9 = .ok (.sipush 255, 3) := by decide +kernel
theorem dJ1_charAt_3b067_12 : decode cJ1_charAt_3b067 12 = .ok (.iand, 1) := by decide +kernel
theorem dJ1_charAt_3b067_13 : decode cJ1_charAt_3b067 13 = .ok (.i2c, 1) := by decide +kernel
theorem dJ1_charAt_3b067_14 : decode cJ1_charAt_3b067 14 = .ok (.ireturn, 1) := by decide +kernel
theorem dJ2_getChar_3b067_0 : decode cJ2_getChar_3b067 0 = .ok (.getstatic 44, 3) := by decide +kernel
theorem dJ2_getChar_3b067_3 : decode cJ2_getChar_3b067 3 = .ok (.ifCond .ne 25, 3) := by decide +kernel
theorem dJ2_getChar_3b067_6 : decode cJ2_getChar_3b067 6 = .ok (.iload_n 1, 1) := by decide +kernel
theorem dJ2_getChar_3b067_7 : decode cJ2_getChar_3b067 7 = .ok (.ifCond .lt 11, 3) := by decide +kernel
theorem dJ2_getChar_3b067_10 : decode cJ2_getChar_3b067 10 = .ok (.iload_n 1, 1) := by decide +kernel
theorem dJ2_getChar_3b067_11 : decode cJ2_getChar_3b067 11 = .ok (.aload_n 0, 1) := by decide +kernel
theorem dJ2_getChar_3b067_12 : decode cJ2_getChar_3b067 12 = .ok (.invokestatic 48, 3) := by decide +kernel
theorem dJ2_getChar_3b067_15 : decode cJ2_getChar_3b067 15 = .ok (.if_icmp .lt 13, 3) := by decide +kernel
theorem dJ2_getChar_3b067_18 : decode cJ2_getChar_3b067 18 = .ok (.new 52, 3) := by decide +kernel
theorem dJ2_getChar_3b067_21 : decode cJ2_getChar_3b067 21 = .ok (.dup, 1) := by decide +kernel
theorem dJ2_getChar_3b067_22 : decode cJ2_getChar_3b067 22 = .ok (.ldc 54, 2) := by decide +kernel
theorem dJ2_getChar_3b067_24 : decode cJ2_getChar_3b067 24 = .ok (.invokespecial 56, 3) := by decide +kernel
theorem dJ2_getChar_3b067_27 : decode cJ2_getChar_3b067 27 = .ok (.athrow, 1) := by decide +kernel
theorem dJ2_getChar_3b067_28 : decode cJ2_getChar_3b067 28 = .ok (.iload_n 1, 1) := by decide +kernel
theorem dJ2_getChar_3b067_29 : decode cJ2_getChar_3b067 29 = .ok (.iconst 1, 1) := by decide +kernel
theorem dJ2_getChar_3b067_30 : decode cJ2_getChar_3b067 30 = .ok (.ishl, 1) := by decide +kernel
theorem dJ2_getChar_3b067_31 : decode cJ2_getChar_3b067 31 = .ok (.istore_n 1, 1) := by decide +kernel
theorem dJ2_getChar_3b067_32 : decode cJ2_getChar_3b067 32 = .ok (.aload_n 0, 1) := by decide +kernel
theorem dJ2_getChar_3b067_33 : decode cJ2_getChar_3b067 33 = .ok (.iload_n 1, 1) := by decide +kernel
theorem dJ2_getChar_3b067_34 : decode cJ2_getChar_3b067 34 = .ok (.iinc 1 1, 3) := by decide +kernel
theorem dJ2_getChar_3b067_37 : decode cJ2_getChar_3b067 37 = .ok (.baload, 1) := by decide +kernel
theorem dJ2_getChar_3b067_38 : decode cJ2_getChar_3b067 38 = .ok (.sipush 255, 3) := by decide +kernel
theorem dJ2_getChar_3b067_41 : decode cJ2_getChar_3b067 41 = .ok (.iand, 1) := by decide +kernel
theorem dJ2_getChar_3b067_42 : decode cJ2_getChar_3b067 42 = .ok (.getstatic 59, 3) := by decide +kernel
theorem dJ2_getChar_3b067_45 : decode cJ2_getChar_3b067 45 = .ok (.ishl, 1) := by decide +kernel
theorem dJ2_getChar_3b067_46 : decode cJ2_getChar_3b067 46 = .ok (.aload_n 0, 1) := by decide +kernel
theorem dJ2_getChar_3b067_47 : decode cJ2_getChar_3b067 47 = .ok (.iload_n 1, 1) := by decide +kernel
theorem dJ2_getChar_3b067_48 : decode cJ2_getChar_3b067 48 = .ok (.baload, 1) := by decide +kernel
theorem dJ2_getChar_3b067_49 : decode cJ2_getChar_3b067 49 = .ok (.sipush 255, 3) := by decide +kernel
theorem dJ2_getChar_3b067_52 : decode cJ2_getChar_3b067 52 = .ok (.iand, 1) := by decide +kernel
theorem dJ2_getChar_3b067_53 : decode cJ2_getChar_3b067 53 = .ok (.getstatic 63, 3) := by decide +kernel
theorem dJ2_getChar_3b067_56 : decode cJ2_getChar_3b067 56 = .ok (.ishl, 1) := by decide +kernel
theorem dJ2_getChar_3b067_57 : decode cJ2_getChar_3b067 57 = .ok (.ior, 1) := by decide +kernel
theorem dJ2_getChar_3b067_58 : decode cJ2_getChar_3b067 58 = .ok (.i2c, 1) := by decide +kernel
theorem dJ2_getChar_3b067_59 : decode cJ2_getChar_3b067 59 = .ok (.ireturn, 1) := by decide +kernel
theorem dJ2_length_9d52b_0 : decode cJ2_length_9d52b 0 = .ok (.aload_n 0, 1) := by decide +kernel
theorem dJ2_length_9d52b_1 : decode cJ2_length_9d52b 1 = .ok (.arraylength, 1) := by decide +kernel
theorem dJ2_length_9d52b_2 : decode cJ2_length_9d52b 2 = .ok (.iconst 1, 1) := by decide +kernel
theorem dJ2_length_9d52b_3 : decode cJ2_length_9d52b 3 = .ok (.ishr, 1) := by decide +kernel
theorem dJ2_length_9d52b_4 : decode cJ2_length_9d52b 4 = .ok (.ireturn, 1) := by decide +kernel
theorem dJ2_charAt_3b067_0 : decode cJ2_charAt_3b067 0 = .ok (.iload_n 1, 1) := by decide +kernel
theorem dJ2_charAt_3b067_1 : decode cJ2_charAt_3b067 1 = .ok (.aload_n 0, 1) := by decide +kernel
theorem dJ2_charAt_3b067_2 : decode cJ2_charAt_3b067 2 = .ok (.invokestatic 67, 3) := by decide +kernel
theorem dJ2_charAt_3b067_5 : decode cJ2_charAt_3b067 5 = .ok (.aload_n 0, 1) := by decide +kernel
theorem dJ2_charAt_3b067_6 : decode cJ2_charAt_3b067 6 = .ok (.iload_n 1, 1) := by decide +kernel
theorem dJ2_charAt_3b067_7 : decode cJ2_charAt_3b067 7 = .ok (.invokestatic 71, 3) := by decide +kernel
theorem dJ2_charAt_3b067_10 : decode cJ2_charAt_3b067 10 = .ok (.ireturn, 1) := by decide +kernel
theorem dJ2_checkIndex_2214a_0 : decode cJ2_checkIndex_2214a 0 = .ok (.iload_n 0, 1) := by decide +kernel
theorem dJ2_checkIndex_2214a_1 : decode cJ2_checkIndex_2214a 1 = .ok (.aload_n 1, 1) := by decide +kernel
theorem dJ2_checkIndex_2214a_2 : decode cJ2_checkIndex_2214a 2 = .ok (.invokestatic 48, 3) := by decide +kernel
theorem dJ2_checkIndex_2214a_5 : decode cJ2_checkIndex_2214a 5 = .ok (.invokestatic 414, 3) := by decide +kernel
theorem dJ2_checkIndex_2214a_8 : decode cJ2_checkIndex_2214a 8 = .ok (.return_, 1) := by decide +kernel
theorem dJ3_checkIndex_8e157_0 : decode cJ3_checkIndex_8e157 0 = .ok (.iload_n 0, 1) := by decide +kernel
theorem dJ3_checkIndex_8e157_1 : decode cJ3_checkIndex_8e157 1 = .ok (.ifCond .lt 8, 3) := by decide +kernel
theorem dJ3_checkIndex_8e157_4 : decode cJ3_checkIndex_8e157 4 = .ok (.iload_n 0, 1) := by decide +kernel
theorem dJ3_checkIndex_8e157_5 : decode cJ3_checkIndex_8e157 5 = .ok (.iload_n 1, 1) := by decide +kernel
theorem dJ3_checkIndex_8e157_6 : decode cJ3_checkIndex_8e157 6 = .ok (.if_icmp .lt 10, 3) := by decide +kernel
theorem dJ3_checkIndex_8e157_9 : decode cJ3_checkIndex_8e157 9 = .ok (.aload_n 2, 1) := by decide +kernel
theorem dJ3_checkIndex_8e157_10 : decode cJ3_checkIndex_8e157 10 = .ok (.iload_n 0, 1) := by decide +kernel
theorem dJ3_checkIndex_8e157_11 : decode cJ3_checkIndex_8e157 11 = .ok (.iload_n 1, 1) := by decide +kernel
theorem dJ3_checkIndex_8e157_12 : decode cJ3_checkIndex_8e157 12 = .ok (.invokestatic 95, 3) := by decide +kernel
theorem dJ3_checkIndex_8e157_15 : decode cJ3_checkIndex_8e157 15 = .ok (.athrow, 1) := by decide +kernel
theorem dJ3_checkIndex_8e157_16 : decode cJ3_checkIndex_8e157 16 = .ok (.iload_n 0, 1) := by decide +kernel
theorem dJ3_checkIndex_8e157_17 : decode cJ3_checkIndex_8e157 17 = .ok (.ireturn, 1) := by decide +kernel
theorem dJ9_max_7cf53_0 : decode cJ9_max_7cf53 0 = .ok (.iload_n 0, 1) := by decide +kernel
theorem dJ9_max_7cf53_1 : decode cJ9_max_7cf53 1 = .ok (.iload_n 1, 1) := by decide +kernel
theorem dJ9_max_7cf53_2 : decode cJ9_max_7cf53 2 = .ok (.if_icmp .lt 7, 3) := by decide +kernel
theorem dJ9_max_7cf53_5 : decode cJ9_max_7cf53 5 = .ok (.iload_n 0, 1) := by decide +kernel
theorem dJ9_max_7cf53_6 : decode cJ9_max_7cf53 6 = .ok (.goto 4, 3) := by decide +kernel
theorem dJ9_max_7cf53_9 : decode cJ9_max_7cf53 9 = .ok (.iload_n 1, 1) := by decide +kernel
theorem dJ9_max_7cf53_10 : decode cJ9_max_7cf53 10 = .ok (.ireturn, 1) := by decide +kernel
theorem dJ9_min_7cf53_0 : decode cJ9_min_7cf53 0 = .ok (.iload_n 0, 1) := by decide +kernel
theorem dJ9_min_7cf53_1 : decode cJ9_min_7cf53 1 = .ok (.iload_n 1, 1) := by decide +kernel
theorem dJ9_min_7cf53_2 : decode cJ9_min_7cf53 2 = .ok (.if_icmp .gt 7, 3) := by decide +kernel
theorem dJ9_min_7cf53_5 : decode cJ9_min_7cf53 5 = .ok (.iload_n 0, 1) := by decide +kernel
theorem dJ9_min_7cf53_6 : decode cJ9_min_7cf53 6 = .ok (.goto 4, 3) := by decide +kernel
theorem dJ9_min_7cf53_9 : decode cJ9_min_7cf53 9 = .ok (.iload_n 1, 1) := by decide +kernel
theorem dJ9_min_7cf53_10 : decode cJ9_min_7cf53 10 = .ok (.ireturn, 1) := by decide +kernel
