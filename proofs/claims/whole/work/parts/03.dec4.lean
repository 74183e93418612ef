theorem dX7_shut_68 : decode cX7_shut 68 = .ok (.iconst 1, 1) := by decide +kernel
theorem dX7_shut_69 : decode cX7_shut 69 = .ok (.ireturn, 1) := by decide +kernel
theorem dX7_power_0 : decode cX7_power 0 = .ok (.aload_n 0, 1) := by decide +kernel
theorem dX7_power_1 : decode cX7_power 1 = .ok (.iload_n 1, 1) := by decide +kernel
theorem dX7_power_2 : decode cX7_power 2 = .ok (.invokevirtual 112, 3) := by decide +kernel
theorem dX7_power_5 : decode cX7_power 5 = .ok (.ifCond .eq 13, 3) := by decide +kernel
theorem dX7_power_8 : decode cX7_power 8 = .ok (.aload_n 0, 1) := by decide +kernel
theorem dX7_power_9 : decode cX7_power 9 = .ok (.getfield 28, 3) := by decide +kernel
theorem dX7_power_12 : decode cX7_power 12 = .ok (.iload_n 1, 1) := by decide +kernel
theorem dX7_power_13 : decode cX7_power 13 = .ok (.baload, 1) := by decide +kernel
theorem dX7_power_14 : decode cX7_power 14 = .ok (.iload_n 2, 1) := by decide +kernel
theorem dX7_power_15 : decode cX7_power 15 = .ok (.if_icmp .eq 5, 3) := by decide +kernel
theorem dX7_power_18 : decode cX7_power 18 = .ok (.iconst 0, 1) := by decide +kernel
theorem dX7_power_19 : decode cX7_power 19 = .ok (.ireturn, 1) := by decide +kernel
theorem dX7_power_20 : decode cX7_power 20 = .ok (.aload_n 0, 1) := by decide +kernel
theorem dX7_power_21 : decode cX7_power 21 = .ok (.getfield 28, 3) := by decide +kernel
theorem dX7_power_24 : decode cX7_power 24 = .ok (.iload_n 1, 1) := by decide +kernel
theorem dX7_power_25 : decode cX7_power 25 = .ok (.iload_n 2, 1) := by decide +kernel
theorem dX7_power_26 : decode cX7_power 26 = .ok (.ifCond .ne 7, 3) := by decide +kernel
theorem dX7_power_29 : decode cX7_power 29 = .ok (.iconst 1, 1) := by decide +kernel
theorem dX7_power_30 : decode cX7_power 30 = .ok (.goto 4, 3) := by decide +kernel
theorem dX7_power_33 : decode cX7_power 33 = .ok (.iconst 0, 1) := by decide +kernel
theorem dX7_power_34 : decode cX7_power 34 = .ok (.bastore, 1) := by decide +kernel
theorem dX7_power_35 : decode cX7_power 35 = .ok (.aload_n 0, 1) := by decide +kernel
theorem dX7_power_36 : decode cX7_power 36 = .ok (.getfield 32, 3) := by decide +kernel
theorem dX7_power_39 : decode cX7_power 39 = .ok (.iload_n 1, 1) := by decide +kernel
theorem dX7_power_40 : decode cX7_power 40 = .ok (.iconst 0, 1) := by decide +kernel
theorem dX7_power_41 : decode cX7_power 41 = .ok (.iastore, 1) := by decide +kernel
theorem dX7_power_42 : decode cX7_power 42 = .ok (.iconst 1, 1) := by decide +kernel
theorem dX7_power_43 : decode cX7_power 43 = .ok (.ireturn, 1) := by decide +kernel
theorem dX7_fill_0 : decode cX7_fill 0 = .ok (.aload_n 0, 1) := by decide +kernel
theorem dX7_fill_1 : decode cX7_fill 1 = .ok (.iload_n 1, 1) := by decide +kernel
theorem dX7_fill_2 : decode cX7_fill 2 = .ok (.iload_n 2, 1) := by decide +kernel
theorem dX7_fill_3 : decode cX7_fill 3 = .ok (.invokevirtual 123, 3) := by decide +kernel
theorem dX7_fill_6 : decode cX7_fill 6 = .ok (.ifCond .ne 9, 3) := by decide +kernel
theorem dX7_fill_9 : decode cX7_fill 9 = .ok (.aload_n 0, 1) := by decide +kernel
theorem dX7_fill_10 : decode cX7_fill 10 = .ok (.iconst (-1), 1) := by decide +kernel
theorem dX7_fill_11 : decode cX7_fill 11 = .ok (.invokevirtual 116, 3) := by decide +kernel
theorem dX7_fill_14 : decode cX7_fill 14 = .ok (.ireturn, 1) := by decide +kernel
theorem dX7_fill_15 : decode cX7_fill 15 = .ok (.bipush 8, 2) := by decide +kernel
theorem dX7_fill_17 : decode cX7_fill 17 = .ok (.iload_n 1, 1) := by decide +kernel
theorem dX7_fill_18 : decode cX7_fill 18 = .ok (.imul, 1) := by decide +kernel
theorem dX7_fill_19 : decode cX7_fill 19 = .ok (.iload_n 2, 1) := by decide +kernel
theorem dX7_fill_20 : decode cX7_fill 20 = .ok (.iadd, 1) := by decide +kernel
theorem dX7_fill_21 : decode cX7_fill 21 = .ok (.istore 4, 2) := by decide +kernel
theorem dX7_fill_23 : decode cX7_fill 23 = .ok (.aload_n 0, 1) := by decide +kernel
theorem dX7_fill_24 : decode cX7_fill 24 = .ok (.getfield 62, 3) := by decide +kernel
theorem dX7_fill_27 : decode cX7_fill 27 = .ok (.iload 4, 2) := by decide +kernel
theorem dX7_fill_29 : decode cX7_fill 29 = .ok (.baload, 1) := by decide +kernel
theorem dX7_fill_30 : decode cX7_fill 30 = .ok (.ifCond .eq 10, 3) := by decide +kernel
theorem dX7_fill_33 : decode cX7_fill 33 = .ok (.aload_n 0, 1) := by decide +kernel
theorem dX7_fill_34 : decode cX7_fill 34 = .ok (.bipush (-3), 2) := by decide +kernel
theorem dX7_fill_36 : decode cX7_fill 36 = .ok (.invokevirtual 116, 3) := by decide +kernel
theorem dX7_fill_39 : decode cX7_fill 39 = .ok (.ireturn, 1) := by decide +kernel
theorem dX7_fill_40 : decode cX7_fill 40 = .ok (.iload_n 3, 1) := by decide +kernel
theorem dX7_fill_41 : decode cX7_fill 41 = .ok (.ifCond .ge 10, 3) := by decide +kernel
theorem dX7_fill_44 : decode cX7_fill 44 = .ok (.aload_n 0, 1) := by decide +kernel
theorem dX7_fill_45 : decode cX7_fill 45 = .ok (.bipush (-4), 2) := by decide +kernel
theorem dX7_fill_47 : decode cX7_fill 47 = .ok (.invokevirtual 116, 3) := by decide +kernel
theorem dX7_fill_50 : decode cX7_fill 50 = .ok (.ireturn, 1) := by decide +kernel
theorem dX7_fill_51 : decode cX7_fill 51 = .ok (.iload_n 3, 1) := by decide +kernel
theorem dX7_fill_52 : decode cX7_fill 52 = .ok (.aload_n 0, 1) := by decide +kernel
theorem dX7_fill_53 : decode cX7_fill 53 = .ok (.getfield 41, 3) := by decide +kernel
theorem dX7_fill_56 : decode cX7_fill 56 = .ok (.iload 4, 2) := by decide +kernel
theorem dX7_fill_58 : decode cX7_fill 58 = .ok (.iaload, 1) := by decide +kernel
theorem dX7_fill_59 : decode cX7_fill 59 = .ok (.aload_n 0, 1) := by decide +kernel
theorem dX7_fill_60 : decode cX7_fill 60 = .ok (.getfield 44, 3) := by decide +kernel
theorem dX7_fill_63 : decode cX7_fill 63 = .ok (.iload 4, 2) := by decide +kernel
theorem dX7_fill_65 : decode cX7_fill 65 = .ok (.iaload, 1) := by decide +kernel
theorem dX7_fill_66 : decode cX7_fill 66 = .ok (.isub, 1) := by decide +kernel
theorem dX7_fill_67 : decode cX7_fill 67 = .ok (.if_icmp .le 10, 3) := by decide +kernel
theorem dX7_fill_70 : decode cX7_fill 70 = .ok (.aload_n 0, 1) := by decide +kernel
theorem dX7_fill_71 : decode cX7_fill 71 = .ok (.bipush (-6), 2) := by decide +kernel
theorem dX7_fill_73 : decode cX7_fill 73 = .ok (.invokevirtual 116, 3) := by decide +kernel
theorem dX7_fill_76 : decode cX7_fill 76 = .ok (.ireturn, 1) := by decide +kernel
theorem dX7_fill_77 : decode cX7_fill 77 = .ok (.aload_n 0, 1) := by decide +kernel
theorem dX7_fill_78 : decode cX7_fill 78 = .ok (.getfield 44, 3) := by decide +kernel
theorem dX7_fill_81 : decode cX7_fill 81 = .ok (.iload 4, 2) := by decide +kernel
theorem dX7_fill_83 : decode cX7_fill 83 = .ok (.dup2, 1) := by decide +kernel
theorem dX7_fill_84 : decode cX7_fill 84 = .ok (.iaload, 1) := by decide +kernel
theorem dX7_fill_85 : decode cX7_fill 85 = .ok (.iload_n 3, 1) := by decide +kernel
theorem dX7_fill_86 : decode cX7_fill 86 = .ok (.iadd, 1) := by decide +kernel
theorem dX7_fill_87 : decode cX7_fill 87 = .ok (.iastore, 1) := by decide +kernel
theorem dX7_fill_88 : decode cX7_fill 88 = .ok (.aload_n 0, 1) := by decide +kernel
theorem dX7_fill_89 : decode cX7_fill 89 = .ok (.getfield 83, 3) := by decide +kernel
theorem dX7_fill_92 : decode cX7_fill 92 = .ok (.iload_n 1, 1) := by decide +kernel
theorem dX7_fill_93 : decode cX7_fill 93 = .ok (.dup2, 1) := by decide +kernel
theorem dX7_fill_94 : decode cX7_fill 94 = .ok (.iaload, 1) := by decide +kernel
theorem dX7_fill_95 : decode cX7_fill 95 = .ok (.iload_n 3, 1) := by decide +kernel
theorem dX7_fill_96 : decode cX7_fill 96 = .ok (.iadd, 1) := by decide +kernel
theorem dX7_fill_97 : decode cX7_fill 97 = .ok (.iastore, 1) := by decide +kernel
theorem dX7_fill_98 : decode cX7_fill 98 = .ok (.aload_n 0, 1) := by decide +kernel
theorem dX7_fill_99 : decode cX7_fill 99 = .ok (.getfield 44, 3) := by decide +kernel
theorem dX7_fill_102 : decode cX7_fill 102 = .ok (.iload 4, 2) := by decide +kernel
theorem dX7_fill_104 : decode cX7_fill 104 = .ok (.iaload, 1) := by decide +kernel
theorem dX7_fill_105 : decode cX7_fill 105 = .ok (.ireturn, 1) := by decide +kernel
theorem dX7_found_0 : decode cX7_found 0 = .ok (.aload_n 0, 1) := by decide +kernel
theorem dX7_found_1 : decode cX7_found 1 = .ok (.iload_n 1, 1) := by decide +kernel
theorem dX7_found_2 : decode cX7_found 2 = .ok (.iload_n 2, 1) := by decide +kernel
theorem dX7_found_3 : decode cX7_found 3 = .ok (.invokevirtual 123, 3) := by decide +kernel
theorem dX7_found_6 : decode cX7_found 6 = .ok (.ifCond .ne 9, 3) := by decide +kernel
theorem dX7_found_9 : decode cX7_found 9 = .ok (.aload_n 0, 1) := by decide +kernel
theorem dX7_found_10 : decode cX7_found 10 = .ok (.iconst (-1), 1) := by decide +kernel
theorem dX7_found_11 : decode cX7_found 11 = .ok (.invokevirtual 116, 3) := by decide +kernel
theorem dX7_found_14 : decode cX7_found 14 = .ok (.ireturn, 1) := by decide +kernel
theorem dX7_found_15 : decode cX7_found 15 = .ok (.bipush 8, 2) := by decide +kernel
theorem dX7_found_17 : decode cX7_found 17 = .ok (.iload_n 1, 1) := by decide +kernel
theorem dX7_found_18 : decode cX7_found 18 = .ok (.imul, 1) := by decide +kernel
theorem dX7_found_19 : decode cX7_found 19 = .ok (.iload_n 2, 1) := by decide +kernel
theorem dX7_found_20 : decode cX7_found 20 = .ok (.iadd, 1) := by decide +kernel
theorem dX7_found_21 : decode cX7_found 21 = .ok (.istore 4, 2) := by decide +kernel
theorem dX7_found_23 : decode cX7_found 23 = .ok (.iload_n 3, 1) := by decide +kernel
theorem dX7_found_24 : decode cX7_found 24 = .ok (.ifCond .ge 10, 3) := by decide +kernel
theorem dX7_found_27 : decode cX7_found 27 = .ok (.aload_n 0, 1) := by decide +kernel
theorem dX7_found_28 : decode cX7_found 28 = .ok (.bipush (-4), 2) := by decide +kernel
theorem dX7_found_30 : decode cX7_found 30 = .ok (.invokevirtual 116, 3) := by decide +kernel
theorem dX7_found_33 : decode cX7_found 33 = .ok (.ireturn, 1) := by decide +kernel
theorem dX7_found_34 : decode cX7_found 34 = .ok (.iload_n 3, 1) := by decide +kernel
theorem dX7_found_35 : decode cX7_found 35 = .ok (.aload_n 0, 1) := by decide +kernel
theorem dX7_found_36 : decode cX7_found 36 = .ok (.getfield 41, 3) := by decide +kernel
theorem dX7_found_39 : decode cX7_found 39 = .ok (.iload 4, 2) := by decide +kernel
theorem dX7_found_41 : decode cX7_found 41 = .ok (.iaload, 1) := by decide +kernel
theorem dX7_found_42 : decode cX7_found 42 = .ok (.if_icmp .le 10, 3) := by decide +kernel
theorem dX7_found_45 : decode cX7_found 45 = .ok (.aload_n 0, 1) := by decide +kernel
theorem dX7_found_46 : decode cX7_found 46 = .ok (.bipush (-6), 2) := by decide +kernel
theorem dX7_found_48 : decode cX7_found 48 = .ok (.invokevirtual 116, 3) := by decide +kernel
theorem dX7_found_51 : decode cX7_found 51 = .ok (.ireturn, 1) := by decide +kernel
theorem dX7_found_52 : decode cX7_found 52 = .ok (.aload_n 0, 1) := by decide +kernel
theorem dX7_found_53 : decode cX7_found 53 = .ok (.getfield 44, 3) := by decide +kernel
theorem dX7_found_56 : decode cX7_found 56 = .ok (.iload 4, 2) := by decide +kernel
theorem dX7_found_58 : decode cX7_found 58 = .ok (.iaload, 1) := by decide +kernel
theorem dX7_found_59 : decode cX7_found 59 = .ok (.istore 5, 2) := by decide +kernel
theorem dX7_found_61 : decode cX7_found 61 = .ok (.aload_n 0, 1) := by decide +kernel
theorem dX7_found_62 : decode cX7_found 62 = .ok (.getfield 74, 3) := by decide +kernel
theorem dX7_found_65 : decode cX7_found 65 = .ok (.iload_n 1, 1) := by decide +kernel
theorem dX7_found_66 : decode cX7_found 66 = .ok (.dup2, 1) := by decide +kernel
theorem dX7_found_67 : decode cX7_found 67 = .ok (.iaload, 1) := by decide +kernel
theorem dX7_found_68 : decode cX7_found 68 = .ok (.iload 5, 2) := by decide +kernel
theorem dX7_found_70 : decode cX7_found 70 = .ok (.iload_n 3, 1) := by decide +kernel
theorem dX7_found_71 : decode cX7_found 71 = .ok (.isub, 1) := by decide +kernel
theorem dX7_found_72 : decode cX7_found 72 = .ok (.iadd, 1) := by decide +kernel
theorem dX7_found_73 : decode cX7_found 73 = .ok (.iastore, 1) := by decide +kernel
theorem dX7_found_74 : decode cX7_found 74 = .ok (.aload_n 0, 1) := by decide +kernel
theorem dX7_found_75 : decode cX7_found 75 = .ok (.getfield 44, 3) := by decide +kernel
theorem dX7_found_78 : decode cX7_found 78 = .ok (.iload 4, 2) := by decide +kernel
theorem dX7_found_80 : decode cX7_found 80 = .ok (.iload_n 3, 1) := by decide +kernel
theorem dX7_found_81 : decode cX7_found 81 = .ok (.iastore, 1) := by decide +kernel
theorem dX7_found_82 : decode cX7_found 82 = .ok (.iload 5, 2) := by decide +kernel
theorem dX7_found_84 : decode cX7_found 84 = .ok (.ireturn, 1) := by decide +kernel
theorem dX7_empty_0 : decode cX7_empty 0 = .ok (.aload_n 0, 1) := by decide +kernel
theorem dX7_empty_1 : decode cX7_empty 1 = .ok (.iload_n 1, 1) := by decide +kernel
theorem dX7_empty_2 : decode cX7_empty 2 = .ok (.iload_n 2, 1) := by decide +kernel
theorem dX7_empty_3 : decode cX7_empty 3 = .ok (.invokevirtual 123, 3) := by decide +kernel
theorem dX7_empty_6 : decode cX7_empty 6 = .ok (.ifCond .ne 9, 3) := by decide +kernel
theorem dX7_empty_9 : decode cX7_empty 9 = .ok (.aload_n 0, 1) := by decide +kernel
theorem dX7_empty_10 : decode cX7_empty 10 = .ok (.iconst (-1), 1) := by decide +kernel
theorem dX7_empty_11 : decode cX7_empty 11 = .ok (.invokevirtual 116, 3) := by decide +kernel
theorem dX7_empty_14 : decode cX7_empty 14 = .ok (.ireturn, 1) := by decide +kernel
theorem dX7_empty_15 : decode cX7_empty 15 = .ok (.bipush 8, 2) := by decide +kernel
theorem dX7_empty_17 : decode cX7_empty 17 = .ok (.iload_n 1, 1) := by decide +kernel
theorem dX7_empty_18 : decode cX7_empty 18 = .ok (.imul, 1) := by decide +kernel
theorem dX7_empty_19 : decode cX7_empty 19 = .ok (.iload_n 2, 1) := by decide +kernel
theorem dX7_empty_20 : decode cX7_empty 20 = .ok (.iadd, 1) := by decide +kernel
theorem dX7_empty_21 : decode cX7_empty 21 = .ok (.istore_n 3, 1) := by decide +kernel
theorem dX7_empty_22 : decode cX7_empty 22 = .ok (.aload_n 0, 1) := by decide +kernel
theorem dX7_empty_23 : decode cX7_empty 23 = .ok (.getfield 44, 3) := by decide +kernel
theorem dX7_empty_26 : decode cX7_empty 26 = .ok (.iload_n 3, 1) := by decide +kernel
theorem dX7_empty_27 : decode cX7_empty 27 = .ok (.iaload, 1) := by decide +kernel
theorem dX7_empty_28 : decode cX7_empty 28 = .ok (.istore 4, 2) := by decide +kernel
theorem dX7_empty_30 : decode cX7_empty 30 = .ok (.aload_n 0, 1) := by decide +kernel
theorem dX7_empty_31 : decode cX7_empty 31 = .ok (.getfield 77, 3) := by decide +kernel
theorem dX7_empty_34 : decode cX7_empty 34 = .ok (.iload_n 1, 1) := by decide +kernel
theorem dX7_empty_35 : decode cX7_empty 35 = .ok (.dup2, 1) := by decide +kernel
theorem dX7_empty_36 : decode cX7_empty 36 = .ok (.iaload, 1) := by decide +kernel
theorem dX7_empty_37 : decode cX7_empty 37 = .ok (.iload 4, 2) := by decide +kernel
theorem dX7_empty_39 : decode cX7_empty 39 = .ok (.iadd, 1) := by decide +kernel
theorem dX7_empty_40 : decode cX7_empty 40 = .ok (.iastore, 1) := by decide +kernel
theorem dX7_empty_41 : decode cX7_empty 41 = .ok (.aload_n 0, 1) := by decide +kernel
theorem dX7_empty_42 : decode cX7_empty 42 = .ok (.getfield 44, 3) := by decide +kernel
theorem dX7_empty_45 : decode cX7_empty 45 = .ok (.iload_n 3, 1) := by decide +kernel
theorem dX7_empty_46 : decode cX7_empty 46 = .ok (.iconst 0, 1) := by decide +kernel
theorem dX7_empty_47 : decode cX7_empty 47 = .ok (.iastore, 1) := by decide +kernel
theorem dX7_empty_48 : decode cX7_empty 48 = .ok (.aload_n 0, 1) := by decide +kernel
theorem dX7_empty_49 : decode cX7_empty 49 = .ok (.getfield 62, 3) := by decide +kernel
theorem dX7_empty_52 : decode cX7_empty 52 = .ok (.iload_n 3, 1) := by decide +kernel
theorem dX7_empty_53 : decode cX7_empty 53 = .ok (.iconst 0, 1) := by decide +kernel
theorem dX7_empty_54 : decode cX7_empty 54 = .ok (.bastore, 1) := by decide +kernel
theorem dX7_empty_55 : decode cX7_empty 55 = .ok (.iload 4, 2) := by decide +kernel
theorem dX7_empty_57 : decode cX7_empty 57 = .ok (.ireturn, 1) := by decide +kernel
theorem dX7_nextServes_0 : decode cX7_nextServes 0 = .ok (.bipush 8, 2) := by decide +kernel
theorem dX7_nextServes_2 : decode cX7_nextServes 2 = .ok (.iload_n 1, 1) := by decide +kernel
theorem dX7_nextServes_3 : decode cX7_nextServes 3 = .ok (.imul, 1) := by decide +kernel
theorem dX7_nextServes_4 : decode cX7_nextServes 4 = .ok (.iload_n 2, 1) := by decide +kernel
theorem dX7_nextServes_5 : decode cX7_nextServes 5 = .ok (.iadd, 1) := by decide +kernel
theorem dX7_nextServes_6 : decode cX7_nextServes 6 = .ok (.iconst 1, 1) := by decide +kernel
theorem dX7_nextServes_7 : decode cX7_nextServes 7 = .ok (.iadd, 1) := by decide +kernel
theorem dX7_nextServes_8 : decode cX7_nextServes 8 = .ok (.istore_n 3, 1) := by decide +kernel
theorem dX7_nextServes_9 : decode cX7_nextServes 9 = .ok (.iload_n 2, 1) := by decide +kernel
theorem dX7_nextServes_10 : decode cX7_nextServes 10 = .ok (.iconst 1, 1) := by decide +kernel
theorem dX7_nextServes_11 : decode cX7_nextServes 11 = .ok (.iadd, 1) := by decide +kernel
theorem dX7_nextServes_12 : decode cX7_nextServes 12 = .ok (.aload_n 0, 1) := by decide +kernel
theorem dX7_nextServes_13 : decode cX7_nextServes 13 = .ok (.getfield 7, 3) := by decide +kernel
theorem dX7_nextServes_16 : decode cX7_nextServes 16 = .ok (.iload_n 1, 1) := by decide +kernel
theorem dX7_nextServes_17 : decode cX7_nextServes 17 = .ok (.iaload, 1) := by decide +kernel
theorem dX7_nextServes_18 : decode cX7_nextServes 18 = .ok (.if_icmp .ge 54, 3) := by decide +kernel
theorem dX7_nextServes_21 : decode cX7_nextServes 21 = .ok (.aload_n 0, 1) := by decide +kernel
theorem dX7_nextServes_22 : decode cX7_nextServes 22 = .ok (.getfield 35, 3) := by decide +kernel
theorem dX7_nextServes_25 : decode cX7_nextServes 25 = .ok (.iload_n 3, 1) := by decide +kernel
theorem dX7_nextServes_26 : decode cX7_nextServes 26 = .ok (.iaload, 1) := by decide +kernel
theorem dX7_nextServes_27 : decode cX7_nextServes 27 = .ok (.aload_n 0, 1) := by decide +kernel
theorem dX7_nextServes_28 : decode cX7_nextServes 28 = .ok (.getfield 35, 3) := by decide +kernel
theorem dX7_nextServes_31 : decode cX7_nextServes 31 = .ok (.bipush 8, 2) := by decide +kernel
theorem dX7_nextServes_33 : decode cX7_nextServes 33 = .ok (.iload_n 1, 1) := by decide +kernel
theorem dX7_nextServes_34 : decode cX7_nextServes 34 = .ok (.imul, 1) := by decide +kernel
theorem dX7_nextServes_35 : decode cX7_nextServes 35 = .ok (.iload_n 2, 1) := by decide +kernel
theorem dX7_nextServes_36 : decode cX7_nextServes 36 = .ok (.iadd, 1) := by decide +kernel
theorem dX7_nextServes_37 : decode cX7_nextServes 37 = .ok (.iaload, 1) := by decide +kernel
theorem dX7_nextServes_38 : decode cX7_nextServes 38 = .ok (.if_icmp .ne 34, 3) := by decide +kernel
theorem dX7_nextServes_41 : decode cX7_nextServes 41 = .ok (.aload_n 0, 1) := by decide +kernel
theorem dX7_nextServes_42 : decode cX7_nextServes 42 = .ok (.getfield 44, 3) := by decide +kernel
theorem dX7_nextServes_45 : decode cX7_nextServes 45 = .ok (.iload_n 3, 1) := by decide +kernel
theorem dX7_nextServes_46 : decode cX7_nextServes 46 = .ok (.iaload, 1) := by decide +kernel
theorem dX7_nextServes_47 : decode cX7_nextServes 47 = .ok (.ifCond .le 25, 3) := by decide +kernel
theorem dX7_nextServes_50 : decode cX7_nextServes 50 = .ok (.aload_n 0, 1) := by decide +kernel
theorem dX7_nextServes_51 : decode cX7_nextServes 51 = .ok (.getfield 59, 3) := by decide +kernel
theorem dX7_nextServes_54 : decode cX7_nextServes 54 = .ok (.iload_n 3, 1) := by decide +kernel
theorem dX7_nextServes_55 : decode cX7_nextServes 55 = .ok (.baload, 1) := by decide +kernel
theorem dX7_nextServes_56 : decode cX7_nextServes 56 = .ok (.ifCond .ne 16, 3) := by decide +kernel
theorem dX7_nextServes_59 : decode cX7_nextServes 59 = .ok (.aload_n 0, 1) := by decide +kernel
theorem dX7_nextServes_60 : decode cX7_nextServes 60 = .ok (.getfield 62, 3) := by decide +kernel
theorem dX7_nextServes_63 : decode cX7_nextServes 63 = .ok (.iload_n 3, 1) := by decide +kernel
theorem dX7_nextServes_64 : decode cX7_nextServes 64 = .ok (.baload, 1) := by decide +kernel
theorem dX7_nextServes_65 : decode cX7_nextServes 65 = .ok (.ifCond .ne 7, 3) := by decide +kernel
theorem dX7_nextServes_68 : decode cX7_nextServes 68 = .ok (.iconst 1, 1) := by decide +kernel
theorem dX7_nextServes_69 : decode cX7_nextServes 69 = .ok (.goto 4, 3) := by decide +kernel
theorem dX7_nextServes_72 : decode cX7_nextServes 72 = .ok (.iconst 0, 1) := by decide +kernel
theorem dX7_nextServes_73 : decode cX7_nextServes 73 = .ok (.ireturn, 1) := by decide +kernel
theorem dX7_sells_0 : decode cX7_sells 0 = .ok (.bipush 8, 2) := by decide +kernel
theorem dX7_sells_2 : decode cX7_sells 2 = .ok (.iload_n 1, 1) := by decide +kernel
theorem dX7_sells_3 : decode cX7_sells 3 = .ok (.imul, 1) := by decide +kernel
theorem dX7_sells_4 : decode cX7_sells 4 = .ok (.iload_n 2, 1) := by decide +kernel
theorem dX7_sells_5 : decode cX7_sells 5 = .ok (.iadd, 1) := by decide +kernel
theorem dX7_sells_6 : decode cX7_sells 6 = .ok (.istore_n 3, 1) := by decide +kernel
theorem dX7_sells_7 : decode cX7_sells 7 = .ok (.aload_n 0, 1) := by decide +kernel
theorem dX7_sells_8 : decode cX7_sells 8 = .ok (.getfield 59, 3) := by decide +kernel
theorem dX7_sells_11 : decode cX7_sells 11 = .ok (.iload_n 3, 1) := by decide +kernel
theorem dX7_sells_12 : decode cX7_sells 12 = .ok (.baload, 1) := by decide +kernel
theorem dX7_sells_13 : decode cX7_sells 13 = .ok (.ifCond .ne 12, 3) := by decide +kernel
theorem dX7_sells_16 : decode cX7_sells 16 = .ok (.aload_n 0, 1) := by decide +kernel
theorem dX7_sells_17 : decode cX7_sells 17 = .ok (.getfield 62, 3) := by decide +kernel
theorem dX7_sells_20 : decode cX7_sells 20 = .ok (.iload_n 3, 1) := by decide +kernel
theorem dX7_sells_21 : decode cX7_sells 21 = .ok (.baload, 1) := by decide +kernel
theorem dX7_sells_22 : decode cX7_sells 22 = .ok (.ifCond .eq 5, 3) := by decide +kernel
theorem dX7_sells_25 : decode cX7_sells 25 = .ok (.iconst 0, 1) := by decide +kernel
theorem dX7_sells_26 : decode cX7_sells 26 = .ok (.ireturn, 1) := by decide +kernel
theorem dX7_sells_27 : decode cX7_sells 27 = .ok (.aload_n 0, 1) := by decide +kernel
theorem dX7_sells_28 : decode cX7_sells 28 = .ok (.getfield 44, 3) := by decide +kernel
theorem dX7_sells_31 : decode cX7_sells 31 = .ok (.iload_n 3, 1) := by decide +kernel
theorem dX7_sells_32 : decode cX7_sells 32 = .ok (.iaload, 1) := by decide +kernel
theorem dX7_sells_33 : decode cX7_sells 33 = .ok (.ifCond .gt 22, 3) := by decide +kernel
theorem dX7_sells_36 : decode cX7_sells 36 = .ok (.aload_n 0, 1) := by decide +kernel
theorem dX7_sells_37 : decode cX7_sells 37 = .ok (.getfield 47, 3) := by decide +kernel
theorem dX7_sells_40 : decode cX7_sells 40 = .ok (.iload_n 3, 1) := by decide +kernel
theorem dX7_sells_41 : decode cX7_sells 41 = .ok (.iaload, 1) := by decide +kernel
theorem dX7_sells_42 : decode cX7_sells 42 = .ok (.iconst 3, 1) := by decide +kernel
theorem dX7_sells_43 : decode cX7_sells 43 = .ok (.if_icmp .ne 16, 3) := by decide +kernel
theorem dX7_sells_46 : decode cX7_sells 46 = .ok (.aload_n 0, 1) := by decide +kernel
theorem dX7_sells_47 : decode cX7_sells 47 = .ok (.iload_n 1, 1) := by decide +kernel
theorem dX7_sells_48 : decode cX7_sells 48 = .ok (.iload_n 2, 1) := by decide +kernel
theorem dX7_sells_49 : decode cX7_sells 49 = .ok (.invokevirtual 127, 3) := by decide +kernel
theorem dX7_sells_52 : decode cX7_sells 52 = .ok (.ifCond .eq 7, 3) := by decide +kernel
theorem dX7_sells_55 : decode cX7_sells 55 = .ok (.iconst 1, 1) := by decide +kernel
theorem dX7_sells_56 : decode cX7_sells 56 = .ok (.goto 4, 3) := by decide +kernel
theorem dX7_sells_59 : decode cX7_sells 59 = .ok (.iconst 0, 1) := by decide +kernel
theorem dX7_sells_60 : decode cX7_sells 60 = .ok (.ireturn, 1) := by decide +kernel
theorem dX7_worthIn_0 : decode cX7_worthIn 0 = .ok (.iconst 0, 1) := by decide +kernel
theorem dX7_worthIn_1 : decode cX7_worthIn 1 = .ok (.istore_n 3, 1) := by decide +kernel
theorem dX7_worthIn_2 : decode cX7_worthIn 2 = .ok (.iconst 0, 1) := by decide +kernel
theorem dX7_worthIn_3 : decode cX7_worthIn 3 = .ok (.istore 4, 2) := by decide +kernel
theorem dX7_worthIn_5 : decode cX7_worthIn 5 = .ok (.iload 4, 2) := by decide +kernel
theorem dX7_worthIn_7 : decode cX7_worthIn 7 = .ok (.bipush 6, 2) := by decide +kernel
theorem dX7_worthIn_9 : decode cX7_worthIn 9 = .ok (.if_icmp .ge 27, 3) := by decide +kernel
theorem dX7_worthIn_12 : decode cX7_worthIn 12 = .ok (.iload_n 3, 1) := by decide +kernel
theorem dX7_worthIn_13 : decode cX7_worthIn 13 = .ok (.aload_n 1, 1) := by decide +kernel
theorem dX7_worthIn_14 : decode cX7_worthIn 14 = .ok (.bipush 6, 2) := by decide +kernel
theorem dX7_worthIn_16 : decode cX7_worthIn 16 = .ok (.iload_n 2, 1) := by decide +kernel
theorem dX7_worthIn_17 : decode cX7_worthIn 17 = .ok (.imul, 1) := by decide +kernel
theorem dX7_worthIn_18 : decode cX7_worthIn 18 = .ok (.iload 4, 2) := by decide +kernel
theorem dX7_worthIn_20 : decode cX7_worthIn 20 = .ok (.iadd, 1) := by decide +kernel
theorem dX7_worthIn_21 : decode cX7_worthIn 21 = .ok (.iaload, 1) := by decide +kernel
theorem dX7_worthIn_22 : decode cX7_worthIn 22 = .ok (.iload 4, 2) := by decide +kernel
theorem dX7_worthIn_24 : decode cX7_worthIn 24 = .ok (.invokestatic 130, 3) := by decide +kernel
theorem dX7_worthIn_27 : decode cX7_worthIn 27 = .ok (.imul, 1) := by decide +kernel
theorem dX7_worthIn_28 : decode cX7_worthIn 28 = .ok (.iadd, 1) := by decide +kernel
theorem dX7_worthIn_29 : decode cX7_worthIn 29 = .ok (.istore_n 3, 1) := by decide +kernel
theorem dX7_worthIn_30 : decode cX7_worthIn 30 = .ok (.iinc 4 1, 3) := by decide +kernel
theorem dX7_worthIn_33 : decode cX7_worthIn 33 = .ok (.goto (-28), 3) := by decide +kernel
theorem dX7_worthIn_36 : decode cX7_worthIn 36 = .ok (.iload_n 3, 1) := by decide +kernel
theorem dX7_worthIn_37 : decode cX7_worthIn 37 = .ok (.ireturn, 1) := by decide +kernel
theorem dX7_coinsIn_0 : decode cX7_coinsIn 0 = .ok (.iconst 0, 1) := by decide +kernel
theorem dX7_coinsIn_1 : decode cX7_coinsIn 1 = .ok (.istore_n 2, 1) := by decide +kernel
theorem dX7_coinsIn_2 : decode cX7_coinsIn 2 = .ok (.iconst 0, 1) := by decide +kernel
theorem dX7_coinsIn_3 : decode cX7_coinsIn 3 = .ok (.istore_n 3, 1) := by decide +kernel
theorem dX7_coinsIn_4 : decode cX7_coinsIn 4 = .ok (.iload_n 3, 1) := by decide +kernel
theorem dX7_coinsIn_5 : decode cX7_coinsIn 5 = .ok (.bipush 6, 2) := by decide +kernel
theorem dX7_coinsIn_7 : decode cX7_coinsIn 7 = .ok (.if_icmp .ge 23, 3) := by decide +kernel
theorem dX7_coinsIn_10 : decode cX7_coinsIn 10 = .ok (.iload_n 2, 1) := by decide +kernel
theorem dX7_coinsIn_11 : decode cX7_coinsIn 11 = .ok (.aload_n 0, 1) := by decide +kernel
theorem dX7_coinsIn_12 : decode cX7_coinsIn 12 = .ok (.getfield 19, 3) := by decide +kernel
theorem dX7_coinsIn_15 : decode cX7_coinsIn 15 = .ok (.bipush 6, 2) := by decide +kernel
theorem dX7_coinsIn_17 : decode cX7_coinsIn 17 = .ok (.iload_n 1, 1) := by decide +kernel
theorem dX7_coinsIn_18 : decode cX7_coinsIn 18 = .ok (.imul, 1) := by decide +kernel
theorem dX7_coinsIn_19 : decode cX7_coinsIn 19 = .ok (.iload_n 3, 1) := by decide +kernel
theorem dX7_coinsIn_20 : decode cX7_coinsIn 20 = .ok (.iadd, 1) := by decide +kernel
theorem dX7_coinsIn_21 : decode cX7_coinsIn 21 = .ok (.iaload, 1) := by decide +kernel
theorem dX7_coinsIn_22 : decode cX7_coinsIn 22 = .ok (.iadd, 1) := by decide +kernel
theorem dX7_coinsIn_23 : decode cX7_coinsIn 23 = .ok (.istore_n 2, 1) := by decide +kernel
theorem dX7_coinsIn_24 : decode cX7_coinsIn 24 = .ok (.iinc 3 1, 3) := by decide +kernel
theorem dX7_coinsIn_27 : decode cX7_coinsIn 27 = .ok (.goto (-23), 3) := by decide +kernel
theorem dX7_coinsIn_30 : decode cX7_coinsIn 30 = .ok (.iload_n 2, 1) := by decide +kernel
theorem dX7_coinsIn_31 : decode cX7_coinsIn 31 = .ok (.ireturn, 1) := by decide +kernel
theorem dX7_insert_0 : decode cX7_insert 0 = .ok (.aload_n 0, 1) := by decide +kernel
theorem dX7_insert_1 : decode cX7_insert 1 = .ok (.iload_n 1, 1) := by decide +kernel
theorem dX7_insert_2 : decode cX7_insert 2 = .ok (.invokevirtual 112, 3) := by decide +kernel
theorem dX7_insert_5 : decode cX7_insert 5 = .ok (.ifCond .eq 12, 3) := by decide +kernel
theorem dX7_insert_8 : decode cX7_insert 8 = .ok (.iload_n 2, 1) := by decide +kernel
theorem dX7_insert_9 : decode cX7_insert 9 = .ok (.iconst 0, 1) := by decide +kernel
theorem dX7_insert_10 : decode cX7_insert 10 = .ok (.iconst 5, 1) := by decide +kernel
theorem dX7_insert_11 : decode cX7_insert 11 = .ok (.invokestatic 108, 3) := by decide +kernel
theorem dX7_insert_14 : decode cX7_insert 14 = .ok (.ifCond .ne 9, 3) := by decide +kernel
theorem dX7_insert_17 : decode cX7_insert 17 = .ok (.aload_n 0, 1) := by decide +kernel
theorem dX7_insert_18 : decode cX7_insert 18 = .ok (.iconst (-1), 1) := by decide +kernel
theorem dX7_insert_19 : decode cX7_insert 19 = .ok (.invokevirtual 116, 3) := by decide +kernel
theorem dX7_insert_22 : decode cX7_insert 22 = .ok (.ireturn, 1) := by decide +kernel
theorem dX7_insert_23 : decode cX7_insert 23 = .ok (.aload_n 0, 1) := by decide +kernel
theorem dX7_insert_24 : decode cX7_insert 24 = .ok (.iload_n 1, 1) := by decide +kernel
theorem dX7_insert_25 : decode cX7_insert 25 = .ok (.invokevirtual 133, 3) := by decide +kernel
theorem dX7_insert_28 : decode cX7_insert 28 = .ok (.bipush 20, 2) := by decide +kernel
theorem dX7_insert_30 : decode cX7_insert 30 = .ok (.if_icmp .ne 10, 3) := by decide +kernel
theorem dX7_insert_33 : decode cX7_insert 33 = .ok (.aload_n 0, 1) := by decide +kernel
theorem dX7_insert_34 : decode cX7_insert 34 = .ok (.bipush (-6), 2) := by decide +kernel
theorem dX7_insert_36 : decode cX7_insert 36 = .ok (.invokevirtual 116, 3) := by decide +kernel
theorem dX7_insert_39 : decode cX7_insert 39 = .ok (.ireturn, 1) := by decide +kernel
theorem dX7_insert_40 : decode cX7_insert 40 = .ok (.aload_n 0, 1) := by decide +kernel
theorem dX7_insert_41 : decode cX7_insert 41 = .ok (.getfield 19, 3) := by decide +kernel
theorem dX7_insert_44 : decode cX7_insert 44 = .ok (.bipush 6, 2) := by decide +kernel
theorem dX7_insert_46 : decode cX7_insert 46 = .ok (.iload_n 1, 1) := by decide +kernel
theorem dX7_insert_47 : decode cX7_insert 47 = .ok (.imul, 1) := by decide +kernel
theorem dX7_insert_48 : decode cX7_insert 48 = .ok (.iload_n 2, 1) := by decide +kernel
theorem dX7_insert_49 : decode cX7_insert 49 = .ok (.iadd, 1) := by decide +kernel
theorem dX7_insert_50 : decode cX7_insert 50 = .ok (.dup2, 1) := by decide +kernel
theorem dX7_insert_51 : decode cX7_insert 51 = .ok (.iaload, 1) := by decide +kernel
theorem dX7_insert_52 : decode cX7_insert 52 = .ok (.iconst 1, 1) := by decide +kernel
theorem dX7_insert_53 : decode cX7_insert 53 = .ok (.iadd, 1) := by decide +kernel
theorem dX7_insert_54 : decode cX7_insert 54 = .ok (.iastore, 1) := by decide +kernel
theorem dX7_insert_55 : decode cX7_insert 55 = .ok (.aload_n 0, 1) := by decide +kernel
theorem dX7_insert_56 : decode cX7_insert 56 = .ok (.getfield 22, 3) := by decide +kernel
theorem dX7_insert_59 : decode cX7_insert 59 = .ok (.bipush 6, 2) := by decide +kernel
theorem dX7_insert_61 : decode cX7_insert 61 = .ok (.iload_n 1, 1) := by decide +kernel
theorem dX7_insert_62 : decode cX7_insert 62 = .ok (.imul, 1) := by decide +kernel
theorem dX7_insert_63 : decode cX7_insert 63 = .ok (.iload_n 2, 1) := by decide +kernel
theorem dX7_insert_64 : decode cX7_insert 64 = .ok (.iadd, 1) := by decide +kernel
theorem dX7_insert_65 : decode cX7_insert 65 = .ok (.dup2, 1) := by decide +kernel
theorem dX7_insert_66 : decode cX7_insert 66 = .ok (.iaload, 1) := by decide +kernel
theorem dX7_insert_67 : decode cX7_insert 67 = .ok (.iconst 1, 1) := by decide +kernel
theorem dX7_insert_68 : decode cX7_insert 68 = .ok (.iadd, 1) := by decide +kernel
theorem dX7_insert_69 : decode cX7_insert 69 = .ok (.iastore, 1) := by decide +kernel
theorem dX7_insert_70 : decode cX7_insert 70 = .ok (.aload_n 0, 1) := by decide +kernel
theorem dX7_insert_71 : decode cX7_insert 71 = .ok (.aload_n 0, 1) := by decide +kernel
theorem dX7_insert_72 : decode cX7_insert 72 = .ok (.getfield 19, 3) := by decide +kernel
theorem dX7_insert_75 : decode cX7_insert 75 = .ok (.iload_n 1, 1) := by decide +kernel
theorem dX7_insert_76 : decode cX7_insert 76 = .ok (.invokevirtual 136, 3) := by decide +kernel
theorem dX7_insert_79 : decode cX7_insert 79 = .ok (.ireturn, 1) := by decide +kernel
theorem dX7_allBack_0 : decode cX7_allBack 0 = .ok (.aload_n 0, 1) := by decide +kernel
theorem dX7_allBack_1 : decode cX7_allBack 1 = .ok (.aload_n 0, 1) := by decide +kernel
theorem dX7_allBack_2 : decode cX7_allBack 2 = .ok (.getfield 19, 3) := by decide +kernel
theorem dX7_allBack_5 : decode cX7_allBack 5 = .ok (.iload_n 1, 1) := by decide +kernel
theorem dX7_allBack_6 : decode cX7_allBack 6 = .ok (.invokevirtual 136, 3) := by decide +kernel
theorem dX7_allBack_9 : decode cX7_allBack 9 = .ok (.istore_n 2, 1) := by decide +kernel
theorem dX7_allBack_10 : decode cX7_allBack 10 = .ok (.iconst 0, 1) := by decide +kernel
theorem dX7_allBack_11 : decode cX7_allBack 11 = .ok (.istore_n 3, 1) := by decide +kernel
theorem dX7_allBack_12 : decode cX7_allBack 12 = .ok (.iload_n 3, 1) := by decide +kernel
theorem dX7_allBack_13 : decode cX7_allBack 13 = .ok (.bipush 6, 2) := by decide +kernel
theorem dX7_allBack_15 : decode cX7_allBack 15 = .ok (.if_icmp .ge 46, 3) := by decide +kernel
theorem dX7_allBack_18 : decode cX7_allBack 18 = .ok (.aload_n 0, 1) := by decide +kernel
theorem dX7_allBack_19 : decode cX7_allBack 19 = .ok (.getfield 25, 3) := by decide +kernel
theorem dX7_allBack_22 : decode cX7_allBack 22 = .ok (.bipush 6, 2) := by decide +kernel
theorem dX7_allBack_24 : decode cX7_allBack 24 = .ok (.iload_n 1, 1) := by decide +kernel
theorem dX7_allBack_25 : decode cX7_allBack 25 = .ok (.imul, 1) := by decide +kernel
theorem dX7_allBack_26 : decode cX7_allBack 26 = .ok (.iload_n 3, 1) := by decide +kernel
theorem dX7_allBack_27 : decode cX7_allBack 27 = .ok (.iadd, 1) := by decide +kernel
theorem dX7_allBack_28 : decode cX7_allBack 28 = .ok (.dup2, 1) := by decide +kernel
theorem dX7_allBack_29 : decode cX7_allBack 29 = .ok (.iaload, 1) := by decide +kernel
theorem dX7_allBack_30 : decode cX7_allBack 30 = .ok (.aload_n 0, 1) := by decide +kernel
theorem dX7_allBack_31 : decode cX7_allBack 31 = .ok (.getfield 19, 3) := by decide +kernel
theorem dX7_allBack_34 : decode cX7_allBack 34 = .ok (.bipush 6, 2) := by decide +kernel
theorem dX7_allBack_36 : decode cX7_allBack 36 = .ok (.iload_n 1, 1) := by decide +kernel
theorem dX7_allBack_37 : decode cX7_allBack 37 = .ok (.imul, 1) := by decide +kernel
theorem dX7_allBack_38 : decode cX7_allBack 38 = .ok (.iload_n 3, 1) := by decide +kernel
theorem dX7_allBack_39 : decode cX7_allBack 39 = .ok (.iadd, 1) := by decide +kernel
theorem dX7_allBack_40 : decode cX7_allBack 40 = .ok (.iaload, 1) := by decide +kernel
theorem dX7_allBack_41 : decode cX7_allBack 41 = .ok (.iadd, 1) := by decide +kernel
theorem dX7_allBack_42 : decode cX7_allBack 42 = .ok (.iastore, 1) := by decide +kernel
theorem dX7_allBack_43 : decode cX7_allBack 43 = .ok (.aload_n 0, 1) := by decide +kernel
theorem dX7_allBack_44 : decode cX7_allBack 44 = .ok (.getfield 19, 3) := by decide +kernel
theorem dX7_allBack_47 : decode cX7_allBack 47 = .ok (.bipush 6, 2) := by decide +kernel
theorem dX7_allBack_49 : decode cX7_allBack 49 = .ok (.iload_n 1, 1) := by decide +kernel
theorem dX7_allBack_50 : decode cX7_allBack 50 = .ok (.imul, 1) := by decide +kernel
theorem dX7_allBack_51 : decode cX7_allBack 51 = .ok (.iload_n 3, 1) := by decide +kernel
theorem dX7_allBack_52 : decode cX7_allBack 52 = .ok (.iadd, 1) := by decide +kernel
theorem dX7_allBack_53 : decode cX7_allBack 53 = .ok (.iconst 0, 1) := by decide +kernel
theorem dX7_allBack_54 : decode cX7_allBack 54 = .ok (.iastore, 1) := by decide +kernel
theorem dX7_allBack_55 : decode cX7_allBack 55 = .ok (.iinc 3 1, 3) := by decide +kernel
theorem dX7_allBack_58 : decode cX7_allBack 58 = .ok (.goto (-46), 3) := by decide +kernel
theorem dX7_allBack_61 : decode cX7_allBack 61 = .ok (.iload_n 2, 1) := by decide +kernel
theorem dX7_allBack_62 : decode cX7_allBack 62 = .ok (.ireturn, 1) := by decide +kernel
theorem dX7_back_0 : decode cX7_back 0 = .ok (.aload_n 0, 1) := by decide +kernel
theorem dX7_back_1 : decode cX7_back 1 = .ok (.iload_n 1, 1) := by decide +kernel
theorem dX7_back_2 : decode cX7_back 2 = .ok (.invokevirtual 112, 3) := by decide +kernel
theorem dX7_back_5 : decode cX7_back 5 = .ok (.ifCond .eq 11, 3) := by decide +kernel
theorem dX7_back_8 : decode cX7_back 8 = .ok (.aload_n 0, 1) := by decide +kernel
theorem dX7_back_9 : decode cX7_back 9 = .ok (.iload_n 1, 1) := by decide +kernel
theorem dX7_back_10 : decode cX7_back 10 = .ok (.invokevirtual 140, 3) := by decide +kernel
theorem dX7_back_13 : decode cX7_back 13 = .ok (.goto 8, 3) := by decide +kernel
theorem dX7_back_16 : decode cX7_back 16 = .ok (.aload_n 0, 1) := by decide +kernel
theorem dX7_back_17 : decode cX7_back 17 = .ok (.iconst (-1), 1) := by decide +kernel
theorem dX7_back_18 : decode cX7_back 18 = .ok (.invokevirtual 116, 3) := by decide +kernel
theorem dX7_back_21 : decode cX7_back 21 = .ok (.ireturn, 1) := by decide +kernel
theorem dX7_findChange_0 : decode cX7_findChange 0 = .ok (.iconst 0, 1) := by decide +kernel
theorem dX7_findChange_1 : decode cX7_findChange 1 = .ok (.istore_n 3, 1) := by decide +kernel
theorem dX7_findChange_2 : decode cX7_findChange 2 = .ok (.iload_n 3, 1) := by decide +kernel
theorem dX7_findChange_3 : decode cX7_findChange 3 = .ok (.bipush 6, 2) := by decide +kernel
theorem dX7_findChange_5 : decode cX7_findChange 5 = .ok (.if_icmp .ge 16, 3) := by decide +kernel
theorem dX7_findChange_8 : decode cX7_findChange 8 = .ok (.aload_n 0, 1) := by decide +kernel
theorem dX7_findChange_9 : decode cX7_findChange 9 = .ok (.getfield 98, 3) := by decide +kernel
theorem dX7_findChange_12 : decode cX7_findChange 12 = .ok (.iload_n 3, 1) := by decide +kernel
theorem dX7_findChange_13 : decode cX7_findChange 13 = .ok (.iconst 0, 1) := by decide +kernel
theorem dX7_findChange_14 : decode cX7_findChange 14 = .ok (.iastore, 1) := by decide +kernel
theorem dX7_findChange_15 : decode cX7_findChange 15 = .ok (.iinc 3 1, 3) := by decide +kernel
theorem dX7_findChange_18 : decode cX7_findChange 18 = .ok (.goto (-16), 3) := by decide +kernel
theorem dX7_findChange_21 : decode cX7_findChange 21 = .ok (.iload_n 2, 1) := by decide +kernel
theorem dX7_findChange_22 : decode cX7_findChange 22 = .ok (.bipush 10, 2) := by decide +kernel
theorem dX7_findChange_24 : decode cX7_findChange 24 = .ok (.irem, 1) := by decide +kernel
theorem dX7_findChange_25 : decode cX7_findChange 25 = .ok (.ifCond .eq 7, 3) := by decide +kernel
theorem dX7_findChange_28 : decode cX7_findChange 28 = .ok (.sipush 1000, 3) := by decide +kernel
theorem dX7_findChange_31 : decode cX7_findChange 31 = .ok (.ireturn, 1) := by decide +kernel
theorem dX7_findChange_32 : decode cX7_findChange 32 = .ok (.iload_n 2, 1) := by decide +kernel
theorem dX7_findChange_33 : decode cX7_findChange 33 = .ok (.bipush 10, 2) := by decide +kernel
theorem dX7_findChange_35 : decode cX7_findChange 35 = .ok (.idiv, 1) := by decide +kernel
theorem dX7_findChange_36 : decode cX7_findChange 36 = .ok (.istore_n 3, 1) := by decide +kernel
theorem dX7_findChange_37 : decode cX7_findChange 37 = .ok (.iconst 0, 1) := by decide +kernel
theorem dX7_findChange_38 : decode cX7_findChange 38 = .ok (.istore 4, 2) := by decide +kernel
theorem dX7_findChange_40 : decode cX7_findChange 40 = .ok (.iload 4, 2) := by decide +kernel
theorem dX7_findChange_42 : decode cX7_findChange 42 = .ok (.iload_n 3, 1) := by decide +kernel
theorem dX7_findChange_43 : decode cX7_findChange 43 = .ok (.if_icmp .gt 32, 3) := by decide +kernel
theorem dX7_findChange_46 : decode cX7_findChange 46 = .ok (.aload_n 0, 1) := by decide +kernel
theorem dX7_findChange_47 : decode cX7_findChange 47 = .ok (.getfield 95, 3) := by decide +kernel
theorem dX7_findChange_50 : decode cX7_findChange 50 = .ok (.sipush 12006, 3) := by decide +kernel
theorem dX7_findChange_53 : decode cX7_findChange 53 = .ok (.iload 4, 2) := by decide +kernel
theorem dX7_findChange_55 : decode cX7_findChange 55 = .ok (.iadd, 1) := by decide +kernel
theorem dX7_findChange_56 : decode cX7_findChange 56 = .ok (.iload 4, 2) := by decide +kernel
theorem dX7_findChange_58 : decode cX7_findChange 58 = .ok (.ifCond .ne 7, 3) := by decide +kernel
theorem dX7_findChange_61 : decode cX7_findChange 61 = .ok (.iconst 0, 1) := by decide +kernel
theorem dX7_findChange_62 : decode cX7_findChange 62 = .ok (.goto 6, 3) := by decide +kernel
theorem dX7_findChange_65 : decode cX7_findChange 65 = .ok (.sipush 1000, 3) := by decide +kernel
theorem dX7_findChange_68 : decode cX7_findChange 68 = .ok (.iastore, 1) := by decide +kernel
theorem dX7_findChange_69 : decode cX7_findChange 69 = .ok (.iinc 4 1, 3) := by decide +kernel
theorem dX7_findChange_72 : decode cX7_findChange 72 = .ok (.goto (-32), 3) := by decide +kernel
theorem dX7_findChange_75 : decode cX7_findChange 75 = .ok (.iconst 5, 1) := by decide +kernel
theorem dX7_findChange_76 : decode cX7_findChange 76 = .ok (.istore 4, 2) := by decide +kernel
theorem dX7_findChange_78 : decode cX7_findChange 78 = .ok (.iload 4, 2) := by decide +kernel
theorem dX7_findChange_80 : decode cX7_findChange 80 = .ok (.ifCond .lt 151, 3) := by decide +kernel
theorem dX7_findChange_83 : decode cX7_findChange 83 = .ok (.aload_n 0, 1) := by decide +kernel
theorem dX7_findChange_84 : decode cX7_findChange 84 = .ok (.getfield 13, 3) := by decide +kernel
theorem dX7_findChange_87 : decode cX7_findChange 87 = .ok (.bipush 6, 2) := by decide +kernel
theorem dX7_findChange_89 : decode cX7_findChange 89 = .ok (.iload_n 1, 1) := by decide +kernel
theorem dX7_findChange_90 : decode cX7_findChange 90 = .ok (.imul, 1) := by decide +kernel
theorem dX7_findChange_91 : decode cX7_findChange 91 = .ok (.iload 4, 2) := by decide +kernel
theorem dX7_findChange_93 : decode cX7_findChange 93 = .ok (.iadd, 1) := by decide +kernel
theorem dX7_findChange_94 : decode cX7_findChange 94 = .ok (.iaload, 1) := by decide +kernel
theorem dX7_findChange_95 : decode cX7_findChange 95 = .ok (.aload_n 0, 1) := by decide +kernel
theorem dX7_findChange_96 : decode cX7_findChange 96 = .ok (.getfield 19, 3) := by decide +kernel
theorem dX7_findChange_99 : decode cX7_findChange 99 = .ok (.bipush 6, 2) := by decide +kernel
theorem dX7_findChange_101 : decode cX7_findChange 101 = .ok (.iload_n 1, 1) := by decide +kernel
theorem dX7_findChange_102 : decode cX7_findChange 102 = .ok (.imul, 1) := by decide +kernel
theorem dX7_findChange_103 : decode cX7_findChange 103 = .ok (.iload 4, 2) := by decide +kernel
theorem dX7_findChange_105 : decode cX7_findChange 105 = .ok (.iadd, 1) := by decide +kernel
theorem dX7_findChange_106 : decode cX7_findChange 106 = .ok (.iaload, 1) := by decide +kernel
theorem dX7_findChange_107 : decode cX7_findChange 107 = .ok (.iadd, 1) := by decide +kernel
theorem dX7_findChange_108 : decode cX7_findChange 108 = .ok (.istore 5, 2) := by decide +kernel
theorem dX7_findChange_110 : decode cX7_findChange 110 = .ok (.iload 4, 2) := by decide +kernel
theorem dX7_findChange_112 : decode cX7_findChange 112 = .ok (.invokestatic 130, 3) := by decide +kernel
theorem dX7_findChange_115 : decode cX7_findChange 115 = .ok (.bipush 10, 2) := by decide +kernel
theorem dX7_findChange_117 : decode cX7_findChange 117 = .ok (.idiv, 1) := by decide +kernel
theorem dX7_findChange_118 : decode cX7_findChange 118 = .ok (.istore 6, 2) := by decide +kernel
theorem dX7_findChange_120 : decode cX7_findChange 120 = .ok (.iconst 0, 1) := by decide +kernel
theorem dX7_findChange_121 : decode cX7_findChange 121 = .ok (.istore 7, 2) := by decide +kernel
theorem dX7_findChange_123 : decode cX7_findChange 123 = .ok (.iload 7, 2) := by decide +kernel
theorem dX7_findChange_125 : decode cX7_findChange 125 = .ok (.iload_n 3, 1) := by decide +kernel
theorem dX7_findChange_126 : decode cX7_findChange 126 = .ok (.if_icmp .gt 99, 3) := by decide +kernel
theorem dX7_findChange_129 : decode cX7_findChange 129 = .ok (.sipush 1000, 3) := by decide +kernel
theorem dX7_findChange_132 : decode cX7_findChange 132 = .ok (.istore 8, 2) := by decide +kernel
theorem dX7_findChange_134 : decode cX7_findChange 134 = .ok (.iconst 0, 1) := by decide +kernel
theorem dX7_findChange_135 : decode cX7_findChange 135 = .ok (.istore 9, 2) := by decide +kernel
theorem dX7_findChange_137 : decode cX7_findChange 137 = .ok (.iload 9, 2) := by decide +kernel
theorem dX7_findChange_139 : decode cX7_findChange 139 = .ok (.iload 5, 2) := by decide +kernel
theorem dX7_findChange_141 : decode cX7_findChange 141 = .ok (.if_icmp .gt 62, 3) := by decide +kernel
theorem dX7_findChange_144 : decode cX7_findChange 144 = .ok (.iload 9, 2) := by decide +kernel
theorem dX7_findChange_146 : decode cX7_findChange 146 = .ok (.iload 6, 2) := by decide +kernel
theorem dX7_findChange_148 : decode cX7_findChange 148 = .ok (.imul, 1) := by decide +kernel
theorem dX7_findChange_149 : decode cX7_findChange 149 = .ok (.iload 7, 2) := by decide +kernel
theorem dX7_findChange_151 : decode cX7_findChange 151 = .ok (.if_icmp .gt 52, 3) := by decide +kernel
theorem dX7_findChange_154 : decode cX7_findChange 154 = .ok (.iload 9, 2) := by decide +kernel
theorem dX7_findChange_156 : decode cX7_findChange 156 = .ok (.aload_n 0, 1) := by decide +kernel
theorem dX7_findChange_157 : decode cX7_findChange 157 = .ok (.getfield 95, 3) := by decide +kernel
theorem dX7_findChange_160 : decode cX7_findChange 160 = .ok (.sipush 2001, 3) := by decide +kernel
theorem dX7_findChange_163 : decode cX7_findChange 163 = .ok (.iload 4, 2) := by decide +kernel
theorem dX7_findChange_165 : decode cX7_findChange 165 = .ok (.iconst 1, 1) := by decide +kernel
theorem dX7_findChange_166 : decode cX7_findChange 166 = .ok (.iadd, 1) := by decide +kernel
theorem dX7_findChange_167 : decode cX7_findChange 167 = .ok (.imul, 1) := by decide +kernel
theorem dX7_findChange_168 : decode cX7_findChange 168 = .ok (.iload 7, 2) := by decide +kernel
theorem dX7_findChange_170 : decode cX7_findChange 170 = .ok (.iadd, 1) := by decide +kernel
theorem dX7_findChange_171 : decode cX7_findChange 171 = .ok (.iload 9, 2) := by decide +kernel
theorem dX7_findChange_173 : decode cX7_findChange 173 = .ok (.iload 6, 2) := by decide +kernel
theorem dX7_findChange_175 : decode cX7_findChange 175 = .ok (.imul, 1) := by decide +kernel
theorem dX7_findChange_176 : decode cX7_findChange 176 = .ok (.isub, 1) := by decide +kernel
theorem dX7_findChange_177 : decode cX7_findChange 177 = .ok (.iaload, 1) := by decide +kernel
theorem dX7_findChange_178 : decode cX7_findChange 178 = .ok (.iadd, 1) := by decide +kernel
theorem dX7_findChange_179 : decode cX7_findChange 179 = .ok (.istore 10, 2) := by decide +kernel
theorem dX7_findChange_181 : decode cX7_findChange 181 = .ok (.iload 10, 2) := by decide +kernel
theorem dX7_findChange_183 : decode cX7_findChange 183 = .ok (.iload 8, 2) := by decide +kernel
theorem dX7_findChange_185 : decode cX7_findChange 185 = .ok (.if_icmp .ge 8, 3) := by decide +kernel
theorem dX7_findChange_188 : decode cX7_findChange 188 = .ok (.iload 10, 2) := by decide +kernel
theorem dX7_findChange_190 : decode cX7_findChange 190 = .ok (.goto 5, 3) := by decide +kernel
theorem dX7_findChange_193 : decode cX7_findChange 193 = .ok (.iload 8, 2) := by decide +kernel
theorem dX7_findChange_195 : decode cX7_findChange 195 = .ok (.istore 8, 2) := by decide +kernel
theorem dX7_findChange_197 : decode cX7_findChange 197 = .ok (.iinc 9 1, 3) := by decide +kernel
theorem dX7_findChange_200 : decode cX7_findChange 200 = .ok (.goto (-63), 3) := by decide +kernel
theorem dX7_findChange_203 : decode cX7_findChange 203 = .ok (.aload_n 0, 1) := by decide +kernel
theorem dX7_findChange_204 : decode cX7_findChange 204 = .ok (.getfield 95, 3) := by decide +kernel
theorem dX7_findChange_207 : decode cX7_findChange 207 = .ok (.sipush 2001, 3) := by decide +kernel
theorem dX7_findChange_210 : decode cX7_findChange 210 = .ok (.iload 4, 2) := by decide +kernel
theorem dX7_findChange_212 : decode cX7_findChange 212 = .ok (.imul, 1) := by decide +kernel
theorem dX7_findChange_213 : decode cX7_findChange 213 = .ok (.iload 7, 2) := by decide +kernel
theorem dX7_findChange_215 : decode cX7_findChange 215 = .ok (.iadd, 1) := by decide +kernel
theorem dX7_findChange_216 : decode cX7_findChange 216 = .ok (.iload 8, 2) := by decide +kernel
theorem dX7_findChange_218 : decode cX7_findChange 218 = .ok (.iastore, 1) := by decide +kernel
theorem dX7_findChange_219 : decode cX7_findChange 219 = .ok (.iinc 7 1, 3) := by decide +kernel
theorem dX7_findChange_222 : decode cX7_findChange 222 = .ok (.goto (-99), 3) := by decide +kernel
theorem dX7_findChange_225 : decode cX7_findChange 225 = .ok (.iinc 4 (-1), 3) := by decide +kernel
theorem dX7_findChange_228 : decode cX7_findChange 228 = .ok (.goto (-150), 3) := by decide +kernel
theorem dX7_findChange_231 : decode cX7_findChange 231 = .ok (.iload_n 3, 1) := by decide +kernel
theorem dX7_findChange_232 : decode cX7_findChange 232 = .ok (.istore 4, 2) := by decide +kernel
theorem dX7_findChange_234 : decode cX7_findChange 234 = .ok (.iconst 0, 1) := by decide +kernel
theorem dX7_findChange_235 : decode cX7_findChange 235 = .ok (.istore 5, 2) := by decide +kernel
theorem dX7_findChange_237 : decode cX7_findChange 237 = .ok (.iload 5, 2) := by decide +kernel
theorem dX7_findChange_239 : decode cX7_findChange 239 = .ok (.bipush 6, 2) := by decide +kernel
theorem dX7_findChange_241 : decode cX7_findChange 241 = .ok (.if_icmp .ge 147, 3) := by decide +kernel
theorem dX7_findChange_244 : decode cX7_findChange 244 = .ok (.aload_n 0, 1) := by decide +kernel
theorem dX7_findChange_245 : decode cX7_findChange 245 = .ok (.getfield 95, 3) := by decide +kernel
theorem dX7_findChange_248 : decode cX7_findChange 248 = .ok (.iload_n 3, 1) := by decide +kernel
theorem dX7_findChange_249 : decode cX7_findChange 249 = .ok (.iaload, 1) := by decide +kernel
theorem dX7_findChange_250 : decode cX7_findChange 250 = .ok (.sipush 1000, 3) := by decide +kernel
theorem dX7_findChange_253 : decode cX7_findChange 253 = .ok (.if_icmp .ge 135, 3) := by decide +kernel
theorem dX7_findChange_256 : decode cX7_findChange 256 = .ok (.aload_n 0, 1) := by decide +kernel
theorem dX7_findChange_257 : decode cX7_findChange 257 = .ok (.getfield 13, 3) := by decide +kernel
theorem dX7_findChange_260 : decode cX7_findChange 260 = .ok (.bipush 6, 2) := by decide +kernel
theorem dX7_findChange_262 : decode cX7_findChange 262 = .ok (.iload_n 1, 1) := by decide +kernel
theorem dX7_findChange_263 : decode cX7_findChange 263 = .ok (.imul, 1) := by decide +kernel
theorem dX7_findChange_264 : decode cX7_findChange 264 = .ok (.iload 5, 2) := by decide +kernel
theorem dX7_findChange_266 : decode cX7_findChange 266 = .ok (.iadd, 1) := by decide +kernel
theorem dX7_findChange_267 : decode cX7_findChange 267 = .ok (.iaload, 1) := by decide +kernel
theorem dX7_findChange_268 : decode cX7_findChange 268 = .ok (.aload_n 0, 1) := by decide +kernel
theorem dX7_findChange_269 : decode cX7_findChange 269 = .ok (.getfield 19, 3) := by decide +kernel
theorem dX7_findChange_272 : decode cX7_findChange 272 = .ok (.bipush 6, 2) := by decide +kernel
theorem dX7_findChange_274 : decode cX7_findChange 274 = .ok (.iload_n 1, 1) := by decide +kernel
theorem dX7_findChange_275 : decode cX7_findChange 275 = .ok (.imul, 1) := by decide +kernel
theorem dX7_findChange_276 : decode cX7_findChange 276 = .ok (.iload 5, 2) := by decide +kernel
theorem dX7_findChange_278 : decode cX7_findChange 278 = .ok (.iadd, 1) := by decide +kernel
theorem dX7_findChange_279 : decode cX7_findChange 279 = .ok (.iaload, 1) := by decide +kernel
theorem dX7_findChange_280 : decode cX7_findChange 280 = .ok (.iadd, 1) := by decide +kernel
theorem dX7_findChange_281 : decode cX7_findChange 281 = .ok (.istore 6, 2) := by decide +kernel
theorem dX7_findChange_283 : decode cX7_findChange 283 = .ok (.iload 5, 2) := by decide +kernel
theorem dX7_findChange_285 : decode cX7_findChange 285 = .ok (.invokestatic 130, 3) := by decide +kernel
theorem dX7_findChange_288 : decode cX7_findChange 288 = .ok (.bipush 10, 2) := by decide +kernel
theorem dX7_findChange_290 : decode cX7_findChange 290 = .ok (.idiv, 1) := by decide +kernel
theorem dX7_findChange_291 : decode cX7_findChange 291 = .ok (.istore 7, 2) := by decide +kernel
theorem dX7_findChange_293 : decode cX7_findChange 293 = .ok (.iload 6, 2) := by decide +kernel
theorem dX7_findChange_295 : decode cX7_findChange 295 = .ok (.iload 4, 2) := by decide +kernel
theorem dX7_findChange_297 : decode cX7_findChange 297 = .ok (.iload 7, 2) := by decide +kernel
theorem dX7_findChange_299 : decode cX7_findChange 299 = .ok (.idiv, 1) := by decide +kernel
theorem dX7_findChange_300 : decode cX7_findChange 300 = .ok (.if_icmp .ge 8, 3) := by decide +kernel
theorem dX7_findChange_303 : decode cX7_findChange 303 = .ok (.iload 6, 2) := by decide +kernel
theorem dX7_findChange_305 : decode cX7_findChange 305 = .ok (.goto 8, 3) := by decide +kernel
theorem dX7_findChange_308 : decode cX7_findChange 308 = .ok (.iload 4, 2) := by decide +kernel
theorem dX7_findChange_310 : decode cX7_findChange 310 = .ok (.iload 7, 2) := by decide +kernel
theorem dX7_findChange_312 : decode cX7_findChange 312 = .ok (.idiv, 1) := by decide +kernel
theorem dX7_findChange_313 : decode cX7_findChange 313 = .ok (.istore 8, 2) := by decide +kernel
theorem dX7_findChange_315 : decode cX7_findChange 315 = .ok (.iload 8, 2) := by decide +kernel
theorem dX7_findChange_317 : decode cX7_findChange 317 = .ok (.aload_n 0, 1) := by decide +kernel
theorem dX7_findChange_318 : decode cX7_findChange 318 = .ok (.getfield 95, 3) := by decide +kernel
theorem dX7_findChange_321 : decode cX7_findChange 321 = .ok (.sipush 2001, 3) := by decide +kernel
theorem dX7_findChange_324 : decode cX7_findChange 324 = .ok (.iload 5, 2) := by decide +kernel
theorem dX7_findChange_326 : decode cX7_findChange 326 = .ok (.iconst 1, 1) := by decide +kernel
theorem dX7_findChange_327 : decode cX7_findChange 327 = .ok (.iadd, 1) := by decide +kernel
theorem dX7_findChange_328 : decode cX7_findChange 328 = .ok (.imul, 1) := by decide +kernel
theorem dX7_findChange_329 : decode cX7_findChange 329 = .ok (.iload 4, 2) := by decide +kernel
theorem dX7_findChange_331 : decode cX7_findChange 331 = .ok (.iadd, 1) := by decide +kernel
theorem dX7_findChange_332 : decode cX7_findChange 332 = .ok (.iload 8, 2) := by decide +kernel
theorem dX7_findChange_334 : decode cX7_findChange 334 = .ok (.iload 7, 2) := by decide +kernel
theorem dX7_findChange_336 : decode cX7_findChange 336 = .ok (.imul, 1) := by decide +kernel
theorem dX7_findChange_337 : decode cX7_findChange 337 = .ok (.isub, 1) := by decide +kernel
theorem dX7_findChange_338 : decode cX7_findChange 338 = .ok (.iaload, 1) := by decide +kernel
theorem dX7_findChange_339 : decode cX7_findChange 339 = .ok (.iadd, 1) := by decide +kernel
theorem dX7_findChange_340 : decode cX7_findChange 340 = .ok (.aload_n 0, 1) := by decide +kernel
theorem dX7_findChange_341 : decode cX7_findChange 341 = .ok (.getfield 95, 3) := by decide +kernel
theorem dX7_findChange_344 : decode cX7_findChange 344 = .ok (.sipush 2001, 3) := by decide +kernel
theorem dX7_findChange_347 : decode cX7_findChange 347 = .ok (.iload 5, 2) := by decide +kernel
theorem dX7_findChange_349 : decode cX7_findChange 349 = .ok (.imul, 1) := by decide +kernel
theorem dX7_findChange_350 : decode cX7_findChange 350 = .ok (.iload 4, 2) := by decide +kernel
theorem dX7_findChange_352 : decode cX7_findChange 352 = .ok (.iadd, 1) := by decide +kernel
theorem dX7_findChange_353 : decode cX7_findChange 353 = .ok (.iaload, 1) := by decide +kernel
theorem dX7_findChange_354 : decode cX7_findChange 354 = .ok (.if_icmp .eq 9, 3) := by decide +kernel
theorem dX7_findChange_357 : decode cX7_findChange 357 = .ok (.iinc 8 (-1), 3) := by decide +kernel
theorem dX7_findChange_360 : decode cX7_findChange 360 = .ok (.goto (-45), 3) := by decide +kernel
theorem dX7_findChange_363 : decode cX7_findChange 363 = .ok (.aload_n 0, 1) := by decide +kernel
theorem dX7_findChange_364 : decode cX7_findChange 364 = .ok (.getfield 98, 3) := by decide +kernel
theorem dX7_findChange_367 : decode cX7_findChange 367 = .ok (.iload 5, 2) := by decide +kernel
theorem dX7_findChange_369 : decode cX7_findChange 369 = .ok (.iload 8, 2) := by decide +kernel
theorem dX7_findChange_371 : decode cX7_findChange 371 = .ok (.iastore, 1) := by decide +kernel
theorem dX7_findChange_372 : decode cX7_findChange 372 = .ok (.iload 4, 2) := by decide +kernel
theorem dX7_findChange_374 : decode cX7_findChange 374 = .ok (.iload 8, 2) := by decide +kernel
theorem dX7_findChange_376 : decode cX7_findChange 376 = .ok (.iload 7, 2) := by decide +kernel
theorem dX7_findChange_378 : decode cX7_findChange 378 = .ok (.imul, 1) := by decide +kernel
theorem dX7_findChange_379 : decode cX7_findChange 379 = .ok (.isub, 1) := by decide +kernel
theorem dX7_findChange_380 : decode cX7_findChange 380 = .ok (.istore 4, 2) := by decide +kernel
theorem dX7_findChange_382 : decode cX7_findChange 382 = .ok (.iinc 5 1, 3) := by decide +kernel
theorem dX7_findChange_385 : decode cX7_findChange 385 = .ok (.goto (-148), 3) := by decide +kernel
theorem dX7_findChange_388 : decode cX7_findChange 388 = .ok (.aload_n 0, 1) := by decide +kernel
theorem dX7_findChange_389 : decode cX7_findChange 389 = .ok (.getfield 95, 3) := by decide +kernel
theorem dX7_findChange_392 : decode cX7_findChange 392 = .ok (.iload_n 3, 1) := by decide +kernel
theorem dX7_findChange_393 : decode cX7_findChange 393 = .ok (.iaload, 1) := by decide +kernel
theorem dX7_findChange_394 : decode cX7_findChange 394 = .ok (.ireturn, 1) := by decide +kernel
theorem dX7_change_0 : decode cX7_change 0 = .ok (.aload_n 0, 1) := by decide +kernel
theorem dX7_change_1 : decode cX7_change 1 = .ok (.iload_n 1, 1) := by decide +kernel
theorem dX7_change_2 : decode cX7_change 2 = .ok (.invokevirtual 112, 3) := by decide +kernel
theorem dX7_change_5 : decode cX7_change 5 = .ok (.ifCond .ne 9, 3) := by decide +kernel
theorem dX7_change_8 : decode cX7_change 8 = .ok (.aload_n 0, 1) := by decide +kernel
theorem dX7_change_9 : decode cX7_change 9 = .ok (.iconst (-1), 1) := by decide +kernel
theorem dX7_change_10 : decode cX7_change 10 = .ok (.invokevirtual 116, 3) := by decide +kernel
theorem dX7_change_13 : decode cX7_change 13 = .ok (.ireturn, 1) := by decide +kernel
theorem dX7_change_14 : decode cX7_change 14 = .ok (.iload_n 2, 1) := by decide +kernel
theorem dX7_change_15 : decode cX7_change 15 = .ok (.ifCond .ge 10, 3) := by decide +kernel
theorem dX7_change_18 : decode cX7_change 18 = .ok (.aload_n 0, 1) := by decide +kernel
theorem dX7_change_19 : decode cX7_change 19 = .ok (.bipush (-4), 2) := by decide +kernel
theorem dX7_change_21 : decode cX7_change 21 = .ok (.invokevirtual 116, 3) := by decide +kernel
theorem dX7_change_24 : decode cX7_change 24 = .ok (.ireturn, 1) := by decide +kernel
theorem dX7_change_25 : decode cX7_change 25 = .ok (.iload_n 2, 1) := by decide +kernel
theorem dX7_change_26 : decode cX7_change 26 = .ok (.sipush 20000, 3) := by decide +kernel
theorem dX7_change_29 : decode cX7_change 29 = .ok (.if_icmp .le 10, 3) := by decide +kernel
