theorem dX6_choose_218 : decode cX6_choose 218 = .ok (.iload 6, 2) := by decide +kernel
theorem dX6_choose_220 : decode cX6_choose 220 = .ok (.ireturn, 1) := by decide +kernel
theorem dX6_given_0 : decode cX6_given 0 = .ok (.iload_n 1, 1) := by decide +kernel
theorem dX6_given_1 : decode cX6_given 1 = .ok (.invokestatic 88, 3) := by decide +kernel
theorem dX6_given_4 : decode cX6_given 4 = .ok (.ifCond .eq 12, 3) := by decide +kernel
theorem dX6_given_7 : decode cX6_given 7 = .ok (.aload_n 0, 1) := by decide +kernel
theorem dX6_given_8 : decode cX6_given 8 = .ok (.getfield 31, 3) := by decide +kernel
theorem dX6_given_11 : decode cX6_given 11 = .ok (.iload_n 1, 1) := by decide +kernel
theorem dX6_given_12 : decode cX6_given 12 = .ok (.iaload, 1) := by decide +kernel
theorem dX6_given_13 : decode cX6_given 13 = .ok (.goto 8, 3) := by decide +kernel
theorem dX6_given_16 : decode cX6_given 16 = .ok (.aload_n 0, 1) := by decide +kernel
theorem dX6_given_17 : decode cX6_given 17 = .ok (.iconst (-1), 1) := by decide +kernel
theorem dX6_given_18 : decode cX6_given 18 = .ok (.invokevirtual 52, 3) := by decide +kernel
theorem dX6_given_21 : decode cX6_given 21 = .ok (.ireturn, 1) := by decide +kernel
theorem dX6_change_0 : decode cX6_change 0 = .ok (.aload_n 0, 1) := by decide +kernel
theorem dX6_change_1 : decode cX6_change 1 = .ok (.iload_n 1, 1) := by decide +kernel
theorem dX6_change_2 : decode cX6_change 2 = .ok (.invokevirtual 57, 3) := by decide +kernel
theorem dX6_change_5 : decode cX6_change 5 = .ok (.astore_n 3, 1) := by decide +kernel
theorem dX6_change_6 : decode cX6_change 6 = .ok (.aload_n 3, 1) := by decide +kernel
theorem dX6_change_7 : decode cX6_change 7 = .ok (.ifnonnull 9, 3) := by decide +kernel
theorem dX6_change_10 : decode cX6_change 10 = .ok (.aload_n 0, 1) := by decide +kernel
theorem dX6_change_11 : decode cX6_change 11 = .ok (.iconst (-1), 1) := by decide +kernel
theorem dX6_change_12 : decode cX6_change 12 = .ok (.invokevirtual 52, 3) := by decide +kernel
theorem dX6_change_15 : decode cX6_change 15 = .ok (.ireturn, 1) := by decide +kernel
theorem dX6_change_16 : decode cX6_change 16 = .ok (.iload_n 2, 1) := by decide +kernel
theorem dX6_change_17 : decode cX6_change 17 = .ok (.ifCond .ge 10, 3) := by decide +kernel
theorem dX6_change_20 : decode cX6_change 20 = .ok (.aload_n 0, 1) := by decide +kernel
theorem dX6_change_21 : decode cX6_change 21 = .ok (.bipush (-4), 2) := by decide +kernel
theorem dX6_change_23 : decode cX6_change 23 = .ok (.invokevirtual 52, 3) := by decide +kernel
theorem dX6_change_26 : decode cX6_change 26 = .ok (.ireturn, 1) := by decide +kernel
theorem dX6_change_27 : decode cX6_change 27 = .ok (.iload_n 2, 1) := by decide +kernel
theorem dX6_change_28 : decode cX6_change 28 = .ok (.sipush 20000, 3) := by decide +kernel
theorem dX6_change_31 : decode cX6_change 31 = .ok (.if_icmp .le 10, 3) := by decide +kernel
theorem dX6_change_34 : decode cX6_change 34 = .ok (.aload_n 0, 1) := by decide +kernel
theorem dX6_change_35 : decode cX6_change 35 = .ok (.bipush (-6), 2) := by decide +kernel
theorem dX6_change_37 : decode cX6_change 37 = .ok (.invokevirtual 52, 3) := by decide +kernel
theorem dX6_change_40 : decode cX6_change 40 = .ok (.ireturn, 1) := by decide +kernel
theorem dX6_change_41 : decode cX6_change 41 = .ok (.aload_n 0, 1) := by decide +kernel
theorem dX6_change_42 : decode cX6_change 42 = .ok (.getfield 37, 3) := by decide +kernel
theorem dX6_change_45 : decode cX6_change 45 = .ok (.aload_n 3, 1) := by decide +kernel
theorem dX6_change_46 : decode cX6_change 46 = .ok (.getfield 91, 3) := by decide +kernel
theorem dX6_change_49 : decode cX6_change 49 = .ok (.iload_n 2, 1) := by decide +kernel
theorem dX6_change_50 : decode cX6_change 50 = .ok (.invokevirtual 163, 3) := by decide +kernel
theorem dX6_change_53 : decode cX6_change 53 = .ok (.ireturn, 1) := by decide +kernel
theorem dX6_hours_0 : decode cX6_hours 0 = .ok (.iload_n 1, 1) := by decide +kernel
theorem dX6_hours_1 : decode cX6_hours 1 = .ok (.iconst 1, 1) := by decide +kernel
theorem dX6_hours_2 : decode cX6_hours 2 = .ok (.if_icmp .ge 10, 3) := by decide +kernel
theorem dX6_hours_5 : decode cX6_hours 5 = .ok (.aload_n 0, 1) := by decide +kernel
theorem dX6_hours_6 : decode cX6_hours 6 = .ok (.bipush (-4), 2) := by decide +kernel
theorem dX6_hours_8 : decode cX6_hours 8 = .ok (.invokevirtual 52, 3) := by decide +kernel
theorem dX6_hours_11 : decode cX6_hours 11 = .ok (.ireturn, 1) := by decide +kernel
theorem dX6_hours_12 : decode cX6_hours 12 = .ok (.iload_n 1, 1) := by decide +kernel
theorem dX6_hours_13 : decode cX6_hours 13 = .ok (.sipush 3000, 3) := by decide +kernel
theorem dX6_hours_16 : decode cX6_hours 16 = .ok (.aload_n 0, 1) := by decide +kernel
theorem dX6_hours_17 : decode cX6_hours 17 = .ok (.getfield 183, 3) := by decide +kernel
theorem dX6_hours_20 : decode cX6_hours 20 = .ok (.isub, 1) := by decide +kernel
theorem dX6_hours_21 : decode cX6_hours 21 = .ok (.if_icmp .le 10, 3) := by decide +kernel
theorem dX6_hours_24 : decode cX6_hours 24 = .ok (.aload_n 0, 1) := by decide +kernel
theorem dX6_hours_25 : decode cX6_hours 25 = .ok (.bipush (-6), 2) := by decide +kernel
theorem dX6_hours_27 : decode cX6_hours 27 = .ok (.invokevirtual 52, 3) := by decide +kernel
theorem dX6_hours_30 : decode cX6_hours 30 = .ok (.ireturn, 1) := by decide +kernel
theorem dX6_hours_31 : decode cX6_hours 31 = .ok (.iconst 0, 1) := by decide +kernel
theorem dX6_hours_32 : decode cX6_hours 32 = .ok (.istore_n 2, 1) := by decide +kernel
theorem dX6_hours_33 : decode cX6_hours 33 = .ok (.iload_n 2, 1) := by decide +kernel
theorem dX6_hours_34 : decode cX6_hours 34 = .ok (.iload_n 1, 1) := by decide +kernel
theorem dX6_hours_35 : decode cX6_hours 35 = .ok (.if_icmp .ge 13, 3) := by decide +kernel
theorem dX6_hours_38 : decode cX6_hours 38 = .ok (.aload_n 0, 1) := by decide +kernel
theorem dX6_hours_39 : decode cX6_hours 39 = .ok (.invokevirtual 204, 3) := by decide +kernel
theorem dX6_hours_42 : decode cX6_hours 42 = .ok (.iinc 2 1, 3) := by decide +kernel
theorem dX6_hours_45 : decode cX6_hours 45 = .ok (.goto (-12), 3) := by decide +kernel
theorem dX6_hours_48 : decode cX6_hours 48 = .ok (.aload_n 0, 1) := by decide +kernel
theorem dX6_hours_49 : decode cX6_hours 49 = .ok (.getfield 183, 3) := by decide +kernel
theorem dX6_hours_52 : decode cX6_hours 52 = .ok (.ireturn, 1) := by decide +kernel
theorem dX6_counted_0 : decode cX6_counted 0 = .ok (.aload_n 0, 1) := by decide +kernel
theorem dX6_counted_1 : decode cX6_counted 1 = .ok (.iload_n 1, 1) := by decide +kernel
theorem dX6_counted_2 : decode cX6_counted 2 = .ok (.invokevirtual 57, 3) := by decide +kernel
theorem dX6_counted_5 : decode cX6_counted 5 = .ok (.astore 5, 2) := by decide +kernel
theorem dX6_counted_7 : decode cX6_counted 7 = .ok (.aload 5, 2) := by decide +kernel
theorem dX6_counted_9 : decode cX6_counted 9 = .ok (.ifnull 10, 3) := by decide +kernel
theorem dX6_counted_12 : decode cX6_counted 12 = .ok (.iload_n 2, 1) := by decide +kernel
theorem dX6_counted_13 : decode cX6_counted 13 = .ok (.invokestatic 61, 3) := by decide +kernel
theorem dX6_counted_16 : decode cX6_counted 16 = .ok (.ifCond .ne 9, 3) := by decide +kernel
theorem dX6_counted_19 : decode cX6_counted 19 = .ok (.aload_n 0, 1) := by decide +kernel
theorem dX6_counted_20 : decode cX6_counted 20 = .ok (.iconst (-1), 1) := by decide +kernel
theorem dX6_counted_21 : decode cX6_counted 21 = .ok (.invokevirtual 52, 3) := by decide +kernel
theorem dX6_counted_24 : decode cX6_counted 24 = .ok (.ireturn, 1) := by decide +kernel
theorem dX6_counted_25 : decode cX6_counted 25 = .ok (.iload 4, 2) := by decide +kernel
theorem dX6_counted_27 : decode cX6_counted 27 = .ok (.ifCond .eq 16, 3) := by decide +kernel
theorem dX6_counted_30 : decode cX6_counted 30 = .ok (.iload 4, 2) := by decide +kernel
theorem dX6_counted_32 : decode cX6_counted 32 = .ok (.iconst 1, 1) := by decide +kernel
theorem dX6_counted_33 : decode cX6_counted 33 = .ok (.if_icmp .eq 10, 3) := by decide +kernel
theorem dX6_counted_36 : decode cX6_counted 36 = .ok (.aload_n 0, 1) := by decide +kernel
theorem dX6_counted_37 : decode cX6_counted 37 = .ok (.bipush (-2), 2) := by decide +kernel
theorem dX6_counted_39 : decode cX6_counted 39 = .ok (.invokevirtual 52, 3) := by decide +kernel
theorem dX6_counted_42 : decode cX6_counted 42 = .ok (.ireturn, 1) := by decide +kernel
theorem dX6_counted_43 : decode cX6_counted 43 = .ok (.iload_n 3, 1) := by decide +kernel
theorem dX6_counted_44 : decode cX6_counted 44 = .ok (.ifCond .ge 10, 3) := by decide +kernel
theorem dX6_counted_47 : decode cX6_counted 47 = .ok (.aload_n 0, 1) := by decide +kernel
theorem dX6_counted_48 : decode cX6_counted 48 = .ok (.bipush (-4), 2) := by decide +kernel
theorem dX6_counted_50 : decode cX6_counted 50 = .ok (.invokevirtual 52, 3) := by decide +kernel
theorem dX6_counted_53 : decode cX6_counted 53 = .ok (.ireturn, 1) := by decide +kernel
theorem dX6_counted_54 : decode cX6_counted 54 = .ok (.iload_n 3, 1) := by decide +kernel
theorem dX6_counted_55 : decode cX6_counted 55 = .ok (.bipush 24, 2) := by decide +kernel
theorem dX6_counted_57 : decode cX6_counted 57 = .ok (.if_icmp .lt 10, 3) := by decide +kernel
theorem dX6_counted_60 : decode cX6_counted 60 = .ok (.aload_n 0, 1) := by decide +kernel
theorem dX6_counted_61 : decode cX6_counted 61 = .ok (.bipush (-6), 2) := by decide +kernel
theorem dX6_counted_63 : decode cX6_counted 63 = .ok (.invokevirtual 52, 3) := by decide +kernel
theorem dX6_counted_66 : decode cX6_counted 66 = .ok (.ireturn, 1) := by decide +kernel
theorem dX6_counted_67 : decode cX6_counted 67 = .ok (.iload 4, 2) := by decide +kernel
theorem dX6_counted_69 : decode cX6_counted 69 = .ok (.ifCond .ne 16, 3) := by decide +kernel
theorem dX6_counted_72 : decode cX6_counted 72 = .ok (.aload 5, 2) := by decide +kernel
theorem dX6_counted_74 : decode cX6_counted 74 = .ok (.getfield 176, 3) := by decide +kernel
theorem dX6_counted_77 : decode cX6_counted 77 = .ok (.iload_n 2, 1) := by decide +kernel
theorem dX6_counted_78 : decode cX6_counted 78 = .ok (.iload_n 3, 1) := by decide +kernel
theorem dX6_counted_79 : decode cX6_counted 79 = .ok (.invokevirtual 207, 3) := by decide +kernel
theorem dX6_counted_82 : decode cX6_counted 82 = .ok (.goto 13, 3) := by decide +kernel
theorem dX6_counted_85 : decode cX6_counted 85 = .ok (.aload 5, 2) := by decide +kernel
theorem dX6_counted_87 : decode cX6_counted 87 = .ok (.getfield 176, 3) := by decide +kernel
theorem dX6_counted_90 : decode cX6_counted 90 = .ok (.iload_n 2, 1) := by decide +kernel
theorem dX6_counted_91 : decode cX6_counted 91 = .ok (.iload_n 3, 1) := by decide +kernel
theorem dX6_counted_92 : decode cX6_counted 92 = .ok (.invokevirtual 211, 3) := by decide +kernel
theorem dX6_counted_95 : decode cX6_counted 95 = .ok (.ireturn, 1) := by decide +kernel
theorem dX6_foretell_0 : decode cX6_foretell 0 = .ok (.aload_n 0, 1) := by decide +kernel
theorem dX6_foretell_1 : decode cX6_foretell 1 = .ok (.iload_n 1, 1) := by decide +kernel
theorem dX6_foretell_2 : decode cX6_foretell 2 = .ok (.invokevirtual 57, 3) := by decide +kernel
theorem dX6_foretell_5 : decode cX6_foretell 5 = .ok (.astore 4, 2) := by decide +kernel
theorem dX6_foretell_7 : decode cX6_foretell 7 = .ok (.aload 4, 2) := by decide +kernel
theorem dX6_foretell_9 : decode cX6_foretell 9 = .ok (.ifnull 10, 3) := by decide +kernel
theorem dX6_foretell_12 : decode cX6_foretell 12 = .ok (.iload_n 2, 1) := by decide +kernel
theorem dX6_foretell_13 : decode cX6_foretell 13 = .ok (.invokestatic 61, 3) := by decide +kernel
theorem dX6_foretell_16 : decode cX6_foretell 16 = .ok (.ifCond .ne 9, 3) := by decide +kernel
theorem dX6_foretell_19 : decode cX6_foretell 19 = .ok (.aload_n 0, 1) := by decide +kernel
theorem dX6_foretell_20 : decode cX6_foretell 20 = .ok (.iconst (-1), 1) := by decide +kernel
theorem dX6_foretell_21 : decode cX6_foretell 21 = .ok (.invokevirtual 52, 3) := by decide +kernel
theorem dX6_foretell_24 : decode cX6_foretell 24 = .ok (.ireturn, 1) := by decide +kernel
theorem dX6_foretell_25 : decode cX6_foretell 25 = .ok (.iload_n 3, 1) := by decide +kernel
theorem dX6_foretell_26 : decode cX6_foretell 26 = .ok (.ifCond .ge 10, 3) := by decide +kernel
theorem dX6_foretell_29 : decode cX6_foretell 29 = .ok (.aload_n 0, 1) := by decide +kernel
theorem dX6_foretell_30 : decode cX6_foretell 30 = .ok (.bipush (-4), 2) := by decide +kernel
theorem dX6_foretell_32 : decode cX6_foretell 32 = .ok (.invokevirtual 52, 3) := by decide +kernel
theorem dX6_foretell_35 : decode cX6_foretell 35 = .ok (.ireturn, 1) := by decide +kernel
theorem dX6_foretell_36 : decode cX6_foretell 36 = .ok (.iload_n 3, 1) := by decide +kernel
theorem dX6_foretell_37 : decode cX6_foretell 37 = .ok (.sipush 240, 3) := by decide +kernel
theorem dX6_foretell_40 : decode cX6_foretell 40 = .ok (.if_icmp .le 10, 3) := by decide +kernel
theorem dX6_foretell_43 : decode cX6_foretell 43 = .ok (.aload_n 0, 1) := by decide +kernel
theorem dX6_foretell_44 : decode cX6_foretell 44 = .ok (.bipush (-6), 2) := by decide +kernel
theorem dX6_foretell_46 : decode cX6_foretell 46 = .ok (.invokevirtual 52, 3) := by decide +kernel
theorem dX6_foretell_49 : decode cX6_foretell 49 = .ok (.ireturn, 1) := by decide +kernel
theorem dX6_foretell_50 : decode cX6_foretell 50 = .ok (.aload 4, 2) := by decide +kernel
theorem dX6_foretell_52 : decode cX6_foretell 52 = .ok (.getfield 176, 3) := by decide +kernel
theorem dX6_foretell_55 : decode cX6_foretell 55 = .ok (.iload_n 2, 1) := by decide +kernel
theorem dX6_foretell_56 : decode cX6_foretell 56 = .ok (.aload_n 0, 1) := by decide +kernel
theorem dX6_foretell_57 : decode cX6_foretell 57 = .ok (.getfield 183, 3) := by decide +kernel
theorem dX6_foretell_60 : decode cX6_foretell 60 = .ok (.iload_n 3, 1) := by decide +kernel
theorem dX6_foretell_61 : decode cX6_foretell 61 = .ok (.invokevirtual 214, 3) := by decide +kernel
theorem dX6_foretell_64 : decode cX6_foretell 64 = .ok (.ireturn, 1) := by decide +kernel
theorem dX6_when_0 : decode cX6_when 0 = .ok (.aload_n 0, 1) := by decide +kernel
theorem dX6_when_1 : decode cX6_when 1 = .ok (.iload_n 1, 1) := by decide +kernel
theorem dX6_when_2 : decode cX6_when 2 = .ok (.invokevirtual 57, 3) := by decide +kernel
theorem dX6_when_5 : decode cX6_when 5 = .ok (.astore_n 3, 1) := by decide +kernel
theorem dX6_when_6 : decode cX6_when 6 = .ok (.aload_n 0, 1) := by decide +kernel
theorem dX6_when_7 : decode cX6_when 7 = .ok (.iload_n 1, 1) := by decide +kernel
theorem dX6_when_8 : decode cX6_when 8 = .ok (.iload_n 2, 1) := by decide +kernel
theorem dX6_when_9 : decode cX6_when 9 = .ok (.invokevirtual 81, 3) := by decide +kernel
theorem dX6_when_12 : decode cX6_when 12 = .ok (.astore 4, 2) := by decide +kernel
theorem dX6_when_14 : decode cX6_when 14 = .ok (.aload_n 3, 1) := by decide +kernel
theorem dX6_when_15 : decode cX6_when 15 = .ok (.ifnull 8, 3) := by decide +kernel
theorem dX6_when_18 : decode cX6_when 18 = .ok (.aload 4, 2) := by decide +kernel
theorem dX6_when_20 : decode cX6_when 20 = .ok (.ifnonnull 9, 3) := by decide +kernel
theorem dX6_when_23 : decode cX6_when 23 = .ok (.aload_n 0, 1) := by decide +kernel
theorem dX6_when_24 : decode cX6_when 24 = .ok (.iconst (-1), 1) := by decide +kernel
theorem dX6_when_25 : decode cX6_when 25 = .ok (.invokevirtual 52, 3) := by decide +kernel
theorem dX6_when_28 : decode cX6_when 28 = .ok (.ireturn, 1) := by decide +kernel
theorem dX6_when_29 : decode cX6_when 29 = .ok (.aload_n 3, 1) := by decide +kernel
theorem dX6_when_30 : decode cX6_when 30 = .ok (.aload 4, 2) := by decide +kernel
theorem dX6_when_32 : decode cX6_when 32 = .ok (.getfield 180, 3) := by decide +kernel
theorem dX6_when_35 : decode cX6_when 35 = .ok (.invokevirtual 218, 3) := by decide +kernel
theorem dX6_when_38 : decode cX6_when 38 = .ok (.istore 5, 2) := by decide +kernel
theorem dX6_when_40 : decode cX6_when 40 = .ok (.iload 5, 2) := by decide +kernel
theorem dX6_when_42 : decode cX6_when 42 = .ok (.ifCond .ne 7, 3) := by decide +kernel
theorem dX6_when_45 : decode cX6_when 45 = .ok (.iconst 0, 1) := by decide +kernel
theorem dX6_when_46 : decode cX6_when 46 = .ok (.goto 25, 3) := by decide +kernel
theorem dX6_when_49 : decode cX6_when 49 = .ok (.aload_n 3, 1) := by decide +kernel
theorem dX6_when_50 : decode cX6_when 50 = .ok (.getfield 176, 3) := by decide +kernel
theorem dX6_when_53 : decode cX6_when 53 = .ok (.aload 4, 2) := by decide +kernel
theorem dX6_when_55 : decode cX6_when 55 = .ok (.getfield 180, 3) := by decide +kernel
theorem dX6_when_58 : decode cX6_when 58 = .ok (.aload_n 0, 1) := by decide +kernel
theorem dX6_when_59 : decode cX6_when 59 = .ok (.getfield 183, 3) := by decide +kernel
theorem dX6_when_62 : decode cX6_when 62 = .ok (.sipush 1000, 3) := by decide +kernel
theorem dX6_when_65 : decode cX6_when 65 = .ok (.iload 5, 2) := by decide +kernel
theorem dX6_when_67 : decode cX6_when 67 = .ok (.imul, 1) := by decide +kernel
theorem dX6_when_68 : decode cX6_when 68 = .ok (.invokevirtual 221, 3) := by decide +kernel
theorem dX6_when_71 : decode cX6_when 71 = .ok (.ireturn, 1) := by decide +kernel
theorem dX6_load_0 : decode cX6_load 0 = .ok (.aload_n 0, 1) := by decide +kernel
theorem dX6_load_1 : decode cX6_load 1 = .ok (.iload_n 1, 1) := by decide +kernel
theorem dX6_load_2 : decode cX6_load 2 = .ok (.invokevirtual 57, 3) := by decide +kernel
theorem dX6_load_5 : decode cX6_load 5 = .ok (.astore_n 3, 1) := by decide +kernel
theorem dX6_load_6 : decode cX6_load 6 = .ok (.aload_n 3, 1) := by decide +kernel
theorem dX6_load_7 : decode cX6_load 7 = .ok (.ifnonnull 9, 3) := by decide +kernel
theorem dX6_load_10 : decode cX6_load 10 = .ok (.aload_n 0, 1) := by decide +kernel
theorem dX6_load_11 : decode cX6_load 11 = .ok (.iconst (-1), 1) := by decide +kernel
theorem dX6_load_12 : decode cX6_load 12 = .ok (.invokevirtual 52, 3) := by decide +kernel
theorem dX6_load_15 : decode cX6_load 15 = .ok (.ireturn, 1) := by decide +kernel
theorem dX6_load_16 : decode cX6_load 16 = .ok (.iload_n 2, 1) := by decide +kernel
theorem dX6_load_17 : decode cX6_load 17 = .ok (.ifCond .ge 10, 3) := by decide +kernel
theorem dX6_load_20 : decode cX6_load 20 = .ok (.aload_n 0, 1) := by decide +kernel
theorem dX6_load_21 : decode cX6_load 21 = .ok (.bipush (-4), 2) := by decide +kernel
theorem dX6_load_23 : decode cX6_load 23 = .ok (.invokevirtual 52, 3) := by decide +kernel
theorem dX6_load_26 : decode cX6_load 26 = .ok (.ireturn, 1) := by decide +kernel
theorem dX6_load_27 : decode cX6_load 27 = .ok (.iload_n 2, 1) := by decide +kernel
theorem dX6_load_28 : decode cX6_load 28 = .ok (.sipush 200, 3) := by decide +kernel
theorem dX6_load_31 : decode cX6_load 31 = .ok (.if_icmp .le 10, 3) := by decide +kernel
theorem dX6_load_34 : decode cX6_load 34 = .ok (.aload_n 0, 1) := by decide +kernel
theorem dX6_load_35 : decode cX6_load 35 = .ok (.bipush (-6), 2) := by decide +kernel
theorem dX6_load_37 : decode cX6_load 37 = .ok (.invokevirtual 52, 3) := by decide +kernel
theorem dX6_load_40 : decode cX6_load 40 = .ok (.ireturn, 1) := by decide +kernel
theorem dX6_load_41 : decode cX6_load 41 = .ok (.aload_n 0, 1) := by decide +kernel
theorem dX6_load_42 : decode cX6_load 42 = .ok (.getfield 44, 3) := by decide +kernel
theorem dX6_load_45 : decode cX6_load 45 = .ok (.aload_n 3, 1) := by decide +kernel
theorem dX6_load_46 : decode cX6_load 46 = .ok (.aload_n 0, 1) := by decide +kernel
theorem dX6_load_47 : decode cX6_load 47 = .ok (.getfield 15, 3) := by decide +kernel
theorem dX6_load_50 : decode cX6_load 50 = .ok (.iload_n 2, 1) := by decide +kernel
theorem dX6_load_51 : decode cX6_load 51 = .ok (.invokevirtual 224, 3) := by decide +kernel
theorem dX6_load_54 : decode cX6_load 54 = .ok (.ireturn, 1) := by decide +kernel
theorem dX6_loaded_0 : decode cX6_loaded 0 = .ok (.iload_n 1, 1) := by decide +kernel
theorem dX6_loaded_1 : decode cX6_loaded 1 = .ok (.ifCond .ge 10, 3) := by decide +kernel
theorem dX6_loaded_4 : decode cX6_loaded 4 = .ok (.aload_n 0, 1) := by decide +kernel
theorem dX6_loaded_5 : decode cX6_loaded 5 = .ok (.bipush (-4), 2) := by decide +kernel
theorem dX6_loaded_7 : decode cX6_loaded 7 = .ok (.invokevirtual 52, 3) := by decide +kernel
theorem dX6_loaded_10 : decode cX6_loaded 10 = .ok (.ireturn, 1) := by decide +kernel
theorem dX6_loaded_11 : decode cX6_loaded 11 = .ok (.aload_n 0, 1) := by decide +kernel
theorem dX6_loaded_12 : decode cX6_loaded 12 = .ok (.getfield 44, 3) := by decide +kernel
theorem dX6_loaded_15 : decode cX6_loaded 15 = .ok (.iload_n 1, 1) := by decide +kernel
theorem dX6_loaded_16 : decode cX6_loaded 16 = .ok (.invokevirtual 228, 3) := by decide +kernel
theorem dX6_loaded_19 : decode cX6_loaded 19 = .ok (.ireturn, 1) := by decide +kernel
theorem dX6_laneOf_0 : decode cX6_laneOf 0 = .ok (.aload_n 0, 1) := by decide +kernel
theorem dX6_laneOf_1 : decode cX6_laneOf 1 = .ok (.iload_n 1, 1) := by decide +kernel
theorem dX6_laneOf_2 : decode cX6_laneOf 2 = .ok (.invokevirtual 57, 3) := by decide +kernel
theorem dX6_laneOf_5 : decode cX6_laneOf 5 = .ok (.astore 4, 2) := by decide +kernel
theorem dX6_laneOf_7 : decode cX6_laneOf 7 = .ok (.aload_n 0, 1) := by decide +kernel
theorem dX6_laneOf_8 : decode cX6_laneOf 8 = .ok (.iload_n 1, 1) := by decide +kernel
theorem dX6_laneOf_9 : decode cX6_laneOf 9 = .ok (.iload_n 2, 1) := by decide +kernel
theorem dX6_laneOf_10 : decode cX6_laneOf 10 = .ok (.invokevirtual 81, 3) := by decide +kernel
theorem dX6_laneOf_13 : decode cX6_laneOf 13 = .ok (.astore 5, 2) := by decide +kernel
theorem dX6_laneOf_15 : decode cX6_laneOf 15 = .ok (.aload 4, 2) := by decide +kernel
theorem dX6_laneOf_17 : decode cX6_laneOf 17 = .ok (.ifnull 8, 3) := by decide +kernel
theorem dX6_laneOf_20 : decode cX6_laneOf 20 = .ok (.aload 5, 2) := by decide +kernel
theorem dX6_laneOf_22 : decode cX6_laneOf 22 = .ok (.ifnonnull 9, 3) := by decide +kernel
theorem dX6_laneOf_25 : decode cX6_laneOf 25 = .ok (.aload_n 0, 1) := by decide +kernel
theorem dX6_laneOf_26 : decode cX6_laneOf 26 = .ok (.iconst (-1), 1) := by decide +kernel
theorem dX6_laneOf_27 : decode cX6_laneOf 27 = .ok (.invokevirtual 52, 3) := by decide +kernel
theorem dX6_laneOf_30 : decode cX6_laneOf 30 = .ok (.ireturn, 1) := by decide +kernel
theorem dX6_laneOf_31 : decode cX6_laneOf 31 = .ok (.iload_n 3, 1) := by decide +kernel
theorem dX6_laneOf_32 : decode cX6_laneOf 32 = .ok (.tableswitch 131 0 8 #[52, 58, 64, 70, 76, 82, 96, 102, 116], 52) := by decide +kernel
theorem dX6_laneOf_84 : decode cX6_laneOf 84 = .ok (.aload 5, 2) := by decide +kernel
theorem dX6_laneOf_86 : decode cX6_laneOf 86 = .ok (.getfield 180, 3) := by decide +kernel
theorem dX6_laneOf_89 : decode cX6_laneOf 89 = .ok (.ireturn, 1) := by decide +kernel
theorem dX6_laneOf_90 : decode cX6_laneOf 90 = .ok (.aload 5, 2) := by decide +kernel
theorem dX6_laneOf_92 : decode cX6_laneOf 92 = .ok (.getfield 85, 3) := by decide +kernel
theorem dX6_laneOf_95 : decode cX6_laneOf 95 = .ok (.ireturn, 1) := by decide +kernel
theorem dX6_laneOf_96 : decode cX6_laneOf 96 = .ok (.aload 5, 2) := by decide +kernel
theorem dX6_laneOf_98 : decode cX6_laneOf 98 = .ok (.getfield 126, 3) := by decide +kernel
theorem dX6_laneOf_101 : decode cX6_laneOf 101 = .ok (.ireturn, 1) := by decide +kernel
theorem dX6_laneOf_102 : decode cX6_laneOf 102 = .ok (.aload 5, 2) := by decide +kernel
theorem dX6_laneOf_104 : decode cX6_laneOf 104 = .ok (.getfield 129, 3) := by decide +kernel
theorem dX6_laneOf_107 : decode cX6_laneOf 107 = .ok (.ireturn, 1) := by decide +kernel
theorem dX6_laneOf_108 : decode cX6_laneOf 108 = .ok (.aload 5, 2) := by decide +kernel
theorem dX6_laneOf_110 : decode cX6_laneOf 110 = .ok (.getfield 104, 3) := by decide +kernel
theorem dX6_laneOf_113 : decode cX6_laneOf 113 = .ok (.ireturn, 1) := by decide +kernel
theorem dX6_laneOf_114 : decode cX6_laneOf 114 = .ok (.aload 5, 2) := by decide +kernel
theorem dX6_laneOf_116 : decode cX6_laneOf 116 = .ok (.getfield 110, 3) := by decide +kernel
theorem dX6_laneOf_119 : decode cX6_laneOf 119 = .ok (.ifCond .eq 7, 3) := by decide +kernel
theorem dX6_laneOf_122 : decode cX6_laneOf 122 = .ok (.iconst 1, 1) := by decide +kernel
theorem dX6_laneOf_123 : decode cX6_laneOf 123 = .ok (.goto 4, 3) := by decide +kernel
theorem dX6_laneOf_126 : decode cX6_laneOf 126 = .ok (.iconst 0, 1) := by decide +kernel
theorem dX6_laneOf_127 : decode cX6_laneOf 127 = .ok (.ireturn, 1) := by decide +kernel
theorem dX6_laneOf_128 : decode cX6_laneOf 128 = .ok (.aload 5, 2) := by decide +kernel
theorem dX6_laneOf_130 : decode cX6_laneOf 130 = .ok (.getfield 114, 3) := by decide +kernel
theorem dX6_laneOf_133 : decode cX6_laneOf 133 = .ok (.ireturn, 1) := by decide +kernel
theorem dX6_laneOf_134 : decode cX6_laneOf 134 = .ok (.aload 5, 2) := by decide +kernel
theorem dX6_laneOf_136 : decode cX6_laneOf 136 = .ok (.getfield 123, 3) := by decide +kernel
theorem dX6_laneOf_139 : decode cX6_laneOf 139 = .ok (.ifCond .eq 7, 3) := by decide +kernel
theorem dX6_laneOf_142 : decode cX6_laneOf 142 = .ok (.iconst 1, 1) := by decide +kernel
theorem dX6_laneOf_143 : decode cX6_laneOf 143 = .ok (.goto 4, 3) := by decide +kernel
theorem dX6_laneOf_146 : decode cX6_laneOf 146 = .ok (.iconst 0, 1) := by decide +kernel
theorem dX6_laneOf_147 : decode cX6_laneOf 147 = .ok (.ireturn, 1) := by decide +kernel
theorem dX6_laneOf_148 : decode cX6_laneOf 148 = .ok (.aload 4, 2) := by decide +kernel
theorem dX6_laneOf_150 : decode cX6_laneOf 150 = .ok (.iload_n 2, 1) := by decide +kernel
theorem dX6_laneOf_151 : decode cX6_laneOf 151 = .ok (.invokevirtual 159, 3) := by decide +kernel
theorem dX6_laneOf_154 : decode cX6_laneOf 154 = .ok (.ifnull 7, 3) := by decide +kernel
theorem dX6_laneOf_157 : decode cX6_laneOf 157 = .ok (.iconst 1, 1) := by decide +kernel
theorem dX6_laneOf_158 : decode cX6_laneOf 158 = .ok (.goto 4, 3) := by decide +kernel
theorem dX6_laneOf_161 : decode cX6_laneOf 161 = .ok (.iconst 0, 1) := by decide +kernel
theorem dX6_laneOf_162 : decode cX6_laneOf 162 = .ok (.ireturn, 1) := by decide +kernel
theorem dX6_laneOf_163 : decode cX6_laneOf 163 = .ok (.aload_n 0, 1) := by decide +kernel
theorem dX6_laneOf_164 : decode cX6_laneOf 164 = .ok (.bipush (-2), 2) := by decide +kernel
theorem dX6_laneOf_166 : decode cX6_laneOf 166 = .ok (.invokevirtual 52, 3) := by decide +kernel
theorem dX6_laneOf_169 : decode cX6_laneOf 169 = .ok (.ireturn, 1) := by decide +kernel
theorem dX6_machineOf_0 : decode cX6_machineOf 0 = .ok (.aload_n 0, 1) := by decide +kernel
theorem dX6_machineOf_1 : decode cX6_machineOf 1 = .ok (.iload_n 1, 1) := by decide +kernel
theorem dX6_machineOf_2 : decode cX6_machineOf 2 = .ok (.invokevirtual 57, 3) := by decide +kernel
theorem dX6_machineOf_5 : decode cX6_machineOf 5 = .ok (.astore_n 3, 1) := by decide +kernel
theorem dX6_machineOf_6 : decode cX6_machineOf 6 = .ok (.aload_n 3, 1) := by decide +kernel
theorem dX6_machineOf_7 : decode cX6_machineOf 7 = .ok (.ifnonnull 12, 3) := by decide +kernel
theorem dX6_machineOf_10 : decode cX6_machineOf 10 = .ok (.ldc 231, 2) := by decide +kernel
theorem dX6_machineOf_12 : decode cX6_machineOf 12 = .ok (.aload_n 0, 1) := by decide +kernel
theorem dX6_machineOf_13 : decode cX6_machineOf 13 = .ok (.iconst (-1), 1) := by decide +kernel
theorem dX6_machineOf_14 : decode cX6_machineOf 14 = .ok (.invokevirtual 52, 3) := by decide +kernel
theorem dX6_machineOf_17 : decode cX6_machineOf 17 = .ok (.isub, 1) := by decide +kernel
theorem dX6_machineOf_18 : decode cX6_machineOf 18 = .ok (.ireturn, 1) := by decide +kernel
theorem dX6_machineOf_19 : decode cX6_machineOf 19 = .ok (.iload_n 2, 1) := by decide +kernel
theorem dX6_machineOf_20 : decode cX6_machineOf 20 = .ok (.tableswitch 115 0 8 #[52, 57, 68, 79, 90, 95, 100, 105, 110], 52) := by decide +kernel
theorem dX6_machineOf_72 : decode cX6_machineOf 72 = .ok (.aload_n 3, 1) := by decide +kernel
theorem dX6_machineOf_73 : decode cX6_machineOf 73 = .ok (.getfield 232, 3) := by decide +kernel
theorem dX6_machineOf_76 : decode cX6_machineOf 76 = .ok (.ireturn, 1) := by decide +kernel
theorem dX6_machineOf_77 : decode cX6_machineOf 77 = .ok (.aload_n 3, 1) := by decide +kernel
theorem dX6_machineOf_78 : decode cX6_machineOf 78 = .ok (.getfield 91, 3) := by decide +kernel
theorem dX6_machineOf_81 : decode cX6_machineOf 81 = .ok (.getfield 95, 3) := by decide +kernel
theorem dX6_machineOf_84 : decode cX6_machineOf 84 = .ok (.invokestatic 151, 3) := by decide +kernel
theorem dX6_machineOf_87 : decode cX6_machineOf 87 = .ok (.ireturn, 1) := by decide +kernel
theorem dX6_machineOf_88 : decode cX6_machineOf 88 = .ok (.aload_n 3, 1) := by decide +kernel
theorem dX6_machineOf_89 : decode cX6_machineOf 89 = .ok (.getfield 91, 3) := by decide +kernel
theorem dX6_machineOf_92 : decode cX6_machineOf 92 = .ok (.getfield 235, 3) := by decide +kernel
theorem dX6_machineOf_95 : decode cX6_machineOf 95 = .ok (.invokestatic 151, 3) := by decide +kernel
theorem dX6_machineOf_98 : decode cX6_machineOf 98 = .ok (.ireturn, 1) := by decide +kernel
theorem dX6_machineOf_99 : decode cX6_machineOf 99 = .ok (.aload_n 3, 1) := by decide +kernel
theorem dX6_machineOf_100 : decode cX6_machineOf 100 = .ok (.getfield 91, 3) := by decide +kernel
theorem dX6_machineOf_103 : decode cX6_machineOf 103 = .ok (.getfield 148, 3) := by decide +kernel
theorem dX6_machineOf_106 : decode cX6_machineOf 106 = .ok (.invokestatic 151, 3) := by decide +kernel
theorem dX6_machineOf_109 : decode cX6_machineOf 109 = .ok (.ireturn, 1) := by decide +kernel
theorem dX6_machineOf_110 : decode cX6_machineOf 110 = .ok (.aload_n 3, 1) := by decide +kernel
theorem dX6_machineOf_111 : decode cX6_machineOf 111 = .ok (.getfield 135, 3) := by decide +kernel
theorem dX6_machineOf_114 : decode cX6_machineOf 114 = .ok (.ireturn, 1) := by decide +kernel
theorem dX6_machineOf_115 : decode cX6_machineOf 115 = .ok (.aload_n 3, 1) := by decide +kernel
theorem dX6_machineOf_116 : decode cX6_machineOf 116 = .ok (.getfield 138, 3) := by decide +kernel
theorem dX6_machineOf_119 : decode cX6_machineOf 119 = .ok (.ireturn, 1) := by decide +kernel
theorem dX6_machineOf_120 : decode cX6_machineOf 120 = .ok (.aload_n 3, 1) := by decide +kernel
theorem dX6_machineOf_121 : decode cX6_machineOf 121 = .ok (.getfield 173, 3) := by decide +kernel
theorem dX6_machineOf_124 : decode cX6_machineOf 124 = .ok (.ireturn, 1) := by decide +kernel
theorem dX6_machineOf_125 : decode cX6_machineOf 125 = .ok (.aload_n 3, 1) := by decide +kernel
theorem dX6_machineOf_126 : decode cX6_machineOf 126 = .ok (.getfield 132, 3) := by decide +kernel
theorem dX6_machineOf_129 : decode cX6_machineOf 129 = .ok (.ireturn, 1) := by decide +kernel
theorem dX6_machineOf_130 : decode cX6_machineOf 130 = .ok (.aload_n 3, 1) := by decide +kernel
theorem dX6_machineOf_131 : decode cX6_machineOf 131 = .ok (.getfield 120, 3) := by decide +kernel
theorem dX6_machineOf_134 : decode cX6_machineOf 134 = .ok (.ireturn, 1) := by decide +kernel
theorem dX6_machineOf_135 : decode cX6_machineOf 135 = .ok (.ldc 231, 2) := by decide +kernel
theorem dX6_machineOf_137 : decode cX6_machineOf 137 = .ok (.aload_n 0, 1) := by decide +kernel
theorem dX6_machineOf_138 : decode cX6_machineOf 138 = .ok (.bipush (-2), 2) := by decide +kernel
theorem dX6_machineOf_140 : decode cX6_machineOf 140 = .ok (.invokevirtual 52, 3) := by decide +kernel
theorem dX6_machineOf_143 : decode cX6_machineOf 143 = .ok (.isub, 1) := by decide +kernel
theorem dX6_machineOf_144 : decode cX6_machineOf 144 = .ok (.ireturn, 1) := by decide +kernel
theorem dX6_tubeOf_0 : decode cX6_tubeOf 0 = .ok (.aload_n 0, 1) := by decide +kernel
theorem dX6_tubeOf_1 : decode cX6_tubeOf 1 = .ok (.iload_n 1, 1) := by decide +kernel
theorem dX6_tubeOf_2 : decode cX6_tubeOf 2 = .ok (.invokevirtual 57, 3) := by decide +kernel
theorem dX6_tubeOf_5 : decode cX6_tubeOf 5 = .ok (.astore_n 3, 1) := by decide +kernel
theorem dX6_tubeOf_6 : decode cX6_tubeOf 6 = .ok (.aload_n 3, 1) := by decide +kernel
theorem dX6_tubeOf_7 : decode cX6_tubeOf 7 = .ok (.ifnull 10, 3) := by decide +kernel
theorem dX6_tubeOf_10 : decode cX6_tubeOf 10 = .ok (.iload_n 2, 1) := by decide +kernel
theorem dX6_tubeOf_11 : decode cX6_tubeOf 11 = .ok (.invokestatic 88, 3) := by decide +kernel
theorem dX6_tubeOf_14 : decode cX6_tubeOf 14 = .ok (.ifCond .ne 9, 3) := by decide +kernel
theorem dX6_tubeOf_17 : decode cX6_tubeOf 17 = .ok (.aload_n 0, 1) := by decide +kernel
theorem dX6_tubeOf_18 : decode cX6_tubeOf 18 = .ok (.iconst (-1), 1) := by decide +kernel
theorem dX6_tubeOf_19 : decode cX6_tubeOf 19 = .ok (.invokevirtual 52, 3) := by decide +kernel
theorem dX6_tubeOf_22 : decode cX6_tubeOf 22 = .ok (.ireturn, 1) := by decide +kernel
theorem dX6_tubeOf_23 : decode cX6_tubeOf 23 = .ok (.aload_n 3, 1) := by decide +kernel
theorem dX6_tubeOf_24 : decode cX6_tubeOf 24 = .ok (.getfield 91, 3) := by decide +kernel
theorem dX6_tubeOf_27 : decode cX6_tubeOf 27 = .ok (.getfield 95, 3) := by decide +kernel
theorem dX6_tubeOf_30 : decode cX6_tubeOf 30 = .ok (.iload_n 2, 1) := by decide +kernel
theorem dX6_tubeOf_31 : decode cX6_tubeOf 31 = .ok (.iaload, 1) := by decide +kernel
theorem dX6_tubeOf_32 : decode cX6_tubeOf 32 = .ok (.ireturn, 1) := by decide +kernel
theorem dX6_collect_0 : decode cX6_collect 0 = .ok (.aload_n 0, 1) := by decide +kernel
theorem dX6_collect_1 : decode cX6_collect 1 = .ok (.iload_n 1, 1) := by decide +kernel
theorem dX6_collect_2 : decode cX6_collect 2 = .ok (.invokevirtual 57, 3) := by decide +kernel
theorem dX6_collect_5 : decode cX6_collect 5 = .ok (.astore_n 2, 1) := by decide +kernel
theorem dX6_collect_6 : decode cX6_collect 6 = .ok (.aload_n 2, 1) := by decide +kernel
theorem dX6_collect_7 : decode cX6_collect 7 = .ok (.ifnonnull 9, 3) := by decide +kernel
theorem dX6_collect_10 : decode cX6_collect 10 = .ok (.aload_n 0, 1) := by decide +kernel
theorem dX6_collect_11 : decode cX6_collect 11 = .ok (.iconst (-1), 1) := by decide +kernel
theorem dX6_collect_12 : decode cX6_collect 12 = .ok (.invokevirtual 52, 3) := by decide +kernel
theorem dX6_collect_15 : decode cX6_collect 15 = .ok (.ireturn, 1) := by decide +kernel
theorem dX6_collect_16 : decode cX6_collect 16 = .ok (.aload_n 2, 1) := by decide +kernel
theorem dX6_collect_17 : decode cX6_collect 17 = .ok (.getfield 91, 3) := by decide +kernel
theorem dX6_collect_20 : decode cX6_collect 20 = .ok (.invokevirtual 238, 3) := by decide +kernel
theorem dX6_collect_23 : decode cX6_collect 23 = .ok (.ireturn, 1) := by decide +kernel
theorem dX6_check_0 : decode cX6_check 0 = .ok (.aload_n 0, 1) := by decide +kernel
theorem dX6_check_1 : decode cX6_check 1 = .ok (.iload_n 1, 1) := by decide +kernel
theorem dX6_check_2 : decode cX6_check 2 = .ok (.invokevirtual 57, 3) := by decide +kernel
theorem dX6_check_5 : decode cX6_check 5 = .ok (.astore_n 2, 1) := by decide +kernel
theorem dX6_check_6 : decode cX6_check 6 = .ok (.aload_n 2, 1) := by decide +kernel
theorem dX6_check_7 : decode cX6_check 7 = .ok (.ifnull 24, 3) := by decide +kernel
theorem dX6_check_10 : decode cX6_check 10 = .ok (.aload_n 2, 1) := by decide +kernel
theorem dX6_check_11 : decode cX6_check 11 = .ok (.invokevirtual 241, 3) := by decide +kernel
theorem dX6_check_14 : decode cX6_check 14 = .ok (.ifCond .eq 17, 3) := by decide +kernel
theorem dX6_check_17 : decode cX6_check 17 = .ok (.aload_n 2, 1) := by decide +kernel
theorem dX6_check_18 : decode cX6_check 18 = .ok (.getfield 91, 3) := by decide +kernel
theorem dX6_check_21 : decode cX6_check 21 = .ok (.invokevirtual 244, 3) := by decide +kernel
theorem dX6_check_24 : decode cX6_check 24 = .ok (.ifCond .eq 7, 3) := by decide +kernel
theorem dX6_check_27 : decode cX6_check 27 = .ok (.iconst 1, 1) := by decide +kernel
theorem dX6_check_28 : decode cX6_check 28 = .ok (.goto 4, 3) := by decide +kernel
theorem dX6_check_31 : decode cX6_check 31 = .ok (.iconst 0, 1) := by decide +kernel
theorem dX6_check_32 : decode cX6_check 32 = .ok (.ireturn, 1) := by decide +kernel
theorem dX6_count_0 : decode cX6_count 0 = .ok (.iload_n 1, 1) := by decide +kernel
theorem dX6_count_1 : decode cX6_count 1 = .ok (.bipush 10, 2) := by decide +kernel
theorem dX6_count_3 : decode cX6_count 3 = .ok (.if_icmp .le 19, 3) := by decide +kernel
theorem dX6_count_6 : decode cX6_count 6 = .ok (.iload_n 1, 1) := by decide +kernel
theorem dX6_count_7 : decode cX6_count 7 = .ok (.bipush 16, 2) := by decide +kernel
theorem dX6_count_9 : decode cX6_count 9 = .ok (.if_icmp .gt 13, 3) := by decide +kernel
theorem dX6_count_12 : decode cX6_count 12 = .ok (.aload_n 0, 1) := by decide +kernel
theorem dX6_count_13 : decode cX6_count 13 = .ok (.getfield 25, 3) := by decide +kernel
theorem dX6_count_16 : decode cX6_count 16 = .ok (.iload_n 1, 1) := by decide +kernel
theorem dX6_count_17 : decode cX6_count 17 = .ok (.bipush 10, 2) := by decide +kernel
theorem dX6_count_19 : decode cX6_count 19 = .ok (.isub, 1) := by decide +kernel
theorem dX6_count_20 : decode cX6_count 20 = .ok (.iaload, 1) := by decide +kernel
theorem dX6_count_21 : decode cX6_count 21 = .ok (.ireturn, 1) := by decide +kernel
theorem dX6_count_22 : decode cX6_count 22 = .ok (.iload_n 1, 1) := by decide +kernel
theorem dX6_count_23 : decode cX6_count 23 = .ok (.tableswitch 49 0 3 #[29, 34, 39, 44], 29) := by decide +kernel
theorem dX6_count_52 : decode cX6_count 52 = .ok (.aload_n 0, 1) := by decide +kernel
theorem dX6_count_53 : decode cX6_count 53 = .ok (.getfield 183, 3) := by decide +kernel
theorem dX6_count_56 : decode cX6_count 56 = .ok (.ireturn, 1) := by decide +kernel
theorem dX6_count_57 : decode cX6_count 57 = .ok (.aload_n 0, 1) := by decide +kernel
theorem dX6_count_58 : decode cX6_count 58 = .ok (.getfield 48, 3) := by decide +kernel
theorem dX6_count_61 : decode cX6_count 61 = .ok (.ireturn, 1) := by decide +kernel
theorem dX6_count_62 : decode cX6_count 62 = .ok (.aload_n 0, 1) := by decide +kernel
theorem dX6_count_63 : decode cX6_count 63 = .ok (.invokevirtual 247, 3) := by decide +kernel
theorem dX6_count_66 : decode cX6_count 66 = .ok (.ireturn, 1) := by decide +kernel
theorem dX6_count_67 : decode cX6_count 67 = .ok (.aload_n 0, 1) := by decide +kernel
theorem dX6_count_68 : decode cX6_count 68 = .ok (.getfield 170, 3) := by decide +kernel
theorem dX6_count_71 : decode cX6_count 71 = .ok (.ireturn, 1) := by decide +kernel
theorem dX6_count_72 : decode cX6_count 72 = .ok (.bipush (-9), 2) := by decide +kernel
theorem dX6_count_74 : decode cX6_count 74 = .ok (.ireturn, 1) := by decide +kernel
theorem dX6_refuse_0 : decode cX6_refuse 0 = .ok (.iload_n 1, 1) := by decide +kernel
theorem dX6_refuse_1 : decode cX6_refuse 1 = .ok (.ineg, 1) := by decide +kernel
theorem dX6_refuse_2 : decode cX6_refuse 2 = .ok (.istore_n 2, 1) := by decide +kernel
theorem dX6_refuse_3 : decode cX6_refuse 3 = .ok (.iload_n 2, 1) := by decide +kernel
theorem dX6_refuse_4 : decode cX6_refuse 4 = .ok (.iconst 1, 1) := by decide +kernel
theorem dX6_refuse_5 : decode cX6_refuse 5 = .ok (.if_icmp .lt 22, 3) := by decide +kernel
theorem dX6_refuse_8 : decode cX6_refuse 8 = .ok (.iload_n 2, 1) := by decide +kernel
theorem dX6_refuse_9 : decode cX6_refuse 9 = .ok (.aload_n 0, 1) := by decide +kernel
theorem dX6_refuse_10 : decode cX6_refuse 10 = .ok (.getfield 25, 3) := by decide +kernel
theorem dX6_refuse_13 : decode cX6_refuse 13 = .ok (.arraylength, 1) := by decide +kernel
theorem dX6_refuse_14 : decode cX6_refuse 14 = .ok (.if_icmp .ge 13, 3) := by decide +kernel
theorem dX6_refuse_17 : decode cX6_refuse 17 = .ok (.aload_n 0, 1) := by decide +kernel
theorem dX6_refuse_18 : decode cX6_refuse 18 = .ok (.getfield 25, 3) := by decide +kernel
theorem dX6_refuse_21 : decode cX6_refuse 21 = .ok (.iload_n 2, 1) := by decide +kernel
theorem dX6_refuse_22 : decode cX6_refuse 22 = .ok (.dup2, 1) := by decide +kernel
theorem dX6_refuse_23 : decode cX6_refuse 23 = .ok (.iaload, 1) := by decide +kernel
theorem dX6_refuse_24 : decode cX6_refuse 24 = .ok (.iconst 1, 1) := by decide +kernel
theorem dX6_refuse_25 : decode cX6_refuse 25 = .ok (.iadd, 1) := by decide +kernel
theorem dX6_refuse_26 : decode cX6_refuse 26 = .ok (.iastore, 1) := by decide +kernel
theorem dX6_refuse_27 : decode cX6_refuse 27 = .ok (.iload_n 1, 1) := by decide +kernel
theorem dX6_refuse_28 : decode cX6_refuse 28 = .ok (.ireturn, 1) := by decide +kernel
theorem dX6_machineAt_0 : decode cX6_machineAt 0 = .ok (.iload_n 1, 1) := by decide +kernel
theorem dX6_machineAt_1 : decode cX6_machineAt 1 = .ok (.ifCond .lt 20, 3) := by decide +kernel
theorem dX6_machineAt_4 : decode cX6_machineAt 4 = .ok (.iload_n 1, 1) := by decide +kernel
theorem dX6_machineAt_5 : decode cX6_machineAt 5 = .ok (.aload_n 0, 1) := by decide +kernel
theorem dX6_machineAt_6 : decode cX6_machineAt 6 = .ok (.getfield 48, 3) := by decide +kernel
theorem dX6_machineAt_9 : decode cX6_machineAt 9 = .ok (.if_icmp .ge 12, 3) := by decide +kernel
theorem dX6_machineAt_12 : decode cX6_machineAt 12 = .ok (.aload_n 0, 1) := by decide +kernel
theorem dX6_machineAt_13 : decode cX6_machineAt 13 = .ok (.getfield 11, 3) := by decide +kernel
theorem dX6_machineAt_16 : decode cX6_machineAt 16 = .ok (.iload_n 1, 1) := by decide +kernel
theorem dX6_machineAt_17 : decode cX6_machineAt 17 = .ok (.aaload, 1) := by decide +kernel
theorem dX6_machineAt_18 : decode cX6_machineAt 18 = .ok (.goto 4, 3) := by decide +kernel
theorem dX6_machineAt_21 : decode cX6_machineAt 21 = .ok (.aconst_null, 1) := by decide +kernel
theorem dX6_machineAt_22 : decode cX6_machineAt 22 = .ok (.areturn, 1) := by decide +kernel
theorem dX6_laneAt_0 : decode cX6_laneAt 0 = .ok (.aload_n 0, 1) := by decide +kernel
theorem dX6_laneAt_1 : decode cX6_laneAt 1 = .ok (.iload_n 1, 1) := by decide +kernel
theorem dX6_laneAt_2 : decode cX6_laneAt 2 = .ok (.invokevirtual 57, 3) := by decide +kernel
theorem dX6_laneAt_5 : decode cX6_laneAt 5 = .ok (.astore_n 3, 1) := by decide +kernel
theorem dX6_laneAt_6 : decode cX6_laneAt 6 = .ok (.aload_n 3, 1) := by decide +kernel
theorem dX6_laneAt_7 : decode cX6_laneAt 7 = .ok (.ifnonnull 7, 3) := by decide +kernel
theorem dX6_laneAt_10 : decode cX6_laneAt 10 = .ok (.aconst_null, 1) := by decide +kernel
theorem dX6_laneAt_11 : decode cX6_laneAt 11 = .ok (.goto 8, 3) := by decide +kernel
theorem dX6_laneAt_14 : decode cX6_laneAt 14 = .ok (.aload_n 3, 1) := by decide +kernel
theorem dX6_laneAt_15 : decode cX6_laneAt 15 = .ok (.iload_n 2, 1) := by decide +kernel
theorem dX6_laneAt_16 : decode cX6_laneAt 16 = .ok (.invokevirtual 250, 3) := by decide +kernel
theorem dX6_laneAt_19 : decode cX6_laneAt 19 = .ok (.areturn, 1) := by decide +kernel
theorem dX6_passHour_0 : decode cX6_passHour 0 = .ok (.aload_n 0, 1) := by decide +kernel
theorem dX6_passHour_1 : decode cX6_passHour 1 = .ok (.getfield 183, 3) := by decide +kernel
theorem dX6_passHour_4 : decode cX6_passHour 4 = .ok (.bipush 24, 2) := by decide +kernel
theorem dX6_passHour_6 : decode cX6_passHour 6 = .ok (.irem, 1) := by decide +kernel
theorem dX6_passHour_7 : decode cX6_passHour 7 = .ok (.istore_n 1, 1) := by decide +kernel
theorem dX6_passHour_8 : decode cX6_passHour 8 = .ok (.aload_n 0, 1) := by decide +kernel
theorem dX6_passHour_9 : decode cX6_passHour 9 = .ok (.dup, 1) := by decide +kernel
theorem dX6_passHour_10 : decode cX6_passHour 10 = .ok (.getfield 183, 3) := by decide +kernel
theorem dX6_passHour_13 : decode cX6_passHour 13 = .ok (.iconst 1, 1) := by decide +kernel
theorem dX6_passHour_14 : decode cX6_passHour 14 = .ok (.iadd, 1) := by decide +kernel
theorem dX6_passHour_15 : decode cX6_passHour 15 = .ok (.putfield 183, 3) := by decide +kernel
theorem dX6_passHour_18 : decode cX6_passHour 18 = .ok (.iconst 0, 1) := by decide +kernel
theorem dX6_passHour_19 : decode cX6_passHour 19 = .ok (.istore_n 2, 1) := by decide +kernel
theorem dX6_passHour_20 : decode cX6_passHour 20 = .ok (.iload_n 2, 1) := by decide +kernel
theorem dX6_passHour_21 : decode cX6_passHour 21 = .ok (.aload_n 0, 1) := by decide +kernel
theorem dX6_passHour_22 : decode cX6_passHour 22 = .ok (.getfield 48, 3) := by decide +kernel
theorem dX6_passHour_25 : decode cX6_passHour 25 = .ok (.if_icmp .ge 28, 3) := by decide +kernel
theorem dX6_passHour_28 : decode cX6_passHour 28 = .ok (.aload_n 0, 1) := by decide +kernel
theorem dX6_passHour_29 : decode cX6_passHour 29 = .ok (.iload_n 2, 1) := by decide +kernel
theorem dX6_passHour_30 : decode cX6_passHour 30 = .ok (.invokevirtual 57, 3) := by decide +kernel
theorem dX6_passHour_33 : decode cX6_passHour 33 = .ok (.astore_n 3, 1) := by decide +kernel
theorem dX6_passHour_34 : decode cX6_passHour 34 = .ok (.aload_n 3, 1) := by decide +kernel
theorem dX6_passHour_35 : decode cX6_passHour 35 = .ok (.ifnull 12, 3) := by decide +kernel
theorem dX6_passHour_38 : decode cX6_passHour 38 = .ok (.aload_n 3, 1) := by decide +kernel
theorem dX6_passHour_39 : decode cX6_passHour 39 = .ok (.iload_n 1, 1) := by decide +kernel
theorem dX6_passHour_40 : decode cX6_passHour 40 = .ok (.invokevirtual 253, 3) := by decide +kernel
theorem dX6_passHour_43 : decode cX6_passHour 43 = .ok (.aload_n 3, 1) := by decide +kernel
theorem dX6_passHour_44 : decode cX6_passHour 44 = .ok (.invokevirtual 256, 3) := by decide +kernel
theorem dX6_passHour_47 : decode cX6_passHour 47 = .ok (.iinc 2 1, 3) := by decide +kernel
theorem dX6_passHour_50 : decode cX6_passHour 50 = .ok (.goto (-30), 3) := by decide +kernel
theorem dX6_passHour_53 : decode cX6_passHour 53 = .ok (.return_, 1) := by decide +kernel
theorem dX6_soldOfAll_0 : decode cX6_soldOfAll 0 = .ok (.iconst 0, 1) := by decide +kernel
theorem dX6_soldOfAll_1 : decode cX6_soldOfAll 1 = .ok (.istore_n 1, 1) := by decide +kernel
theorem dX6_soldOfAll_2 : decode cX6_soldOfAll 2 = .ok (.iconst 0, 1) := by decide +kernel
theorem dX6_soldOfAll_3 : decode cX6_soldOfAll 3 = .ok (.istore_n 2, 1) := by decide +kernel
theorem dX6_soldOfAll_4 : decode cX6_soldOfAll 4 = .ok (.iload_n 2, 1) := by decide +kernel
theorem dX6_soldOfAll_5 : decode cX6_soldOfAll 5 = .ok (.aload_n 0, 1) := by decide +kernel
theorem dX6_soldOfAll_6 : decode cX6_soldOfAll 6 = .ok (.getfield 48, 3) := by decide +kernel
theorem dX6_soldOfAll_9 : decode cX6_soldOfAll 9 = .ok (.if_icmp .ge 26, 3) := by decide +kernel
theorem dX6_soldOfAll_12 : decode cX6_soldOfAll 12 = .ok (.aload_n 0, 1) := by decide +kernel
theorem dX6_soldOfAll_13 : decode cX6_soldOfAll 13 = .ok (.iload_n 2, 1) := by decide +kernel
theorem dX6_soldOfAll_14 : decode cX6_soldOfAll 14 = .ok (.invokevirtual 57, 3) := by decide +kernel
theorem dX6_soldOfAll_17 : decode cX6_soldOfAll 17 = .ok (.astore_n 3, 1) := by decide +kernel
theorem dX6_soldOfAll_18 : decode cX6_soldOfAll 18 = .ok (.aload_n 3, 1) := by decide +kernel
theorem dX6_soldOfAll_19 : decode cX6_soldOfAll 19 = .ok (.ifnull 10, 3) := by decide +kernel
theorem dX6_soldOfAll_22 : decode cX6_soldOfAll 22 = .ok (.iload_n 1, 1) := by decide +kernel
theorem dX6_soldOfAll_23 : decode cX6_soldOfAll 23 = .ok (.aload_n 3, 1) := by decide +kernel
theorem dX6_soldOfAll_24 : decode cX6_soldOfAll 24 = .ok (.getfield 173, 3) := by decide +kernel
theorem dX6_soldOfAll_27 : decode cX6_soldOfAll 27 = .ok (.iadd, 1) := by decide +kernel
theorem dX6_soldOfAll_28 : decode cX6_soldOfAll 28 = .ok (.istore_n 1, 1) := by decide +kernel
theorem dX6_soldOfAll_29 : decode cX6_soldOfAll 29 = .ok (.iinc 2 1, 3) := by decide +kernel
theorem dX6_soldOfAll_32 : decode cX6_soldOfAll 32 = .ok (.goto (-28), 3) := by decide +kernel
theorem dX6_soldOfAll_35 : decode cX6_soldOfAll 35 = .ok (.iload_n 1, 1) := by decide +kernel
theorem dX6_soldOfAll_36 : decode cX6_soldOfAll 36 = .ok (.ireturn, 1) := by decide +kernel
theorem dX6_isGood_0 : decode cX6_isGood 0 = .ok (.iload_n 0, 1) := by decide +kernel
theorem dX6_isGood_1 : decode cX6_isGood 1 = .ok (.ifCond .lt 13, 3) := by decide +kernel
theorem dX6_isGood_4 : decode cX6_isGood 4 = .ok (.iload_n 0, 1) := by decide +kernel
theorem dX6_isGood_5 : decode cX6_isGood 5 = .ok (.bipush 16, 2) := by decide +kernel
theorem dX6_isGood_7 : decode cX6_isGood 7 = .ok (.if_icmp .ge 7, 3) := by decide +kernel
theorem dX6_isGood_10 : decode cX6_isGood 10 = .ok (.iconst 1, 1) := by decide +kernel
theorem dX6_isGood_11 : decode cX6_isGood 11 = .ok (.goto 4, 3) := by decide +kernel
theorem dX6_isGood_14 : decode cX6_isGood 14 = .ok (.iconst 0, 1) := by decide +kernel
theorem dX6_isGood_15 : decode cX6_isGood 15 = .ok (.ireturn, 1) := by decide +kernel
theorem dX6_isWorth_0 : decode cX6_isWorth 0 = .ok (.iload_n 0, 1) := by decide +kernel
theorem dX6_isWorth_1 : decode cX6_isWorth 1 = .ok (.ifCond .lt 15, 3) := by decide +kernel
theorem dX6_isWorth_4 : decode cX6_isWorth 4 = .ok (.iload_n 0, 1) := by decide +kernel
theorem dX6_isWorth_5 : decode cX6_isWorth 5 = .ok (.getstatic 28, 3) := by decide +kernel
theorem dX6_isWorth_8 : decode cX6_isWorth 8 = .ok (.arraylength, 1) := by decide +kernel
theorem dX6_isWorth_9 : decode cX6_isWorth 9 = .ok (.if_icmp .ge 7, 3) := by decide +kernel
theorem dX6_isWorth_12 : decode cX6_isWorth 12 = .ok (.iconst 1, 1) := by decide +kernel
theorem dX6_isWorth_13 : decode cX6_isWorth 13 = .ok (.goto 4, 3) := by decide +kernel
theorem dX6_isWorth_16 : decode cX6_isWorth 16 = .ok (.iconst 0, 1) := by decide +kernel
theorem dX6_isWorth_17 : decode cX6_isWorth 17 = .ok (.ireturn, 1) := by decide +kernel
theorem dX6_isPriceBelow_0 : decode cX6_isPriceBelow 0 = .ok (.iload_n 0, 1) := by decide +kernel
theorem dX6_isPriceBelow_1 : decode cX6_isPriceBelow 1 = .ok (.bipush 10, 2) := by decide +kernel
theorem dX6_isPriceBelow_3 : decode cX6_isPriceBelow 3 = .ok (.if_icmp .lt 10, 3) := by decide +kernel
theorem dX6_isPriceBelow_6 : decode cX6_isPriceBelow 6 = .ok (.iload_n 0, 1) := by decide +kernel
theorem dX6_isPriceBelow_7 : decode cX6_isPriceBelow 7 = .ok (.bipush 10, 2) := by decide +kernel
theorem dX6_isPriceBelow_9 : decode cX6_isPriceBelow 9 = .ok (.irem, 1) := by decide +kernel
theorem dX6_isPriceBelow_10 : decode cX6_isPriceBelow 10 = .ok (.ifCond .eq 7, 3) := by decide +kernel
theorem dX6_isPriceBelow_13 : decode cX6_isPriceBelow 13 = .ok (.iconst 1, 1) := by decide +kernel
theorem dX6_isPriceBelow_14 : decode cX6_isPriceBelow 14 = .ok (.goto 4, 3) := by decide +kernel
theorem dX6_isPriceBelow_17 : decode cX6_isPriceBelow 17 = .ok (.iconst 0, 1) := by decide +kernel
theorem dX6_isPriceBelow_18 : decode cX6_isPriceBelow 18 = .ok (.ireturn, 1) := by decide +kernel
theorem dX6_worthOf_0 : decode cX6_worthOf 0 = .ok (.iconst 0, 1) := by decide +kernel
theorem dX6_worthOf_1 : decode cX6_worthOf 1 = .ok (.istore_n 1, 1) := by decide +kernel
theorem dX6_worthOf_2 : decode cX6_worthOf 2 = .ok (.iconst 0, 1) := by decide +kernel
theorem dX6_worthOf_3 : decode cX6_worthOf 3 = .ok (.istore_n 2, 1) := by decide +kernel
theorem dX6_worthOf_4 : decode cX6_worthOf 4 = .ok (.iload_n 2, 1) := by decide +kernel
theorem dX6_worthOf_5 : decode cX6_worthOf 5 = .ok (.getstatic 28, 3) := by decide +kernel
theorem dX6_worthOf_8 : decode cX6_worthOf 8 = .ok (.arraylength, 1) := by decide +kernel
theorem dX6_worthOf_9 : decode cX6_worthOf 9 = .ok (.if_icmp .ge 27, 3) := by decide +kernel
theorem dX6_worthOf_12 : decode cX6_worthOf 12 = .ok (.iload_n 2, 1) := by decide +kernel
theorem dX6_worthOf_13 : decode cX6_worthOf 13 = .ok (.aload_n 0, 1) := by decide +kernel
theorem dX6_worthOf_14 : decode cX6_worthOf 14 = .ok (.arraylength, 1) := by decide +kernel
theorem dX6_worthOf_15 : decode cX6_worthOf 15 = .ok (.if_icmp .ge 21, 3) := by decide +kernel
theorem dX6_worthOf_18 : decode cX6_worthOf 18 = .ok (.iload_n 1, 1) := by decide +kernel
theorem dX6_worthOf_19 : decode cX6_worthOf 19 = .ok (.getstatic 28, 3) := by decide +kernel
theorem dX6_worthOf_22 : decode cX6_worthOf 22 = .ok (.iload_n 2, 1) := by decide +kernel
theorem dX6_worthOf_23 : decode cX6_worthOf 23 = .ok (.iaload, 1) := by decide +kernel
theorem dX6_worthOf_24 : decode cX6_worthOf 24 = .ok (.aload_n 0, 1) := by decide +kernel
theorem dX6_worthOf_25 : decode cX6_worthOf 25 = .ok (.iload_n 2, 1) := by decide +kernel
theorem dX6_worthOf_26 : decode cX6_worthOf 26 = .ok (.iaload, 1) := by decide +kernel
theorem dX6_worthOf_27 : decode cX6_worthOf 27 = .ok (.imul, 1) := by decide +kernel
theorem dX6_worthOf_28 : decode cX6_worthOf 28 = .ok (.iadd, 1) := by decide +kernel
theorem dX6_worthOf_29 : decode cX6_worthOf 29 = .ok (.istore_n 1, 1) := by decide +kernel
theorem dX6_worthOf_30 : decode cX6_worthOf 30 = .ok (.iinc 2 1, 3) := by decide +kernel
theorem dX6_worthOf_33 : decode cX6_worthOf 33 = .ok (.goto (-29), 3) := by decide +kernel
theorem dX6_worthOf_36 : decode cX6_worthOf 36 = .ok (.iload_n 1, 1) := by decide +kernel
theorem dX6_worthOf_37 : decode cX6_worthOf 37 = .ok (.ireturn, 1) := by decide +kernel
