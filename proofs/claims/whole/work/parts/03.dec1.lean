theorem dX6_init_0 : decode cX6_init 0 = .ok (.aload_n 0, 1) := by decide +kernel
theorem dX6_init_1 : decode cX6_init 1 = .ok (.invokespecial 1, 3) := by decide +kernel
theorem dX6_init_4 : decode cX6_init 4 = .ok (.aload_n 0, 1) := by decide +kernel
theorem dX6_init_5 : decode cX6_init 5 = .ok (.bipush 6, 2) := by decide +kernel
theorem dX6_init_7 : decode cX6_init 7 = .ok (.anewarray 9, 3) := by decide +kernel
theorem dX6_init_10 : decode cX6_init 10 = .ok (.putfield 11, 3) := by decide +kernel
theorem dX6_init_13 : decode cX6_init 13 = .ok (.aload_n 0, 1) := by decide +kernel
theorem dX6_init_14 : decode cX6_init 14 = .ok (.bipush 16, 2) := by decide +kernel
theorem dX6_init_16 : decode cX6_init 16 = .ok (.newarray .int, 2) := by decide +kernel
theorem dX6_init_18 : decode cX6_init 18 = .ok (.putfield 15, 3) := by decide +kernel
theorem dX6_init_21 : decode cX6_init 21 = .ok (.aload_n 0, 1) := by decide +kernel
theorem dX6_init_22 : decode cX6_init 22 = .ok (.getfield 15, 3) := by decide +kernel
theorem dX6_init_25 : decode cX6_init 25 = .ok (.iconst 1, 1) := by decide +kernel
theorem dX6_init_26 : decode cX6_init 26 = .ok (.invokestatic 19, 3) := by decide +kernel
theorem dX6_init_29 : decode cX6_init 29 = .ok (.aload_n 0, 1) := by decide +kernel
theorem dX6_init_30 : decode cX6_init 30 = .ok (.bipush 7, 2) := by decide +kernel
theorem dX6_init_32 : decode cX6_init 32 = .ok (.newarray .int, 2) := by decide +kernel
theorem dX6_init_34 : decode cX6_init 34 = .ok (.putfield 25, 3) := by decide +kernel
theorem dX6_init_37 : decode cX6_init 37 = .ok (.aload_n 0, 1) := by decide +kernel
theorem dX6_init_38 : decode cX6_init 38 = .ok (.getstatic 28, 3) := by decide +kernel
theorem dX6_init_41 : decode cX6_init 41 = .ok (.arraylength, 1) := by decide +kernel
theorem dX6_init_42 : decode cX6_init 42 = .ok (.newarray .int, 2) := by decide +kernel
theorem dX6_init_44 : decode cX6_init 44 = .ok (.putfield 31, 3) := by decide +kernel
theorem dX6_init_47 : decode cX6_init 47 = .ok (.aload_n 0, 1) := by decide +kernel
theorem dX6_init_48 : decode cX6_init 48 = .ok (.new 34, 3) := by decide +kernel
theorem dX6_init_51 : decode cX6_init 51 = .ok (.dup, 1) := by decide +kernel
theorem dX6_init_52 : decode cX6_init 52 = .ok (.invokespecial 36, 3) := by decide +kernel
theorem dX6_init_55 : decode cX6_init 55 = .ok (.putfield 37, 3) := by decide +kernel
theorem dX6_init_58 : decode cX6_init 58 = .ok (.aload_n 0, 1) := by decide +kernel
theorem dX6_init_59 : decode cX6_init 59 = .ok (.new 41, 3) := by decide +kernel
theorem dX6_init_62 : decode cX6_init 62 = .ok (.dup, 1) := by decide +kernel
theorem dX6_init_63 : decode cX6_init 63 = .ok (.invokespecial 43, 3) := by decide +kernel
theorem dX6_init_66 : decode cX6_init 66 = .ok (.putfield 44, 3) := by decide +kernel
theorem dX6_init_69 : decode cX6_init 69 = .ok (.return_, 1) := by decide +kernel
theorem dX6_machine_0 : decode cX6_machine 0 = .ok (.aload_n 0, 1) := by decide +kernel
theorem dX6_machine_1 : decode cX6_machine 1 = .ok (.getfield 48, 3) := by decide +kernel
theorem dX6_machine_4 : decode cX6_machine 4 = .ok (.aload_n 0, 1) := by decide +kernel
theorem dX6_machine_5 : decode cX6_machine 5 = .ok (.getfield 11, 3) := by decide +kernel
theorem dX6_machine_8 : decode cX6_machine 8 = .ok (.arraylength, 1) := by decide +kernel
theorem dX6_machine_9 : decode cX6_machine 9 = .ok (.if_icmp .lt 10, 3) := by decide +kernel
theorem dX6_machine_12 : decode cX6_machine 12 = .ok (.aload_n 0, 1) := by decide +kernel
theorem dX6_machine_13 : decode cX6_machine 13 = .ok (.bipush (-6), 2) := by decide +kernel
theorem dX6_machine_15 : decode cX6_machine 15 = .ok (.invokevirtual 52, 3) := by decide +kernel
theorem dX6_machine_18 : decode cX6_machine 18 = .ok (.ireturn, 1) := by decide +kernel
theorem dX6_machine_19 : decode cX6_machine 19 = .ok (.aload_n 0, 1) := by decide +kernel
theorem dX6_machine_20 : decode cX6_machine 20 = .ok (.getfield 11, 3) := by decide +kernel
theorem dX6_machine_23 : decode cX6_machine 23 = .ok (.aload_n 0, 1) := by decide +kernel
theorem dX6_machine_24 : decode cX6_machine 24 = .ok (.getfield 48, 3) := by decide +kernel
theorem dX6_machine_27 : decode cX6_machine 27 = .ok (.new 9, 3) := by decide +kernel
theorem dX6_machine_30 : decode cX6_machine 30 = .ok (.dup, 1) := by decide +kernel
theorem dX6_machine_31 : decode cX6_machine 31 = .ok (.invokespecial 56, 3) := by decide +kernel
theorem dX6_machine_34 : decode cX6_machine 34 = .ok (.aastore, 1) := by decide +kernel
theorem dX6_machine_35 : decode cX6_machine 35 = .ok (.aload_n 0, 1) := by decide +kernel
theorem dX6_machine_36 : decode cX6_machine 36 = .ok (.dup, 1) := by decide +kernel
theorem dX6_machine_37 : decode cX6_machine 37 = .ok (.getfield 48, 3) := by decide +kernel
theorem dX6_machine_40 : decode cX6_machine 40 = .ok (.iconst 1, 1) := by decide +kernel
theorem dX6_machine_41 : decode cX6_machine 41 = .ok (.iadd, 1) := by decide +kernel
theorem dX6_machine_42 : decode cX6_machine 42 = .ok (.putfield 48, 3) := by decide +kernel
theorem dX6_machine_45 : decode cX6_machine 45 = .ok (.aload_n 0, 1) := by decide +kernel
theorem dX6_machine_46 : decode cX6_machine 46 = .ok (.getfield 48, 3) := by decide +kernel
theorem dX6_machine_49 : decode cX6_machine 49 = .ok (.iconst 1, 1) := by decide +kernel
theorem dX6_machine_50 : decode cX6_machine 50 = .ok (.isub, 1) := by decide +kernel
theorem dX6_machine_51 : decode cX6_machine 51 = .ok (.ireturn, 1) := by decide +kernel
theorem dX6_lane_0 : decode cX6_lane 0 = .ok (.aload_n 0, 1) := by decide +kernel
theorem dX6_lane_1 : decode cX6_lane 1 = .ok (.iload_n 1, 1) := by decide +kernel
theorem dX6_lane_2 : decode cX6_lane 2 = .ok (.invokevirtual 57, 3) := by decide +kernel
theorem dX6_lane_5 : decode cX6_lane 5 = .ok (.astore 7, 2) := by decide +kernel
theorem dX6_lane_7 : decode cX6_lane 7 = .ok (.aload 7, 2) := by decide +kernel
theorem dX6_lane_9 : decode cX6_lane 9 = .ok (.ifnull 10, 3) := by decide +kernel
theorem dX6_lane_12 : decode cX6_lane 12 = .ok (.iload_n 2, 1) := by decide +kernel
theorem dX6_lane_13 : decode cX6_lane 13 = .ok (.invokestatic 61, 3) := by decide +kernel
theorem dX6_lane_16 : decode cX6_lane 16 = .ok (.ifCond .ne 9, 3) := by decide +kernel
theorem dX6_lane_19 : decode cX6_lane 19 = .ok (.aload_n 0, 1) := by decide +kernel
theorem dX6_lane_20 : decode cX6_lane 20 = .ok (.iconst (-1), 1) := by decide +kernel
theorem dX6_lane_21 : decode cX6_lane 21 = .ok (.invokevirtual 52, 3) := by decide +kernel
theorem dX6_lane_24 : decode cX6_lane 24 = .ok (.ireturn, 1) := by decide +kernel
theorem dX6_lane_25 : decode cX6_lane 25 = .ok (.iload 5, 2) := by decide +kernel
theorem dX6_lane_27 : decode cX6_lane 27 = .ok (.ifCond .lt 9, 3) := by decide +kernel
theorem dX6_lane_30 : decode cX6_lane 30 = .ok (.iload 5, 2) := by decide +kernel
theorem dX6_lane_32 : decode cX6_lane 32 = .ok (.iconst 3, 1) := by decide +kernel
theorem dX6_lane_33 : decode cX6_lane 33 = .ok (.if_icmp .le 10, 3) := by decide +kernel
theorem dX6_lane_36 : decode cX6_lane 36 = .ok (.aload_n 0, 1) := by decide +kernel
theorem dX6_lane_37 : decode cX6_lane 37 = .ok (.bipush (-2), 2) := by decide +kernel
theorem dX6_lane_39 : decode cX6_lane 39 = .ok (.invokevirtual 52, 3) := by decide +kernel
theorem dX6_lane_42 : decode cX6_lane 42 = .ok (.ireturn, 1) := by decide +kernel
theorem dX6_lane_43 : decode cX6_lane 43 = .ok (.iload 5, 2) := by decide +kernel
theorem dX6_lane_45 : decode cX6_lane 45 = .ok (.iconst 2, 1) := by decide +kernel
theorem dX6_lane_46 : decode cX6_lane 46 = .ok (.if_icmp .ne 8, 3) := by decide +kernel
theorem dX6_lane_49 : decode cX6_lane 49 = .ok (.iload 6, 2) := by decide +kernel
theorem dX6_lane_51 : decode cX6_lane 51 = .ok (.goto 4, 3) := by decide +kernel
theorem dX6_lane_54 : decode cX6_lane 54 = .ok (.iconst 0, 1) := by decide +kernel
theorem dX6_lane_55 : decode cX6_lane 55 = .ok (.istore 8, 2) := by decide +kernel
theorem dX6_lane_57 : decode cX6_lane 57 = .ok (.iload_n 3, 1) := by decide +kernel
theorem dX6_lane_58 : decode cX6_lane 58 = .ok (.invokestatic 65, 3) := by decide +kernel
theorem dX6_lane_61 : decode cX6_lane 61 = .ok (.ifCond .ne 14, 3) := by decide +kernel
theorem dX6_lane_64 : decode cX6_lane 64 = .ok (.iload 4, 2) := by decide +kernel
theorem dX6_lane_66 : decode cX6_lane 66 = .ok (.iconst 1, 1) := by decide +kernel
theorem dX6_lane_67 : decode cX6_lane 67 = .ok (.if_icmp .lt 8, 3) := by decide +kernel
theorem dX6_lane_70 : decode cX6_lane 70 = .ok (.iload 8, 2) := by decide +kernel
theorem dX6_lane_72 : decode cX6_lane 72 = .ok (.ifCond .ge 10, 3) := by decide +kernel
theorem dX6_lane_75 : decode cX6_lane 75 = .ok (.aload_n 0, 1) := by decide +kernel
theorem dX6_lane_76 : decode cX6_lane 76 = .ok (.bipush (-4), 2) := by decide +kernel
theorem dX6_lane_78 : decode cX6_lane 78 = .ok (.invokevirtual 52, 3) := by decide +kernel
theorem dX6_lane_81 : decode cX6_lane 81 = .ok (.ireturn, 1) := by decide +kernel
theorem dX6_lane_82 : decode cX6_lane 82 = .ok (.iload_n 3, 1) := by decide +kernel
theorem dX6_lane_83 : decode cX6_lane 83 = .ok (.sipush 5000, 3) := by decide +kernel
theorem dX6_lane_86 : decode cX6_lane 86 = .ok (.if_icmp .gt 25, 3) := by decide +kernel
theorem dX6_lane_89 : decode cX6_lane 89 = .ok (.iload 4, 2) := by decide +kernel
theorem dX6_lane_91 : decode cX6_lane 91 = .ok (.bipush 20, 2) := by decide +kernel
theorem dX6_lane_93 : decode cX6_lane 93 = .ok (.if_icmp .gt 18, 3) := by decide +kernel
theorem dX6_lane_96 : decode cX6_lane 96 = .ok (.iload 8, 2) := by decide +kernel
theorem dX6_lane_98 : decode cX6_lane 98 = .ok (.bipush 48, 2) := by decide +kernel
theorem dX6_lane_100 : decode cX6_lane 100 = .ok (.if_icmp .gt 11, 3) := by decide +kernel
theorem dX6_lane_103 : decode cX6_lane 103 = .ok (.aload 7, 2) := by decide +kernel
theorem dX6_lane_105 : decode cX6_lane 105 = .ok (.invokevirtual 68, 3) := by decide +kernel
theorem dX6_lane_108 : decode cX6_lane 108 = .ok (.ifCond .eq 10, 3) := by decide +kernel
theorem dX6_lane_111 : decode cX6_lane 111 = .ok (.aload_n 0, 1) := by decide +kernel
theorem dX6_lane_112 : decode cX6_lane 112 = .ok (.bipush (-6), 2) := by decide +kernel
theorem dX6_lane_114 : decode cX6_lane 114 = .ok (.invokevirtual 52, 3) := by decide +kernel
theorem dX6_lane_117 : decode cX6_lane 117 = .ok (.ireturn, 1) := by decide +kernel
theorem dX6_lane_118 : decode cX6_lane 118 = .ok (.aload 7, 2) := by decide +kernel
theorem dX6_lane_120 : decode cX6_lane 120 = .ok (.new 72, 3) := by decide +kernel
theorem dX6_lane_123 : decode cX6_lane 123 = .ok (.dup, 1) := by decide +kernel
theorem dX6_lane_124 : decode cX6_lane 124 = .ok (.iload_n 2, 1) := by decide +kernel
theorem dX6_lane_125 : decode cX6_lane 125 = .ok (.iload_n 3, 1) := by decide +kernel
theorem dX6_lane_126 : decode cX6_lane 126 = .ok (.iload 4, 2) := by decide +kernel
theorem dX6_lane_128 : decode cX6_lane 128 = .ok (.iload 5, 2) := by decide +kernel
theorem dX6_lane_130 : decode cX6_lane 130 = .ok (.iload 8, 2) := by decide +kernel
theorem dX6_lane_132 : decode cX6_lane 132 = .ok (.invokespecial 74, 3) := by decide +kernel
theorem dX6_lane_135 : decode cX6_lane 135 = .ok (.invokevirtual 77, 3) := by decide +kernel
theorem dX6_lane_138 : decode cX6_lane 138 = .ok (.ireturn, 1) := by decide +kernel
theorem dX6_size_0 : decode cX6_size 0 = .ok (.iload_n 1, 1) := by decide +kernel
theorem dX6_size_1 : decode cX6_size 1 = .ok (.invokestatic 61, 3) := by decide +kernel
theorem dX6_size_4 : decode cX6_size 4 = .ok (.ifCond .ne 9, 3) := by decide +kernel
theorem dX6_size_7 : decode cX6_size 7 = .ok (.aload_n 0, 1) := by decide +kernel
theorem dX6_size_8 : decode cX6_size 8 = .ok (.iconst (-1), 1) := by decide +kernel
theorem dX6_size_9 : decode cX6_size 9 = .ok (.invokevirtual 52, 3) := by decide +kernel
theorem dX6_size_12 : decode cX6_size 12 = .ok (.ireturn, 1) := by decide +kernel
theorem dX6_size_13 : decode cX6_size 13 = .ok (.iload_n 2, 1) := by decide +kernel
theorem dX6_size_14 : decode cX6_size 14 = .ok (.iconst 1, 1) := by decide +kernel
theorem dX6_size_15 : decode cX6_size 15 = .ok (.if_icmp .ge 10, 3) := by decide +kernel
theorem dX6_size_18 : decode cX6_size 18 = .ok (.aload_n 0, 1) := by decide +kernel
theorem dX6_size_19 : decode cX6_size 19 = .ok (.bipush (-4), 2) := by decide +kernel
theorem dX6_size_21 : decode cX6_size 21 = .ok (.invokevirtual 52, 3) := by decide +kernel
theorem dX6_size_24 : decode cX6_size 24 = .ok (.ireturn, 1) := by decide +kernel
theorem dX6_size_25 : decode cX6_size 25 = .ok (.iload_n 2, 1) := by decide +kernel
theorem dX6_size_26 : decode cX6_size 26 = .ok (.bipush 9, 2) := by decide +kernel
theorem dX6_size_28 : decode cX6_size 28 = .ok (.if_icmp .le 10, 3) := by decide +kernel
theorem dX6_size_31 : decode cX6_size 31 = .ok (.aload_n 0, 1) := by decide +kernel
theorem dX6_size_32 : decode cX6_size 32 = .ok (.bipush (-6), 2) := by decide +kernel
theorem dX6_size_34 : decode cX6_size 34 = .ok (.invokevirtual 52, 3) := by decide +kernel
theorem dX6_size_37 : decode cX6_size 37 = .ok (.ireturn, 1) := by decide +kernel
theorem dX6_size_38 : decode cX6_size 38 = .ok (.aload_n 0, 1) := by decide +kernel
theorem dX6_size_39 : decode cX6_size 39 = .ok (.getfield 15, 3) := by decide +kernel
theorem dX6_size_42 : decode cX6_size 42 = .ok (.iload_n 1, 1) := by decide +kernel
theorem dX6_size_43 : decode cX6_size 43 = .ok (.iaload, 1) := by decide +kernel
theorem dX6_size_44 : decode cX6_size 44 = .ok (.istore_n 3, 1) := by decide +kernel
theorem dX6_size_45 : decode cX6_size 45 = .ok (.aload_n 0, 1) := by decide +kernel
theorem dX6_size_46 : decode cX6_size 46 = .ok (.getfield 15, 3) := by decide +kernel
theorem dX6_size_49 : decode cX6_size 49 = .ok (.iload_n 1, 1) := by decide +kernel
theorem dX6_size_50 : decode cX6_size 50 = .ok (.iload_n 2, 1) := by decide +kernel
theorem dX6_size_51 : decode cX6_size 51 = .ok (.iastore, 1) := by decide +kernel
theorem dX6_size_52 : decode cX6_size 52 = .ok (.iload_n 3, 1) := by decide +kernel
theorem dX6_size_53 : decode cX6_size 53 = .ok (.ireturn, 1) := by decide +kernel
theorem dX6_price_0 : decode cX6_price 0 = .ok (.aload_n 0, 1) := by decide +kernel
theorem dX6_price_1 : decode cX6_price 1 = .ok (.iload_n 1, 1) := by decide +kernel
theorem dX6_price_2 : decode cX6_price 2 = .ok (.iload_n 2, 1) := by decide +kernel
theorem dX6_price_3 : decode cX6_price 3 = .ok (.invokevirtual 81, 3) := by decide +kernel
theorem dX6_price_6 : decode cX6_price 6 = .ok (.astore 4, 2) := by decide +kernel
theorem dX6_price_8 : decode cX6_price 8 = .ok (.aload 4, 2) := by decide +kernel
theorem dX6_price_10 : decode cX6_price 10 = .ok (.ifnonnull 9, 3) := by decide +kernel
theorem dX6_price_13 : decode cX6_price 13 = .ok (.aload_n 0, 1) := by decide +kernel
theorem dX6_price_14 : decode cX6_price 14 = .ok (.iconst (-1), 1) := by decide +kernel
theorem dX6_price_15 : decode cX6_price 15 = .ok (.invokevirtual 52, 3) := by decide +kernel
theorem dX6_price_18 : decode cX6_price 18 = .ok (.ireturn, 1) := by decide +kernel
theorem dX6_price_19 : decode cX6_price 19 = .ok (.iload_n 3, 1) := by decide +kernel
theorem dX6_price_20 : decode cX6_price 20 = .ok (.invokestatic 65, 3) := by decide +kernel
theorem dX6_price_23 : decode cX6_price 23 = .ok (.ifCond .eq 10, 3) := by decide +kernel
theorem dX6_price_26 : decode cX6_price 26 = .ok (.aload_n 0, 1) := by decide +kernel
theorem dX6_price_27 : decode cX6_price 27 = .ok (.bipush (-4), 2) := by decide +kernel
theorem dX6_price_29 : decode cX6_price 29 = .ok (.invokevirtual 52, 3) := by decide +kernel
theorem dX6_price_32 : decode cX6_price 32 = .ok (.ireturn, 1) := by decide +kernel
theorem dX6_price_33 : decode cX6_price 33 = .ok (.iload_n 3, 1) := by decide +kernel
theorem dX6_price_34 : decode cX6_price 34 = .ok (.sipush 5000, 3) := by decide +kernel
theorem dX6_price_37 : decode cX6_price 37 = .ok (.if_icmp .le 10, 3) := by decide +kernel
theorem dX6_price_40 : decode cX6_price 40 = .ok (.aload_n 0, 1) := by decide +kernel
theorem dX6_price_41 : decode cX6_price 41 = .ok (.bipush (-6), 2) := by decide +kernel
theorem dX6_price_43 : decode cX6_price 43 = .ok (.invokevirtual 52, 3) := by decide +kernel
theorem dX6_price_46 : decode cX6_price 46 = .ok (.ireturn, 1) := by decide +kernel
theorem dX6_price_47 : decode cX6_price 47 = .ok (.aload 4, 2) := by decide +kernel
theorem dX6_price_49 : decode cX6_price 49 = .ok (.getfield 85, 3) := by decide +kernel
theorem dX6_price_52 : decode cX6_price 52 = .ok (.istore 5, 2) := by decide +kernel
theorem dX6_price_54 : decode cX6_price 54 = .ok (.aload 4, 2) := by decide +kernel
theorem dX6_price_56 : decode cX6_price 56 = .ok (.iload_n 3, 1) := by decide +kernel
theorem dX6_price_57 : decode cX6_price 57 = .ok (.putfield 85, 3) := by decide +kernel
theorem dX6_price_60 : decode cX6_price 60 = .ok (.iload 5, 2) := by decide +kernel
theorem dX6_price_62 : decode cX6_price 62 = .ok (.ireturn, 1) := by decide +kernel
theorem dX6_tube_0 : decode cX6_tube 0 = .ok (.aload_n 0, 1) := by decide +kernel
theorem dX6_tube_1 : decode cX6_tube 1 = .ok (.iload_n 1, 1) := by decide +kernel
theorem dX6_tube_2 : decode cX6_tube 2 = .ok (.invokevirtual 57, 3) := by decide +kernel
theorem dX6_tube_5 : decode cX6_tube 5 = .ok (.astore 4, 2) := by decide +kernel
theorem dX6_tube_7 : decode cX6_tube 7 = .ok (.aload 4, 2) := by decide +kernel
theorem dX6_tube_9 : decode cX6_tube 9 = .ok (.ifnull 10, 3) := by decide +kernel
theorem dX6_tube_12 : decode cX6_tube 12 = .ok (.iload_n 2, 1) := by decide +kernel
theorem dX6_tube_13 : decode cX6_tube 13 = .ok (.invokestatic 88, 3) := by decide +kernel
theorem dX6_tube_16 : decode cX6_tube 16 = .ok (.ifCond .ne 9, 3) := by decide +kernel
theorem dX6_tube_19 : decode cX6_tube 19 = .ok (.aload_n 0, 1) := by decide +kernel
theorem dX6_tube_20 : decode cX6_tube 20 = .ok (.iconst (-1), 1) := by decide +kernel
theorem dX6_tube_21 : decode cX6_tube 21 = .ok (.invokevirtual 52, 3) := by decide +kernel
theorem dX6_tube_24 : decode cX6_tube 24 = .ok (.ireturn, 1) := by decide +kernel
theorem dX6_tube_25 : decode cX6_tube 25 = .ok (.iload_n 3, 1) := by decide +kernel
theorem dX6_tube_26 : decode cX6_tube 26 = .ok (.ifCond .ge 10, 3) := by decide +kernel
theorem dX6_tube_29 : decode cX6_tube 29 = .ok (.aload_n 0, 1) := by decide +kernel
theorem dX6_tube_30 : decode cX6_tube 30 = .ok (.bipush (-4), 2) := by decide +kernel
theorem dX6_tube_32 : decode cX6_tube 32 = .ok (.invokevirtual 52, 3) := by decide +kernel
theorem dX6_tube_35 : decode cX6_tube 35 = .ok (.ireturn, 1) := by decide +kernel
theorem dX6_tube_36 : decode cX6_tube 36 = .ok (.iload_n 3, 1) := by decide +kernel
theorem dX6_tube_37 : decode cX6_tube 37 = .ok (.bipush 50, 2) := by decide +kernel
theorem dX6_tube_39 : decode cX6_tube 39 = .ok (.aload 4, 2) := by decide +kernel
theorem dX6_tube_41 : decode cX6_tube 41 = .ok (.getfield 91, 3) := by decide +kernel
theorem dX6_tube_44 : decode cX6_tube 44 = .ok (.getfield 95, 3) := by decide +kernel
theorem dX6_tube_47 : decode cX6_tube 47 = .ok (.iload_n 2, 1) := by decide +kernel
theorem dX6_tube_48 : decode cX6_tube 48 = .ok (.iaload, 1) := by decide +kernel
theorem dX6_tube_49 : decode cX6_tube 49 = .ok (.isub, 1) := by decide +kernel
theorem dX6_tube_50 : decode cX6_tube 50 = .ok (.if_icmp .le 10, 3) := by decide +kernel
theorem dX6_tube_53 : decode cX6_tube 53 = .ok (.aload_n 0, 1) := by decide +kernel
theorem dX6_tube_54 : decode cX6_tube 54 = .ok (.bipush (-6), 2) := by decide +kernel
theorem dX6_tube_56 : decode cX6_tube 56 = .ok (.invokevirtual 52, 3) := by decide +kernel
theorem dX6_tube_59 : decode cX6_tube 59 = .ok (.ireturn, 1) := by decide +kernel
theorem dX6_tube_60 : decode cX6_tube 60 = .ok (.aload 4, 2) := by decide +kernel
theorem dX6_tube_62 : decode cX6_tube 62 = .ok (.getfield 91, 3) := by decide +kernel
theorem dX6_tube_65 : decode cX6_tube 65 = .ok (.iload_n 2, 1) := by decide +kernel
theorem dX6_tube_66 : decode cX6_tube 66 = .ok (.iload_n 3, 1) := by decide +kernel
theorem dX6_tube_67 : decode cX6_tube 67 = .ok (.invokevirtual 100, 3) := by decide +kernel
theorem dX6_tube_70 : decode cX6_tube 70 = .ok (.aload 4, 2) := by decide +kernel
theorem dX6_tube_72 : decode cX6_tube 72 = .ok (.getfield 91, 3) := by decide +kernel
theorem dX6_tube_75 : decode cX6_tube 75 = .ok (.getfield 95, 3) := by decide +kernel
theorem dX6_tube_78 : decode cX6_tube 78 = .ok (.iload_n 2, 1) := by decide +kernel
theorem dX6_tube_79 : decode cX6_tube 79 = .ok (.iaload, 1) := by decide +kernel
theorem dX6_tube_80 : decode cX6_tube 80 = .ok (.ireturn, 1) := by decide +kernel
theorem dX6_stick_0 : decode cX6_stick 0 = .ok (.aload_n 0, 1) := by decide +kernel
theorem dX6_stick_1 : decode cX6_stick 1 = .ok (.iload_n 1, 1) := by decide +kernel
theorem dX6_stick_2 : decode cX6_stick 2 = .ok (.iload_n 2, 1) := by decide +kernel
theorem dX6_stick_3 : decode cX6_stick 3 = .ok (.invokevirtual 81, 3) := by decide +kernel
theorem dX6_stick_6 : decode cX6_stick 6 = .ok (.astore 4, 2) := by decide +kernel
theorem dX6_stick_8 : decode cX6_stick 8 = .ok (.aload 4, 2) := by decide +kernel
theorem dX6_stick_10 : decode cX6_stick 10 = .ok (.ifnonnull 9, 3) := by decide +kernel
theorem dX6_stick_13 : decode cX6_stick 13 = .ok (.aload_n 0, 1) := by decide +kernel
theorem dX6_stick_14 : decode cX6_stick 14 = .ok (.iconst (-1), 1) := by decide +kernel
theorem dX6_stick_15 : decode cX6_stick 15 = .ok (.invokevirtual 52, 3) := by decide +kernel
theorem dX6_stick_18 : decode cX6_stick 18 = .ok (.ireturn, 1) := by decide +kernel
theorem dX6_stick_19 : decode cX6_stick 19 = .ok (.aload 4, 2) := by decide +kernel
theorem dX6_stick_21 : decode cX6_stick 21 = .ok (.getfield 104, 3) := by decide +kernel
theorem dX6_stick_24 : decode cX6_stick 24 = .ok (.iconst 1, 1) := by decide +kernel
theorem dX6_stick_25 : decode cX6_stick 25 = .ok (.if_icmp .eq 10, 3) := by decide +kernel
theorem dX6_stick_28 : decode cX6_stick 28 = .ok (.aload_n 0, 1) := by decide +kernel
theorem dX6_stick_29 : decode cX6_stick 29 = .ok (.bipush (-2), 2) := by decide +kernel
theorem dX6_stick_31 : decode cX6_stick 31 = .ok (.invokevirtual 52, 3) := by decide +kernel
theorem dX6_stick_34 : decode cX6_stick 34 = .ok (.ireturn, 1) := by decide +kernel
theorem dX6_stick_35 : decode cX6_stick 35 = .ok (.iload_n 3, 1) := by decide +kernel
theorem dX6_stick_36 : decode cX6_stick 36 = .ok (.ifCond .ge 10, 3) := by decide +kernel
theorem dX6_stick_39 : decode cX6_stick 39 = .ok (.aload_n 0, 1) := by decide +kernel
theorem dX6_stick_40 : decode cX6_stick 40 = .ok (.bipush (-4), 2) := by decide +kernel
theorem dX6_stick_42 : decode cX6_stick 42 = .ok (.invokevirtual 52, 3) := by decide +kernel
theorem dX6_stick_45 : decode cX6_stick 45 = .ok (.ireturn, 1) := by decide +kernel
theorem dX6_stick_46 : decode cX6_stick 46 = .ok (.iload_n 3, 1) := by decide +kernel
theorem dX6_stick_47 : decode cX6_stick 47 = .ok (.bipush 9, 2) := by decide +kernel
theorem dX6_stick_49 : decode cX6_stick 49 = .ok (.aload 4, 2) := by decide +kernel
theorem dX6_stick_51 : decode cX6_stick 51 = .ok (.getfield 107, 3) := by decide +kernel
theorem dX6_stick_54 : decode cX6_stick 54 = .ok (.isub, 1) := by decide +kernel
theorem dX6_stick_55 : decode cX6_stick 55 = .ok (.if_icmp .le 10, 3) := by decide +kernel
theorem dX6_stick_58 : decode cX6_stick 58 = .ok (.aload_n 0, 1) := by decide +kernel
theorem dX6_stick_59 : decode cX6_stick 59 = .ok (.bipush (-6), 2) := by decide +kernel
theorem dX6_stick_61 : decode cX6_stick 61 = .ok (.invokevirtual 52, 3) := by decide +kernel
theorem dX6_stick_64 : decode cX6_stick 64 = .ok (.ireturn, 1) := by decide +kernel
theorem dX6_stick_65 : decode cX6_stick 65 = .ok (.aload 4, 2) := by decide +kernel
theorem dX6_stick_67 : decode cX6_stick 67 = .ok (.dup, 1) := by decide +kernel
theorem dX6_stick_68 : decode cX6_stick 68 = .ok (.getfield 107, 3) := by decide +kernel
theorem dX6_stick_71 : decode cX6_stick 71 = .ok (.iload_n 3, 1) := by decide +kernel
theorem dX6_stick_72 : decode cX6_stick 72 = .ok (.iadd, 1) := by decide +kernel
theorem dX6_stick_73 : decode cX6_stick 73 = .ok (.putfield 107, 3) := by decide +kernel
theorem dX6_stick_76 : decode cX6_stick 76 = .ok (.aload 4, 2) := by decide +kernel
theorem dX6_stick_78 : decode cX6_stick 78 = .ok (.getfield 107, 3) := by decide +kernel
theorem dX6_stick_81 : decode cX6_stick 81 = .ok (.ireturn, 1) := by decide +kernel
theorem dX6_shut_0 : decode cX6_shut 0 = .ok (.aload_n 0, 1) := by decide +kernel
theorem dX6_shut_1 : decode cX6_shut 1 = .ok (.iload_n 1, 1) := by decide +kernel
theorem dX6_shut_2 : decode cX6_shut 2 = .ok (.iload_n 2, 1) := by decide +kernel
theorem dX6_shut_3 : decode cX6_shut 3 = .ok (.invokevirtual 81, 3) := by decide +kernel
theorem dX6_shut_6 : decode cX6_shut 6 = .ok (.astore 4, 2) := by decide +kernel
theorem dX6_shut_8 : decode cX6_shut 8 = .ok (.aload 4, 2) := by decide +kernel
theorem dX6_shut_10 : decode cX6_shut 10 = .ok (.ifnull 12, 3) := by decide +kernel
theorem dX6_shut_13 : decode cX6_shut 13 = .ok (.aload 4, 2) := by decide +kernel
theorem dX6_shut_15 : decode cX6_shut 15 = .ok (.getfield 110, 3) := by decide +kernel
theorem dX6_shut_18 : decode cX6_shut 18 = .ok (.iload_n 3, 1) := by decide +kernel
theorem dX6_shut_19 : decode cX6_shut 19 = .ok (.if_icmp .ne 5, 3) := by decide +kernel
theorem dX6_shut_22 : decode cX6_shut 22 = .ok (.iconst 0, 1) := by decide +kernel
theorem dX6_shut_23 : decode cX6_shut 23 = .ok (.ireturn, 1) := by decide +kernel
theorem dX6_shut_24 : decode cX6_shut 24 = .ok (.aload 4, 2) := by decide +kernel
theorem dX6_shut_26 : decode cX6_shut 26 = .ok (.iload_n 3, 1) := by decide +kernel
theorem dX6_shut_27 : decode cX6_shut 27 = .ok (.putfield 110, 3) := by decide +kernel
theorem dX6_shut_30 : decode cX6_shut 30 = .ok (.iload_n 3, 1) := by decide +kernel
theorem dX6_shut_31 : decode cX6_shut 31 = .ok (.ifCond .ne 9, 3) := by decide +kernel
theorem dX6_shut_34 : decode cX6_shut 34 = .ok (.aload 4, 2) := by decide +kernel
theorem dX6_shut_36 : decode cX6_shut 36 = .ok (.iconst 0, 1) := by decide +kernel
theorem dX6_shut_37 : decode cX6_shut 37 = .ok (.putfield 114, 3) := by decide +kernel
theorem dX6_shut_40 : decode cX6_shut 40 = .ok (.iconst 1, 1) := by decide +kernel
theorem dX6_shut_41 : decode cX6_shut 41 = .ok (.ireturn, 1) := by decide +kernel
theorem dX6_power_0 : decode cX6_power 0 = .ok (.aload_n 0, 1) := by decide +kernel
theorem dX6_power_1 : decode cX6_power 1 = .ok (.iload_n 1, 1) := by decide +kernel
theorem dX6_power_2 : decode cX6_power 2 = .ok (.invokevirtual 57, 3) := by decide +kernel
theorem dX6_power_5 : decode cX6_power 5 = .ok (.astore_n 3, 1) := by decide +kernel
theorem dX6_power_6 : decode cX6_power 6 = .ok (.aload_n 3, 1) := by decide +kernel
theorem dX6_power_7 : decode cX6_power 7 = .ok (.ifnull 11, 3) := by decide +kernel
theorem dX6_power_10 : decode cX6_power 10 = .ok (.aload_n 3, 1) := by decide +kernel
theorem dX6_power_11 : decode cX6_power 11 = .ok (.getfield 117, 3) := by decide +kernel
theorem dX6_power_14 : decode cX6_power 14 = .ok (.iload_n 2, 1) := by decide +kernel
theorem dX6_power_15 : decode cX6_power 15 = .ok (.if_icmp .ne 5, 3) := by decide +kernel
theorem dX6_power_18 : decode cX6_power 18 = .ok (.iconst 0, 1) := by decide +kernel
theorem dX6_power_19 : decode cX6_power 19 = .ok (.ireturn, 1) := by decide +kernel
theorem dX6_power_20 : decode cX6_power 20 = .ok (.aload_n 3, 1) := by decide +kernel
theorem dX6_power_21 : decode cX6_power 21 = .ok (.iload_n 2, 1) := by decide +kernel
theorem dX6_power_22 : decode cX6_power 22 = .ok (.putfield 117, 3) := by decide +kernel
theorem dX6_power_25 : decode cX6_power 25 = .ok (.aload_n 3, 1) := by decide +kernel
theorem dX6_power_26 : decode cX6_power 26 = .ok (.iconst 0, 1) := by decide +kernel
theorem dX6_power_27 : decode cX6_power 27 = .ok (.putfield 120, 3) := by decide +kernel
theorem dX6_power_30 : decode cX6_power 30 = .ok (.iconst 1, 1) := by decide +kernel
theorem dX6_power_31 : decode cX6_power 31 = .ok (.ireturn, 1) := by decide +kernel
theorem dX6_fill_0 : decode cX6_fill 0 = .ok (.aload_n 0, 1) := by decide +kernel
theorem dX6_fill_1 : decode cX6_fill 1 = .ok (.iload_n 1, 1) := by decide +kernel
theorem dX6_fill_2 : decode cX6_fill 2 = .ok (.invokevirtual 57, 3) := by decide +kernel
theorem dX6_fill_5 : decode cX6_fill 5 = .ok (.astore 4, 2) := by decide +kernel
theorem dX6_fill_7 : decode cX6_fill 7 = .ok (.aload_n 0, 1) := by decide +kernel
theorem dX6_fill_8 : decode cX6_fill 8 = .ok (.iload_n 1, 1) := by decide +kernel
theorem dX6_fill_9 : decode cX6_fill 9 = .ok (.iload_n 2, 1) := by decide +kernel
theorem dX6_fill_10 : decode cX6_fill 10 = .ok (.invokevirtual 81, 3) := by decide +kernel
theorem dX6_fill_13 : decode cX6_fill 13 = .ok (.astore 5, 2) := by decide +kernel
theorem dX6_fill_15 : decode cX6_fill 15 = .ok (.aload 4, 2) := by decide +kernel
theorem dX6_fill_17 : decode cX6_fill 17 = .ok (.ifnull 8, 3) := by decide +kernel
theorem dX6_fill_20 : decode cX6_fill 20 = .ok (.aload 5, 2) := by decide +kernel
theorem dX6_fill_22 : decode cX6_fill 22 = .ok (.ifnonnull 9, 3) := by decide +kernel
theorem dX6_fill_25 : decode cX6_fill 25 = .ok (.aload_n 0, 1) := by decide +kernel
theorem dX6_fill_26 : decode cX6_fill 26 = .ok (.iconst (-1), 1) := by decide +kernel
theorem dX6_fill_27 : decode cX6_fill 27 = .ok (.invokevirtual 52, 3) := by decide +kernel
theorem dX6_fill_30 : decode cX6_fill 30 = .ok (.ireturn, 1) := by decide +kernel
theorem dX6_fill_31 : decode cX6_fill 31 = .ok (.aload 5, 2) := by decide +kernel
theorem dX6_fill_33 : decode cX6_fill 33 = .ok (.getfield 123, 3) := by decide +kernel
theorem dX6_fill_36 : decode cX6_fill 36 = .ok (.ifCond .eq 10, 3) := by decide +kernel
theorem dX6_fill_39 : decode cX6_fill 39 = .ok (.aload_n 0, 1) := by decide +kernel
theorem dX6_fill_40 : decode cX6_fill 40 = .ok (.bipush (-3), 2) := by decide +kernel
theorem dX6_fill_42 : decode cX6_fill 42 = .ok (.invokevirtual 52, 3) := by decide +kernel
theorem dX6_fill_45 : decode cX6_fill 45 = .ok (.ireturn, 1) := by decide +kernel
theorem dX6_fill_46 : decode cX6_fill 46 = .ok (.iload_n 3, 1) := by decide +kernel
theorem dX6_fill_47 : decode cX6_fill 47 = .ok (.ifCond .ge 10, 3) := by decide +kernel
theorem dX6_fill_50 : decode cX6_fill 50 = .ok (.aload_n 0, 1) := by decide +kernel
theorem dX6_fill_51 : decode cX6_fill 51 = .ok (.bipush (-4), 2) := by decide +kernel
theorem dX6_fill_53 : decode cX6_fill 53 = .ok (.invokevirtual 52, 3) := by decide +kernel
theorem dX6_fill_56 : decode cX6_fill 56 = .ok (.ireturn, 1) := by decide +kernel
theorem dX6_fill_57 : decode cX6_fill 57 = .ok (.iload_n 3, 1) := by decide +kernel
theorem dX6_fill_58 : decode cX6_fill 58 = .ok (.aload 5, 2) := by decide +kernel
theorem dX6_fill_60 : decode cX6_fill 60 = .ok (.getfield 126, 3) := by decide +kernel
theorem dX6_fill_63 : decode cX6_fill 63 = .ok (.aload 5, 2) := by decide +kernel
theorem dX6_fill_65 : decode cX6_fill 65 = .ok (.getfield 129, 3) := by decide +kernel
theorem dX6_fill_68 : decode cX6_fill 68 = .ok (.isub, 1) := by decide +kernel
theorem dX6_fill_69 : decode cX6_fill 69 = .ok (.if_icmp .le 10, 3) := by decide +kernel
theorem dX6_fill_72 : decode cX6_fill 72 = .ok (.aload_n 0, 1) := by decide +kernel
theorem dX6_fill_73 : decode cX6_fill 73 = .ok (.bipush (-6), 2) := by decide +kernel
theorem dX6_fill_75 : decode cX6_fill 75 = .ok (.invokevirtual 52, 3) := by decide +kernel
theorem dX6_fill_78 : decode cX6_fill 78 = .ok (.ireturn, 1) := by decide +kernel
theorem dX6_fill_79 : decode cX6_fill 79 = .ok (.aload 5, 2) := by decide +kernel
theorem dX6_fill_81 : decode cX6_fill 81 = .ok (.dup, 1) := by decide +kernel
theorem dX6_fill_82 : decode cX6_fill 82 = .ok (.getfield 129, 3) := by decide +kernel
theorem dX6_fill_85 : decode cX6_fill 85 = .ok (.iload_n 3, 1) := by decide +kernel
theorem dX6_fill_86 : decode cX6_fill 86 = .ok (.iadd, 1) := by decide +kernel
theorem dX6_fill_87 : decode cX6_fill 87 = .ok (.putfield 129, 3) := by decide +kernel
theorem dX6_fill_90 : decode cX6_fill 90 = .ok (.aload 4, 2) := by decide +kernel
theorem dX6_fill_92 : decode cX6_fill 92 = .ok (.dup, 1) := by decide +kernel
theorem dX6_fill_93 : decode cX6_fill 93 = .ok (.getfield 132, 3) := by decide +kernel
theorem dX6_fill_96 : decode cX6_fill 96 = .ok (.iload_n 3, 1) := by decide +kernel
theorem dX6_fill_97 : decode cX6_fill 97 = .ok (.iadd, 1) := by decide +kernel
theorem dX6_fill_98 : decode cX6_fill 98 = .ok (.putfield 132, 3) := by decide +kernel
theorem dX6_fill_101 : decode cX6_fill 101 = .ok (.aload 5, 2) := by decide +kernel
theorem dX6_fill_103 : decode cX6_fill 103 = .ok (.getfield 129, 3) := by decide +kernel
theorem dX6_fill_106 : decode cX6_fill 106 = .ok (.ireturn, 1) := by decide +kernel
theorem dX6_found_0 : decode cX6_found 0 = .ok (.aload_n 0, 1) := by decide +kernel
theorem dX6_found_1 : decode cX6_found 1 = .ok (.iload_n 1, 1) := by decide +kernel
theorem dX6_found_2 : decode cX6_found 2 = .ok (.invokevirtual 57, 3) := by decide +kernel
theorem dX6_found_5 : decode cX6_found 5 = .ok (.astore 4, 2) := by decide +kernel
theorem dX6_found_7 : decode cX6_found 7 = .ok (.aload_n 0, 1) := by decide +kernel
theorem dX6_found_8 : decode cX6_found 8 = .ok (.iload_n 1, 1) := by decide +kernel
theorem dX6_found_9 : decode cX6_found 9 = .ok (.iload_n 2, 1) := by decide +kernel
theorem dX6_found_10 : decode cX6_found 10 = .ok (.invokevirtual 81, 3) := by decide +kernel
theorem dX6_found_13 : decode cX6_found 13 = .ok (.astore 5, 2) := by decide +kernel
theorem dX6_found_15 : decode cX6_found 15 = .ok (.aload 4, 2) := by decide +kernel
theorem dX6_found_17 : decode cX6_found 17 = .ok (.ifnull 8, 3) := by decide +kernel
theorem dX6_found_20 : decode cX6_found 20 = .ok (.aload 5, 2) := by decide +kernel
theorem dX6_found_22 : decode cX6_found 22 = .ok (.ifnonnull 9, 3) := by decide +kernel
theorem dX6_found_25 : decode cX6_found 25 = .ok (.aload_n 0, 1) := by decide +kernel
theorem dX6_found_26 : decode cX6_found 26 = .ok (.iconst (-1), 1) := by decide +kernel
theorem dX6_found_27 : decode cX6_found 27 = .ok (.invokevirtual 52, 3) := by decide +kernel
theorem dX6_found_30 : decode cX6_found 30 = .ok (.ireturn, 1) := by decide +kernel
theorem dX6_found_31 : decode cX6_found 31 = .ok (.iload_n 3, 1) := by decide +kernel
theorem dX6_found_32 : decode cX6_found 32 = .ok (.ifCond .ge 10, 3) := by decide +kernel
theorem dX6_found_35 : decode cX6_found 35 = .ok (.aload_n 0, 1) := by decide +kernel
theorem dX6_found_36 : decode cX6_found 36 = .ok (.bipush (-4), 2) := by decide +kernel
theorem dX6_found_38 : decode cX6_found 38 = .ok (.invokevirtual 52, 3) := by decide +kernel
theorem dX6_found_41 : decode cX6_found 41 = .ok (.ireturn, 1) := by decide +kernel
theorem dX6_found_42 : decode cX6_found 42 = .ok (.iload_n 3, 1) := by decide +kernel
theorem dX6_found_43 : decode cX6_found 43 = .ok (.aload 5, 2) := by decide +kernel
theorem dX6_found_45 : decode cX6_found 45 = .ok (.getfield 126, 3) := by decide +kernel
theorem dX6_found_48 : decode cX6_found 48 = .ok (.if_icmp .le 10, 3) := by decide +kernel
theorem dX6_found_51 : decode cX6_found 51 = .ok (.aload_n 0, 1) := by decide +kernel
theorem dX6_found_52 : decode cX6_found 52 = .ok (.bipush (-6), 2) := by decide +kernel
theorem dX6_found_54 : decode cX6_found 54 = .ok (.invokevirtual 52, 3) := by decide +kernel
theorem dX6_found_57 : decode cX6_found 57 = .ok (.ireturn, 1) := by decide +kernel
theorem dX6_found_58 : decode cX6_found 58 = .ok (.aload 5, 2) := by decide +kernel
theorem dX6_found_60 : decode cX6_found 60 = .ok (.getfield 129, 3) := by decide +kernel
theorem dX6_found_63 : decode cX6_found 63 = .ok (.istore 6, 2) := by decide +kernel
theorem dX6_found_65 : decode cX6_found 65 = .ok (.aload 4, 2) := by decide +kernel
theorem dX6_found_67 : decode cX6_found 67 = .ok (.dup, 1) := by decide +kernel
theorem dX6_found_68 : decode cX6_found 68 = .ok (.getfield 135, 3) := by decide +kernel
theorem dX6_found_71 : decode cX6_found 71 = .ok (.iload 6, 2) := by decide +kernel
theorem dX6_found_73 : decode cX6_found 73 = .ok (.iload_n 3, 1) := by decide +kernel
theorem dX6_found_74 : decode cX6_found 74 = .ok (.isub, 1) := by decide +kernel
theorem dX6_found_75 : decode cX6_found 75 = .ok (.iadd, 1) := by decide +kernel
theorem dX6_found_76 : decode cX6_found 76 = .ok (.putfield 135, 3) := by decide +kernel
theorem dX6_found_79 : decode cX6_found 79 = .ok (.aload 5, 2) := by decide +kernel
theorem dX6_found_81 : decode cX6_found 81 = .ok (.iload_n 3, 1) := by decide +kernel
theorem dX6_found_82 : decode cX6_found 82 = .ok (.putfield 129, 3) := by decide +kernel
theorem dX6_found_85 : decode cX6_found 85 = .ok (.iload 6, 2) := by decide +kernel
theorem dX6_found_87 : decode cX6_found 87 = .ok (.ireturn, 1) := by decide +kernel
theorem dX6_empty_0 : decode cX6_empty 0 = .ok (.aload_n 0, 1) := by decide +kernel
theorem dX6_empty_1 : decode cX6_empty 1 = .ok (.iload_n 1, 1) := by decide +kernel
theorem dX6_empty_2 : decode cX6_empty 2 = .ok (.invokevirtual 57, 3) := by decide +kernel
theorem dX6_empty_5 : decode cX6_empty 5 = .ok (.astore_n 3, 1) := by decide +kernel
theorem dX6_empty_6 : decode cX6_empty 6 = .ok (.aload_n 0, 1) := by decide +kernel
theorem dX6_empty_7 : decode cX6_empty 7 = .ok (.iload_n 1, 1) := by decide +kernel
theorem dX6_empty_8 : decode cX6_empty 8 = .ok (.iload_n 2, 1) := by decide +kernel
theorem dX6_empty_9 : decode cX6_empty 9 = .ok (.invokevirtual 81, 3) := by decide +kernel
theorem dX6_empty_12 : decode cX6_empty 12 = .ok (.astore 4, 2) := by decide +kernel
theorem dX6_empty_14 : decode cX6_empty 14 = .ok (.aload_n 3, 1) := by decide +kernel
theorem dX6_empty_15 : decode cX6_empty 15 = .ok (.ifnull 8, 3) := by decide +kernel
theorem dX6_empty_18 : decode cX6_empty 18 = .ok (.aload 4, 2) := by decide +kernel
theorem dX6_empty_20 : decode cX6_empty 20 = .ok (.ifnonnull 9, 3) := by decide +kernel
theorem dX6_empty_23 : decode cX6_empty 23 = .ok (.aload_n 0, 1) := by decide +kernel
theorem dX6_empty_24 : decode cX6_empty 24 = .ok (.iconst (-1), 1) := by decide +kernel
theorem dX6_empty_25 : decode cX6_empty 25 = .ok (.invokevirtual 52, 3) := by decide +kernel
theorem dX6_empty_28 : decode cX6_empty 28 = .ok (.ireturn, 1) := by decide +kernel
theorem dX6_empty_29 : decode cX6_empty 29 = .ok (.aload 4, 2) := by decide +kernel
theorem dX6_empty_31 : decode cX6_empty 31 = .ok (.getfield 129, 3) := by decide +kernel
theorem dX6_empty_34 : decode cX6_empty 34 = .ok (.istore 5, 2) := by decide +kernel
theorem dX6_empty_36 : decode cX6_empty 36 = .ok (.aload_n 3, 1) := by decide +kernel
theorem dX6_empty_37 : decode cX6_empty 37 = .ok (.dup, 1) := by decide +kernel
theorem dX6_empty_38 : decode cX6_empty 38 = .ok (.getfield 138, 3) := by decide +kernel
theorem dX6_empty_41 : decode cX6_empty 41 = .ok (.iload 5, 2) := by decide +kernel
theorem dX6_empty_43 : decode cX6_empty 43 = .ok (.iadd, 1) := by decide +kernel
theorem dX6_empty_44 : decode cX6_empty 44 = .ok (.putfield 138, 3) := by decide +kernel
theorem dX6_empty_47 : decode cX6_empty 47 = .ok (.aload 4, 2) := by decide +kernel
theorem dX6_empty_49 : decode cX6_empty 49 = .ok (.iconst 0, 1) := by decide +kernel
theorem dX6_empty_50 : decode cX6_empty 50 = .ok (.putfield 129, 3) := by decide +kernel
theorem dX6_empty_53 : decode cX6_empty 53 = .ok (.aload 4, 2) := by decide +kernel
theorem dX6_empty_55 : decode cX6_empty 55 = .ok (.iconst 0, 1) := by decide +kernel
theorem dX6_empty_56 : decode cX6_empty 56 = .ok (.putfield 123, 3) := by decide +kernel
theorem dX6_empty_59 : decode cX6_empty 59 = .ok (.iload 5, 2) := by decide +kernel
theorem dX6_empty_61 : decode cX6_empty 61 = .ok (.ireturn, 1) := by decide +kernel
theorem dX6_insert_0 : decode cX6_insert 0 = .ok (.aload_n 0, 1) := by decide +kernel
theorem dX6_insert_1 : decode cX6_insert 1 = .ok (.iload_n 1, 1) := by decide +kernel
theorem dX6_insert_2 : decode cX6_insert 2 = .ok (.invokevirtual 57, 3) := by decide +kernel
theorem dX6_insert_5 : decode cX6_insert 5 = .ok (.astore_n 3, 1) := by decide +kernel
theorem dX6_insert_6 : decode cX6_insert 6 = .ok (.aload_n 3, 1) := by decide +kernel
theorem dX6_insert_7 : decode cX6_insert 7 = .ok (.ifnull 10, 3) := by decide +kernel
theorem dX6_insert_10 : decode cX6_insert 10 = .ok (.iload_n 2, 1) := by decide +kernel
theorem dX6_insert_11 : decode cX6_insert 11 = .ok (.invokestatic 88, 3) := by decide +kernel
theorem dX6_insert_14 : decode cX6_insert 14 = .ok (.ifCond .ne 9, 3) := by decide +kernel
theorem dX6_insert_17 : decode cX6_insert 17 = .ok (.aload_n 0, 1) := by decide +kernel
theorem dX6_insert_18 : decode cX6_insert 18 = .ok (.iconst (-1), 1) := by decide +kernel
theorem dX6_insert_19 : decode cX6_insert 19 = .ok (.invokevirtual 52, 3) := by decide +kernel
theorem dX6_insert_22 : decode cX6_insert 22 = .ok (.ireturn, 1) := by decide +kernel
theorem dX6_insert_23 : decode cX6_insert 23 = .ok (.aload_n 3, 1) := by decide +kernel
theorem dX6_insert_24 : decode cX6_insert 24 = .ok (.getfield 91, 3) := by decide +kernel
theorem dX6_insert_27 : decode cX6_insert 27 = .ok (.getfield 141, 3) := by decide +kernel
theorem dX6_insert_30 : decode cX6_insert 30 = .ok (.bipush 20, 2) := by decide +kernel
theorem dX6_insert_32 : decode cX6_insert 32 = .ok (.if_icmp .lt 10, 3) := by decide +kernel
theorem dX6_insert_35 : decode cX6_insert 35 = .ok (.aload_n 0, 1) := by decide +kernel
theorem dX6_insert_36 : decode cX6_insert 36 = .ok (.bipush (-6), 2) := by decide +kernel
theorem dX6_insert_38 : decode cX6_insert 38 = .ok (.invokevirtual 52, 3) := by decide +kernel
theorem dX6_insert_41 : decode cX6_insert 41 = .ok (.ireturn, 1) := by decide +kernel
theorem dX6_insert_42 : decode cX6_insert 42 = .ok (.aload_n 3, 1) := by decide +kernel
theorem dX6_insert_43 : decode cX6_insert 43 = .ok (.getfield 91, 3) := by decide +kernel
theorem dX6_insert_46 : decode cX6_insert 46 = .ok (.iload_n 2, 1) := by decide +kernel
theorem dX6_insert_47 : decode cX6_insert 47 = .ok (.invokevirtual 144, 3) := by decide +kernel
theorem dX6_insert_50 : decode cX6_insert 50 = .ok (.aload_n 3, 1) := by decide +kernel
theorem dX6_insert_51 : decode cX6_insert 51 = .ok (.getfield 91, 3) := by decide +kernel
theorem dX6_insert_54 : decode cX6_insert 54 = .ok (.getfield 148, 3) := by decide +kernel
theorem dX6_insert_57 : decode cX6_insert 57 = .ok (.invokestatic 151, 3) := by decide +kernel
theorem dX6_insert_60 : decode cX6_insert 60 = .ok (.ireturn, 1) := by decide +kernel
theorem dX6_back_0 : decode cX6_back 0 = .ok (.aload_n 0, 1) := by decide +kernel
theorem dX6_back_1 : decode cX6_back 1 = .ok (.iload_n 1, 1) := by decide +kernel
theorem dX6_back_2 : decode cX6_back 2 = .ok (.invokevirtual 57, 3) := by decide +kernel
theorem dX6_back_5 : decode cX6_back 5 = .ok (.astore_n 2, 1) := by decide +kernel
theorem dX6_back_6 : decode cX6_back 6 = .ok (.aload_n 2, 1) := by decide +kernel
theorem dX6_back_7 : decode cX6_back 7 = .ok (.ifnonnull 9, 3) := by decide +kernel
theorem dX6_back_10 : decode cX6_back 10 = .ok (.aload_n 0, 1) := by decide +kernel
theorem dX6_back_11 : decode cX6_back 11 = .ok (.iconst (-1), 1) := by decide +kernel
theorem dX6_back_12 : decode cX6_back 12 = .ok (.invokevirtual 52, 3) := by decide +kernel
theorem dX6_back_15 : decode cX6_back 15 = .ok (.ireturn, 1) := by decide +kernel
theorem dX6_back_16 : decode cX6_back 16 = .ok (.aload_n 2, 1) := by decide +kernel
theorem dX6_back_17 : decode cX6_back 17 = .ok (.getfield 91, 3) := by decide +kernel
theorem dX6_back_20 : decode cX6_back 20 = .ok (.invokevirtual 155, 3) := by decide +kernel
theorem dX6_back_23 : decode cX6_back 23 = .ok (.ireturn, 1) := by decide +kernel
theorem dX6_choose_0 : decode cX6_choose 0 = .ok (.aload_n 0, 1) := by decide +kernel
theorem dX6_choose_1 : decode cX6_choose 1 = .ok (.iload_n 1, 1) := by decide +kernel
theorem dX6_choose_2 : decode cX6_choose 2 = .ok (.invokevirtual 57, 3) := by decide +kernel
theorem dX6_choose_5 : decode cX6_choose 5 = .ok (.astore_n 3, 1) := by decide +kernel
theorem dX6_choose_6 : decode cX6_choose 6 = .ok (.aload_n 0, 1) := by decide +kernel
theorem dX6_choose_7 : decode cX6_choose 7 = .ok (.iload_n 1, 1) := by decide +kernel
theorem dX6_choose_8 : decode cX6_choose 8 = .ok (.iload_n 2, 1) := by decide +kernel
theorem dX6_choose_9 : decode cX6_choose 9 = .ok (.invokevirtual 81, 3) := by decide +kernel
theorem dX6_choose_12 : decode cX6_choose 12 = .ok (.astore 4, 2) := by decide +kernel
theorem dX6_choose_14 : decode cX6_choose 14 = .ok (.aload_n 3, 1) := by decide +kernel
theorem dX6_choose_15 : decode cX6_choose 15 = .ok (.ifnull 8, 3) := by decide +kernel
theorem dX6_choose_18 : decode cX6_choose 18 = .ok (.aload 4, 2) := by decide +kernel
theorem dX6_choose_20 : decode cX6_choose 20 = .ok (.ifnonnull 9, 3) := by decide +kernel
theorem dX6_choose_23 : decode cX6_choose 23 = .ok (.aload_n 0, 1) := by decide +kernel
theorem dX6_choose_24 : decode cX6_choose 24 = .ok (.iconst (-1), 1) := by decide +kernel
theorem dX6_choose_25 : decode cX6_choose 25 = .ok (.invokevirtual 52, 3) := by decide +kernel
theorem dX6_choose_28 : decode cX6_choose 28 = .ok (.ireturn, 1) := by decide +kernel
theorem dX6_choose_29 : decode cX6_choose 29 = .ok (.aload_n 3, 1) := by decide +kernel
theorem dX6_choose_30 : decode cX6_choose 30 = .ok (.iload_n 2, 1) := by decide +kernel
theorem dX6_choose_31 : decode cX6_choose 31 = .ok (.invokevirtual 159, 3) := by decide +kernel
theorem dX6_choose_34 : decode cX6_choose 34 = .ok (.astore 5, 2) := by decide +kernel
theorem dX6_choose_36 : decode cX6_choose 36 = .ok (.aload 5, 2) := by decide +kernel
theorem dX6_choose_38 : decode cX6_choose 38 = .ok (.ifnonnull 10, 3) := by decide +kernel
theorem dX6_choose_41 : decode cX6_choose 41 = .ok (.aload_n 0, 1) := by decide +kernel
theorem dX6_choose_42 : decode cX6_choose 42 = .ok (.bipush (-3), 2) := by decide +kernel
theorem dX6_choose_44 : decode cX6_choose 44 = .ok (.invokevirtual 52, 3) := by decide +kernel
theorem dX6_choose_47 : decode cX6_choose 47 = .ok (.ireturn, 1) := by decide +kernel
theorem dX6_choose_48 : decode cX6_choose 48 = .ok (.aload_n 3, 1) := by decide +kernel
theorem dX6_choose_49 : decode cX6_choose 49 = .ok (.getfield 91, 3) := by decide +kernel
theorem dX6_choose_52 : decode cX6_choose 52 = .ok (.getfield 148, 3) := by decide +kernel
theorem dX6_choose_55 : decode cX6_choose 55 = .ok (.invokestatic 151, 3) := by decide +kernel
theorem dX6_choose_58 : decode cX6_choose 58 = .ok (.aload 4, 2) := by decide +kernel
theorem dX6_choose_60 : decode cX6_choose 60 = .ok (.getfield 85, 3) := by decide +kernel
theorem dX6_choose_63 : decode cX6_choose 63 = .ok (.isub, 1) := by decide +kernel
theorem dX6_choose_64 : decode cX6_choose 64 = .ok (.istore 6, 2) := by decide +kernel
theorem dX6_choose_66 : decode cX6_choose 66 = .ok (.iload 6, 2) := by decide +kernel
theorem dX6_choose_68 : decode cX6_choose 68 = .ok (.ifCond .ge 10, 3) := by decide +kernel
theorem dX6_choose_71 : decode cX6_choose 71 = .ok (.aload_n 0, 1) := by decide +kernel
theorem dX6_choose_72 : decode cX6_choose 72 = .ok (.bipush (-5), 2) := by decide +kernel
theorem dX6_choose_74 : decode cX6_choose 74 = .ok (.invokevirtual 52, 3) := by decide +kernel
theorem dX6_choose_77 : decode cX6_choose 77 = .ok (.ireturn, 1) := by decide +kernel
theorem dX6_choose_78 : decode cX6_choose 78 = .ok (.aload_n 0, 1) := by decide +kernel
theorem dX6_choose_79 : decode cX6_choose 79 = .ok (.getfield 37, 3) := by decide +kernel
theorem dX6_choose_82 : decode cX6_choose 82 = .ok (.aload_n 3, 1) := by decide +kernel
theorem dX6_choose_83 : decode cX6_choose 83 = .ok (.getfield 91, 3) := by decide +kernel
theorem dX6_choose_86 : decode cX6_choose 86 = .ok (.iload 6, 2) := by decide +kernel
theorem dX6_choose_88 : decode cX6_choose 88 = .ok (.invokevirtual 163, 3) := by decide +kernel
theorem dX6_choose_91 : decode cX6_choose 91 = .ok (.bipush (-9), 2) := by decide +kernel
theorem dX6_choose_93 : decode cX6_choose 93 = .ok (.if_icmp .ne 10, 3) := by decide +kernel
theorem dX6_choose_96 : decode cX6_choose 96 = .ok (.aload_n 0, 1) := by decide +kernel
theorem dX6_choose_97 : decode cX6_choose 97 = .ok (.bipush (-6), 2) := by decide +kernel
theorem dX6_choose_99 : decode cX6_choose 99 = .ok (.invokevirtual 52, 3) := by decide +kernel
theorem dX6_choose_102 : decode cX6_choose 102 = .ok (.ireturn, 1) := by decide +kernel
theorem dX6_choose_103 : decode cX6_choose 103 = .ok (.aload 4, 2) := by decide +kernel
theorem dX6_choose_105 : decode cX6_choose 105 = .ok (.getfield 107, 3) := by decide +kernel
theorem dX6_choose_108 : decode cX6_choose 108 = .ok (.ifCond .le 29, 3) := by decide +kernel
theorem dX6_choose_111 : decode cX6_choose 111 = .ok (.aload 4, 2) := by decide +kernel
theorem dX6_choose_113 : decode cX6_choose 113 = .ok (.invokevirtual 167, 3) := by decide +kernel
theorem dX6_choose_116 : decode cX6_choose 116 = .ok (.aload_n 3, 1) := by decide +kernel
theorem dX6_choose_117 : decode cX6_choose 117 = .ok (.getfield 91, 3) := by decide +kernel
theorem dX6_choose_120 : decode cX6_choose 120 = .ok (.invokevirtual 155, 3) := by decide +kernel
theorem dX6_choose_123 : decode cX6_choose 123 = .ok (.pop, 1) := by decide +kernel
theorem dX6_choose_124 : decode cX6_choose 124 = .ok (.aload_n 0, 1) := by decide +kernel
theorem dX6_choose_125 : decode cX6_choose 125 = .ok (.dup, 1) := by decide +kernel
theorem dX6_choose_126 : decode cX6_choose 126 = .ok (.getfield 170, 3) := by decide +kernel
theorem dX6_choose_129 : decode cX6_choose 129 = .ok (.iconst 1, 1) := by decide +kernel
theorem dX6_choose_130 : decode cX6_choose 130 = .ok (.iadd, 1) := by decide +kernel
theorem dX6_choose_131 : decode cX6_choose 131 = .ok (.putfield 170, 3) := by decide +kernel
theorem dX6_choose_134 : decode cX6_choose 134 = .ok (.bipush (-7), 2) := by decide +kernel
theorem dX6_choose_136 : decode cX6_choose 136 = .ok (.ireturn, 1) := by decide +kernel
theorem dX6_choose_137 : decode cX6_choose 137 = .ok (.aload 5, 2) := by decide +kernel
theorem dX6_choose_139 : decode cX6_choose 139 = .ok (.dup, 1) := by decide +kernel
theorem dX6_choose_140 : decode cX6_choose 140 = .ok (.getfield 129, 3) := by decide +kernel
theorem dX6_choose_143 : decode cX6_choose 143 = .ok (.iconst 1, 1) := by decide +kernel
theorem dX6_choose_144 : decode cX6_choose 144 = .ok (.isub, 1) := by decide +kernel
theorem dX6_choose_145 : decode cX6_choose 145 = .ok (.putfield 129, 3) := by decide +kernel
theorem dX6_choose_148 : decode cX6_choose 148 = .ok (.aload 4, 2) := by decide +kernel
theorem dX6_choose_150 : decode cX6_choose 150 = .ok (.iconst 0, 1) := by decide +kernel
theorem dX6_choose_151 : decode cX6_choose 151 = .ok (.putfield 114, 3) := by decide +kernel
theorem dX6_choose_154 : decode cX6_choose 154 = .ok (.aload_n 3, 1) := by decide +kernel
theorem dX6_choose_155 : decode cX6_choose 155 = .ok (.dup, 1) := by decide +kernel
theorem dX6_choose_156 : decode cX6_choose 156 = .ok (.getfield 173, 3) := by decide +kernel
theorem dX6_choose_159 : decode cX6_choose 159 = .ok (.iconst 1, 1) := by decide +kernel
theorem dX6_choose_160 : decode cX6_choose 160 = .ok (.iadd, 1) := by decide +kernel
theorem dX6_choose_161 : decode cX6_choose 161 = .ok (.putfield 173, 3) := by decide +kernel
theorem dX6_choose_164 : decode cX6_choose 164 = .ok (.aload_n 3, 1) := by decide +kernel
theorem dX6_choose_165 : decode cX6_choose 165 = .ok (.getfield 176, 3) := by decide +kernel
theorem dX6_choose_168 : decode cX6_choose 168 = .ok (.aload 4, 2) := by decide +kernel
theorem dX6_choose_170 : decode cX6_choose 170 = .ok (.getfield 180, 3) := by decide +kernel
theorem dX6_choose_173 : decode cX6_choose 173 = .ok (.aload_n 0, 1) := by decide +kernel
theorem dX6_choose_174 : decode cX6_choose 174 = .ok (.getfield 183, 3) := by decide +kernel
theorem dX6_choose_177 : decode cX6_choose 177 = .ok (.bipush 24, 2) := by decide +kernel
theorem dX6_choose_179 : decode cX6_choose 179 = .ok (.irem, 1) := by decide +kernel
theorem dX6_choose_180 : decode cX6_choose 180 = .ok (.invokevirtual 186, 3) := by decide +kernel
theorem dX6_choose_183 : decode cX6_choose 183 = .ok (.aload_n 3, 1) := by decide +kernel
theorem dX6_choose_184 : decode cX6_choose 184 = .ok (.getfield 91, 3) := by decide +kernel
theorem dX6_choose_187 : decode cX6_choose 187 = .ok (.aload_n 0, 1) := by decide +kernel
theorem dX6_choose_188 : decode cX6_choose 188 = .ok (.getfield 37, 3) := by decide +kernel
theorem dX6_choose_191 : decode cX6_choose 191 = .ok (.getfield 191, 3) := by decide +kernel
theorem dX6_choose_194 : decode cX6_choose 194 = .ok (.invokevirtual 194, 3) := by decide +kernel
theorem dX6_choose_197 : decode cX6_choose 197 = .ok (.aload_n 0, 1) := by decide +kernel
theorem dX6_choose_198 : decode cX6_choose 198 = .ok (.getfield 37, 3) := by decide +kernel
theorem dX6_choose_201 : decode cX6_choose 201 = .ok (.getfield 191, 3) := by decide +kernel
theorem dX6_choose_204 : decode cX6_choose 204 = .ok (.iconst 0, 1) := by decide +kernel
theorem dX6_choose_205 : decode cX6_choose 205 = .ok (.aload_n 0, 1) := by decide +kernel
theorem dX6_choose_206 : decode cX6_choose 206 = .ok (.getfield 31, 3) := by decide +kernel
theorem dX6_choose_209 : decode cX6_choose 209 = .ok (.iconst 0, 1) := by decide +kernel
theorem dX6_choose_210 : decode cX6_choose 210 = .ok (.aload_n 0, 1) := by decide +kernel
theorem dX6_choose_211 : decode cX6_choose 211 = .ok (.getfield 31, 3) := by decide +kernel
theorem dX6_choose_214 : decode cX6_choose 214 = .ok (.arraylength, 1) := by decide +kernel
theorem dX6_choose_215 : decode cX6_choose 215 = .ok (.invokestatic 198, 3) := by decide +kernel
