theorem dX0_init_0 : decode cX0_init 0 = .ok (.aload_n 0, 1) := by decide +kernel
theorem dX0_init_1 : decode cX0_init 1 = .ok (.invokespecial 3, 3) := by decide +kernel
theorem dX0_init_4 : decode cX0_init 4 = .ok (.aload_n 0, 1) := by decide +kernel
theorem dX0_init_5 : decode cX0_init 5 = .ok (.getstatic 9, 3) := by decide +kernel
theorem dX0_init_8 : decode cX0_init 8 = .ok (.arraylength, 1) := by decide +kernel
theorem dX0_init_9 : decode cX0_init 9 = .ok (.newarray .int, 2) := by decide +kernel
theorem dX0_init_11 : decode cX0_init 11 = .ok (.putfield 13, 3) := by decide +kernel
theorem dX0_init_14 : decode cX0_init 14 = .ok (.aload_n 0, 1) := by decide +kernel
theorem dX0_init_15 : decode cX0_init 15 = .ok (.getstatic 9, 3) := by decide +kernel
theorem dX0_init_18 : decode cX0_init 18 = .ok (.arraylength, 1) := by decide +kernel
theorem dX0_init_19 : decode cX0_init 19 = .ok (.newarray .int, 2) := by decide +kernel
theorem dX0_init_21 : decode cX0_init 21 = .ok (.putfield 18, 3) := by decide +kernel
theorem dX0_init_24 : decode cX0_init 24 = .ok (.return_, 1) := by decide +kernel
theorem dX0_fewest_0 : decode cX0_fewest 0 = .ok (.bipush (-9), 2) := by decide +kernel
theorem dX0_fewest_2 : decode cX0_fewest 2 = .ok (.istore_n 3, 1) := by decide +kernel
theorem dX0_fewest_3 : decode cX0_fewest 3 = .ok (.iconst 0, 1) := by decide +kernel
theorem dX0_fewest_4 : decode cX0_fewest 4 = .ok (.istore 4, 2) := by decide +kernel
theorem dX0_fewest_6 : decode cX0_fewest 6 = .ok (.iload 4, 2) := by decide +kernel
theorem dX0_fewest_8 : decode cX0_fewest 8 = .ok (.bipush 16, 2) := by decide +kernel
theorem dX0_fewest_10 : decode cX0_fewest 10 = .ok (.if_icmp .ge 59, 3) := by decide +kernel
theorem dX0_fewest_13 : decode cX0_fewest 13 = .ok (.aload_n 0, 1) := by decide +kernel
theorem dX0_fewest_14 : decode cX0_fewest 14 = .ok (.iload 4, 2) := by decide +kernel
theorem dX0_fewest_16 : decode cX0_fewest 16 = .ok (.aload_n 1, 1) := by decide +kernel
theorem dX0_fewest_17 : decode cX0_fewest 17 = .ok (.iload_n 2, 1) := by decide +kernel
theorem dX0_fewest_18 : decode cX0_fewest 18 = .ok (.invokevirtual 21, 3) := by decide +kernel
theorem dX0_fewest_21 : decode cX0_fewest 21 = .ok (.istore 5, 2) := by decide +kernel
theorem dX0_fewest_23 : decode cX0_fewest 23 = .ok (.iload 5, 2) := by decide +kernel
theorem dX0_fewest_25 : decode cX0_fewest 25 = .ok (.bipush (-9), 2) := by decide +kernel
theorem dX0_fewest_27 : decode cX0_fewest 27 = .ok (.if_icmp .eq 36, 3) := by decide +kernel
theorem dX0_fewest_30 : decode cX0_fewest 30 = .ok (.iload_n 3, 1) := by decide +kernel
theorem dX0_fewest_31 : decode cX0_fewest 31 = .ok (.bipush (-9), 2) := by decide +kernel
theorem dX0_fewest_33 : decode cX0_fewest 33 = .ok (.if_icmp .eq 9, 3) := by decide +kernel
theorem dX0_fewest_36 : decode cX0_fewest 36 = .ok (.iload 5, 2) := by decide +kernel
theorem dX0_fewest_38 : decode cX0_fewest 38 = .ok (.iload_n 3, 1) := by decide +kernel
theorem dX0_fewest_39 : decode cX0_fewest 39 = .ok (.if_icmp .ge 24, 3) := by decide +kernel
theorem dX0_fewest_42 : decode cX0_fewest 42 = .ok (.iload 5, 2) := by decide +kernel
theorem dX0_fewest_44 : decode cX0_fewest 44 = .ok (.istore_n 3, 1) := by decide +kernel
theorem dX0_fewest_45 : decode cX0_fewest 45 = .ok (.aload_n 0, 1) := by decide +kernel
theorem dX0_fewest_46 : decode cX0_fewest 46 = .ok (.getfield 13, 3) := by decide +kernel
theorem dX0_fewest_49 : decode cX0_fewest 49 = .ok (.iconst 0, 1) := by decide +kernel
theorem dX0_fewest_50 : decode cX0_fewest 50 = .ok (.aload_n 0, 1) := by decide +kernel
theorem dX0_fewest_51 : decode cX0_fewest 51 = .ok (.getfield 18, 3) := by decide +kernel
theorem dX0_fewest_54 : decode cX0_fewest 54 = .ok (.iconst 0, 1) := by decide +kernel
theorem dX0_fewest_55 : decode cX0_fewest 55 = .ok (.aload_n 0, 1) := by decide +kernel
theorem dX0_fewest_56 : decode cX0_fewest 56 = .ok (.getfield 18, 3) := by decide +kernel
theorem dX0_fewest_59 : decode cX0_fewest 59 = .ok (.arraylength, 1) := by decide +kernel
theorem dX0_fewest_60 : decode cX0_fewest 60 = .ok (.invokestatic 25, 3) := by decide +kernel
theorem dX0_fewest_63 : decode cX0_fewest 63 = .ok (.iinc 4 1, 3) := by decide +kernel
theorem dX0_fewest_66 : decode cX0_fewest 66 = .ok (.goto (-60), 3) := by decide +kernel
theorem dX0_fewest_69 : decode cX0_fewest 69 = .ok (.iload_n 3, 1) := by decide +kernel
theorem dX0_fewest_70 : decode cX0_fewest 70 = .ok (.ireturn, 1) := by decide +kernel
theorem dX0_coinsOfWay_0 : decode cX0_coinsOfWay 0 = .ok (.iload_n 3, 1) := by decide +kernel
theorem dX0_coinsOfWay_1 : decode cX0_coinsOfWay 1 = .ok (.istore 4, 2) := by decide +kernel
theorem dX0_coinsOfWay_3 : decode cX0_coinsOfWay 3 = .ok (.iconst 0, 1) := by decide +kernel
theorem dX0_coinsOfWay_4 : decode cX0_coinsOfWay 4 = .ok (.istore 5, 2) := by decide +kernel
theorem dX0_coinsOfWay_6 : decode cX0_coinsOfWay 6 = .ok (.iconst 0, 1) := by decide +kernel
theorem dX0_coinsOfWay_7 : decode cX0_coinsOfWay 7 = .ok (.istore 6, 2) := by decide +kernel
theorem dX0_coinsOfWay_9 : decode cX0_coinsOfWay 9 = .ok (.iload 6, 2) := by decide +kernel
theorem dX0_coinsOfWay_11 : decode cX0_coinsOfWay 11 = .ok (.aload_n 0, 1) := by decide +kernel
theorem dX0_coinsOfWay_12 : decode cX0_coinsOfWay 12 = .ok (.getfield 13, 3) := by decide +kernel
theorem dX0_coinsOfWay_15 : decode cX0_coinsOfWay 15 = .ok (.arraylength, 1) := by decide +kernel
theorem dX0_coinsOfWay_16 : decode cX0_coinsOfWay 16 = .ok (.if_icmp .ge 107, 3) := by decide +kernel
theorem dX0_coinsOfWay_19 : decode cX0_coinsOfWay 19 = .ok (.iload 6, 2) := by decide +kernel
theorem dX0_coinsOfWay_21 : decode cX0_coinsOfWay 21 = .ok (.getstatic 9, 3) := by decide +kernel
theorem dX0_coinsOfWay_24 : decode cX0_coinsOfWay 24 = .ok (.arraylength, 1) := by decide +kernel
theorem dX0_coinsOfWay_25 : decode cX0_coinsOfWay 25 = .ok (.if_icmp .ge 98, 3) := by decide +kernel
theorem dX0_coinsOfWay_28 : decode cX0_coinsOfWay 28 = .ok (.iload 6, 2) := by decide +kernel
theorem dX0_coinsOfWay_30 : decode cX0_coinsOfWay 30 = .ok (.iconst 4, 1) := by decide +kernel
theorem dX0_coinsOfWay_31 : decode cX0_coinsOfWay 31 = .ok (.if_icmp .ge 14, 3) := by decide +kernel
theorem dX0_coinsOfWay_34 : decode cX0_coinsOfWay 34 = .ok (.iload_n 1, 1) := by decide +kernel
theorem dX0_coinsOfWay_35 : decode cX0_coinsOfWay 35 = .ok (.iconst 3, 1) := by decide +kernel
theorem dX0_coinsOfWay_36 : decode cX0_coinsOfWay 36 = .ok (.iload 6, 2) := by decide +kernel
theorem dX0_coinsOfWay_38 : decode cX0_coinsOfWay 38 = .ok (.isub, 1) := by decide +kernel
theorem dX0_coinsOfWay_39 : decode cX0_coinsOfWay 39 = .ok (.ishr, 1) := by decide +kernel
theorem dX0_coinsOfWay_40 : decode cX0_coinsOfWay 40 = .ok (.iconst 1, 1) := by decide +kernel
theorem dX0_coinsOfWay_41 : decode cX0_coinsOfWay 41 = .ok (.iand, 1) := by decide +kernel
theorem dX0_coinsOfWay_42 : decode cX0_coinsOfWay 42 = .ok (.goto 4, 3) := by decide +kernel
theorem dX0_coinsOfWay_45 : decode cX0_coinsOfWay 45 = .ok (.iconst 0, 1) := by decide +kernel
theorem dX0_coinsOfWay_46 : decode cX0_coinsOfWay 46 = .ok (.istore 7, 2) := by decide +kernel
theorem dX0_coinsOfWay_48 : decode cX0_coinsOfWay 48 = .ok (.getstatic 9, 3) := by decide +kernel
theorem dX0_coinsOfWay_51 : decode cX0_coinsOfWay 51 = .ok (.iload 6, 2) := by decide +kernel
theorem dX0_coinsOfWay_53 : decode cX0_coinsOfWay 53 = .ok (.iaload, 1) := by decide +kernel
theorem dX0_coinsOfWay_54 : decode cX0_coinsOfWay 54 = .ok (.aload_n 2, 1) := by decide +kernel
theorem dX0_coinsOfWay_55 : decode cX0_coinsOfWay 55 = .ok (.getfield 31, 3) := by decide +kernel
theorem dX0_coinsOfWay_58 : decode cX0_coinsOfWay 58 = .ok (.iload 6, 2) := by decide +kernel
theorem dX0_coinsOfWay_60 : decode cX0_coinsOfWay 60 = .ok (.iaload, 1) := by decide +kernel
theorem dX0_coinsOfWay_61 : decode cX0_coinsOfWay 61 = .ok (.aload_n 2, 1) := by decide +kernel
theorem dX0_coinsOfWay_62 : decode cX0_coinsOfWay 62 = .ok (.getfield 36, 3) := by decide +kernel
theorem dX0_coinsOfWay_65 : decode cX0_coinsOfWay 65 = .ok (.iload 6, 2) := by decide +kernel
theorem dX0_coinsOfWay_67 : decode cX0_coinsOfWay 67 = .ok (.iaload, 1) := by decide +kernel
theorem dX0_coinsOfWay_68 : decode cX0_coinsOfWay 68 = .ok (.iadd, 1) := by decide +kernel
theorem dX0_coinsOfWay_69 : decode cX0_coinsOfWay 69 = .ok (.iload 4, 2) := by decide +kernel
theorem dX0_coinsOfWay_71 : decode cX0_coinsOfWay 71 = .ok (.invokestatic 39, 3) := by decide +kernel
theorem dX0_coinsOfWay_74 : decode cX0_coinsOfWay 74 = .ok (.iload 7, 2) := by decide +kernel
theorem dX0_coinsOfWay_76 : decode cX0_coinsOfWay 76 = .ok (.isub, 1) := by decide +kernel
theorem dX0_coinsOfWay_77 : decode cX0_coinsOfWay 77 = .ok (.istore 8, 2) := by decide +kernel
theorem dX0_coinsOfWay_79 : decode cX0_coinsOfWay 79 = .ok (.iload 8, 2) := by decide +kernel
theorem dX0_coinsOfWay_81 : decode cX0_coinsOfWay 81 = .ok (.ifCond .ge 6, 3) := by decide +kernel
theorem dX0_coinsOfWay_84 : decode cX0_coinsOfWay 84 = .ok (.bipush (-9), 2) := by decide +kernel
theorem dX0_coinsOfWay_86 : decode cX0_coinsOfWay 86 = .ok (.ireturn, 1) := by decide +kernel
theorem dX0_coinsOfWay_87 : decode cX0_coinsOfWay 87 = .ok (.aload_n 0, 1) := by decide +kernel
theorem dX0_coinsOfWay_88 : decode cX0_coinsOfWay 88 = .ok (.getfield 13, 3) := by decide +kernel
theorem dX0_coinsOfWay_91 : decode cX0_coinsOfWay 91 = .ok (.iload 6, 2) := by decide +kernel
theorem dX0_coinsOfWay_93 : decode cX0_coinsOfWay 93 = .ok (.iload 8, 2) := by decide +kernel
theorem dX0_coinsOfWay_95 : decode cX0_coinsOfWay 95 = .ok (.iastore, 1) := by decide +kernel
theorem dX0_coinsOfWay_96 : decode cX0_coinsOfWay 96 = .ok (.iload 5, 2) := by decide +kernel
theorem dX0_coinsOfWay_98 : decode cX0_coinsOfWay 98 = .ok (.iload 8, 2) := by decide +kernel
theorem dX0_coinsOfWay_100 : decode cX0_coinsOfWay 100 = .ok (.iadd, 1) := by decide +kernel
theorem dX0_coinsOfWay_101 : decode cX0_coinsOfWay 101 = .ok (.istore 5, 2) := by decide +kernel
theorem dX0_coinsOfWay_103 : decode cX0_coinsOfWay 103 = .ok (.iload 4, 2) := by decide +kernel
theorem dX0_coinsOfWay_105 : decode cX0_coinsOfWay 105 = .ok (.iload 8, 2) := by decide +kernel
theorem dX0_coinsOfWay_107 : decode cX0_coinsOfWay 107 = .ok (.getstatic 9, 3) := by decide +kernel
theorem dX0_coinsOfWay_110 : decode cX0_coinsOfWay 110 = .ok (.iload 6, 2) := by decide +kernel
theorem dX0_coinsOfWay_112 : decode cX0_coinsOfWay 112 = .ok (.iaload, 1) := by decide +kernel
theorem dX0_coinsOfWay_113 : decode cX0_coinsOfWay 113 = .ok (.imul, 1) := by decide +kernel
theorem dX0_coinsOfWay_114 : decode cX0_coinsOfWay 114 = .ok (.isub, 1) := by decide +kernel
theorem dX0_coinsOfWay_115 : decode cX0_coinsOfWay 115 = .ok (.istore 4, 2) := by decide +kernel
theorem dX0_coinsOfWay_117 : decode cX0_coinsOfWay 117 = .ok (.iinc 6 1, 3) := by decide +kernel
theorem dX0_coinsOfWay_120 : decode cX0_coinsOfWay 120 = .ok (.goto (-111), 3) := by decide +kernel
theorem dX0_coinsOfWay_123 : decode cX0_coinsOfWay 123 = .ok (.iload 4, 2) := by decide +kernel
theorem dX0_coinsOfWay_125 : decode cX0_coinsOfWay 125 = .ok (.ifCond .ne 8, 3) := by decide +kernel
theorem dX0_coinsOfWay_128 : decode cX0_coinsOfWay 128 = .ok (.iload 5, 2) := by decide +kernel
theorem dX0_coinsOfWay_130 : decode cX0_coinsOfWay 130 = .ok (.goto 5, 3) := by decide +kernel
theorem dX0_coinsOfWay_133 : decode cX0_coinsOfWay 133 = .ok (.bipush (-9), 2) := by decide +kernel
theorem dX0_coinsOfWay_135 : decode cX0_coinsOfWay 135 = .ok (.ireturn, 1) := by decide +kernel
theorem dX0_mostOf_0 : decode cX0_mostOf 0 = .ok (.iload_n 0, 1) := by decide +kernel
theorem dX0_mostOf_1 : decode cX0_mostOf 1 = .ok (.ifCond .le 13, 3) := by decide +kernel
theorem dX0_mostOf_4 : decode cX0_mostOf 4 = .ok (.iload_n 1, 1) := by decide +kernel
theorem dX0_mostOf_5 : decode cX0_mostOf 5 = .ok (.iload_n 2, 1) := by decide +kernel
theorem dX0_mostOf_6 : decode cX0_mostOf 6 = .ok (.iload_n 0, 1) := by decide +kernel
theorem dX0_mostOf_7 : decode cX0_mostOf 7 = .ok (.idiv, 1) := by decide +kernel
theorem dX0_mostOf_8 : decode cX0_mostOf 8 = .ok (.invokestatic 43, 3) := by decide +kernel
theorem dX0_mostOf_11 : decode cX0_mostOf 11 = .ok (.goto 4, 3) := by decide +kernel
theorem dX0_mostOf_14 : decode cX0_mostOf 14 = .ok (.iconst 0, 1) := by decide +kernel
theorem dX0_mostOf_15 : decode cX0_mostOf 15 = .ok (.ireturn, 1) := by decide +kernel
theorem dX1_init_0 : decode cX1_init 0 = .ok (.aload_n 0, 1) := by decide +kernel
theorem dX1_init_1 : decode cX1_init 1 = .ok (.invokespecial 3, 3) := by decide +kernel
theorem dX1_init_4 : decode cX1_init 4 = .ok (.aload_n 0, 1) := by decide +kernel
theorem dX1_init_5 : decode cX1_init 5 = .ok (.sipush 384, 3) := by decide +kernel
theorem dX1_init_8 : decode cX1_init 8 = .ok (.newarray .int, 2) := by decide +kernel
theorem dX1_init_10 : decode cX1_init 10 = .ok (.putfield 9, 3) := by decide +kernel
theorem dX1_init_13 : decode cX1_init 13 = .ok (.aload_n 0, 1) := by decide +kernel
theorem dX1_init_14 : decode cX1_init 14 = .ok (.sipush 384, 3) := by decide +kernel
theorem dX1_init_17 : decode cX1_init 17 = .ok (.newarray .int, 2) := by decide +kernel
theorem dX1_init_19 : decode cX1_init 19 = .ok (.putfield 15, 3) := by decide +kernel
theorem dX1_init_22 : decode cX1_init 22 = .ok (.return_, 1) := by decide +kernel
theorem dX1_countSale_0 : decode cX1_countSale 0 = .ok (.aload_n 0, 1) := by decide +kernel
theorem dX1_countSale_1 : decode cX1_countSale 1 = .ok (.getfield 9, 3) := by decide +kernel
theorem dX1_countSale_4 : decode cX1_countSale 4 = .ok (.iload_n 1, 1) := by decide +kernel
theorem dX1_countSale_5 : decode cX1_countSale 5 = .ok (.bipush 24, 2) := by decide +kernel
theorem dX1_countSale_7 : decode cX1_countSale 7 = .ok (.imul, 1) := by decide +kernel
theorem dX1_countSale_8 : decode cX1_countSale 8 = .ok (.iload_n 2, 1) := by decide +kernel
theorem dX1_countSale_9 : decode cX1_countSale 9 = .ok (.iadd, 1) := by decide +kernel
theorem dX1_countSale_10 : decode cX1_countSale 10 = .ok (.dup2, 1) := by decide +kernel
theorem dX1_countSale_11 : decode cX1_countSale 11 = .ok (.iaload, 1) := by decide +kernel
theorem dX1_countSale_12 : decode cX1_countSale 12 = .ok (.iconst 1, 1) := by decide +kernel
theorem dX1_countSale_13 : decode cX1_countSale 13 = .ok (.iadd, 1) := by decide +kernel
theorem dX1_countSale_14 : decode cX1_countSale 14 = .ok (.iastore, 1) := by decide +kernel
theorem dX1_countSale_15 : decode cX1_countSale 15 = .ok (.return_, 1) := by decide +kernel
theorem dX1_countThere_0 : decode cX1_countThere 0 = .ok (.aload_n 0, 1) := by decide +kernel
theorem dX1_countThere_1 : decode cX1_countThere 1 = .ok (.getfield 15, 3) := by decide +kernel
theorem dX1_countThere_4 : decode cX1_countThere 4 = .ok (.iload_n 1, 1) := by decide +kernel
theorem dX1_countThere_5 : decode cX1_countThere 5 = .ok (.bipush 24, 2) := by decide +kernel
theorem dX1_countThere_7 : decode cX1_countThere 7 = .ok (.imul, 1) := by decide +kernel
theorem dX1_countThere_8 : decode cX1_countThere 8 = .ok (.iload_n 2, 1) := by decide +kernel
theorem dX1_countThere_9 : decode cX1_countThere 9 = .ok (.iadd, 1) := by decide +kernel
theorem dX1_countThere_10 : decode cX1_countThere 10 = .ok (.dup2, 1) := by decide +kernel
theorem dX1_countThere_11 : decode cX1_countThere 11 = .ok (.iaload, 1) := by decide +kernel
theorem dX1_countThere_12 : decode cX1_countThere 12 = .ok (.iconst 1, 1) := by decide +kernel
theorem dX1_countThere_13 : decode cX1_countThere 13 = .ok (.iadd, 1) := by decide +kernel
theorem dX1_countThere_14 : decode cX1_countThere 14 = .ok (.iastore, 1) := by decide +kernel
theorem dX1_countThere_15 : decode cX1_countThere 15 = .ok (.return_, 1) := by decide +kernel
theorem dX1_salesAt_0 : decode cX1_salesAt 0 = .ok (.aload_n 0, 1) := by decide +kernel
theorem dX1_salesAt_1 : decode cX1_salesAt 1 = .ok (.getfield 9, 3) := by decide +kernel
theorem dX1_salesAt_4 : decode cX1_salesAt 4 = .ok (.iload_n 1, 1) := by decide +kernel
theorem dX1_salesAt_5 : decode cX1_salesAt 5 = .ok (.bipush 24, 2) := by decide +kernel
theorem dX1_salesAt_7 : decode cX1_salesAt 7 = .ok (.imul, 1) := by decide +kernel
theorem dX1_salesAt_8 : decode cX1_salesAt 8 = .ok (.iload_n 2, 1) := by decide +kernel
theorem dX1_salesAt_9 : decode cX1_salesAt 9 = .ok (.iadd, 1) := by decide +kernel
theorem dX1_salesAt_10 : decode cX1_salesAt 10 = .ok (.iaload, 1) := by decide +kernel
theorem dX1_salesAt_11 : decode cX1_salesAt 11 = .ok (.ireturn, 1) := by decide +kernel
theorem dX1_hoursThereAt_0 : decode cX1_hoursThereAt 0 = .ok (.aload_n 0, 1) := by decide +kernel
theorem dX1_hoursThereAt_1 : decode cX1_hoursThereAt 1 = .ok (.getfield 15, 3) := by decide +kernel
theorem dX1_hoursThereAt_4 : decode cX1_hoursThereAt 4 = .ok (.iload_n 1, 1) := by decide +kernel
theorem dX1_hoursThereAt_5 : decode cX1_hoursThereAt 5 = .ok (.bipush 24, 2) := by decide +kernel
theorem dX1_hoursThereAt_7 : decode cX1_hoursThereAt 7 = .ok (.imul, 1) := by decide +kernel
theorem dX1_hoursThereAt_8 : decode cX1_hoursThereAt 8 = .ok (.iload_n 2, 1) := by decide +kernel
theorem dX1_hoursThereAt_9 : decode cX1_hoursThereAt 9 = .ok (.iadd, 1) := by decide +kernel
theorem dX1_hoursThereAt_10 : decode cX1_hoursThereAt 10 = .ok (.iaload, 1) := by decide +kernel
theorem dX1_hoursThereAt_11 : decode cX1_hoursThereAt 11 = .ok (.ireturn, 1) := by decide +kernel
theorem dX1_foretold_0 : decode cX1_foretold 0 = .ok (.iconst 0, 1) := by decide +kernel
theorem dX1_foretold_1 : decode cX1_foretold 1 = .ok (.istore 4, 2) := by decide +kernel
theorem dX1_foretold_3 : decode cX1_foretold 3 = .ok (.iconst 0, 1) := by decide +kernel
theorem dX1_foretold_4 : decode cX1_foretold 4 = .ok (.istore 5, 2) := by decide +kernel
theorem dX1_foretold_6 : decode cX1_foretold 6 = .ok (.iload 5, 2) := by decide +kernel
theorem dX1_foretold_8 : decode cX1_foretold 8 = .ok (.iload_n 3, 1) := by decide +kernel
theorem dX1_foretold_9 : decode cX1_foretold 9 = .ok (.if_icmp .ge 26, 3) := by decide +kernel
theorem dX1_foretold_12 : decode cX1_foretold 12 = .ok (.iload 4, 2) := by decide +kernel
theorem dX1_foretold_14 : decode cX1_foretold 14 = .ok (.aload_n 0, 1) := by decide +kernel
theorem dX1_foretold_15 : decode cX1_foretold 15 = .ok (.iload_n 1, 1) := by decide +kernel
theorem dX1_foretold_16 : decode cX1_foretold 16 = .ok (.iload_n 2, 1) := by decide +kernel
theorem dX1_foretold_17 : decode cX1_foretold 17 = .ok (.iload 5, 2) := by decide +kernel
theorem dX1_foretold_19 : decode cX1_foretold 19 = .ok (.iadd, 1) := by decide +kernel
theorem dX1_foretold_20 : decode cX1_foretold 20 = .ok (.bipush 24, 2) := by decide +kernel
theorem dX1_foretold_22 : decode cX1_foretold 22 = .ok (.irem, 1) := by decide +kernel
theorem dX1_foretold_23 : decode cX1_foretold 23 = .ok (.invokevirtual 18, 3) := by decide +kernel
theorem dX1_foretold_26 : decode cX1_foretold 26 = .ok (.iadd, 1) := by decide +kernel
theorem dX1_foretold_27 : decode cX1_foretold 27 = .ok (.istore 4, 2) := by decide +kernel
theorem dX1_foretold_29 : decode cX1_foretold 29 = .ok (.iinc 5 1, 3) := by decide +kernel
theorem dX1_foretold_32 : decode cX1_foretold 32 = .ok (.goto (-26), 3) := by decide +kernel
theorem dX1_foretold_35 : decode cX1_foretold 35 = .ok (.iload 4, 2) := by decide +kernel
theorem dX1_foretold_37 : decode cX1_foretold 37 = .ok (.ireturn, 1) := by decide +kernel
theorem dX1_hoursTill_0 : decode cX1_hoursTill 0 = .ok (.iconst 0, 1) := by decide +kernel
theorem dX1_hoursTill_1 : decode cX1_hoursTill 1 = .ok (.istore 4, 2) := by decide +kernel
theorem dX1_hoursTill_3 : decode cX1_hoursTill 3 = .ok (.iconst 1, 1) := by decide +kernel
theorem dX1_hoursTill_4 : decode cX1_hoursTill 4 = .ok (.istore 5, 2) := by decide +kernel
theorem dX1_hoursTill_6 : decode cX1_hoursTill 6 = .ok (.iload 5, 2) := by decide +kernel
theorem dX1_hoursTill_8 : decode cX1_hoursTill 8 = .ok (.sipush 240, 3) := by decide +kernel
theorem dX1_hoursTill_11 : decode cX1_hoursTill 11 = .ok (.if_icmp .gt 37, 3) := by decide +kernel
theorem dX1_hoursTill_14 : decode cX1_hoursTill 14 = .ok (.iload 4, 2) := by decide +kernel
theorem dX1_hoursTill_16 : decode cX1_hoursTill 16 = .ok (.aload_n 0, 1) := by decide +kernel
theorem dX1_hoursTill_17 : decode cX1_hoursTill 17 = .ok (.iload_n 1, 1) := by decide +kernel
theorem dX1_hoursTill_18 : decode cX1_hoursTill 18 = .ok (.iload_n 2, 1) := by decide +kernel
theorem dX1_hoursTill_19 : decode cX1_hoursTill 19 = .ok (.iload 5, 2) := by decide +kernel
theorem dX1_hoursTill_21 : decode cX1_hoursTill 21 = .ok (.iadd, 1) := by decide +kernel
theorem dX1_hoursTill_22 : decode cX1_hoursTill 22 = .ok (.iconst 1, 1) := by decide +kernel
theorem dX1_hoursTill_23 : decode cX1_hoursTill 23 = .ok (.isub, 1) := by decide +kernel
theorem dX1_hoursTill_24 : decode cX1_hoursTill 24 = .ok (.bipush 24, 2) := by decide +kernel
theorem dX1_hoursTill_26 : decode cX1_hoursTill 26 = .ok (.irem, 1) := by decide +kernel
theorem dX1_hoursTill_27 : decode cX1_hoursTill 27 = .ok (.invokevirtual 18, 3) := by decide +kernel
theorem dX1_hoursTill_30 : decode cX1_hoursTill 30 = .ok (.iadd, 1) := by decide +kernel
theorem dX1_hoursTill_31 : decode cX1_hoursTill 31 = .ok (.istore 4, 2) := by decide +kernel
theorem dX1_hoursTill_33 : decode cX1_hoursTill 33 = .ok (.iload 4, 2) := by decide +kernel
theorem dX1_hoursTill_35 : decode cX1_hoursTill 35 = .ok (.iload_n 3, 1) := by decide +kernel
theorem dX1_hoursTill_36 : decode cX1_hoursTill 36 = .ok (.if_icmp .lt 6, 3) := by decide +kernel
theorem dX1_hoursTill_39 : decode cX1_hoursTill 39 = .ok (.iload 5, 2) := by decide +kernel
theorem dX1_hoursTill_41 : decode cX1_hoursTill 41 = .ok (.ireturn, 1) := by decide +kernel
theorem dX1_hoursTill_42 : decode cX1_hoursTill 42 = .ok (.iinc 5 1, 3) := by decide +kernel
theorem dX1_hoursTill_45 : decode cX1_hoursTill 45 = .ok (.goto (-39), 3) := by decide +kernel
theorem dX1_hoursTill_48 : decode cX1_hoursTill 48 = .ok (.bipush (-9), 2) := by decide +kernel
theorem dX1_hoursTill_50 : decode cX1_hoursTill 50 = .ok (.ireturn, 1) := by decide +kernel
theorem dX1_rate_0 : decode cX1_rate 0 = .ok (.aload_n 0, 1) := by decide +kernel
theorem dX1_rate_1 : decode cX1_rate 1 = .ok (.iload_n 1, 1) := by decide +kernel
theorem dX1_rate_2 : decode cX1_rate 2 = .ok (.iload_n 2, 1) := by decide +kernel
theorem dX1_rate_3 : decode cX1_rate 3 = .ok (.invokevirtual 22, 3) := by decide +kernel
theorem dX1_rate_6 : decode cX1_rate 6 = .ok (.istore_n 3, 1) := by decide +kernel
theorem dX1_rate_7 : decode cX1_rate 7 = .ok (.iload_n 3, 1) := by decide +kernel
theorem dX1_rate_8 : decode cX1_rate 8 = .ok (.ifCond .le 18, 3) := by decide +kernel
theorem dX1_rate_11 : decode cX1_rate 11 = .ok (.sipush 1000, 3) := by decide +kernel
theorem dX1_rate_14 : decode cX1_rate 14 = .ok (.aload_n 0, 1) := by decide +kernel
theorem dX1_rate_15 : decode cX1_rate 15 = .ok (.iload_n 1, 1) := by decide +kernel
theorem dX1_rate_16 : decode cX1_rate 16 = .ok (.iload_n 2, 1) := by decide +kernel
theorem dX1_rate_17 : decode cX1_rate 17 = .ok (.invokevirtual 25, 3) := by decide +kernel
theorem dX1_rate_20 : decode cX1_rate 20 = .ok (.imul, 1) := by decide +kernel
theorem dX1_rate_21 : decode cX1_rate 21 = .ok (.iload_n 3, 1) := by decide +kernel
theorem dX1_rate_22 : decode cX1_rate 22 = .ok (.idiv, 1) := by decide +kernel
theorem dX1_rate_23 : decode cX1_rate 23 = .ok (.goto 4, 3) := by decide +kernel
theorem dX1_rate_26 : decode cX1_rate 26 = .ok (.iconst 0, 1) := by decide +kernel
theorem dX1_rate_27 : decode cX1_rate 27 = .ok (.ireturn, 1) := by decide +kernel
theorem dX2_init_0 : decode cX2_init 0 = .ok (.aload_n 0, 1) := by decide +kernel
theorem dX2_init_1 : decode cX2_init 1 = .ok (.invokespecial 3, 3) := by decide +kernel
theorem dX2_init_4 : decode cX2_init 4 = .ok (.aload_n 0, 1) := by decide +kernel
theorem dX2_init_5 : decode cX2_init 5 = .ok (.iload_n 1, 1) := by decide +kernel
theorem dX2_init_6 : decode cX2_init 6 = .ok (.putfield 9, 3) := by decide +kernel
theorem dX2_init_9 : decode cX2_init 9 = .ok (.aload_n 0, 1) := by decide +kernel
theorem dX2_init_10 : decode cX2_init 10 = .ok (.iload_n 2, 1) := by decide +kernel
theorem dX2_init_11 : decode cX2_init 11 = .ok (.putfield 15, 3) := by decide +kernel
theorem dX2_init_14 : decode cX2_init 14 = .ok (.aload_n 0, 1) := by decide +kernel
theorem dX2_init_15 : decode cX2_init 15 = .ok (.iload_n 3, 1) := by decide +kernel
theorem dX2_init_16 : decode cX2_init 16 = .ok (.putfield 18, 3) := by decide +kernel
theorem dX2_init_19 : decode cX2_init 19 = .ok (.aload_n 0, 1) := by decide +kernel
theorem dX2_init_20 : decode cX2_init 20 = .ok (.iload 4, 2) := by decide +kernel
theorem dX2_init_22 : decode cX2_init 22 = .ok (.putfield 21, 3) := by decide +kernel
theorem dX2_init_25 : decode cX2_init 25 = .ok (.aload_n 0, 1) := by decide +kernel
theorem dX2_init_26 : decode cX2_init 26 = .ok (.iload 5, 2) := by decide +kernel
theorem dX2_init_28 : decode cX2_init 28 = .ok (.putfield 24, 3) := by decide +kernel
theorem dX2_init_31 : decode cX2_init 31 = .ok (.return_, 1) := by decide +kernel
theorem dX2_isClosed_0 : decode cX2_isClosed 0 = .ok (.aload_n 0, 1) := by decide +kernel
theorem dX2_isClosed_1 : decode cX2_isClosed 1 = .ok (.getfield 27, 3) := by decide +kernel
theorem dX2_isClosed_4 : decode cX2_isClosed 4 = .ok (.ifCond .ne 10, 3) := by decide +kernel
theorem dX2_isClosed_7 : decode cX2_isClosed 7 = .ok (.aload_n 0, 1) := by decide +kernel
theorem dX2_isClosed_8 : decode cX2_isClosed 8 = .ok (.getfield 31, 3) := by decide +kernel
theorem dX2_isClosed_11 : decode cX2_isClosed 11 = .ok (.ifCond .eq 7, 3) := by decide +kernel
theorem dX2_isClosed_14 : decode cX2_isClosed 14 = .ok (.iconst 1, 1) := by decide +kernel
theorem dX2_isClosed_15 : decode cX2_isClosed 15 = .ok (.goto 4, 3) := by decide +kernel
theorem dX2_isClosed_18 : decode cX2_isClosed 18 = .ok (.iconst 0, 1) := by decide +kernel
theorem dX2_isClosed_19 : decode cX2_isClosed 19 = .ok (.ireturn, 1) := by decide +kernel
theorem dX2_miss_0 : decode cX2_miss 0 = .ok (.aload_n 0, 1) := by decide +kernel
theorem dX2_miss_1 : decode cX2_miss 1 = .ok (.dup, 1) := by decide +kernel
theorem dX2_miss_2 : decode cX2_miss 2 = .ok (.getfield 34, 3) := by decide +kernel
theorem dX2_miss_5 : decode cX2_miss 5 = .ok (.iconst 1, 1) := by decide +kernel
theorem dX2_miss_6 : decode cX2_miss 6 = .ok (.isub, 1) := by decide +kernel
theorem dX2_miss_7 : decode cX2_miss 7 = .ok (.putfield 34, 3) := by decide +kernel
theorem dX2_miss_10 : decode cX2_miss 10 = .ok (.aload_n 0, 1) := by decide +kernel
theorem dX2_miss_11 : decode cX2_miss 11 = .ok (.dup, 1) := by decide +kernel
theorem dX2_miss_12 : decode cX2_miss 12 = .ok (.getfield 37, 3) := by decide +kernel
theorem dX2_miss_15 : decode cX2_miss 15 = .ok (.iconst 1, 1) := by decide +kernel
theorem dX2_miss_16 : decode cX2_miss 16 = .ok (.iadd, 1) := by decide +kernel
theorem dX2_miss_17 : decode cX2_miss 17 = .ok (.putfield 37, 3) := by decide +kernel
theorem dX2_miss_20 : decode cX2_miss 20 = .ok (.aload_n 0, 1) := by decide +kernel
theorem dX2_miss_21 : decode cX2_miss 21 = .ok (.getfield 37, 3) := by decide +kernel
theorem dX2_miss_24 : decode cX2_miss 24 = .ok (.iconst 3, 1) := by decide +kernel
theorem dX2_miss_25 : decode cX2_miss 25 = .ok (.if_icmp .lt 8, 3) := by decide +kernel
theorem dX2_miss_28 : decode cX2_miss 28 = .ok (.aload_n 0, 1) := by decide +kernel
theorem dX2_miss_29 : decode cX2_miss 29 = .ok (.iconst 1, 1) := by decide +kernel
theorem dX2_miss_30 : decode cX2_miss 30 = .ok (.putfield 27, 3) := by decide +kernel
theorem dX2_miss_33 : decode cX2_miss 33 = .ok (.return_, 1) := by decide +kernel
theorem dX2_spoilAfter_0 : decode cX2_spoilAfter 0 = .ok (.aload_n 0, 1) := by decide +kernel
theorem dX2_spoilAfter_1 : decode cX2_spoilAfter 1 = .ok (.getfield 21, 3) := by decide +kernel
theorem dX2_spoilAfter_4 : decode cX2_spoilAfter 4 = .ok (.iconst 2, 1) := by decide +kernel
theorem dX2_spoilAfter_5 : decode cX2_spoilAfter 5 = .ok (.if_icmp .ne 23, 3) := by decide +kernel
theorem dX2_spoilAfter_8 : decode cX2_spoilAfter 8 = .ok (.aload_n 0, 1) := by decide +kernel
theorem dX2_spoilAfter_9 : decode cX2_spoilAfter 9 = .ok (.getfield 40, 3) := by decide +kernel
theorem dX2_spoilAfter_12 : decode cX2_spoilAfter 12 = .ok (.ifCond .le 16, 3) := by decide +kernel
theorem dX2_spoilAfter_15 : decode cX2_spoilAfter 15 = .ok (.iload_n 1, 1) := by decide +kernel
theorem dX2_spoilAfter_16 : decode cX2_spoilAfter 16 = .ok (.aload_n 0, 1) := by decide +kernel
theorem dX2_spoilAfter_17 : decode cX2_spoilAfter 17 = .ok (.getfield 24, 3) := by decide +kernel
theorem dX2_spoilAfter_20 : decode cX2_spoilAfter 20 = .ok (.if_icmp .le 8, 3) := by decide +kernel
theorem dX2_spoilAfter_23 : decode cX2_spoilAfter 23 = .ok (.aload_n 0, 1) := by decide +kernel
theorem dX2_spoilAfter_24 : decode cX2_spoilAfter 24 = .ok (.iconst 1, 1) := by decide +kernel
theorem dX2_spoilAfter_25 : decode cX2_spoilAfter 25 = .ok (.putfield 31, 3) := by decide +kernel
theorem dX2_spoilAfter_28 : decode cX2_spoilAfter 28 = .ok (.return_, 1) := by decide +kernel
theorem dX3_init_0 : decode cX3_init 0 = .ok (.aload_n 0, 1) := by decide +kernel
theorem dX3_init_1 : decode cX3_init 1 = .ok (.invokespecial 3, 3) := by decide +kernel
theorem dX3_init_4 : decode cX3_init 4 = .ok (.aload_n 0, 1) := by decide +kernel
theorem dX3_init_5 : decode cX3_init 5 = .ok (.bipush 8, 2) := by decide +kernel
theorem dX3_init_7 : decode cX3_init 7 = .ok (.anewarray 9, 3) := by decide +kernel
theorem dX3_init_10 : decode cX3_init 10 = .ok (.putfield 11, 3) := by decide +kernel
theorem dX3_init_13 : decode cX3_init 13 = .ok (.aload_n 0, 1) := by decide +kernel
theorem dX3_init_14 : decode cX3_init 14 = .ok (.new 17, 3) := by decide +kernel
theorem dX3_init_17 : decode cX3_init 17 = .ok (.dup, 1) := by decide +kernel
theorem dX3_init_18 : decode cX3_init 18 = .ok (.invokespecial 19, 3) := by decide +kernel
theorem dX3_init_21 : decode cX3_init 21 = .ok (.putfield 20, 3) := by decide +kernel
theorem dX3_init_24 : decode cX3_init 24 = .ok (.aload_n 0, 1) := by decide +kernel
theorem dX3_init_25 : decode cX3_init 25 = .ok (.new 24, 3) := by decide +kernel
theorem dX3_init_28 : decode cX3_init 28 = .ok (.dup, 1) := by decide +kernel
theorem dX3_init_29 : decode cX3_init 29 = .ok (.invokespecial 26, 3) := by decide +kernel
theorem dX3_init_32 : decode cX3_init 32 = .ok (.putfield 27, 3) := by decide +kernel
theorem dX3_init_35 : decode cX3_init 35 = .ok (.aload_n 0, 1) := by decide +kernel
theorem dX3_init_36 : decode cX3_init 36 = .ok (.iconst 1, 1) := by decide +kernel
theorem dX3_init_37 : decode cX3_init 37 = .ok (.putfield 31, 3) := by decide +kernel
theorem dX3_init_40 : decode cX3_init 40 = .ok (.return_, 1) := by decide +kernel
theorem dX3_isFull_0 : decode cX3_isFull 0 = .ok (.aload_n 0, 1) := by decide +kernel
theorem dX3_isFull_1 : decode cX3_isFull 1 = .ok (.getfield 35, 3) := by decide +kernel
theorem dX3_isFull_4 : decode cX3_isFull 4 = .ok (.aload_n 0, 1) := by decide +kernel
theorem dX3_isFull_5 : decode cX3_isFull 5 = .ok (.getfield 11, 3) := by decide +kernel
theorem dX3_isFull_8 : decode cX3_isFull 8 = .ok (.arraylength, 1) := by decide +kernel
theorem dX3_isFull_9 : decode cX3_isFull 9 = .ok (.if_icmp .lt 7, 3) := by decide +kernel
theorem dX3_isFull_12 : decode cX3_isFull 12 = .ok (.iconst 1, 1) := by decide +kernel
theorem dX3_isFull_13 : decode cX3_isFull 13 = .ok (.goto 4, 3) := by decide +kernel
theorem dX3_isFull_16 : decode cX3_isFull 16 = .ok (.iconst 0, 1) := by decide +kernel
theorem dX3_isFull_17 : decode cX3_isFull 17 = .ok (.ireturn, 1) := by decide +kernel
theorem dX3_addLane_0 : decode cX3_addLane 0 = .ok (.aload_n 0, 1) := by decide +kernel
theorem dX3_addLane_1 : decode cX3_addLane 1 = .ok (.invokevirtual 39, 3) := by decide +kernel
theorem dX3_addLane_4 : decode cX3_addLane 4 = .ok (.ifCond .eq 6, 3) := by decide +kernel
theorem dX3_addLane_7 : decode cX3_addLane 7 = .ok (.bipush (-6), 2) := by decide +kernel
theorem dX3_addLane_9 : decode cX3_addLane 9 = .ok (.ireturn, 1) := by decide +kernel
theorem dX3_addLane_10 : decode cX3_addLane 10 = .ok (.aload_n 0, 1) := by decide +kernel
theorem dX3_addLane_11 : decode cX3_addLane 11 = .ok (.getfield 11, 3) := by decide +kernel
theorem dX3_addLane_14 : decode cX3_addLane 14 = .ok (.aload_n 0, 1) := by decide +kernel
theorem dX3_addLane_15 : decode cX3_addLane 15 = .ok (.getfield 35, 3) := by decide +kernel
theorem dX3_addLane_18 : decode cX3_addLane 18 = .ok (.aload_n 1, 1) := by decide +kernel
theorem dX3_addLane_19 : decode cX3_addLane 19 = .ok (.aastore, 1) := by decide +kernel
theorem dX3_addLane_20 : decode cX3_addLane 20 = .ok (.aload_n 0, 1) := by decide +kernel
theorem dX3_addLane_21 : decode cX3_addLane 21 = .ok (.dup, 1) := by decide +kernel
theorem dX3_addLane_22 : decode cX3_addLane 22 = .ok (.getfield 35, 3) := by decide +kernel
theorem dX3_addLane_25 : decode cX3_addLane 25 = .ok (.iconst 1, 1) := by decide +kernel
theorem dX3_addLane_26 : decode cX3_addLane 26 = .ok (.iadd, 1) := by decide +kernel
theorem dX3_addLane_27 : decode cX3_addLane 27 = .ok (.putfield 35, 3) := by decide +kernel
theorem dX3_addLane_30 : decode cX3_addLane 30 = .ok (.aload_n 0, 1) := by decide +kernel
theorem dX3_addLane_31 : decode cX3_addLane 31 = .ok (.getfield 35, 3) := by decide +kernel
theorem dX3_addLane_34 : decode cX3_addLane 34 = .ok (.iconst 1, 1) := by decide +kernel
theorem dX3_addLane_35 : decode cX3_addLane 35 = .ok (.isub, 1) := by decide +kernel
theorem dX3_addLane_36 : decode cX3_addLane 36 = .ok (.ireturn, 1) := by decide +kernel
theorem dX3_laneNumbered_0 : decode cX3_laneNumbered 0 = .ok (.iload_n 1, 1) := by decide +kernel
theorem dX3_laneNumbered_1 : decode cX3_laneNumbered 1 = .ok (.ifCond .lt 20, 3) := by decide +kernel
theorem dX3_laneNumbered_4 : decode cX3_laneNumbered 4 = .ok (.iload_n 1, 1) := by decide +kernel
theorem dX3_laneNumbered_5 : decode cX3_laneNumbered 5 = .ok (.aload_n 0, 1) := by decide +kernel
theorem dX3_laneNumbered_6 : decode cX3_laneNumbered 6 = .ok (.getfield 35, 3) := by decide +kernel
theorem dX3_laneNumbered_9 : decode cX3_laneNumbered 9 = .ok (.if_icmp .ge 12, 3) := by decide +kernel
theorem dX3_laneNumbered_12 : decode cX3_laneNumbered 12 = .ok (.aload_n 0, 1) := by decide +kernel
theorem dX3_laneNumbered_13 : decode cX3_laneNumbered 13 = .ok (.getfield 11, 3) := by decide +kernel
theorem dX3_laneNumbered_16 : decode cX3_laneNumbered 16 = .ok (.iload_n 1, 1) := by decide +kernel
theorem dX3_laneNumbered_17 : decode cX3_laneNumbered 17 = .ok (.aaload, 1) := by decide +kernel
theorem dX3_laneNumbered_18 : decode cX3_laneNumbered 18 = .ok (.goto 4, 3) := by decide +kernel
theorem dX3_laneNumbered_21 : decode cX3_laneNumbered 21 = .ok (.aconst_null, 1) := by decide +kernel
theorem dX3_laneNumbered_22 : decode cX3_laneNumbered 22 = .ok (.areturn, 1) := by decide +kernel
theorem dX3_sourceOf_0 : decode cX3_sourceOf 0 = .ok (.aload_n 0, 1) := by decide +kernel
theorem dX3_sourceOf_1 : decode cX3_sourceOf 1 = .ok (.iload_n 1, 1) := by decide +kernel
theorem dX3_sourceOf_2 : decode cX3_sourceOf 2 = .ok (.invokevirtual 43, 3) := by decide +kernel
theorem dX3_sourceOf_5 : decode cX3_sourceOf 5 = .ok (.astore_n 2, 1) := by decide +kernel
theorem dX3_sourceOf_6 : decode cX3_sourceOf 6 = .ok (.aload_n 2, 1) := by decide +kernel
theorem dX3_sourceOf_7 : decode cX3_sourceOf 7 = .ok (.ifnull 10, 3) := by decide +kernel
theorem dX3_sourceOf_10 : decode cX3_sourceOf 10 = .ok (.aload_n 2, 1) := by decide +kernel
theorem dX3_sourceOf_11 : decode cX3_sourceOf 11 = .ok (.invokevirtual 47, 3) := by decide +kernel
theorem dX3_sourceOf_14 : decode cX3_sourceOf 14 = .ok (.ifCond .eq 5, 3) := by decide +kernel
theorem dX3_sourceOf_17 : decode cX3_sourceOf 17 = .ok (.aconst_null, 1) := by decide +kernel
theorem dX3_sourceOf_18 : decode cX3_sourceOf 18 = .ok (.areturn, 1) := by decide +kernel
theorem dX3_sourceOf_19 : decode cX3_sourceOf 19 = .ok (.aload_n 2, 1) := by decide +kernel
theorem dX3_sourceOf_20 : decode cX3_sourceOf 20 = .ok (.getfield 50, 3) := by decide +kernel
theorem dX3_sourceOf_23 : decode cX3_sourceOf 23 = .ok (.ifCond .le 5, 3) := by decide +kernel
theorem dX3_sourceOf_26 : decode cX3_sourceOf 26 = .ok (.aload_n 2, 1) := by decide +kernel
theorem dX3_sourceOf_27 : decode cX3_sourceOf 27 = .ok (.areturn, 1) := by decide +kernel
theorem dX3_sourceOf_28 : decode cX3_sourceOf 28 = .ok (.aload_n 2, 1) := by decide +kernel
theorem dX3_sourceOf_29 : decode cX3_sourceOf 29 = .ok (.getfield 53, 3) := by decide +kernel
theorem dX3_sourceOf_32 : decode cX3_sourceOf 32 = .ok (.iconst 3, 1) := by decide +kernel
theorem dX3_sourceOf_33 : decode cX3_sourceOf 33 = .ok (.if_icmp .eq 5, 3) := by decide +kernel
theorem dX3_sourceOf_36 : decode cX3_sourceOf 36 = .ok (.aconst_null, 1) := by decide +kernel
theorem dX3_sourceOf_37 : decode cX3_sourceOf 37 = .ok (.areturn, 1) := by decide +kernel
theorem dX3_sourceOf_38 : decode cX3_sourceOf 38 = .ok (.aload_n 0, 1) := by decide +kernel
theorem dX3_sourceOf_39 : decode cX3_sourceOf 39 = .ok (.iload_n 1, 1) := by decide +kernel
theorem dX3_sourceOf_40 : decode cX3_sourceOf 40 = .ok (.iconst 1, 1) := by decide +kernel
theorem dX3_sourceOf_41 : decode cX3_sourceOf 41 = .ok (.iadd, 1) := by decide +kernel
theorem dX3_sourceOf_42 : decode cX3_sourceOf 42 = .ok (.invokevirtual 43, 3) := by decide +kernel
theorem dX3_sourceOf_45 : decode cX3_sourceOf 45 = .ok (.astore_n 3, 1) := by decide +kernel
theorem dX3_sourceOf_46 : decode cX3_sourceOf 46 = .ok (.aload_n 3, 1) := by decide +kernel
theorem dX3_sourceOf_47 : decode cX3_sourceOf 47 = .ok (.ifnull 32, 3) := by decide +kernel
theorem dX3_sourceOf_50 : decode cX3_sourceOf 50 = .ok (.aload_n 3, 1) := by decide +kernel
theorem dX3_sourceOf_51 : decode cX3_sourceOf 51 = .ok (.getfield 56, 3) := by decide +kernel
theorem dX3_sourceOf_54 : decode cX3_sourceOf 54 = .ok (.aload_n 2, 1) := by decide +kernel
theorem dX3_sourceOf_55 : decode cX3_sourceOf 55 = .ok (.getfield 56, 3) := by decide +kernel
theorem dX3_sourceOf_58 : decode cX3_sourceOf 58 = .ok (.if_icmp .ne 21, 3) := by decide +kernel
theorem dX3_sourceOf_61 : decode cX3_sourceOf 61 = .ok (.aload_n 3, 1) := by decide +kernel
theorem dX3_sourceOf_62 : decode cX3_sourceOf 62 = .ok (.getfield 50, 3) := by decide +kernel
theorem dX3_sourceOf_65 : decode cX3_sourceOf 65 = .ok (.ifCond .le 14, 3) := by decide +kernel
theorem dX3_sourceOf_68 : decode cX3_sourceOf 68 = .ok (.aload_n 3, 1) := by decide +kernel
theorem dX3_sourceOf_69 : decode cX3_sourceOf 69 = .ok (.invokevirtual 47, 3) := by decide +kernel
theorem dX3_sourceOf_72 : decode cX3_sourceOf 72 = .ok (.ifCond .ne 7, 3) := by decide +kernel
theorem dX3_sourceOf_75 : decode cX3_sourceOf 75 = .ok (.iconst 1, 1) := by decide +kernel
theorem dX3_sourceOf_76 : decode cX3_sourceOf 76 = .ok (.goto 4, 3) := by decide +kernel
theorem dX3_sourceOf_79 : decode cX3_sourceOf 79 = .ok (.iconst 0, 1) := by decide +kernel
theorem dX3_sourceOf_80 : decode cX3_sourceOf 80 = .ok (.istore 4, 2) := by decide +kernel
theorem dX3_sourceOf_82 : decode cX3_sourceOf 82 = .ok (.iload 4, 2) := by decide +kernel
theorem dX3_sourceOf_84 : decode cX3_sourceOf 84 = .ok (.ifCond .eq 7, 3) := by decide +kernel
theorem dX3_sourceOf_87 : decode cX3_sourceOf 87 = .ok (.aload_n 3, 1) := by decide +kernel
theorem dX3_sourceOf_88 : decode cX3_sourceOf 88 = .ok (.goto 4, 3) := by decide +kernel
theorem dX3_sourceOf_91 : decode cX3_sourceOf 91 = .ok (.aconst_null, 1) := by decide +kernel
theorem dX3_sourceOf_92 : decode cX3_sourceOf 92 = .ok (.areturn, 1) := by decide +kernel
theorem dX3_stockOf_0 : decode cX3_stockOf 0 = .ok (.iconst 0, 1) := by decide +kernel
theorem dX3_stockOf_1 : decode cX3_stockOf 1 = .ok (.istore_n 2, 1) := by decide +kernel
theorem dX3_stockOf_2 : decode cX3_stockOf 2 = .ok (.iconst 0, 1) := by decide +kernel
theorem dX3_stockOf_3 : decode cX3_stockOf 3 = .ok (.istore_n 3, 1) := by decide +kernel
theorem dX3_stockOf_4 : decode cX3_stockOf 4 = .ok (.iload_n 3, 1) := by decide +kernel
theorem dX3_stockOf_5 : decode cX3_stockOf 5 = .ok (.aload_n 0, 1) := by decide +kernel
theorem dX3_stockOf_6 : decode cX3_stockOf 6 = .ok (.getfield 35, 3) := by decide +kernel
theorem dX3_stockOf_9 : decode cX3_stockOf 9 = .ok (.if_icmp .ge 38, 3) := by decide +kernel
theorem dX3_stockOf_12 : decode cX3_stockOf 12 = .ok (.aload_n 0, 1) := by decide +kernel
theorem dX3_stockOf_13 : decode cX3_stockOf 13 = .ok (.iload_n 3, 1) := by decide +kernel
theorem dX3_stockOf_14 : decode cX3_stockOf 14 = .ok (.invokevirtual 43, 3) := by decide +kernel
theorem dX3_stockOf_17 : decode cX3_stockOf 17 = .ok (.astore 4, 2) := by decide +kernel
theorem dX3_stockOf_19 : decode cX3_stockOf 19 = .ok (.aload 4, 2) := by decide +kernel
theorem dX3_stockOf_21 : decode cX3_stockOf 21 = .ok (.ifnull 20, 3) := by decide +kernel
theorem dX3_stockOf_24 : decode cX3_stockOf 24 = .ok (.aload 4, 2) := by decide +kernel
theorem dX3_stockOf_26 : decode cX3_stockOf 26 = .ok (.getfield 56, 3) := by decide +kernel
theorem dX3_stockOf_29 : decode cX3_stockOf 29 = .ok (.iload_n 1, 1) := by decide +kernel
theorem dX3_stockOf_30 : decode cX3_stockOf 30 = .ok (.if_icmp .ne 11, 3) := by decide +kernel
theorem dX3_stockOf_33 : decode cX3_stockOf 33 = .ok (.iload_n 2, 1) := by decide +kernel
theorem dX3_stockOf_34 : decode cX3_stockOf 34 = .ok (.aload 4, 2) := by decide +kernel
theorem dX3_stockOf_36 : decode cX3_stockOf 36 = .ok (.getfield 50, 3) := by decide +kernel
theorem dX3_stockOf_39 : decode cX3_stockOf 39 = .ok (.iadd, 1) := by decide +kernel
theorem dX3_stockOf_40 : decode cX3_stockOf 40 = .ok (.istore_n 2, 1) := by decide +kernel
theorem dX3_stockOf_41 : decode cX3_stockOf 41 = .ok (.iinc 3 1, 3) := by decide +kernel
theorem dX3_stockOf_44 : decode cX3_stockOf 44 = .ok (.goto (-40), 3) := by decide +kernel
theorem dX3_stockOf_47 : decode cX3_stockOf 47 = .ok (.iload_n 2, 1) := by decide +kernel
theorem dX3_stockOf_48 : decode cX3_stockOf 48 = .ok (.ireturn, 1) := by decide +kernel
theorem dX3_noteThere_0 : decode cX3_noteThere 0 = .ok (.iconst 0, 1) := by decide +kernel
theorem dX3_noteThere_1 : decode cX3_noteThere 1 = .ok (.istore_n 2, 1) := by decide +kernel
theorem dX3_noteThere_2 : decode cX3_noteThere 2 = .ok (.iconst 0, 1) := by decide +kernel
theorem dX3_noteThere_3 : decode cX3_noteThere 3 = .ok (.istore_n 3, 1) := by decide +kernel
theorem dX3_noteThere_4 : decode cX3_noteThere 4 = .ok (.iload_n 3, 1) := by decide +kernel
theorem dX3_noteThere_5 : decode cX3_noteThere 5 = .ok (.aload_n 0, 1) := by decide +kernel
theorem dX3_noteThere_6 : decode cX3_noteThere 6 = .ok (.getfield 35, 3) := by decide +kernel
theorem dX3_noteThere_9 : decode cX3_noteThere 9 = .ok (.if_icmp .ge 64, 3) := by decide +kernel
theorem dX3_noteThere_12 : decode cX3_noteThere 12 = .ok (.aload_n 0, 1) := by decide +kernel
theorem dX3_noteThere_13 : decode cX3_noteThere 13 = .ok (.iload_n 3, 1) := by decide +kernel
theorem dX3_noteThere_14 : decode cX3_noteThere 14 = .ok (.invokevirtual 43, 3) := by decide +kernel
theorem dX3_noteThere_17 : decode cX3_noteThere 17 = .ok (.astore 4, 2) := by decide +kernel
theorem dX3_noteThere_19 : decode cX3_noteThere 19 = .ok (.aload 4, 2) := by decide +kernel
theorem dX3_noteThere_21 : decode cX3_noteThere 21 = .ok (.ifnull 46, 3) := by decide +kernel
theorem dX3_noteThere_24 : decode cX3_noteThere 24 = .ok (.iload_n 2, 1) := by decide +kernel
theorem dX3_noteThere_25 : decode cX3_noteThere 25 = .ok (.aload 4, 2) := by decide +kernel
theorem dX3_noteThere_27 : decode cX3_noteThere 27 = .ok (.getfield 56, 3) := by decide +kernel
theorem dX3_noteThere_30 : decode cX3_noteThere 30 = .ok (.ishr, 1) := by decide +kernel
theorem dX3_noteThere_31 : decode cX3_noteThere 31 = .ok (.iconst 1, 1) := by decide +kernel
theorem dX3_noteThere_32 : decode cX3_noteThere 32 = .ok (.iand, 1) := by decide +kernel
theorem dX3_noteThere_33 : decode cX3_noteThere 33 = .ok (.ifCond .ne 34, 3) := by decide +kernel
theorem dX3_noteThere_36 : decode cX3_noteThere 36 = .ok (.aload_n 0, 1) := by decide +kernel
theorem dX3_noteThere_37 : decode cX3_noteThere 37 = .ok (.iload_n 3, 1) := by decide +kernel
theorem dX3_noteThere_38 : decode cX3_noteThere 38 = .ok (.invokevirtual 59, 3) := by decide +kernel
theorem dX3_noteThere_41 : decode cX3_noteThere 41 = .ok (.ifnull 26, 3) := by decide +kernel
theorem dX3_noteThere_44 : decode cX3_noteThere 44 = .ok (.iload_n 2, 1) := by decide +kernel
theorem dX3_noteThere_45 : decode cX3_noteThere 45 = .ok (.iconst 1, 1) := by decide +kernel
theorem dX3_noteThere_46 : decode cX3_noteThere 46 = .ok (.aload 4, 2) := by decide +kernel
theorem dX3_noteThere_48 : decode cX3_noteThere 48 = .ok (.getfield 56, 3) := by decide +kernel
theorem dX3_noteThere_51 : decode cX3_noteThere 51 = .ok (.ishl, 1) := by decide +kernel
theorem dX3_noteThere_52 : decode cX3_noteThere 52 = .ok (.ior, 1) := by decide +kernel
theorem dX3_noteThere_53 : decode cX3_noteThere 53 = .ok (.istore_n 2, 1) := by decide +kernel
theorem dX3_noteThere_54 : decode cX3_noteThere 54 = .ok (.aload_n 0, 1) := by decide +kernel
theorem dX3_noteThere_55 : decode cX3_noteThere 55 = .ok (.getfield 27, 3) := by decide +kernel
theorem dX3_noteThere_58 : decode cX3_noteThere 58 = .ok (.aload 4, 2) := by decide +kernel
theorem dX3_noteThere_60 : decode cX3_noteThere 60 = .ok (.getfield 56, 3) := by decide +kernel
theorem dX3_noteThere_63 : decode cX3_noteThere 63 = .ok (.iload_n 1, 1) := by decide +kernel
theorem dX3_noteThere_64 : decode cX3_noteThere 64 = .ok (.invokevirtual 62, 3) := by decide +kernel
theorem dX3_noteThere_67 : decode cX3_noteThere 67 = .ok (.iinc 3 1, 3) := by decide +kernel
theorem dX3_noteThere_70 : decode cX3_noteThere 70 = .ok (.goto (-66), 3) := by decide +kernel
theorem dX3_noteThere_73 : decode cX3_noteThere 73 = .ok (.return_, 1) := by decide +kernel
theorem dX3_passHourOfPower_0 : decode cX3_passHourOfPower 0 = .ok (.aload_n 0, 1) := by decide +kernel
theorem dX3_passHourOfPower_1 : decode cX3_passHourOfPower 1 = .ok (.getfield 31, 3) := by decide +kernel
theorem dX3_passHourOfPower_4 : decode cX3_passHourOfPower 4 = .ok (.ifCond .eq 4, 3) := by decide +kernel
theorem dX3_passHourOfPower_7 : decode cX3_passHourOfPower 7 = .ok (.return_, 1) := by decide +kernel
theorem dX3_passHourOfPower_8 : decode cX3_passHourOfPower 8 = .ok (.aload_n 0, 1) := by decide +kernel
theorem dX3_passHourOfPower_9 : decode cX3_passHourOfPower 9 = .ok (.dup, 1) := by decide +kernel
theorem dX3_passHourOfPower_10 : decode cX3_passHourOfPower 10 = .ok (.getfield 66, 3) := by decide +kernel
theorem dX3_passHourOfPower_13 : decode cX3_passHourOfPower 13 = .ok (.iconst 1, 1) := by decide +kernel
theorem dX3_passHourOfPower_14 : decode cX3_passHourOfPower 14 = .ok (.iadd, 1) := by decide +kernel
theorem dX3_passHourOfPower_15 : decode cX3_passHourOfPower 15 = .ok (.putfield 66, 3) := by decide +kernel
theorem dX3_passHourOfPower_18 : decode cX3_passHourOfPower 18 = .ok (.iconst 0, 1) := by decide +kernel
theorem dX3_passHourOfPower_19 : decode cX3_passHourOfPower 19 = .ok (.istore_n 1, 1) := by decide +kernel
theorem dX3_passHourOfPower_20 : decode cX3_passHourOfPower 20 = .ok (.iload_n 1, 1) := by decide +kernel
theorem dX3_passHourOfPower_21 : decode cX3_passHourOfPower 21 = .ok (.aload_n 0, 1) := by decide +kernel
theorem dX3_passHourOfPower_22 : decode cX3_passHourOfPower 22 = .ok (.getfield 35, 3) := by decide +kernel
theorem dX3_passHourOfPower_25 : decode cX3_passHourOfPower 25 = .ok (.if_icmp .ge 27, 3) := by decide +kernel
theorem dX3_passHourOfPower_28 : decode cX3_passHourOfPower 28 = .ok (.aload_n 0, 1) := by decide +kernel
theorem dX3_passHourOfPower_29 : decode cX3_passHourOfPower 29 = .ok (.iload_n 1, 1) := by decide +kernel
theorem dX3_passHourOfPower_30 : decode cX3_passHourOfPower 30 = .ok (.invokevirtual 43, 3) := by decide +kernel
theorem dX3_passHourOfPower_33 : decode cX3_passHourOfPower 33 = .ok (.astore_n 2, 1) := by decide +kernel
theorem dX3_passHourOfPower_34 : decode cX3_passHourOfPower 34 = .ok (.aload_n 2, 1) := by decide +kernel
theorem dX3_passHourOfPower_35 : decode cX3_passHourOfPower 35 = .ok (.ifnull 11, 3) := by decide +kernel
theorem dX3_passHourOfPower_38 : decode cX3_passHourOfPower 38 = .ok (.aload_n 2, 1) := by decide +kernel
theorem dX3_passHourOfPower_39 : decode cX3_passHourOfPower 39 = .ok (.aload_n 0, 1) := by decide +kernel
theorem dX3_passHourOfPower_40 : decode cX3_passHourOfPower 40 = .ok (.getfield 66, 3) := by decide +kernel
theorem dX3_passHourOfPower_43 : decode cX3_passHourOfPower 43 = .ok (.invokevirtual 69, 3) := by decide +kernel
theorem dX3_passHourOfPower_46 : decode cX3_passHourOfPower 46 = .ok (.iinc 1 1, 3) := by decide +kernel
theorem dX3_passHourOfPower_49 : decode cX3_passHourOfPower 49 = .ok (.goto (-29), 3) := by decide +kernel
theorem dX3_passHourOfPower_52 : decode cX3_passHourOfPower 52 = .ok (.return_, 1) := by decide +kernel
theorem dX3_goodsAgree_0 : decode cX3_goodsAgree 0 = .ok (.iconst 0, 1) := by decide +kernel
theorem dX3_goodsAgree_1 : decode cX3_goodsAgree 1 = .ok (.istore_n 1, 1) := by decide +kernel
theorem dX3_goodsAgree_2 : decode cX3_goodsAgree 2 = .ok (.iconst 0, 1) := by decide +kernel
theorem dX3_goodsAgree_3 : decode cX3_goodsAgree 3 = .ok (.istore_n 2, 1) := by decide +kernel
theorem dX3_goodsAgree_4 : decode cX3_goodsAgree 4 = .ok (.iload_n 2, 1) := by decide +kernel
theorem dX3_goodsAgree_5 : decode cX3_goodsAgree 5 = .ok (.aload_n 0, 1) := by decide +kernel
theorem dX3_goodsAgree_6 : decode cX3_goodsAgree 6 = .ok (.getfield 35, 3) := by decide +kernel
theorem dX3_goodsAgree_9 : decode cX3_goodsAgree 9 = .ok (.if_icmp .ge 26, 3) := by decide +kernel
theorem dX3_goodsAgree_12 : decode cX3_goodsAgree 12 = .ok (.aload_n 0, 1) := by decide +kernel
theorem dX3_goodsAgree_13 : decode cX3_goodsAgree 13 = .ok (.iload_n 2, 1) := by decide +kernel
theorem dX3_goodsAgree_14 : decode cX3_goodsAgree 14 = .ok (.invokevirtual 43, 3) := by decide +kernel
theorem dX3_goodsAgree_17 : decode cX3_goodsAgree 17 = .ok (.astore_n 3, 1) := by decide +kernel
theorem dX3_goodsAgree_18 : decode cX3_goodsAgree 18 = .ok (.aload_n 3, 1) := by decide +kernel
theorem dX3_goodsAgree_19 : decode cX3_goodsAgree 19 = .ok (.ifnull 10, 3) := by decide +kernel
theorem dX3_goodsAgree_22 : decode cX3_goodsAgree 22 = .ok (.iload_n 1, 1) := by decide +kernel
theorem dX3_goodsAgree_23 : decode cX3_goodsAgree 23 = .ok (.aload_n 3, 1) := by decide +kernel
theorem dX3_goodsAgree_24 : decode cX3_goodsAgree 24 = .ok (.getfield 50, 3) := by decide +kernel
theorem dX3_goodsAgree_27 : decode cX3_goodsAgree 27 = .ok (.iadd, 1) := by decide +kernel
theorem dX3_goodsAgree_28 : decode cX3_goodsAgree 28 = .ok (.istore_n 1, 1) := by decide +kernel
theorem dX3_goodsAgree_29 : decode cX3_goodsAgree 29 = .ok (.iinc 2 1, 3) := by decide +kernel
theorem dX3_goodsAgree_32 : decode cX3_goodsAgree 32 = .ok (.goto (-28), 3) := by decide +kernel
theorem dX3_goodsAgree_35 : decode cX3_goodsAgree 35 = .ok (.aload_n 0, 1) := by decide +kernel
theorem dX3_goodsAgree_36 : decode cX3_goodsAgree 36 = .ok (.getfield 73, 3) := by decide +kernel
theorem dX3_goodsAgree_39 : decode cX3_goodsAgree 39 = .ok (.aload_n 0, 1) := by decide +kernel
theorem dX3_goodsAgree_40 : decode cX3_goodsAgree 40 = .ok (.getfield 76, 3) := by decide +kernel
theorem dX3_goodsAgree_43 : decode cX3_goodsAgree 43 = .ok (.iload_n 1, 1) := by decide +kernel
theorem dX3_goodsAgree_44 : decode cX3_goodsAgree 44 = .ok (.iadd, 1) := by decide +kernel
theorem dX3_goodsAgree_45 : decode cX3_goodsAgree 45 = .ok (.aload_n 0, 1) := by decide +kernel
theorem dX3_goodsAgree_46 : decode cX3_goodsAgree 46 = .ok (.getfield 79, 3) := by decide +kernel
theorem dX3_goodsAgree_49 : decode cX3_goodsAgree 49 = .ok (.iadd, 1) := by decide +kernel
theorem dX3_goodsAgree_50 : decode cX3_goodsAgree 50 = .ok (.aload_n 0, 1) := by decide +kernel
theorem dX3_goodsAgree_51 : decode cX3_goodsAgree 51 = .ok (.getfield 82, 3) := by decide +kernel
theorem dX3_goodsAgree_54 : decode cX3_goodsAgree 54 = .ok (.iadd, 1) := by decide +kernel
theorem dX3_goodsAgree_55 : decode cX3_goodsAgree 55 = .ok (.if_icmp .ne 7, 3) := by decide +kernel
theorem dX3_goodsAgree_58 : decode cX3_goodsAgree 58 = .ok (.iconst 1, 1) := by decide +kernel
theorem dX3_goodsAgree_59 : decode cX3_goodsAgree 59 = .ok (.goto 4, 3) := by decide +kernel
theorem dX3_goodsAgree_62 : decode cX3_goodsAgree 62 = .ok (.iconst 0, 1) := by decide +kernel
theorem dX3_goodsAgree_63 : decode cX3_goodsAgree 63 = .ok (.ireturn, 1) := by decide +kernel
theorem dX4_init_0 : decode cX4_init 0 = .ok (.aload_n 0, 1) := by decide +kernel
theorem dX4_init_1 : decode cX4_init 1 = .ok (.invokespecial 3, 3) := by decide +kernel
theorem dX4_init_4 : decode cX4_init 4 = .ok (.aload_n 0, 1) := by decide +kernel
theorem dX4_init_5 : decode cX4_init 5 = .ok (.getstatic 9, 3) := by decide +kernel
theorem dX4_init_8 : decode cX4_init 8 = .ok (.arraylength, 1) := by decide +kernel
theorem dX4_init_9 : decode cX4_init 9 = .ok (.newarray .int, 2) := by decide +kernel
theorem dX4_init_11 : decode cX4_init 11 = .ok (.putfield 13, 3) := by decide +kernel
theorem dX4_init_14 : decode cX4_init 14 = .ok (.aload_n 0, 1) := by decide +kernel
theorem dX4_init_15 : decode cX4_init 15 = .ok (.getstatic 9, 3) := by decide +kernel
theorem dX4_init_18 : decode cX4_init 18 = .ok (.arraylength, 1) := by decide +kernel
theorem dX4_init_19 : decode cX4_init 19 = .ok (.newarray .int, 2) := by decide +kernel
theorem dX4_init_21 : decode cX4_init 21 = .ok (.putfield 18, 3) := by decide +kernel
theorem dX4_init_24 : decode cX4_init 24 = .ok (.aload_n 0, 1) := by decide +kernel
theorem dX4_init_25 : decode cX4_init 25 = .ok (.getstatic 9, 3) := by decide +kernel
theorem dX4_init_28 : decode cX4_init 28 = .ok (.arraylength, 1) := by decide +kernel
theorem dX4_init_29 : decode cX4_init 29 = .ok (.newarray .int, 2) := by decide +kernel
theorem dX4_init_31 : decode cX4_init 31 = .ok (.putfield 21, 3) := by decide +kernel
theorem dX4_init_34 : decode cX4_init 34 = .ok (.aload_n 0, 1) := by decide +kernel
theorem dX4_init_35 : decode cX4_init 35 = .ok (.getstatic 9, 3) := by decide +kernel
theorem dX4_init_38 : decode cX4_init 38 = .ok (.arraylength, 1) := by decide +kernel
theorem dX4_init_39 : decode cX4_init 39 = .ok (.newarray .int, 2) := by decide +kernel
theorem dX4_init_41 : decode cX4_init 41 = .ok (.putfield 24, 3) := by decide +kernel
theorem dX4_init_44 : decode cX4_init 44 = .ok (.aload_n 0, 1) := by decide +kernel
theorem dX4_init_45 : decode cX4_init 45 = .ok (.getstatic 9, 3) := by decide +kernel
theorem dX4_init_48 : decode cX4_init 48 = .ok (.arraylength, 1) := by decide +kernel
theorem dX4_init_49 : decode cX4_init 49 = .ok (.newarray .int, 2) := by decide +kernel
theorem dX4_init_51 : decode cX4_init 51 = .ok (.putfield 27, 3) := by decide +kernel
theorem dX4_init_54 : decode cX4_init 54 = .ok (.aload_n 0, 1) := by decide +kernel
theorem dX4_init_55 : decode cX4_init 55 = .ok (.getstatic 9, 3) := by decide +kernel
theorem dX4_init_58 : decode cX4_init 58 = .ok (.arraylength, 1) := by decide +kernel
theorem dX4_init_59 : decode cX4_init 59 = .ok (.newarray .int, 2) := by decide +kernel
theorem dX4_init_61 : decode cX4_init 61 = .ok (.putfield 30, 3) := by decide +kernel
theorem dX4_init_64 : decode cX4_init 64 = .ok (.aload_n 0, 1) := by decide +kernel
theorem dX4_init_65 : decode cX4_init 65 = .ok (.getstatic 9, 3) := by decide +kernel
theorem dX4_init_68 : decode cX4_init 68 = .ok (.arraylength, 1) := by decide +kernel
theorem dX4_init_69 : decode cX4_init 69 = .ok (.newarray .int, 2) := by decide +kernel
theorem dX4_init_71 : decode cX4_init 71 = .ok (.putfield 33, 3) := by decide +kernel
theorem dX4_init_74 : decode cX4_init 74 = .ok (.return_, 1) := by decide +kernel
theorem dX4_addToTube_0 : decode cX4_addToTube 0 = .ok (.aload_n 0, 1) := by decide +kernel
theorem dX4_addToTube_1 : decode cX4_addToTube 1 = .ok (.getfield 13, 3) := by decide +kernel
theorem dX4_addToTube_4 : decode cX4_addToTube 4 = .ok (.iload_n 1, 1) := by decide +kernel
theorem dX4_addToTube_5 : decode cX4_addToTube 5 = .ok (.dup2, 1) := by decide +kernel
theorem dX4_addToTube_6 : decode cX4_addToTube 6 = .ok (.iaload, 1) := by decide +kernel
theorem dX4_addToTube_7 : decode cX4_addToTube 7 = .ok (.iload_n 2, 1) := by decide +kernel
theorem dX4_addToTube_8 : decode cX4_addToTube 8 = .ok (.iadd, 1) := by decide +kernel
theorem dX4_addToTube_9 : decode cX4_addToTube 9 = .ok (.iastore, 1) := by decide +kernel
theorem dX4_addToTube_10 : decode cX4_addToTube 10 = .ok (.aload_n 0, 1) := by decide +kernel
theorem dX4_addToTube_11 : decode cX4_addToTube 11 = .ok (.getfield 24, 3) := by decide +kernel
theorem dX4_addToTube_14 : decode cX4_addToTube 14 = .ok (.iload_n 1, 1) := by decide +kernel
theorem dX4_addToTube_15 : decode cX4_addToTube 15 = .ok (.dup2, 1) := by decide +kernel
theorem dX4_addToTube_16 : decode cX4_addToTube 16 = .ok (.iaload, 1) := by decide +kernel
theorem dX4_addToTube_17 : decode cX4_addToTube 17 = .ok (.iload_n 2, 1) := by decide +kernel
theorem dX4_addToTube_18 : decode cX4_addToTube 18 = .ok (.iadd, 1) := by decide +kernel
theorem dX4_addToTube_19 : decode cX4_addToTube 19 = .ok (.iastore, 1) := by decide +kernel
theorem dX4_addToTube_20 : decode cX4_addToTube 20 = .ok (.return_, 1) := by decide +kernel
theorem dX4_takeIn_0 : decode cX4_takeIn 0 = .ok (.aload_n 0, 1) := by decide +kernel
theorem dX4_takeIn_1 : decode cX4_takeIn 1 = .ok (.getfield 21, 3) := by decide +kernel
theorem dX4_takeIn_4 : decode cX4_takeIn 4 = .ok (.iload_n 1, 1) := by decide +kernel
theorem dX4_takeIn_5 : decode cX4_takeIn 5 = .ok (.dup2, 1) := by decide +kernel
theorem dX4_takeIn_6 : decode cX4_takeIn 6 = .ok (.iaload, 1) := by decide +kernel
theorem dX4_takeIn_7 : decode cX4_takeIn 7 = .ok (.iconst 1, 1) := by decide +kernel
theorem dX4_takeIn_8 : decode cX4_takeIn 8 = .ok (.iadd, 1) := by decide +kernel
theorem dX4_takeIn_9 : decode cX4_takeIn 9 = .ok (.iastore, 1) := by decide +kernel
theorem dX4_takeIn_10 : decode cX4_takeIn 10 = .ok (.aload_n 0, 1) := by decide +kernel
theorem dX4_takeIn_11 : decode cX4_takeIn 11 = .ok (.getfield 24, 3) := by decide +kernel
theorem dX4_takeIn_14 : decode cX4_takeIn 14 = .ok (.iload_n 1, 1) := by decide +kernel
theorem dX4_takeIn_15 : decode cX4_takeIn 15 = .ok (.dup2, 1) := by decide +kernel
theorem dX4_takeIn_16 : decode cX4_takeIn 16 = .ok (.iaload, 1) := by decide +kernel
theorem dX4_takeIn_17 : decode cX4_takeIn 17 = .ok (.iconst 1, 1) := by decide +kernel
theorem dX4_takeIn_18 : decode cX4_takeIn 18 = .ok (.iadd, 1) := by decide +kernel
theorem dX4_takeIn_19 : decode cX4_takeIn 19 = .ok (.iastore, 1) := by decide +kernel
theorem dX4_takeIn_20 : decode cX4_takeIn 20 = .ok (.aload_n 0, 1) := by decide +kernel
theorem dX4_takeIn_21 : decode cX4_takeIn 21 = .ok (.dup, 1) := by decide +kernel
theorem dX4_takeIn_22 : decode cX4_takeIn 22 = .ok (.getfield 36, 3) := by decide +kernel
theorem dX4_takeIn_25 : decode cX4_takeIn 25 = .ok (.iconst 1, 1) := by decide +kernel
theorem dX4_takeIn_26 : decode cX4_takeIn 26 = .ok (.iadd, 1) := by decide +kernel
theorem dX4_takeIn_27 : decode cX4_takeIn 27 = .ok (.putfield 36, 3) := by decide +kernel
theorem dX4_takeIn_30 : decode cX4_takeIn 30 = .ok (.return_, 1) := by decide +kernel
theorem dX4_giveBack_0 : decode cX4_giveBack 0 = .ok (.aload_n 0, 1) := by decide +kernel
theorem dX4_giveBack_1 : decode cX4_giveBack 1 = .ok (.getfield 21, 3) := by decide +kernel
theorem dX4_giveBack_4 : decode cX4_giveBack 4 = .ok (.invokestatic 40, 3) := by decide +kernel
theorem dX4_giveBack_7 : decode cX4_giveBack 7 = .ok (.istore_n 1, 1) := by decide +kernel
theorem dX4_giveBack_8 : decode cX4_giveBack 8 = .ok (.iconst 0, 1) := by decide +kernel
theorem dX4_giveBack_9 : decode cX4_giveBack 9 = .ok (.istore_n 2, 1) := by decide +kernel
theorem dX4_giveBack_10 : decode cX4_giveBack 10 = .ok (.iload_n 2, 1) := by decide +kernel
theorem dX4_giveBack_11 : decode cX4_giveBack 11 = .ok (.aload_n 0, 1) := by decide +kernel
theorem dX4_giveBack_12 : decode cX4_giveBack 12 = .ok (.getfield 21, 3) := by decide +kernel
theorem dX4_giveBack_15 : decode cX4_giveBack 15 = .ok (.arraylength, 1) := by decide +kernel
theorem dX4_giveBack_16 : decode cX4_giveBack 16 = .ok (.if_icmp .ge 31, 3) := by decide +kernel
theorem dX4_giveBack_19 : decode cX4_giveBack 19 = .ok (.aload_n 0, 1) := by decide +kernel
theorem dX4_giveBack_20 : decode cX4_giveBack 20 = .ok (.getfield 27, 3) := by decide +kernel
theorem dX4_giveBack_23 : decode cX4_giveBack 23 = .ok (.iload_n 2, 1) := by decide +kernel
theorem dX4_giveBack_24 : decode cX4_giveBack 24 = .ok (.dup2, 1) := by decide +kernel
theorem dX4_giveBack_25 : decode cX4_giveBack 25 = .ok (.iaload, 1) := by decide +kernel
theorem dX4_giveBack_26 : decode cX4_giveBack 26 = .ok (.aload_n 0, 1) := by decide +kernel
theorem dX4_giveBack_27 : decode cX4_giveBack 27 = .ok (.getfield 21, 3) := by decide +kernel
theorem dX4_giveBack_30 : decode cX4_giveBack 30 = .ok (.iload_n 2, 1) := by decide +kernel
theorem dX4_giveBack_31 : decode cX4_giveBack 31 = .ok (.iaload, 1) := by decide +kernel
theorem dX4_giveBack_32 : decode cX4_giveBack 32 = .ok (.iadd, 1) := by decide +kernel
theorem dX4_giveBack_33 : decode cX4_giveBack 33 = .ok (.iastore, 1) := by decide +kernel
theorem dX4_giveBack_34 : decode cX4_giveBack 34 = .ok (.aload_n 0, 1) := by decide +kernel
theorem dX4_giveBack_35 : decode cX4_giveBack 35 = .ok (.getfield 21, 3) := by decide +kernel
theorem dX4_giveBack_38 : decode cX4_giveBack 38 = .ok (.iload_n 2, 1) := by decide +kernel
theorem dX4_giveBack_39 : decode cX4_giveBack 39 = .ok (.iconst 0, 1) := by decide +kernel
theorem dX4_giveBack_40 : decode cX4_giveBack 40 = .ok (.iastore, 1) := by decide +kernel
theorem dX4_giveBack_41 : decode cX4_giveBack 41 = .ok (.iinc 2 1, 3) := by decide +kernel
theorem dX4_giveBack_44 : decode cX4_giveBack 44 = .ok (.goto (-34), 3) := by decide +kernel
theorem dX4_giveBack_47 : decode cX4_giveBack 47 = .ok (.aload_n 0, 1) := by decide +kernel
theorem dX4_giveBack_48 : decode cX4_giveBack 48 = .ok (.iconst 0, 1) := by decide +kernel
theorem dX4_giveBack_49 : decode cX4_giveBack 49 = .ok (.putfield 36, 3) := by decide +kernel
theorem dX4_giveBack_52 : decode cX4_giveBack 52 = .ok (.iload_n 1, 1) := by decide +kernel
theorem dX4_giveBack_53 : decode cX4_giveBack 53 = .ok (.ireturn, 1) := by decide +kernel
theorem dX4_settle_0 : decode cX4_settle 0 = .ok (.iconst 0, 1) := by decide +kernel
theorem dX4_settle_1 : decode cX4_settle 1 = .ok (.istore_n 2, 1) := by decide +kernel
theorem dX4_settle_2 : decode cX4_settle 2 = .ok (.iload_n 2, 1) := by decide +kernel
theorem dX4_settle_3 : decode cX4_settle 3 = .ok (.aload_n 0, 1) := by decide +kernel
theorem dX4_settle_4 : decode cX4_settle 4 = .ok (.getfield 13, 3) := by decide +kernel
theorem dX4_settle_7 : decode cX4_settle 7 = .ok (.arraylength, 1) := by decide +kernel
theorem dX4_settle_8 : decode cX4_settle 8 = .ok (.if_icmp .ge 81, 3) := by decide +kernel
theorem dX4_settle_11 : decode cX4_settle 11 = .ok (.iload_n 2, 1) := by decide +kernel
theorem dX4_settle_12 : decode cX4_settle 12 = .ok (.aload_n 1, 1) := by decide +kernel
theorem dX4_settle_13 : decode cX4_settle 13 = .ok (.arraylength, 1) := by decide +kernel
theorem dX4_settle_14 : decode cX4_settle 14 = .ok (.if_icmp .ge 75, 3) := by decide +kernel
theorem dX4_settle_17 : decode cX4_settle 17 = .ok (.aload_n 0, 1) := by decide +kernel
theorem dX4_settle_18 : decode cX4_settle 18 = .ok (.getfield 13, 3) := by decide +kernel
theorem dX4_settle_21 : decode cX4_settle 21 = .ok (.iload_n 2, 1) := by decide +kernel
theorem dX4_settle_22 : decode cX4_settle 22 = .ok (.iaload, 1) := by decide +kernel
theorem dX4_settle_23 : decode cX4_settle 23 = .ok (.aload_n 0, 1) := by decide +kernel
theorem dX4_settle_24 : decode cX4_settle 24 = .ok (.getfield 21, 3) := by decide +kernel
theorem dX4_settle_27 : decode cX4_settle 27 = .ok (.iload_n 2, 1) := by decide +kernel
theorem dX4_settle_28 : decode cX4_settle 28 = .ok (.iaload, 1) := by decide +kernel
theorem dX4_settle_29 : decode cX4_settle 29 = .ok (.iadd, 1) := by decide +kernel
theorem dX4_settle_30 : decode cX4_settle 30 = .ok (.aload_n 1, 1) := by decide +kernel
theorem dX4_settle_31 : decode cX4_settle 31 = .ok (.iload_n 2, 1) := by decide +kernel
theorem dX4_settle_32 : decode cX4_settle 32 = .ok (.iaload, 1) := by decide +kernel
theorem dX4_settle_33 : decode cX4_settle 33 = .ok (.isub, 1) := by decide +kernel
theorem dX4_settle_34 : decode cX4_settle 34 = .ok (.istore_n 3, 1) := by decide +kernel
theorem dX4_settle_35 : decode cX4_settle 35 = .ok (.aload_n 0, 1) := by decide +kernel
theorem dX4_settle_36 : decode cX4_settle 36 = .ok (.getfield 13, 3) := by decide +kernel
theorem dX4_settle_39 : decode cX4_settle 39 = .ok (.iload_n 2, 1) := by decide +kernel
theorem dX4_settle_40 : decode cX4_settle 40 = .ok (.iload_n 3, 1) := by decide +kernel
theorem dX4_settle_41 : decode cX4_settle 41 = .ok (.bipush 50, 2) := by decide +kernel
theorem dX4_settle_43 : decode cX4_settle 43 = .ok (.invokestatic 44, 3) := by decide +kernel
theorem dX4_settle_46 : decode cX4_settle 46 = .ok (.iastore, 1) := by decide +kernel
theorem dX4_settle_47 : decode cX4_settle 47 = .ok (.aload_n 0, 1) := by decide +kernel
theorem dX4_settle_48 : decode cX4_settle 48 = .ok (.getfield 18, 3) := by decide +kernel
theorem dX4_settle_51 : decode cX4_settle 51 = .ok (.iload_n 2, 1) := by decide +kernel
theorem dX4_settle_52 : decode cX4_settle 52 = .ok (.dup2, 1) := by decide +kernel
theorem dX4_settle_53 : decode cX4_settle 53 = .ok (.iaload, 1) := by decide +kernel
theorem dX4_settle_54 : decode cX4_settle 54 = .ok (.iload_n 3, 1) := by decide +kernel
theorem dX4_settle_55 : decode cX4_settle 55 = .ok (.aload_n 0, 1) := by decide +kernel
theorem dX4_settle_56 : decode cX4_settle 56 = .ok (.getfield 13, 3) := by decide +kernel
theorem dX4_settle_59 : decode cX4_settle 59 = .ok (.iload_n 2, 1) := by decide +kernel
theorem dX4_settle_60 : decode cX4_settle 60 = .ok (.iaload, 1) := by decide +kernel
theorem dX4_settle_61 : decode cX4_settle 61 = .ok (.isub, 1) := by decide +kernel
theorem dX4_settle_62 : decode cX4_settle 62 = .ok (.iadd, 1) := by decide +kernel
theorem dX4_settle_63 : decode cX4_settle 63 = .ok (.iastore, 1) := by decide +kernel
theorem dX4_settle_64 : decode cX4_settle 64 = .ok (.aload_n 0, 1) := by decide +kernel
theorem dX4_settle_65 : decode cX4_settle 65 = .ok (.getfield 30, 3) := by decide +kernel
theorem dX4_settle_68 : decode cX4_settle 68 = .ok (.iload_n 2, 1) := by decide +kernel
theorem dX4_settle_69 : decode cX4_settle 69 = .ok (.dup2, 1) := by decide +kernel
theorem dX4_settle_70 : decode cX4_settle 70 = .ok (.iaload, 1) := by decide +kernel
theorem dX4_settle_71 : decode cX4_settle 71 = .ok (.aload_n 1, 1) := by decide +kernel
theorem dX4_settle_72 : decode cX4_settle 72 = .ok (.iload_n 2, 1) := by decide +kernel
theorem dX4_settle_73 : decode cX4_settle 73 = .ok (.iaload, 1) := by decide +kernel
theorem dX4_settle_74 : decode cX4_settle 74 = .ok (.iadd, 1) := by decide +kernel
theorem dX4_settle_75 : decode cX4_settle 75 = .ok (.iastore, 1) := by decide +kernel
theorem dX4_settle_76 : decode cX4_settle 76 = .ok (.aload_n 0, 1) := by decide +kernel
theorem dX4_settle_77 : decode cX4_settle 77 = .ok (.getfield 21, 3) := by decide +kernel
theorem dX4_settle_80 : decode cX4_settle 80 = .ok (.iload_n 2, 1) := by decide +kernel
theorem dX4_settle_81 : decode cX4_settle 81 = .ok (.iconst 0, 1) := by decide +kernel
theorem dX4_settle_82 : decode cX4_settle 82 = .ok (.iastore, 1) := by decide +kernel
theorem dX4_settle_83 : decode cX4_settle 83 = .ok (.iinc 2 1, 3) := by decide +kernel
theorem dX4_settle_86 : decode cX4_settle 86 = .ok (.goto (-84), 3) := by decide +kernel
theorem dX4_settle_89 : decode cX4_settle 89 = .ok (.aload_n 0, 1) := by decide +kernel
theorem dX4_settle_90 : decode cX4_settle 90 = .ok (.iconst 0, 1) := by decide +kernel
theorem dX4_settle_91 : decode cX4_settle 91 = .ok (.putfield 36, 3) := by decide +kernel
theorem dX4_settle_94 : decode cX4_settle 94 = .ok (.return_, 1) := by decide +kernel
theorem dX4_emptyBox_0 : decode cX4_emptyBox 0 = .ok (.aload_n 0, 1) := by decide +kernel
theorem dX4_emptyBox_1 : decode cX4_emptyBox 1 = .ok (.getfield 18, 3) := by decide +kernel
theorem dX4_emptyBox_4 : decode cX4_emptyBox 4 = .ok (.invokestatic 40, 3) := by decide +kernel
theorem dX4_emptyBox_7 : decode cX4_emptyBox 7 = .ok (.istore_n 1, 1) := by decide +kernel
theorem dX4_emptyBox_8 : decode cX4_emptyBox 8 = .ok (.iconst 0, 1) := by decide +kernel
theorem dX4_emptyBox_9 : decode cX4_emptyBox 9 = .ok (.istore_n 2, 1) := by decide +kernel
theorem dX4_emptyBox_10 : decode cX4_emptyBox 10 = .ok (.iload_n 2, 1) := by decide +kernel
theorem dX4_emptyBox_11 : decode cX4_emptyBox 11 = .ok (.aload_n 0, 1) := by decide +kernel
theorem dX4_emptyBox_12 : decode cX4_emptyBox 12 = .ok (.getfield 18, 3) := by decide +kernel
theorem dX4_emptyBox_15 : decode cX4_emptyBox 15 = .ok (.arraylength, 1) := by decide +kernel
theorem dX4_emptyBox_16 : decode cX4_emptyBox 16 = .ok (.if_icmp .ge 31, 3) := by decide +kernel
theorem dX4_emptyBox_19 : decode cX4_emptyBox 19 = .ok (.aload_n 0, 1) := by decide +kernel
theorem dX4_emptyBox_20 : decode cX4_emptyBox 20 = .ok (.getfield 33, 3) := by decide +kernel
theorem dX4_emptyBox_23 : decode cX4_emptyBox 23 = .ok (.iload_n 2, 1) := by decide +kernel
theorem dX4_emptyBox_24 : decode cX4_emptyBox 24 = .ok (.dup2, 1) := by decide +kernel
theorem dX4_emptyBox_25 : decode cX4_emptyBox 25 = .ok (.iaload, 1) := by decide +kernel
theorem dX4_emptyBox_26 : decode cX4_emptyBox 26 = .ok (.aload_n 0, 1) := by decide +kernel
theorem dX4_emptyBox_27 : decode cX4_emptyBox 27 = .ok (.getfield 18, 3) := by decide +kernel
theorem dX4_emptyBox_30 : decode cX4_emptyBox 30 = .ok (.iload_n 2, 1) := by decide +kernel
theorem dX4_emptyBox_31 : decode cX4_emptyBox 31 = .ok (.iaload, 1) := by decide +kernel
theorem dX4_emptyBox_32 : decode cX4_emptyBox 32 = .ok (.iadd, 1) := by decide +kernel
theorem dX4_emptyBox_33 : decode cX4_emptyBox 33 = .ok (.iastore, 1) := by decide +kernel
theorem dX4_emptyBox_34 : decode cX4_emptyBox 34 = .ok (.aload_n 0, 1) := by decide +kernel
theorem dX4_emptyBox_35 : decode cX4_emptyBox 35 = .ok (.getfield 18, 3) := by decide +kernel
theorem dX4_emptyBox_38 : decode cX4_emptyBox 38 = .ok (.iload_n 2, 1) := by decide +kernel
theorem dX4_emptyBox_39 : decode cX4_emptyBox 39 = .ok (.iconst 0, 1) := by decide +kernel
theorem dX4_emptyBox_40 : decode cX4_emptyBox 40 = .ok (.iastore, 1) := by decide +kernel
theorem dX4_emptyBox_41 : decode cX4_emptyBox 41 = .ok (.iinc 2 1, 3) := by decide +kernel
theorem dX4_emptyBox_44 : decode cX4_emptyBox 44 = .ok (.goto (-34), 3) := by decide +kernel
theorem dX4_emptyBox_47 : decode cX4_emptyBox 47 = .ok (.iload_n 1, 1) := by decide +kernel
theorem dX4_emptyBox_48 : decode cX4_emptyBox 48 = .ok (.ireturn, 1) := by decide +kernel
theorem dX4_coinsAgree_0 : decode cX4_coinsAgree 0 = .ok (.iconst 0, 1) := by decide +kernel
theorem dX4_coinsAgree_1 : decode cX4_coinsAgree 1 = .ok (.istore_n 1, 1) := by decide +kernel
theorem dX4_coinsAgree_2 : decode cX4_coinsAgree 2 = .ok (.iload_n 1, 1) := by decide +kernel
theorem dX4_coinsAgree_3 : decode cX4_coinsAgree 3 = .ok (.aload_n 0, 1) := by decide +kernel
theorem dX4_coinsAgree_4 : decode cX4_coinsAgree 4 = .ok (.getfield 24, 3) := by decide +kernel
theorem dX4_coinsAgree_7 : decode cX4_coinsAgree 7 = .ok (.arraylength, 1) := by decide +kernel
theorem dX4_coinsAgree_8 : decode cX4_coinsAgree 8 = .ok (.if_icmp .ge 63, 3) := by decide +kernel
theorem dX4_coinsAgree_11 : decode cX4_coinsAgree 11 = .ok (.aload_n 0, 1) := by decide +kernel
theorem dX4_coinsAgree_12 : decode cX4_coinsAgree 12 = .ok (.getfield 13, 3) := by decide +kernel
theorem dX4_coinsAgree_15 : decode cX4_coinsAgree 15 = .ok (.iload_n 1, 1) := by decide +kernel
theorem dX4_coinsAgree_16 : decode cX4_coinsAgree 16 = .ok (.iaload, 1) := by decide +kernel
theorem dX4_coinsAgree_17 : decode cX4_coinsAgree 17 = .ok (.aload_n 0, 1) := by decide +kernel
theorem dX4_coinsAgree_18 : decode cX4_coinsAgree 18 = .ok (.getfield 18, 3) := by decide +kernel
theorem dX4_coinsAgree_21 : decode cX4_coinsAgree 21 = .ok (.iload_n 1, 1) := by decide +kernel
theorem dX4_coinsAgree_22 : decode cX4_coinsAgree 22 = .ok (.iaload, 1) := by decide +kernel
theorem dX4_coinsAgree_23 : decode cX4_coinsAgree 23 = .ok (.iadd, 1) := by decide +kernel
theorem dX4_coinsAgree_24 : decode cX4_coinsAgree 24 = .ok (.aload_n 0, 1) := by decide +kernel
theorem dX4_coinsAgree_25 : decode cX4_coinsAgree 25 = .ok (.getfield 21, 3) := by decide +kernel
theorem dX4_coinsAgree_28 : decode cX4_coinsAgree 28 = .ok (.iload_n 1, 1) := by decide +kernel
theorem dX4_coinsAgree_29 : decode cX4_coinsAgree 29 = .ok (.iaload, 1) := by decide +kernel
theorem dX4_coinsAgree_30 : decode cX4_coinsAgree 30 = .ok (.iadd, 1) := by decide +kernel
theorem dX4_coinsAgree_31 : decode cX4_coinsAgree 31 = .ok (.aload_n 0, 1) := by decide +kernel
theorem dX4_coinsAgree_32 : decode cX4_coinsAgree 32 = .ok (.getfield 27, 3) := by decide +kernel
theorem dX4_coinsAgree_35 : decode cX4_coinsAgree 35 = .ok (.iload_n 1, 1) := by decide +kernel
theorem dX4_coinsAgree_36 : decode cX4_coinsAgree 36 = .ok (.iaload, 1) := by decide +kernel
theorem dX4_coinsAgree_37 : decode cX4_coinsAgree 37 = .ok (.iadd, 1) := by decide +kernel
theorem dX4_coinsAgree_38 : decode cX4_coinsAgree 38 = .ok (.aload_n 0, 1) := by decide +kernel
theorem dX4_coinsAgree_39 : decode cX4_coinsAgree 39 = .ok (.getfield 30, 3) := by decide +kernel
theorem dX4_coinsAgree_42 : decode cX4_coinsAgree 42 = .ok (.iload_n 1, 1) := by decide +kernel
theorem dX4_coinsAgree_43 : decode cX4_coinsAgree 43 = .ok (.iaload, 1) := by decide +kernel
theorem dX4_coinsAgree_44 : decode cX4_coinsAgree 44 = .ok (.iadd, 1) := by decide +kernel
theorem dX4_coinsAgree_45 : decode cX4_coinsAgree 45 = .ok (.aload_n 0, 1) := by decide +kernel
theorem dX4_coinsAgree_46 : decode cX4_coinsAgree 46 = .ok (.getfield 33, 3) := by decide +kernel
theorem dX4_coinsAgree_49 : decode cX4_coinsAgree 49 = .ok (.iload_n 1, 1) := by decide +kernel
theorem dX4_coinsAgree_50 : decode cX4_coinsAgree 50 = .ok (.iaload, 1) := by decide +kernel
theorem dX4_coinsAgree_51 : decode cX4_coinsAgree 51 = .ok (.iadd, 1) := by decide +kernel
theorem dX4_coinsAgree_52 : decode cX4_coinsAgree 52 = .ok (.istore_n 2, 1) := by decide +kernel
theorem dX4_coinsAgree_53 : decode cX4_coinsAgree 53 = .ok (.aload_n 0, 1) := by decide +kernel
theorem dX4_coinsAgree_54 : decode cX4_coinsAgree 54 = .ok (.getfield 24, 3) := by decide +kernel
theorem dX4_coinsAgree_57 : decode cX4_coinsAgree 57 = .ok (.iload_n 1, 1) := by decide +kernel
theorem dX4_coinsAgree_58 : decode cX4_coinsAgree 58 = .ok (.iaload, 1) := by decide +kernel
theorem dX4_coinsAgree_59 : decode cX4_coinsAgree 59 = .ok (.iload_n 2, 1) := by decide +kernel
theorem dX4_coinsAgree_60 : decode cX4_coinsAgree 60 = .ok (.if_icmp .eq 5, 3) := by decide +kernel
theorem dX4_coinsAgree_63 : decode cX4_coinsAgree 63 = .ok (.iconst 0, 1) := by decide +kernel
theorem dX4_coinsAgree_64 : decode cX4_coinsAgree 64 = .ok (.ireturn, 1) := by decide +kernel
theorem dX4_coinsAgree_65 : decode cX4_coinsAgree 65 = .ok (.iinc 1 1, 3) := by decide +kernel
theorem dX4_coinsAgree_68 : decode cX4_coinsAgree 68 = .ok (.goto (-66), 3) := by decide +kernel
theorem dX4_coinsAgree_71 : decode cX4_coinsAgree 71 = .ok (.iconst 1, 1) := by decide +kernel
theorem dX4_coinsAgree_72 : decode cX4_coinsAgree 72 = .ok (.ireturn, 1) := by decide +kernel
theorem dX5_init_0 : decode cX5_init 0 = .ok (.aload_n 0, 1) := by decide +kernel
theorem dX5_init_1 : decode cX5_init 1 = .ok (.invokespecial 3, 3) := by decide +kernel
theorem dX5_init_4 : decode cX5_init 4 = .ok (.aload_n 0, 1) := by decide +kernel
theorem dX5_init_5 : decode cX5_init 5 = .ok (.bipush 9, 2) := by decide +kernel
theorem dX5_init_7 : decode cX5_init 7 = .ok (.sipush 201, 3) := by decide +kernel
theorem dX5_init_10 : decode cX5_init 10 = .ok (.multianewarray 9 2, 4) := by decide +kernel
theorem dX5_init_14 : decode cX5_init 14 = .ok (.putfield 11, 3) := by decide +kernel
theorem dX5_init_17 : decode cX5_init 17 = .ok (.aload_n 0, 1) := by decide +kernel
theorem dX5_init_18 : decode cX5_init 18 = .ok (.bipush 8, 2) := by decide +kernel
theorem dX5_init_20 : decode cX5_init 20 = .ok (.newarray .int, 2) := by decide +kernel
theorem dX5_init_22 : decode cX5_init 22 = .ok (.putfield 16, 3) := by decide +kernel
theorem dX5_init_25 : decode cX5_init 25 = .ok (.return_, 1) := by decide +kernel
theorem dX5_plan_0 : decode cX5_plan 0 = .ok (.aload_n 0, 1) := by decide +kernel
theorem dX5_plan_1 : decode cX5_plan 1 = .ok (.getfield 11, 3) := by decide +kernel
theorem dX5_plan_4 : decode cX5_plan 4 = .ok (.aload_n 1, 1) := by decide +kernel
theorem dX5_plan_5 : decode cX5_plan 5 = .ok (.getfield 20, 3) := by decide +kernel
theorem dX5_plan_8 : decode cX5_plan 8 = .ok (.aaload, 1) := by decide +kernel
theorem dX5_plan_9 : decode cX5_plan 9 = .ok (.iconst 0, 1) := by decide +kernel
theorem dX5_plan_10 : decode cX5_plan 10 = .ok (.invokestatic 26, 3) := by decide +kernel
theorem dX5_plan_13 : decode cX5_plan 13 = .ok (.aload_n 1, 1) := by decide +kernel
theorem dX5_plan_14 : decode cX5_plan 14 = .ok (.getfield 20, 3) := by decide +kernel
theorem dX5_plan_17 : decode cX5_plan 17 = .ok (.iconst 1, 1) := by decide +kernel
theorem dX5_plan_18 : decode cX5_plan 18 = .ok (.isub, 1) := by decide +kernel
theorem dX5_plan_19 : decode cX5_plan 19 = .ok (.istore 4, 2) := by decide +kernel
theorem dX5_plan_21 : decode cX5_plan 21 = .ok (.iload 4, 2) := by decide +kernel
theorem dX5_plan_23 : decode cX5_plan 23 = .ok (.ifCond .lt 38, 3) := by decide +kernel
theorem dX5_plan_26 : decode cX5_plan 26 = .ok (.aload_n 1, 1) := by decide +kernel
theorem dX5_plan_27 : decode cX5_plan 27 = .ok (.iload 4, 2) := by decide +kernel
theorem dX5_plan_29 : decode cX5_plan 29 = .ok (.invokevirtual 32, 3) := by decide +kernel
theorem dX5_plan_32 : decode cX5_plan 32 = .ok (.astore 5, 2) := by decide +kernel
theorem dX5_plan_34 : decode cX5_plan 34 = .ok (.aload 5, 2) := by decide +kernel
theorem dX5_plan_36 : decode cX5_plan 36 = .ok (.ifnull 19, 3) := by decide +kernel
theorem dX5_plan_39 : decode cX5_plan 39 = .ok (.aload_n 0, 1) := by decide +kernel
theorem dX5_plan_40 : decode cX5_plan 40 = .ok (.iload 4, 2) := by decide +kernel
theorem dX5_plan_42 : decode cX5_plan 42 = .ok (.aload 5, 2) := by decide +kernel
theorem dX5_plan_44 : decode cX5_plan 44 = .ok (.aload_n 2, 1) := by decide +kernel
theorem dX5_plan_45 : decode cX5_plan 45 = .ok (.aload 5, 2) := by decide +kernel
theorem dX5_plan_47 : decode cX5_plan 47 = .ok (.getfield 36, 3) := by decide +kernel
theorem dX5_plan_50 : decode cX5_plan 50 = .ok (.iaload, 1) := by decide +kernel
theorem dX5_plan_51 : decode cX5_plan 51 = .ok (.iload_n 3, 1) := by decide +kernel
theorem dX5_plan_52 : decode cX5_plan 52 = .ok (.invokevirtual 41, 3) := by decide +kernel
theorem dX5_plan_55 : decode cX5_plan 55 = .ok (.iinc 4 (-1), 3) := by decide +kernel
theorem dX5_plan_58 : decode cX5_plan 58 = .ok (.goto (-37), 3) := by decide +kernel
theorem dX5_plan_61 : decode cX5_plan 61 = .ok (.aload_n 0, 1) := by decide +kernel
theorem dX5_plan_62 : decode cX5_plan 62 = .ok (.aload_n 1, 1) := by decide +kernel
theorem dX5_plan_63 : decode cX5_plan 63 = .ok (.aload_n 2, 1) := by decide +kernel
theorem dX5_plan_64 : decode cX5_plan 64 = .ok (.iload_n 3, 1) := by decide +kernel
theorem dX5_plan_65 : decode cX5_plan 65 = .ok (.invokevirtual 45, 3) := by decide +kernel
theorem dX5_plan_68 : decode cX5_plan 68 = .ok (.ireturn, 1) := by decide +kernel
theorem dX5_piecesFor_0 : decode cX5_piecesFor 0 = .ok (.iload_n 1, 1) := by decide +kernel
theorem dX5_piecesFor_1 : decode cX5_piecesFor 1 = .ok (.ifCond .lt 21, 3) := by decide +kernel
theorem dX5_piecesFor_4 : decode cX5_piecesFor 4 = .ok (.iload_n 1, 1) := by decide +kernel
theorem dX5_piecesFor_5 : decode cX5_piecesFor 5 = .ok (.aload_n 0, 1) := by decide +kernel
theorem dX5_piecesFor_6 : decode cX5_piecesFor 6 = .ok (.getfield 16, 3) := by decide +kernel
theorem dX5_piecesFor_9 : decode cX5_piecesFor 9 = .ok (.arraylength, 1) := by decide +kernel
theorem dX5_piecesFor_10 : decode cX5_piecesFor 10 = .ok (.if_icmp .ge 12, 3) := by decide +kernel
theorem dX5_piecesFor_13 : decode cX5_piecesFor 13 = .ok (.aload_n 0, 1) := by decide +kernel
theorem dX5_piecesFor_14 : decode cX5_piecesFor 14 = .ok (.getfield 16, 3) := by decide +kernel
theorem dX5_piecesFor_17 : decode cX5_piecesFor 17 = .ok (.iload_n 1, 1) := by decide +kernel
theorem dX5_piecesFor_18 : decode cX5_piecesFor 18 = .ok (.iaload, 1) := by decide +kernel
theorem dX5_piecesFor_19 : decode cX5_piecesFor 19 = .ok (.goto 4, 3) := by decide +kernel
theorem dX5_piecesFor_22 : decode cX5_piecesFor 22 = .ok (.iconst 0, 1) := by decide +kernel
theorem dX5_piecesFor_23 : decode cX5_piecesFor 23 = .ok (.ireturn, 1) := by decide +kernel
theorem dX5_fillRow_0 : decode cX5_fillRow 0 = .ok (.aload_n 2, 1) := by decide +kernel
theorem dX5_fillRow_1 : decode cX5_fillRow 1 = .ok (.invokestatic 49, 3) := by decide +kernel
theorem dX5_fillRow_4 : decode cX5_fillRow 4 = .ok (.istore 5, 2) := by decide +kernel
theorem dX5_fillRow_6 : decode cX5_fillRow 6 = .ok (.aload_n 2, 1) := by decide +kernel
theorem dX5_fillRow_7 : decode cX5_fillRow 7 = .ok (.iload_n 3, 1) := by decide +kernel
theorem dX5_fillRow_8 : decode cX5_fillRow 8 = .ok (.invokestatic 53, 3) := by decide +kernel
theorem dX5_fillRow_11 : decode cX5_fillRow 11 = .ok (.istore 6, 2) := by decide +kernel
theorem dX5_fillRow_13 : decode cX5_fillRow 13 = .ok (.iconst 0, 1) := by decide +kernel
theorem dX5_fillRow_14 : decode cX5_fillRow 14 = .ok (.istore 7, 2) := by decide +kernel
theorem dX5_fillRow_16 : decode cX5_fillRow 16 = .ok (.iload 7, 2) := by decide +kernel
theorem dX5_fillRow_18 : decode cX5_fillRow 18 = .ok (.iload 4, 2) := by decide +kernel
theorem dX5_fillRow_20 : decode cX5_fillRow 20 = .ok (.if_icmp .gt 78, 3) := by decide +kernel
theorem dX5_fillRow_23 : decode cX5_fillRow 23 = .ok (.iconst 0, 1) := by decide +kernel
theorem dX5_fillRow_24 : decode cX5_fillRow 24 = .ok (.istore 8, 2) := by decide +kernel
theorem dX5_fillRow_26 : decode cX5_fillRow 26 = .ok (.iload 7, 2) := by decide +kernel
theorem dX5_fillRow_28 : decode cX5_fillRow 28 = .ok (.istore 9, 2) := by decide +kernel
theorem dX5_fillRow_30 : decode cX5_fillRow 30 = .ok (.iconst 0, 1) := by decide +kernel
theorem dX5_fillRow_31 : decode cX5_fillRow 31 = .ok (.istore 10, 2) := by decide +kernel
theorem dX5_fillRow_33 : decode cX5_fillRow 33 = .ok (.iload 10, 2) := by decide +kernel
theorem dX5_fillRow_35 : decode cX5_fillRow 35 = .ok (.iload 5, 2) := by decide +kernel
theorem dX5_fillRow_37 : decode cX5_fillRow 37 = .ok (.if_icmp .gt 44, 3) := by decide +kernel
theorem dX5_fillRow_40 : decode cX5_fillRow 40 = .ok (.iload 9, 2) := by decide +kernel
theorem dX5_fillRow_42 : decode cX5_fillRow 42 = .ok (.ifCond .lt 39, 3) := by decide +kernel
theorem dX5_fillRow_45 : decode cX5_fillRow 45 = .ok (.iload 8, 2) := by decide +kernel
theorem dX5_fillRow_47 : decode cX5_fillRow 47 = .ok (.iload 10, 2) := by decide +kernel
theorem dX5_fillRow_49 : decode cX5_fillRow 49 = .ok (.iload 6, 2) := by decide +kernel
theorem dX5_fillRow_51 : decode cX5_fillRow 51 = .ok (.imul, 1) := by decide +kernel
theorem dX5_fillRow_52 : decode cX5_fillRow 52 = .ok (.aload_n 0, 1) := by decide +kernel
theorem dX5_fillRow_53 : decode cX5_fillRow 53 = .ok (.getfield 11, 3) := by decide +kernel
theorem dX5_fillRow_56 : decode cX5_fillRow 56 = .ok (.iload_n 1, 1) := by decide +kernel
theorem dX5_fillRow_57 : decode cX5_fillRow 57 = .ok (.iconst 1, 1) := by decide +kernel
theorem dX5_fillRow_58 : decode cX5_fillRow 58 = .ok (.iadd, 1) := by decide +kernel
theorem dX5_fillRow_59 : decode cX5_fillRow 59 = .ok (.aaload, 1) := by decide +kernel
theorem dX5_fillRow_60 : decode cX5_fillRow 60 = .ok (.iload 9, 2) := by decide +kernel
theorem dX5_fillRow_62 : decode cX5_fillRow 62 = .ok (.iaload, 1) := by decide +kernel
theorem dX5_fillRow_63 : decode cX5_fillRow 63 = .ok (.iadd, 1) := by decide +kernel
theorem dX5_fillRow_64 : decode cX5_fillRow 64 = .ok (.invokestatic 57, 3) := by decide +kernel
theorem dX5_fillRow_67 : decode cX5_fillRow 67 = .ok (.istore 8, 2) := by decide +kernel
theorem dX5_fillRow_69 : decode cX5_fillRow 69 = .ok (.iload 9, 2) := by decide +kernel
theorem dX5_fillRow_71 : decode cX5_fillRow 71 = .ok (.iload_n 3, 1) := by decide +kernel
theorem dX5_fillRow_72 : decode cX5_fillRow 72 = .ok (.isub, 1) := by decide +kernel
theorem dX5_fillRow_73 : decode cX5_fillRow 73 = .ok (.istore 9, 2) := by decide +kernel
theorem dX5_fillRow_75 : decode cX5_fillRow 75 = .ok (.iinc 10 1, 3) := by decide +kernel
theorem dX5_fillRow_78 : decode cX5_fillRow 78 = .ok (.goto (-45), 3) := by decide +kernel
theorem dX5_fillRow_81 : decode cX5_fillRow 81 = .ok (.aload_n 0, 1) := by decide +kernel
theorem dX5_fillRow_82 : decode cX5_fillRow 82 = .ok (.getfield 11, 3) := by decide +kernel
theorem dX5_fillRow_85 : decode cX5_fillRow 85 = .ok (.iload_n 1, 1) := by decide +kernel
theorem dX5_fillRow_86 : decode cX5_fillRow 86 = .ok (.aaload, 1) := by decide +kernel
theorem dX5_fillRow_87 : decode cX5_fillRow 87 = .ok (.iload 7, 2) := by decide +kernel
theorem dX5_fillRow_89 : decode cX5_fillRow 89 = .ok (.iload 8, 2) := by decide +kernel
theorem dX5_fillRow_91 : decode cX5_fillRow 91 = .ok (.iastore, 1) := by decide +kernel
theorem dX5_fillRow_92 : decode cX5_fillRow 92 = .ok (.iinc 7 1, 3) := by decide +kernel
theorem dX5_fillRow_95 : decode cX5_fillRow 95 = .ok (.goto (-79), 3) := by decide +kernel
theorem dX5_fillRow_98 : decode cX5_fillRow 98 = .ok (.return_, 1) := by decide +kernel
theorem dX5_takePieces_0 : decode cX5_takePieces 0 = .ok (.aload_n 0, 1) := by decide +kernel
theorem dX5_takePieces_1 : decode cX5_takePieces 1 = .ok (.getfield 16, 3) := by decide +kernel
theorem dX5_takePieces_4 : decode cX5_takePieces 4 = .ok (.iconst 0, 1) := by decide +kernel
theorem dX5_takePieces_5 : decode cX5_takePieces 5 = .ok (.invokestatic 26, 3) := by decide +kernel
theorem dX5_takePieces_8 : decode cX5_takePieces 8 = .ok (.iload_n 3, 1) := by decide +kernel
theorem dX5_takePieces_9 : decode cX5_takePieces 9 = .ok (.istore 4, 2) := by decide +kernel
theorem dX5_takePieces_11 : decode cX5_takePieces 11 = .ok (.iconst 0, 1) := by decide +kernel
theorem dX5_takePieces_12 : decode cX5_takePieces 12 = .ok (.istore 5, 2) := by decide +kernel
theorem dX5_takePieces_14 : decode cX5_takePieces 14 = .ok (.iconst 0, 1) := by decide +kernel
theorem dX5_takePieces_15 : decode cX5_takePieces 15 = .ok (.istore 6, 2) := by decide +kernel
theorem dX5_takePieces_17 : decode cX5_takePieces 17 = .ok (.iload 6, 2) := by decide +kernel
theorem dX5_takePieces_19 : decode cX5_takePieces 19 = .ok (.aload_n 1, 1) := by decide +kernel
theorem dX5_takePieces_20 : decode cX5_takePieces 20 = .ok (.getfield 20, 3) := by decide +kernel
theorem dX5_takePieces_23 : decode cX5_takePieces 23 = .ok (.if_icmp .ge 84, 3) := by decide +kernel
theorem dX5_takePieces_26 : decode cX5_takePieces 26 = .ok (.aload_n 1, 1) := by decide +kernel
theorem dX5_takePieces_27 : decode cX5_takePieces 27 = .ok (.iload 6, 2) := by decide +kernel
theorem dX5_takePieces_29 : decode cX5_takePieces 29 = .ok (.invokevirtual 32, 3) := by decide +kernel
theorem dX5_takePieces_32 : decode cX5_takePieces 32 = .ok (.astore 7, 2) := by decide +kernel
theorem dX5_takePieces_34 : decode cX5_takePieces 34 = .ok (.aload 7, 2) := by decide +kernel
theorem dX5_takePieces_36 : decode cX5_takePieces 36 = .ok (.ifnull 65, 3) := by decide +kernel
theorem dX5_takePieces_39 : decode cX5_takePieces 39 = .ok (.aload_n 0, 1) := by decide +kernel
theorem dX5_takePieces_40 : decode cX5_takePieces 40 = .ok (.getfield 16, 3) := by decide +kernel
theorem dX5_takePieces_43 : decode cX5_takePieces 43 = .ok (.iload 6, 2) := by decide +kernel
theorem dX5_takePieces_45 : decode cX5_takePieces 45 = .ok (.aload_n 0, 1) := by decide +kernel
theorem dX5_takePieces_46 : decode cX5_takePieces 46 = .ok (.iload 6, 2) := by decide +kernel
theorem dX5_takePieces_48 : decode cX5_takePieces 48 = .ok (.aload 7, 2) := by decide +kernel
theorem dX5_takePieces_50 : decode cX5_takePieces 50 = .ok (.aload_n 2, 1) := by decide +kernel
theorem dX5_takePieces_51 : decode cX5_takePieces 51 = .ok (.aload 7, 2) := by decide +kernel
theorem dX5_takePieces_53 : decode cX5_takePieces 53 = .ok (.getfield 36, 3) := by decide +kernel
theorem dX5_takePieces_56 : decode cX5_takePieces 56 = .ok (.iaload, 1) := by decide +kernel
theorem dX5_takePieces_57 : decode cX5_takePieces 57 = .ok (.iload 4, 2) := by decide +kernel
theorem dX5_takePieces_59 : decode cX5_takePieces 59 = .ok (.invokevirtual 63, 3) := by decide +kernel
theorem dX5_takePieces_62 : decode cX5_takePieces 62 = .ok (.iastore, 1) := by decide +kernel
theorem dX5_takePieces_63 : decode cX5_takePieces 63 = .ok (.iload 4, 2) := by decide +kernel
theorem dX5_takePieces_65 : decode cX5_takePieces 65 = .ok (.aload_n 0, 1) := by decide +kernel
theorem dX5_takePieces_66 : decode cX5_takePieces 66 = .ok (.getfield 16, 3) := by decide +kernel
theorem dX5_takePieces_69 : decode cX5_takePieces 69 = .ok (.iload 6, 2) := by decide +kernel
theorem dX5_takePieces_71 : decode cX5_takePieces 71 = .ok (.iaload, 1) := by decide +kernel
theorem dX5_takePieces_72 : decode cX5_takePieces 72 = .ok (.aload_n 2, 1) := by decide +kernel
theorem dX5_takePieces_73 : decode cX5_takePieces 73 = .ok (.aload 7, 2) := by decide +kernel
theorem dX5_takePieces_75 : decode cX5_takePieces 75 = .ok (.getfield 36, 3) := by decide +kernel
theorem dX5_takePieces_78 : decode cX5_takePieces 78 = .ok (.iaload, 1) := by decide +kernel
theorem dX5_takePieces_79 : decode cX5_takePieces 79 = .ok (.imul, 1) := by decide +kernel
theorem dX5_takePieces_80 : decode cX5_takePieces 80 = .ok (.isub, 1) := by decide +kernel
theorem dX5_takePieces_81 : decode cX5_takePieces 81 = .ok (.istore 4, 2) := by decide +kernel
theorem dX5_takePieces_83 : decode cX5_takePieces 83 = .ok (.iload 5, 2) := by decide +kernel
theorem dX5_takePieces_85 : decode cX5_takePieces 85 = .ok (.aload_n 0, 1) := by decide +kernel
theorem dX5_takePieces_86 : decode cX5_takePieces 86 = .ok (.getfield 16, 3) := by decide +kernel
theorem dX5_takePieces_89 : decode cX5_takePieces 89 = .ok (.iload 6, 2) := by decide +kernel
theorem dX5_takePieces_91 : decode cX5_takePieces 91 = .ok (.iaload, 1) := by decide +kernel
theorem dX5_takePieces_92 : decode cX5_takePieces 92 = .ok (.aload 7, 2) := by decide +kernel
theorem dX5_takePieces_94 : decode cX5_takePieces 94 = .ok (.getfield 67, 3) := by decide +kernel
theorem dX5_takePieces_97 : decode cX5_takePieces 97 = .ok (.imul, 1) := by decide +kernel
theorem dX5_takePieces_98 : decode cX5_takePieces 98 = .ok (.iadd, 1) := by decide +kernel
theorem dX5_takePieces_99 : decode cX5_takePieces 99 = .ok (.istore 5, 2) := by decide +kernel
theorem dX5_takePieces_101 : decode cX5_takePieces 101 = .ok (.iinc 6 1, 3) := by decide +kernel
theorem dX5_takePieces_104 : decode cX5_takePieces 104 = .ok (.goto (-87), 3) := by decide +kernel
theorem dX5_takePieces_107 : decode cX5_takePieces 107 = .ok (.iload 5, 2) := by decide +kernel
theorem dX5_takePieces_109 : decode cX5_takePieces 109 = .ok (.ireturn, 1) := by decide +kernel
theorem dX5_mostAtBest_0 : decode cX5_mostAtBest 0 = .ok (.aload_n 2, 1) := by decide +kernel
theorem dX5_mostAtBest_1 : decode cX5_mostAtBest 1 = .ok (.iload_n 3, 1) := by decide +kernel
theorem dX5_mostAtBest_2 : decode cX5_mostAtBest 2 = .ok (.invokestatic 53, 3) := by decide +kernel
theorem dX5_mostAtBest_5 : decode cX5_mostAtBest 5 = .ok (.istore 5, 2) := by decide +kernel
theorem dX5_mostAtBest_7 : decode cX5_mostAtBest 7 = .ok (.iconst 0, 1) := by decide +kernel
theorem dX5_mostAtBest_8 : decode cX5_mostAtBest 8 = .ok (.istore 6, 2) := by decide +kernel
theorem dX5_mostAtBest_10 : decode cX5_mostAtBest 10 = .ok (.iload 4, 2) := by decide +kernel
theorem dX5_mostAtBest_12 : decode cX5_mostAtBest 12 = .ok (.istore 7, 2) := by decide +kernel
theorem dX5_mostAtBest_14 : decode cX5_mostAtBest 14 = .ok (.iconst 0, 1) := by decide +kernel
theorem dX5_mostAtBest_15 : decode cX5_mostAtBest 15 = .ok (.istore 8, 2) := by decide +kernel
theorem dX5_mostAtBest_17 : decode cX5_mostAtBest 17 = .ok (.iload 8, 2) := by decide +kernel
theorem dX5_mostAtBest_19 : decode cX5_mostAtBest 19 = .ok (.aload_n 2, 1) := by decide +kernel
theorem dX5_mostAtBest_20 : decode cX5_mostAtBest 20 = .ok (.invokestatic 49, 3) := by decide +kernel
theorem dX5_mostAtBest_23 : decode cX5_mostAtBest 23 = .ok (.if_icmp .gt 53, 3) := by decide +kernel
theorem dX5_mostAtBest_26 : decode cX5_mostAtBest 26 = .ok (.iload 7, 2) := by decide +kernel
theorem dX5_mostAtBest_28 : decode cX5_mostAtBest 28 = .ok (.ifCond .lt 48, 3) := by decide +kernel
theorem dX5_mostAtBest_31 : decode cX5_mostAtBest 31 = .ok (.iload 8, 2) := by decide +kernel
theorem dX5_mostAtBest_33 : decode cX5_mostAtBest 33 = .ok (.iload 5, 2) := by decide +kernel
theorem dX5_mostAtBest_35 : decode cX5_mostAtBest 35 = .ok (.imul, 1) := by decide +kernel
theorem dX5_mostAtBest_36 : decode cX5_mostAtBest 36 = .ok (.aload_n 0, 1) := by decide +kernel
theorem dX5_mostAtBest_37 : decode cX5_mostAtBest 37 = .ok (.getfield 11, 3) := by decide +kernel
theorem dX5_mostAtBest_40 : decode cX5_mostAtBest 40 = .ok (.iload_n 1, 1) := by decide +kernel
theorem dX5_mostAtBest_41 : decode cX5_mostAtBest 41 = .ok (.iconst 1, 1) := by decide +kernel
theorem dX5_mostAtBest_42 : decode cX5_mostAtBest 42 = .ok (.iadd, 1) := by decide +kernel
theorem dX5_mostAtBest_43 : decode cX5_mostAtBest 43 = .ok (.aaload, 1) := by decide +kernel
theorem dX5_mostAtBest_44 : decode cX5_mostAtBest 44 = .ok (.iload 7, 2) := by decide +kernel
theorem dX5_mostAtBest_46 : decode cX5_mostAtBest 46 = .ok (.iaload, 1) := by decide +kernel
theorem dX5_mostAtBest_47 : decode cX5_mostAtBest 47 = .ok (.iadd, 1) := by decide +kernel
theorem dX5_mostAtBest_48 : decode cX5_mostAtBest 48 = .ok (.aload_n 0, 1) := by decide +kernel
theorem dX5_mostAtBest_49 : decode cX5_mostAtBest 49 = .ok (.getfield 11, 3) := by decide +kernel
theorem dX5_mostAtBest_52 : decode cX5_mostAtBest 52 = .ok (.iload_n 1, 1) := by decide +kernel
theorem dX5_mostAtBest_53 : decode cX5_mostAtBest 53 = .ok (.aaload, 1) := by decide +kernel
theorem dX5_mostAtBest_54 : decode cX5_mostAtBest 54 = .ok (.iload 4, 2) := by decide +kernel
theorem dX5_mostAtBest_56 : decode cX5_mostAtBest 56 = .ok (.iaload, 1) := by decide +kernel
theorem dX5_mostAtBest_57 : decode cX5_mostAtBest 57 = .ok (.if_icmp .ne 7, 3) := by decide +kernel
theorem dX5_mostAtBest_60 : decode cX5_mostAtBest 60 = .ok (.iload 8, 2) := by decide +kernel
theorem dX5_mostAtBest_62 : decode cX5_mostAtBest 62 = .ok (.istore 6, 2) := by decide +kernel
theorem dX5_mostAtBest_64 : decode cX5_mostAtBest 64 = .ok (.iload 7, 2) := by decide +kernel
theorem dX5_mostAtBest_66 : decode cX5_mostAtBest 66 = .ok (.iload_n 3, 1) := by decide +kernel
theorem dX5_mostAtBest_67 : decode cX5_mostAtBest 67 = .ok (.isub, 1) := by decide +kernel
theorem dX5_mostAtBest_68 : decode cX5_mostAtBest 68 = .ok (.istore 7, 2) := by decide +kernel
theorem dX5_mostAtBest_70 : decode cX5_mostAtBest 70 = .ok (.iinc 8 1, 3) := by decide +kernel
theorem dX5_mostAtBest_73 : decode cX5_mostAtBest 73 = .ok (.goto (-56), 3) := by decide +kernel
theorem dX5_mostAtBest_76 : decode cX5_mostAtBest 76 = .ok (.iload 6, 2) := by decide +kernel
theorem dX5_mostAtBest_78 : decode cX5_mostAtBest 78 = .ok (.ireturn, 1) := by decide +kernel
theorem dX5_spaceIn_0 : decode cX5_spaceIn 0 = .ok (.aload_n 0, 1) := by decide +kernel
theorem dX5_spaceIn_1 : decode cX5_spaceIn 1 = .ok (.invokevirtual 70, 3) := by decide +kernel
theorem dX5_spaceIn_4 : decode cX5_spaceIn 4 = .ok (.ifCond .eq 7, 3) := by decide +kernel
theorem dX5_spaceIn_7 : decode cX5_spaceIn 7 = .ok (.iconst 0, 1) := by decide +kernel
theorem dX5_spaceIn_8 : decode cX5_spaceIn 8 = .ok (.goto 12, 3) := by decide +kernel
theorem dX5_spaceIn_11 : decode cX5_spaceIn 11 = .ok (.aload_n 0, 1) := by decide +kernel
theorem dX5_spaceIn_12 : decode cX5_spaceIn 12 = .ok (.getfield 74, 3) := by decide +kernel
theorem dX5_spaceIn_15 : decode cX5_spaceIn 15 = .ok (.aload_n 0, 1) := by decide +kernel
theorem dX5_spaceIn_16 : decode cX5_spaceIn 16 = .ok (.getfield 77, 3) := by decide +kernel
theorem dX5_spaceIn_19 : decode cX5_spaceIn 19 = .ok (.isub, 1) := by decide +kernel
theorem dX5_spaceIn_20 : decode cX5_spaceIn 20 = .ok (.ireturn, 1) := by decide +kernel
theorem dX5_gainOf_0 : decode cX5_gainOf 0 = .ok (.aload_n 0, 1) := by decide +kernel
theorem dX5_gainOf_1 : decode cX5_gainOf 1 = .ok (.getfield 67, 3) := by decide +kernel
theorem dX5_gainOf_4 : decode cX5_gainOf 4 = .ok (.sipush 256, 3) := by decide +kernel
theorem dX5_gainOf_7 : decode cX5_gainOf 7 = .ok (.imul, 1) := by decide +kernel
theorem dX5_gainOf_8 : decode cX5_gainOf 8 = .ok (.iload_n 1, 1) := by decide +kernel
theorem dX5_gainOf_9 : decode cX5_gainOf 9 = .ok (.isub, 1) := by decide +kernel
theorem dX5_gainOf_10 : decode cX5_gainOf 10 = .ok (.ireturn, 1) := by decide +kernel
theorem dJ9_max_7cf53_0 : decode cJ9_max_7cf53 0 = .ok (.iload_n 0, 1) := by decide +kernel
theorem dJ9_max_7cf53_1 : decode cJ9_max_7cf53 1 = .ok (.iload_n 1, 1) := by decide +kernel
theorem dJ9_max_7cf53_2 : decode cJ9_max_7cf53 2 = .ok (.if_icmp .lt 7, 3) := by decide +kernel
theorem dJ9_max_7cf53_5 : decode cJ9_max_7cf53 5 = .ok (.iload_n 0, 1) := by decide +kernel
theorem dJ9_max_7cf53_6 : decode cJ9_max_7cf53 6 = .ok (.goto 4, 3) := by decide +kernel
theorem dJ9_max_7cf53_9 : decode cJ9_max_7cf53 9 = .ok (.iload_n 1, 1) := by decide +kernel
theorem dJ9_max_7cf53_10 : decode cJ9_max_7cf53 10 = .ok (.ireturn, 1) := by decide +kernel
theorem dJ9_min_7cf53_0 : decode cJ9_min_7cf53 0 = .ok (.iload_n 0, 1) := by decide +kernel
theorem dJ9_min_7cf53_1 : decode cJ9_min_7cf53 1 = .ok (.iload_n 1, 1) := by decide +kernel
theorem dJ9_min_7cf53_2 : decode cJ9_min_7cf53 2 = .ok (.if_icmp .gt 7, 3) := by decide +kernel
theorem dJ9_min_7cf53_5 : decode cJ9_min_7cf53 5 = .ok (.iload_n 0, 1) := by decide +kernel
theorem dJ9_min_7cf53_6 : decode cJ9_min_7cf53 6 = .ok (.goto 4, 3) := by decide +kernel
theorem dJ9_min_7cf53_9 : decode cJ9_min_7cf53 9 = .ok (.iload_n 1, 1) := by decide +kernel
theorem dJ9_min_7cf53_10 : decode cJ9_min_7cf53 10 = .ok (.ireturn, 1) := by decide +kernel
theorem dJ7_fill_53178_0 : decode cJ7_fill_53178 0 = .ok (.iconst 0, 1) := by decide +kernel
theorem dJ7_fill_53178_1 : decode cJ7_fill_53178 1 = .ok (.istore_n 2, 1) := by decide +kernel
theorem dJ7_fill_53178_2 : decode cJ7_fill_53178 2 = .ok (.aload_n 0, 1) := by decide +kernel
theorem dJ7_fill_53178_3 : decode cJ7_fill_53178 3 = .ok (.arraylength, 1) := by decide +kernel
theorem dJ7_fill_53178_4 : decode cJ7_fill_53178 4 = .ok (.istore_n 3, 1) := by decide +kernel
theorem dJ7_fill_53178_5 : decode cJ7_fill_53178 5 = .ok (.iload_n 2, 1) := by decide +kernel
theorem dJ7_fill_53178_6 : decode cJ7_fill_53178 6 = .ok (.iload_n 3, 1) := by decide +kernel
theorem dJ7_fill_53178_7 : decode cJ7_fill_53178 7 = .ok (.if_icmp .ge 13, 3) := by decide +kernel
theorem dJ7_fill_53178_10 : decode cJ7_fill_53178 10 = .ok (.aload_n 0, 1) := by decide +kernel
theorem dJ7_fill_53178_11 : decode cJ7_fill_53178 11 = .ok (.iload_n 2, 1) := by decide +kernel
theorem dJ7_fill_53178_12 : decode cJ7_fill_53178 12 = .ok (.iload_n 1, 1) := by decide +kernel
theorem dJ7_fill_53178_13 : decode cJ7_fill_53178 13 = .ok (.iastore, 1) := by decide +kernel
theorem dJ7_fill_53178_14 : decode cJ7_fill_53178 14 = .ok (.iinc 2 1, 3) := by decide +kernel
theorem dJ7_fill_53178_17 : decode cJ7_fill_53178 17 = .ok (.goto (-12), 3) := by decide +kernel
theorem dJ7_fill_53178_20 : decode cJ7_fill_53178 20 = .ok (.return_, 1) := by decide +kernel
