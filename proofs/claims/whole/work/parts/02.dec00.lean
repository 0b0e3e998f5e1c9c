theorem dX0_init_0 : decode cX0_init 0 = .ok (.aload_n 0, 1) := by decide +kernel
theorem dX0_init_1 : decode cX0_init 1 = .ok (.invokespecial 3, 3) := by decide +kernel
theorem dX0_init_4 : decode cX0_init 4 = .ok (.aload_n 0, 1) := by decide +kernel
theorem dX0_init_5 : decode cX0_init 5 = .ok (.sipush 4321, 3) := by decide +kernel
theorem dX0_init_8 : decode cX0_init 8 = .ok (.newarray .int, 2) := by decide +kernel
theorem dX0_init_10 : decode cX0_init 10 = .ok (.putfield 9, 3) := by decide +kernel
theorem dX0_init_13 : decode cX0_init 13 = .ok (.aload_n 0, 1) := by decide +kernel
theorem dX0_init_14 : decode cX0_init 14 = .ok (.iconst 0, 1) := by decide +kernel
theorem dX0_init_15 : decode cX0_init 15 = .ok (.putfield 15, 3) := by decide +kernel
theorem dX0_init_18 : decode cX0_init 18 = .ok (.aload_n 0, 1) := by decide +kernel
theorem dX0_init_19 : decode cX0_init 19 = .ok (.iconst 0, 1) := by decide +kernel
theorem dX0_init_20 : decode cX0_init 20 = .ok (.putfield 19, 3) := by decide +kernel
theorem dX0_init_23 : decode cX0_init 23 = .ok (.aload_n 0, 1) := by decide +kernel
theorem dX0_init_24 : decode cX0_init 24 = .ok (.aload_n 1, 1) := by decide +kernel
theorem dX0_init_25 : decode cX0_init 25 = .ok (.putfield 22, 3) := by decide +kernel
theorem dX0_init_28 : decode cX0_init 28 = .ok (.aload_n 0, 1) := by decide +kernel
theorem dX0_init_29 : decode cX0_init 29 = .ok (.aload_n 1, 1) := by decide +kernel
theorem dX0_init_30 : decode cX0_init 30 = .ok (.getfield 26, 3) := by decide +kernel
theorem dX0_init_33 : decode cX0_init 33 = .ok (.putfield 32, 3) := by decide +kernel
theorem dX0_init_36 : decode cX0_init 36 = .ok (.aload_n 0, 1) := by decide +kernel
theorem dX0_init_37 : decode cX0_init 37 = .ok (.aload_n 2, 1) := by decide +kernel
theorem dX0_init_38 : decode cX0_init 38 = .ok (.putfield 33, 3) := by decide +kernel
theorem dX0_init_41 : decode cX0_init 41 = .ok (.return_, 1) := by decide +kernel
theorem dX0_find_0 : decode cX0_find 0 = .ok (.aload_n 0, 1) := by decide +kernel
theorem dX0_find_1 : decode cX0_find 1 = .ok (.getfield 33, 3) := by decide +kernel
theorem dX0_find_4 : decode cX0_find 4 = .ok (.invokevirtual 37, 3) := by decide +kernel
theorem dX0_find_7 : decode cX0_find 7 = .ok (.iconst 0, 1) := by decide +kernel
theorem dX0_find_8 : decode cX0_find 8 = .ok (.istore_n 2, 1) := by decide +kernel
theorem dX0_find_9 : decode cX0_find 9 = .ok (.aload_n 0, 1) := by decide +kernel
theorem dX0_find_10 : decode cX0_find 10 = .ok (.getfield 9, 3) := by decide +kernel
theorem dX0_find_13 : decode cX0_find 13 = .ok (.iconst 0, 1) := by decide +kernel
theorem dX0_find_14 : decode cX0_find 14 = .ok (.iconst 0, 1) := by decide +kernel
theorem dX0_find_15 : decode cX0_find 15 = .ok (.iastore, 1) := by decide +kernel
theorem dX0_find_16 : decode cX0_find 16 = .ok (.iconst 0, 1) := by decide +kernel
theorem dX0_find_17 : decode cX0_find 17 = .ok (.istore_n 3, 1) := by decide +kernel
theorem dX0_find_18 : decode cX0_find 18 = .ok (.iload_n 3, 1) := by decide +kernel
theorem dX0_find_19 : decode cX0_find 19 = .ok (.aload_n 0, 1) := by decide +kernel
theorem dX0_find_20 : decode cX0_find 20 = .ok (.getfield 32, 3) := by decide +kernel
theorem dX0_find_23 : decode cX0_find 23 = .ok (.getfield 42, 3) := by decide +kernel
theorem dX0_find_26 : decode cX0_find 26 = .ok (.if_icmp .ge 73, 3) := by decide +kernel
theorem dX0_find_29 : decode cX0_find 29 = .ok (.iload_n 3, 1) := by decide +kernel
theorem dX0_find_30 : decode cX0_find 30 = .ok (.bipush 16, 2) := by decide +kernel
theorem dX0_find_32 : decode cX0_find 32 = .ok (.if_icmp .ge 67, 3) := by decide +kernel
theorem dX0_find_35 : decode cX0_find 35 = .ok (.aload_n 0, 1) := by decide +kernel
theorem dX0_find_36 : decode cX0_find 36 = .ok (.getfield 32, 3) := by decide +kernel
theorem dX0_find_39 : decode cX0_find 39 = .ok (.getfield 47, 3) := by decide +kernel
theorem dX0_find_42 : decode cX0_find 42 = .ok (.iload_n 3, 1) := by decide +kernel
theorem dX0_find_43 : decode cX0_find 43 = .ok (.iaload, 1) := by decide +kernel
theorem dX0_find_44 : decode cX0_find 44 = .ok (.iload_n 1, 1) := by decide +kernel
theorem dX0_find_45 : decode cX0_find 45 = .ok (.if_icmp .ne 48, 3) := by decide +kernel
theorem dX0_find_48 : decode cX0_find 48 = .ok (.aload_n 0, 1) := by decide +kernel
theorem dX0_find_49 : decode cX0_find 49 = .ok (.getfield 33, 3) := by decide +kernel
theorem dX0_find_52 : decode cX0_find 52 = .ok (.getfield 50, 3) := by decide +kernel
theorem dX0_find_55 : decode cX0_find 55 = .ok (.iload_n 3, 1) := by decide +kernel
theorem dX0_find_56 : decode cX0_find 56 = .ok (.baload, 1) := by decide +kernel
theorem dX0_find_57 : decode cX0_find 57 = .ok (.ifCond .ne 36, 3) := by decide +kernel
theorem dX0_find_60 : decode cX0_find 60 = .ok (.aload_n 0, 1) := by decide +kernel
theorem dX0_find_61 : decode cX0_find 61 = .ok (.getfield 32, 3) := by decide +kernel
theorem dX0_find_64 : decode cX0_find 64 = .ok (.getfield 54, 3) := by decide +kernel
theorem dX0_find_67 : decode cX0_find 67 = .ok (.iload_n 3, 1) := by decide +kernel
theorem dX0_find_68 : decode cX0_find 68 = .ok (.iaload, 1) := by decide +kernel
theorem dX0_find_69 : decode cX0_find 69 = .ok (.aload_n 0, 1) := by decide +kernel
theorem dX0_find_70 : decode cX0_find 70 = .ok (.getfield 22, 3) := by decide +kernel
theorem dX0_find_73 : decode cX0_find 73 = .ok (.iload_n 3, 1) := by decide +kernel
theorem dX0_find_74 : decode cX0_find 74 = .ok (.invokevirtual 57, 3) := by decide +kernel
theorem dX0_find_77 : decode cX0_find 77 = .ok (.imul, 1) := by decide +kernel
theorem dX0_find_78 : decode cX0_find 78 = .ok (.istore 4, 2) := by decide +kernel
theorem dX0_find_80 : decode cX0_find 80 = .ok (.aload_n 0, 1) := by decide +kernel
theorem dX0_find_81 : decode cX0_find 81 = .ok (.iload_n 3, 1) := by decide +kernel
theorem dX0_find_82 : decode cX0_find 82 = .ok (.iload 4, 2) := by decide +kernel
theorem dX0_find_84 : decode cX0_find 84 = .ok (.iload_n 2, 1) := by decide +kernel
theorem dX0_find_85 : decode cX0_find 85 = .ok (.invokevirtual 61, 3) := by decide +kernel
theorem dX0_find_88 : decode cX0_find 88 = .ok (.iload_n 2, 1) := by decide +kernel
theorem dX0_find_89 : decode cX0_find 89 = .ok (.iload 4, 2) := by decide +kernel
theorem dX0_find_91 : decode cX0_find 91 = .ok (.iadd, 1) := by decide +kernel
theorem dX0_find_92 : decode cX0_find 92 = .ok (.istore_n 2, 1) := by decide +kernel
theorem dX0_find_93 : decode cX0_find 93 = .ok (.iinc 3 1, 3) := by decide +kernel
theorem dX0_find_96 : decode cX0_find 96 = .ok (.goto (-78), 3) := by decide +kernel
theorem dX0_find_99 : decode cX0_find 99 = .ok (.aload_n 0, 1) := by decide +kernel
theorem dX0_find_100 : decode cX0_find 100 = .ok (.iload_n 2, 1) := by decide +kernel
theorem dX0_find_101 : decode cX0_find 101 = .ok (.invokevirtual 65, 3) := by decide +kernel
theorem dX0_find_104 : decode cX0_find 104 = .ok (.return_, 1) := by decide +kernel
theorem dX0_share_0 : decode cX0_share 0 = .ok (.iload_n 3, 1) := by decide +kernel
theorem dX0_share_1 : decode cX0_share 1 = .ok (.iload_n 2, 1) := by decide +kernel
theorem dX0_share_2 : decode cX0_share 2 = .ok (.iadd, 1) := by decide +kernel
theorem dX0_share_3 : decode cX0_share 3 = .ok (.istore 4, 2) := by decide +kernel
theorem dX0_share_5 : decode cX0_share 5 = .ok (.iload_n 2, 1) := by decide +kernel
theorem dX0_share_6 : decode cX0_share 6 = .ok (.iconst 1, 1) := by decide +kernel
theorem dX0_share_7 : decode cX0_share 7 = .ok (.if_icmp .lt 17, 3) := by decide +kernel
theorem dX0_share_10 : decode cX0_share 10 = .ok (.iload_n 3, 1) := by decide +kernel
theorem dX0_share_11 : decode cX0_share 11 = .ok (.ifCond .lt 13, 3) := by decide +kernel
theorem dX0_share_14 : decode cX0_share 14 = .ok (.iload 4, 2) := by decide +kernel
theorem dX0_share_16 : decode cX0_share 16 = .ok (.aload_n 0, 1) := by decide +kernel
theorem dX0_share_17 : decode cX0_share 17 = .ok (.getfield 9, 3) := by decide +kernel
theorem dX0_share_20 : decode cX0_share 20 = .ok (.arraylength, 1) := by decide +kernel
theorem dX0_share_21 : decode cX0_share 21 = .ok (.if_icmp .lt 4, 3) := by decide +kernel
theorem dX0_share_24 : decode cX0_share 24 = .ok (.return_, 1) := by decide +kernel
theorem dX0_share_25 : decode cX0_share 25 = .ok (.iload_n 3, 1) := by decide +kernel
theorem dX0_share_26 : decode cX0_share 26 = .ok (.iconst 1, 1) := by decide +kernel
theorem dX0_share_27 : decode cX0_share 27 = .ok (.iadd, 1) := by decide +kernel
theorem dX0_share_28 : decode cX0_share 28 = .ok (.istore 5, 2) := by decide +kernel
theorem dX0_share_30 : decode cX0_share 30 = .ok (.iload 5, 2) := by decide +kernel
theorem dX0_share_32 : decode cX0_share 32 = .ok (.iload 4, 2) := by decide +kernel
theorem dX0_share_34 : decode cX0_share 34 = .ok (.if_icmp .gt 17, 3) := by decide +kernel
theorem dX0_share_37 : decode cX0_share 37 = .ok (.aload_n 0, 1) := by decide +kernel
theorem dX0_share_38 : decode cX0_share 38 = .ok (.getfield 9, 3) := by decide +kernel
theorem dX0_share_41 : decode cX0_share 41 = .ok (.iload 5, 2) := by decide +kernel
theorem dX0_share_43 : decode cX0_share 43 = .ok (.iconst (-1), 1) := by decide +kernel
theorem dX0_share_44 : decode cX0_share 44 = .ok (.iastore, 1) := by decide +kernel
theorem dX0_share_45 : decode cX0_share 45 = .ok (.iinc 5 1, 3) := by decide +kernel
theorem dX0_share_48 : decode cX0_share 48 = .ok (.goto (-18), 3) := by decide +kernel
theorem dX0_share_51 : decode cX0_share 51 = .ok (.iload_n 3, 1) := by decide +kernel
theorem dX0_share_52 : decode cX0_share 52 = .ok (.istore 5, 2) := by decide +kernel
theorem dX0_share_54 : decode cX0_share 54 = .ok (.iload 5, 2) := by decide +kernel
theorem dX0_share_56 : decode cX0_share 56 = .ok (.ifCond .lt 53, 3) := by decide +kernel
theorem dX0_share_59 : decode cX0_share 59 = .ok (.aload_n 0, 1) := by decide +kernel
theorem dX0_share_60 : decode cX0_share 60 = .ok (.getfield 9, 3) := by decide +kernel
theorem dX0_share_63 : decode cX0_share 63 = .ok (.iload 5, 2) := by decide +kernel
theorem dX0_share_65 : decode cX0_share 65 = .ok (.iaload, 1) := by decide +kernel
theorem dX0_share_66 : decode cX0_share 66 = .ok (.iconst (-1), 1) := by decide +kernel
theorem dX0_share_67 : decode cX0_share 67 = .ok (.if_icmp .eq 36, 3) := by decide +kernel
theorem dX0_share_70 : decode cX0_share 70 = .ok (.aload_n 0, 1) := by decide +kernel
theorem dX0_share_71 : decode cX0_share 71 = .ok (.getfield 9, 3) := by decide +kernel
theorem dX0_share_74 : decode cX0_share 74 = .ok (.iload 5, 2) := by decide +kernel
theorem dX0_share_76 : decode cX0_share 76 = .ok (.iload_n 2, 1) := by decide +kernel
theorem dX0_share_77 : decode cX0_share 77 = .ok (.iadd, 1) := by decide +kernel
theorem dX0_share_78 : decode cX0_share 78 = .ok (.iaload, 1) := by decide +kernel
theorem dX0_share_79 : decode cX0_share 79 = .ok (.iconst (-1), 1) := by decide +kernel
theorem dX0_share_80 : decode cX0_share 80 = .ok (.if_icmp .ne 23, 3) := by decide +kernel
theorem dX0_share_83 : decode cX0_share 83 = .ok (.aload_n 0, 1) := by decide +kernel
theorem dX0_share_84 : decode cX0_share 84 = .ok (.getfield 9, 3) := by decide +kernel
theorem dX0_share_87 : decode cX0_share 87 = .ok (.iload 5, 2) := by decide +kernel
theorem dX0_share_89 : decode cX0_share 89 = .ok (.iload_n 2, 1) := by decide +kernel
theorem dX0_share_90 : decode cX0_share 90 = .ok (.iadd, 1) := by decide +kernel
theorem dX0_share_91 : decode cX0_share 91 = .ok (.aload_n 0, 1) := by decide +kernel
theorem dX0_share_92 : decode cX0_share 92 = .ok (.getfield 9, 3) := by decide +kernel
theorem dX0_share_95 : decode cX0_share 95 = .ok (.iload 5, 2) := by decide +kernel
theorem dX0_share_97 : decode cX0_share 97 = .ok (.iaload, 1) := by decide +kernel
theorem dX0_share_98 : decode cX0_share 98 = .ok (.iconst 1, 1) := by decide +kernel
theorem dX0_share_99 : decode cX0_share 99 = .ok (.iload_n 1, 1) := by decide +kernel
theorem dX0_share_100 : decode cX0_share 100 = .ok (.ishl, 1) := by decide +kernel
theorem dX0_share_101 : decode cX0_share 101 = .ok (.ior, 1) := by decide +kernel
theorem dX0_share_102 : decode cX0_share 102 = .ok (.iastore, 1) := by decide +kernel
theorem dX0_share_103 : decode cX0_share 103 = .ok (.iinc 5 (-1), 3) := by decide +kernel
theorem dX0_share_106 : decode cX0_share 106 = .ok (.goto (-52), 3) := by decide +kernel
theorem dX0_share_109 : decode cX0_share 109 = .ok (.return_, 1) := by decide +kernel
theorem dX0_choose_0 : decode cX0_choose 0 = .ok (.aload_n 0, 1) := by decide +kernel
theorem dX0_choose_1 : decode cX0_choose 1 = .ok (.iload_n 1, 1) := by decide +kernel
theorem dX0_choose_2 : decode cX0_choose 2 = .ok (.putfield 15, 3) := by decide +kernel
theorem dX0_choose_5 : decode cX0_choose 5 = .ok (.aload_n 0, 1) := by decide +kernel
theorem dX0_choose_6 : decode cX0_choose 6 = .ok (.iconst 0, 1) := by decide +kernel
theorem dX0_choose_7 : decode cX0_choose 7 = .ok (.putfield 19, 3) := by decide +kernel
theorem dX0_choose_10 : decode cX0_choose 10 = .ok (.iconst 0, 1) := by decide +kernel
theorem dX0_choose_11 : decode cX0_choose 11 = .ok (.istore_n 2, 1) := by decide +kernel
theorem dX0_choose_12 : decode cX0_choose 12 = .ok (.iload_n 2, 1) := by decide +kernel
theorem dX0_choose_13 : decode cX0_choose 13 = .ok (.iload_n 1, 1) := by decide +kernel
theorem dX0_choose_14 : decode cX0_choose 14 = .ok (.if_icmp .gt 76, 3) := by decide +kernel
theorem dX0_choose_17 : decode cX0_choose 17 = .ok (.iload_n 2, 1) := by decide +kernel
theorem dX0_choose_18 : decode cX0_choose 18 = .ok (.aload_n 0, 1) := by decide +kernel
theorem dX0_choose_19 : decode cX0_choose 19 = .ok (.getfield 9, 3) := by decide +kernel
theorem dX0_choose_22 : decode cX0_choose 22 = .ok (.arraylength, 1) := by decide +kernel
theorem dX0_choose_23 : decode cX0_choose 23 = .ok (.if_icmp .ge 67, 3) := by decide +kernel
theorem dX0_choose_26 : decode cX0_choose 26 = .ok (.iload_n 2, 1) := by decide +kernel
theorem dX0_choose_27 : decode cX0_choose 27 = .ok (.iload_n 1, 1) := by decide +kernel
theorem dX0_choose_28 : decode cX0_choose 28 = .ok (.iload_n 2, 1) := by decide +kernel
theorem dX0_choose_29 : decode cX0_choose 29 = .ok (.isub, 1) := by decide +kernel
theorem dX0_choose_30 : decode cX0_choose 30 = .ok (.invokestatic 69, 3) := by decide +kernel
theorem dX0_choose_33 : decode cX0_choose 33 = .ok (.istore_n 3, 1) := by decide +kernel
theorem dX0_choose_34 : decode cX0_choose 34 = .ok (.aload_n 0, 1) := by decide +kernel
theorem dX0_choose_35 : decode cX0_choose 35 = .ok (.getfield 9, 3) := by decide +kernel
theorem dX0_choose_38 : decode cX0_choose 38 = .ok (.iload_n 2, 1) := by decide +kernel
theorem dX0_choose_39 : decode cX0_choose 39 = .ok (.iaload, 1) := by decide +kernel
theorem dX0_choose_40 : decode cX0_choose 40 = .ok (.istore 4, 2) := by decide +kernel
theorem dX0_choose_42 : decode cX0_choose 42 = .ok (.iload 4, 2) := by decide +kernel
theorem dX0_choose_44 : decode cX0_choose 44 = .ok (.iconst (-1), 1) := by decide +kernel
theorem dX0_choose_45 : decode cX0_choose 45 = .ok (.if_icmp .eq 39, 3) := by decide +kernel
theorem dX0_choose_48 : decode cX0_choose 48 = .ok (.iload_n 3, 1) := by decide +kernel
theorem dX0_choose_49 : decode cX0_choose 49 = .ok (.aload_n 0, 1) := by decide +kernel
theorem dX0_choose_50 : decode cX0_choose 50 = .ok (.getfield 15, 3) := by decide +kernel
theorem dX0_choose_53 : decode cX0_choose 53 = .ok (.if_icmp .lt 20, 3) := by decide +kernel
theorem dX0_choose_56 : decode cX0_choose 56 = .ok (.iload_n 3, 1) := by decide +kernel
theorem dX0_choose_57 : decode cX0_choose 57 = .ok (.aload_n 0, 1) := by decide +kernel
theorem dX0_choose_58 : decode cX0_choose 58 = .ok (.getfield 15, 3) := by decide +kernel
theorem dX0_choose_61 : decode cX0_choose 61 = .ok (.if_icmp .ne 23, 3) := by decide +kernel
theorem dX0_choose_64 : decode cX0_choose 64 = .ok (.iload 4, 2) := by decide +kernel
theorem dX0_choose_66 : decode cX0_choose 66 = .ok (.aload_n 0, 1) := by decide +kernel
theorem dX0_choose_67 : decode cX0_choose 67 = .ok (.getfield 19, 3) := by decide +kernel
theorem dX0_choose_70 : decode cX0_choose 70 = .ok (.if_icmp .ge 14, 3) := by decide +kernel
theorem dX0_choose_73 : decode cX0_choose 73 = .ok (.aload_n 0, 1) := by decide +kernel
theorem dX0_choose_74 : decode cX0_choose 74 = .ok (.iload_n 3, 1) := by decide +kernel
theorem dX0_choose_75 : decode cX0_choose 75 = .ok (.putfield 15, 3) := by decide +kernel
theorem dX0_choose_78 : decode cX0_choose 78 = .ok (.aload_n 0, 1) := by decide +kernel
theorem dX0_choose_79 : decode cX0_choose 79 = .ok (.iload 4, 2) := by decide +kernel
theorem dX0_choose_81 : decode cX0_choose 81 = .ok (.putfield 19, 3) := by decide +kernel
theorem dX0_choose_84 : decode cX0_choose 84 = .ok (.iinc 2 1, 3) := by decide +kernel
theorem dX0_choose_87 : decode cX0_choose 87 = .ok (.goto (-75), 3) := by decide +kernel
theorem dX0_choose_90 : decode cX0_choose 90 = .ok (.return_, 1) := by decide +kernel
theorem dX1_init_0 : decode cX1_init 0 = .ok (.aload_n 0, 1) := by decide +kernel
theorem dX1_init_1 : decode cX1_init 1 = .ok (.invokespecial 3, 3) := by decide +kernel
theorem dX1_init_4 : decode cX1_init 4 = .ok (.aload_n 0, 1) := by decide +kernel
theorem dX1_init_5 : decode cX1_init 5 = .ok (.bipush 16, 2) := by decide +kernel
theorem dX1_init_7 : decode cX1_init 7 = .ok (.newarray .int, 2) := by decide +kernel
theorem dX1_init_9 : decode cX1_init 9 = .ok (.putfield 9, 3) := by decide +kernel
theorem dX1_init_12 : decode cX1_init 12 = .ok (.aload_n 0, 1) := by decide +kernel
theorem dX1_init_13 : decode cX1_init 13 = .ok (.bipush 16, 2) := by decide +kernel
theorem dX1_init_15 : decode cX1_init 15 = .ok (.newarray .int, 2) := by decide +kernel
theorem dX1_init_17 : decode cX1_init 17 = .ok (.putfield 15, 3) := by decide +kernel
theorem dX1_init_20 : decode cX1_init 20 = .ok (.aload_n 0, 1) := by decide +kernel
theorem dX1_init_21 : decode cX1_init 21 = .ok (.bipush 16, 2) := by decide +kernel
theorem dX1_init_23 : decode cX1_init 23 = .ok (.newarray .int, 2) := by decide +kernel
theorem dX1_init_25 : decode cX1_init 25 = .ok (.putfield 18, 3) := by decide +kernel
theorem dX1_init_28 : decode cX1_init 28 = .ok (.aload_n 0, 1) := by decide +kernel
theorem dX1_init_29 : decode cX1_init 29 = .ok (.bipush 16, 2) := by decide +kernel
theorem dX1_init_31 : decode cX1_init 31 = .ok (.newarray .int, 2) := by decide +kernel
theorem dX1_init_33 : decode cX1_init 33 = .ok (.putfield 21, 3) := by decide +kernel
theorem dX1_init_36 : decode cX1_init 36 = .ok (.aload_n 0, 1) := by decide +kernel
theorem dX1_init_37 : decode cX1_init 37 = .ok (.bipush 16, 2) := by decide +kernel
theorem dX1_init_39 : decode cX1_init 39 = .ok (.newarray .int, 2) := by decide +kernel
theorem dX1_init_41 : decode cX1_init 41 = .ok (.putfield 24, 3) := by decide +kernel
theorem dX1_init_44 : decode cX1_init 44 = .ok (.aload_n 0, 1) := by decide +kernel
theorem dX1_init_45 : decode cX1_init 45 = .ok (.iconst 0, 1) := by decide +kernel
theorem dX1_init_46 : decode cX1_init 46 = .ok (.putfield 27, 3) := by decide +kernel
theorem dX1_init_49 : decode cX1_init 49 = .ok (.return_, 1) := by decide +kernel
theorem dX1_become_0 : decode cX1_become 0 = .ok (.aload_n 1, 1) := by decide +kernel
theorem dX1_become_1 : decode cX1_become 1 = .ok (.getfield 9, 3) := by decide +kernel
theorem dX1_become_4 : decode cX1_become 4 = .ok (.iconst 0, 1) := by decide +kernel
theorem dX1_become_5 : decode cX1_become 5 = .ok (.aload_n 0, 1) := by decide +kernel
theorem dX1_become_6 : decode cX1_become 6 = .ok (.getfield 9, 3) := by decide +kernel
theorem dX1_become_9 : decode cX1_become 9 = .ok (.iconst 0, 1) := by decide +kernel
theorem dX1_become_10 : decode cX1_become 10 = .ok (.bipush 16, 2) := by decide +kernel
theorem dX1_become_12 : decode cX1_become 12 = .ok (.invokestatic 31, 3) := by decide +kernel
theorem dX1_become_15 : decode cX1_become 15 = .ok (.aload_n 1, 1) := by decide +kernel
theorem dX1_become_16 : decode cX1_become 16 = .ok (.getfield 15, 3) := by decide +kernel
theorem dX1_become_19 : decode cX1_become 19 = .ok (.iconst 0, 1) := by decide +kernel
theorem dX1_become_20 : decode cX1_become 20 = .ok (.aload_n 0, 1) := by decide +kernel
theorem dX1_become_21 : decode cX1_become 21 = .ok (.getfield 15, 3) := by decide +kernel
theorem dX1_become_24 : decode cX1_become 24 = .ok (.iconst 0, 1) := by decide +kernel
theorem dX1_become_25 : decode cX1_become 25 = .ok (.bipush 16, 2) := by decide +kernel
theorem dX1_become_27 : decode cX1_become 27 = .ok (.invokestatic 31, 3) := by decide +kernel
theorem dX1_become_30 : decode cX1_become 30 = .ok (.aload_n 1, 1) := by decide +kernel
theorem dX1_become_31 : decode cX1_become 31 = .ok (.getfield 18, 3) := by decide +kernel
theorem dX1_become_34 : decode cX1_become 34 = .ok (.iconst 0, 1) := by decide +kernel
theorem dX1_become_35 : decode cX1_become 35 = .ok (.aload_n 0, 1) := by decide +kernel
theorem dX1_become_36 : decode cX1_become 36 = .ok (.getfield 18, 3) := by decide +kernel
theorem dX1_become_39 : decode cX1_become 39 = .ok (.iconst 0, 1) := by decide +kernel
theorem dX1_become_40 : decode cX1_become 40 = .ok (.bipush 16, 2) := by decide +kernel
theorem dX1_become_42 : decode cX1_become 42 = .ok (.invokestatic 31, 3) := by decide +kernel
theorem dX1_become_45 : decode cX1_become 45 = .ok (.aload_n 1, 1) := by decide +kernel
theorem dX1_become_46 : decode cX1_become 46 = .ok (.getfield 21, 3) := by decide +kernel
theorem dX1_become_49 : decode cX1_become 49 = .ok (.iconst 0, 1) := by decide +kernel
theorem dX1_become_50 : decode cX1_become 50 = .ok (.aload_n 0, 1) := by decide +kernel
theorem dX1_become_51 : decode cX1_become 51 = .ok (.getfield 21, 3) := by decide +kernel
theorem dX1_become_54 : decode cX1_become 54 = .ok (.iconst 0, 1) := by decide +kernel
theorem dX1_become_55 : decode cX1_become 55 = .ok (.bipush 16, 2) := by decide +kernel
theorem dX1_become_57 : decode cX1_become 57 = .ok (.invokestatic 31, 3) := by decide +kernel
theorem dX1_become_60 : decode cX1_become 60 = .ok (.aload_n 1, 1) := by decide +kernel
theorem dX1_become_61 : decode cX1_become 61 = .ok (.getfield 24, 3) := by decide +kernel
theorem dX1_become_64 : decode cX1_become 64 = .ok (.iconst 0, 1) := by decide +kernel
theorem dX1_become_65 : decode cX1_become 65 = .ok (.aload_n 0, 1) := by decide +kernel
theorem dX1_become_66 : decode cX1_become 66 = .ok (.getfield 24, 3) := by decide +kernel
theorem dX1_become_69 : decode cX1_become 69 = .ok (.iconst 0, 1) := by decide +kernel
theorem dX1_become_70 : decode cX1_become 70 = .ok (.bipush 16, 2) := by decide +kernel
theorem dX1_become_72 : decode cX1_become 72 = .ok (.invokestatic 31, 3) := by decide +kernel
theorem dX1_become_75 : decode cX1_become 75 = .ok (.aload_n 0, 1) := by decide +kernel
theorem dX1_become_76 : decode cX1_become 76 = .ok (.aload_n 1, 1) := by decide +kernel
theorem dX1_become_77 : decode cX1_become 77 = .ok (.getfield 27, 3) := by decide +kernel
theorem dX1_become_80 : decode cX1_become 80 = .ok (.putfield 27, 3) := by decide +kernel
theorem dX1_become_83 : decode cX1_become 83 = .ok (.return_, 1) := by decide +kernel
theorem dX1_has_0 : decode cX1_has 0 = .ok (.iload_n 1, 1) := by decide +kernel
theorem dX1_has_1 : decode cX1_has 1 = .ok (.ifCond .lt 21, 3) := by decide +kernel
theorem dX1_has_4 : decode cX1_has 4 = .ok (.iload_n 1, 1) := by decide +kernel
theorem dX1_has_5 : decode cX1_has 5 = .ok (.aload_n 0, 1) := by decide +kernel
theorem dX1_has_6 : decode cX1_has 6 = .ok (.getfield 27, 3) := by decide +kernel
theorem dX1_has_9 : decode cX1_has 9 = .ok (.if_icmp .ge 13, 3) := by decide +kernel
theorem dX1_has_12 : decode cX1_has 12 = .ok (.iload_n 1, 1) := by decide +kernel
theorem dX1_has_13 : decode cX1_has 13 = .ok (.bipush 16, 2) := by decide +kernel
theorem dX1_has_15 : decode cX1_has 15 = .ok (.if_icmp .ge 7, 3) := by decide +kernel
theorem dX1_has_18 : decode cX1_has 18 = .ok (.iconst 1, 1) := by decide +kernel
theorem dX1_has_19 : decode cX1_has 19 = .ok (.goto 4, 3) := by decide +kernel
theorem dX1_has_22 : decode cX1_has 22 = .ok (.iconst 0, 1) := by decide +kernel
theorem dX1_has_23 : decode cX1_has 23 = .ok (.ireturn, 1) := by decide +kernel
theorem dX1_add_0 : decode cX1_add 0 = .ok (.aload_n 0, 1) := by decide +kernel
theorem dX1_add_1 : decode cX1_add 1 = .ok (.getfield 27, 3) := by decide +kernel
theorem dX1_add_4 : decode cX1_add 4 = .ok (.bipush 16, 2) := by decide +kernel
theorem dX1_add_6 : decode cX1_add 6 = .ok (.if_icmp .lt 5, 3) := by decide +kernel
theorem dX1_add_9 : decode cX1_add 9 = .ok (.iconst (-1), 1) := by decide +kernel
theorem dX1_add_10 : decode cX1_add 10 = .ok (.ireturn, 1) := by decide +kernel
theorem dX1_add_11 : decode cX1_add 11 = .ok (.aload_n 0, 1) := by decide +kernel
theorem dX1_add_12 : decode cX1_add 12 = .ok (.getfield 9, 3) := by decide +kernel
theorem dX1_add_15 : decode cX1_add 15 = .ok (.aload_n 0, 1) := by decide +kernel
theorem dX1_add_16 : decode cX1_add 16 = .ok (.getfield 27, 3) := by decide +kernel
theorem dX1_add_19 : decode cX1_add 19 = .ok (.iload_n 1, 1) := by decide +kernel
theorem dX1_add_20 : decode cX1_add 20 = .ok (.iastore, 1) := by decide +kernel
theorem dX1_add_21 : decode cX1_add 21 = .ok (.aload_n 0, 1) := by decide +kernel
theorem dX1_add_22 : decode cX1_add 22 = .ok (.getfield 15, 3) := by decide +kernel
theorem dX1_add_25 : decode cX1_add 25 = .ok (.aload_n 0, 1) := by decide +kernel
theorem dX1_add_26 : decode cX1_add 26 = .ok (.getfield 27, 3) := by decide +kernel
theorem dX1_add_29 : decode cX1_add 29 = .ok (.iload_n 2, 1) := by decide +kernel
theorem dX1_add_30 : decode cX1_add 30 = .ok (.iastore, 1) := by decide +kernel
theorem dX1_add_31 : decode cX1_add 31 = .ok (.aload_n 0, 1) := by decide +kernel
theorem dX1_add_32 : decode cX1_add 32 = .ok (.getfield 18, 3) := by decide +kernel
theorem dX1_add_35 : decode cX1_add 35 = .ok (.aload_n 0, 1) := by decide +kernel
theorem dX1_add_36 : decode cX1_add 36 = .ok (.getfield 27, 3) := by decide +kernel
theorem dX1_add_39 : decode cX1_add 39 = .ok (.iload_n 3, 1) := by decide +kernel
theorem dX1_add_40 : decode cX1_add 40 = .ok (.iastore, 1) := by decide +kernel
theorem dX1_add_41 : decode cX1_add 41 = .ok (.aload_n 0, 1) := by decide +kernel
theorem dX1_add_42 : decode cX1_add 42 = .ok (.getfield 21, 3) := by decide +kernel
theorem dX1_add_45 : decode cX1_add 45 = .ok (.aload_n 0, 1) := by decide +kernel
theorem dX1_add_46 : decode cX1_add 46 = .ok (.getfield 27, 3) := by decide +kernel
theorem dX1_add_49 : decode cX1_add 49 = .ok (.iload 4, 2) := by decide +kernel
theorem dX1_add_51 : decode cX1_add 51 = .ok (.iastore, 1) := by decide +kernel
theorem dX1_add_52 : decode cX1_add 52 = .ok (.aload_n 0, 1) := by decide +kernel
theorem dX1_add_53 : decode cX1_add 53 = .ok (.getfield 24, 3) := by decide +kernel
theorem dX1_add_56 : decode cX1_add 56 = .ok (.aload_n 0, 1) := by decide +kernel
theorem dX1_add_57 : decode cX1_add 57 = .ok (.getfield 27, 3) := by decide +kernel
theorem dX1_add_60 : decode cX1_add 60 = .ok (.iload 5, 2) := by decide +kernel
theorem dX1_add_62 : decode cX1_add 62 = .ok (.iastore, 1) := by decide +kernel
theorem dX1_add_63 : decode cX1_add 63 = .ok (.aload_n 0, 1) := by decide +kernel
theorem dX1_add_64 : decode cX1_add 64 = .ok (.dup, 1) := by decide +kernel
theorem dX1_add_65 : decode cX1_add 65 = .ok (.getfield 27, 3) := by decide +kernel
theorem dX1_add_68 : decode cX1_add 68 = .ok (.iconst 1, 1) := by decide +kernel
theorem dX1_add_69 : decode cX1_add 69 = .ok (.iadd, 1) := by decide +kernel
theorem dX1_add_70 : decode cX1_add 70 = .ok (.putfield 27, 3) := by decide +kernel
theorem dX1_add_73 : decode cX1_add 73 = .ok (.aload_n 0, 1) := by decide +kernel
theorem dX1_add_74 : decode cX1_add 74 = .ok (.getfield 27, 3) := by decide +kernel
theorem dX1_add_77 : decode cX1_add 77 = .ok (.iconst 1, 1) := by decide +kernel
theorem dX1_add_78 : decode cX1_add 78 = .ok (.isub, 1) := by decide +kernel
theorem dX1_add_79 : decode cX1_add 79 = .ok (.ireturn, 1) := by decide +kernel
theorem dX1_told_0 : decode cX1_told 0 = .ok (.aload_n 0, 1) := by decide +kernel
theorem dX1_told_1 : decode cX1_told 1 = .ok (.iload_n 1, 1) := by decide +kernel
theorem dX1_told_2 : decode cX1_told 2 = .ok (.invokevirtual 37, 3) := by decide +kernel
theorem dX1_told_5 : decode cX1_told 5 = .ok (.ifCond .ne 5, 3) := by decide +kernel
theorem dX1_told_8 : decode cX1_told 8 = .ok (.iconst (-1), 1) := by decide +kernel
theorem dX1_told_9 : decode cX1_told 9 = .ok (.ireturn, 1) := by decide +kernel
theorem dX1_told_10 : decode cX1_told 10 = .ok (.iload_n 2, 1) := by decide +kernel
theorem dX1_told_11 : decode cX1_told 11 = .ok (.tableswitch 68 0 4 #[33, 40, 47, 54, 61], 33) := by decide +kernel
theorem dX1_told_44 : decode cX1_told 44 = .ok (.aload_n 0, 1) := by decide +kernel
theorem dX1_told_45 : decode cX1_told 45 = .ok (.getfield 9, 3) := by decide +kernel
theorem dX1_told_48 : decode cX1_told 48 = .ok (.iload_n 1, 1) := by decide +kernel
theorem dX1_told_49 : decode cX1_told 49 = .ok (.iaload, 1) := by decide +kernel
theorem dX1_told_50 : decode cX1_told 50 = .ok (.ireturn, 1) := by decide +kernel
theorem dX1_told_51 : decode cX1_told 51 = .ok (.aload_n 0, 1) := by decide +kernel
theorem dX1_told_52 : decode cX1_told 52 = .ok (.getfield 15, 3) := by decide +kernel
theorem dX1_told_55 : decode cX1_told 55 = .ok (.iload_n 1, 1) := by decide +kernel
theorem dX1_told_56 : decode cX1_told 56 = .ok (.iaload, 1) := by decide +kernel
theorem dX1_told_57 : decode cX1_told 57 = .ok (.ireturn, 1) := by decide +kernel
theorem dX1_told_58 : decode cX1_told 58 = .ok (.aload_n 0, 1) := by decide +kernel
theorem dX1_told_59 : decode cX1_told 59 = .ok (.getfield 18, 3) := by decide +kernel
theorem dX1_told_62 : decode cX1_told 62 = .ok (.iload_n 1, 1) := by decide +kernel
theorem dX1_told_63 : decode cX1_told 63 = .ok (.iaload, 1) := by decide +kernel
theorem dX1_told_64 : decode cX1_told 64 = .ok (.ireturn, 1) := by decide +kernel
theorem dX1_told_65 : decode cX1_told 65 = .ok (.aload_n 0, 1) := by decide +kernel
theorem dX1_told_66 : decode cX1_told 66 = .ok (.getfield 21, 3) := by decide +kernel
theorem dX1_told_69 : decode cX1_told 69 = .ok (.iload_n 1, 1) := by decide +kernel
theorem dX1_told_70 : decode cX1_told 70 = .ok (.iaload, 1) := by decide +kernel
theorem dX1_told_71 : decode cX1_told 71 = .ok (.ireturn, 1) := by decide +kernel
theorem dX1_told_72 : decode cX1_told 72 = .ok (.aload_n 0, 1) := by decide +kernel
theorem dX1_told_73 : decode cX1_told 73 = .ok (.getfield 24, 3) := by decide +kernel
theorem dX1_told_76 : decode cX1_told 76 = .ok (.iload_n 1, 1) := by decide +kernel
theorem dX1_told_77 : decode cX1_told 77 = .ok (.iaload, 1) := by decide +kernel
theorem dX1_told_78 : decode cX1_told 78 = .ok (.ireturn, 1) := by decide +kernel
theorem dX1_told_79 : decode cX1_told 79 = .ok (.iconst (-1), 1) := by decide +kernel
theorem dX1_told_80 : decode cX1_told 80 = .ok (.ireturn, 1) := by decide +kernel
theorem dX1_bury_0 : decode cX1_bury 0 = .ok (.iconst 0, 1) := by decide +kernel
theorem dX1_bury_1 : decode cX1_bury 1 = .ok (.istore_n 2, 1) := by decide +kernel
theorem dX1_bury_2 : decode cX1_bury 2 = .ok (.iconst 0, 1) := by decide +kernel
theorem dX1_bury_3 : decode cX1_bury 3 = .ok (.istore_n 3, 1) := by decide +kernel
theorem dX1_bury_4 : decode cX1_bury 4 = .ok (.iload_n 3, 1) := by decide +kernel
theorem dX1_bury_5 : decode cX1_bury 5 = .ok (.aload_n 0, 1) := by decide +kernel
theorem dX1_bury_6 : decode cX1_bury 6 = .ok (.getfield 27, 3) := by decide +kernel
theorem dX1_bury_9 : decode cX1_bury 9 = .ok (.if_icmp .ge 51, 3) := by decide +kernel
theorem dX1_bury_12 : decode cX1_bury 12 = .ok (.iload_n 3, 1) := by decide +kernel
theorem dX1_bury_13 : decode cX1_bury 13 = .ok (.bipush 16, 2) := by decide +kernel
theorem dX1_bury_15 : decode cX1_bury 15 = .ok (.if_icmp .ge 45, 3) := by decide +kernel
theorem dX1_bury_18 : decode cX1_bury 18 = .ok (.aload_n 0, 1) := by decide +kernel
theorem dX1_bury_19 : decode cX1_bury 19 = .ok (.getfield 9, 3) := by decide +kernel
theorem dX1_bury_22 : decode cX1_bury 22 = .ok (.iload_n 3, 1) := by decide +kernel
theorem dX1_bury_23 : decode cX1_bury 23 = .ok (.iaload, 1) := by decide +kernel
theorem dX1_bury_24 : decode cX1_bury 24 = .ok (.iload_n 1, 1) := by decide +kernel
theorem dX1_bury_25 : decode cX1_bury 25 = .ok (.if_icmp .eq 13, 3) := by decide +kernel
theorem dX1_bury_28 : decode cX1_bury 28 = .ok (.aload_n 0, 1) := by decide +kernel
theorem dX1_bury_29 : decode cX1_bury 29 = .ok (.getfield 15, 3) := by decide +kernel
theorem dX1_bury_32 : decode cX1_bury 32 = .ok (.iload_n 3, 1) := by decide +kernel
theorem dX1_bury_33 : decode cX1_bury 33 = .ok (.iaload, 1) := by decide +kernel
theorem dX1_bury_34 : decode cX1_bury 34 = .ok (.iload_n 1, 1) := by decide +kernel
theorem dX1_bury_35 : decode cX1_bury 35 = .ok (.if_icmp .ne 19, 3) := by decide +kernel
theorem dX1_bury_38 : decode cX1_bury 38 = .ok (.iload_n 2, 1) := by decide +kernel
theorem dX1_bury_39 : decode cX1_bury 39 = .ok (.aload_n 0, 1) := by decide +kernel
theorem dX1_bury_40 : decode cX1_bury 40 = .ok (.getfield 21, 3) := by decide +kernel
theorem dX1_bury_43 : decode cX1_bury 43 = .ok (.iload_n 3, 1) := by decide +kernel
theorem dX1_bury_44 : decode cX1_bury 44 = .ok (.iaload, 1) := by decide +kernel
theorem dX1_bury_45 : decode cX1_bury 45 = .ok (.iadd, 1) := by decide +kernel
theorem dX1_bury_46 : decode cX1_bury 46 = .ok (.istore_n 2, 1) := by decide +kernel
theorem dX1_bury_47 : decode cX1_bury 47 = .ok (.aload_n 0, 1) := by decide +kernel
theorem dX1_bury_48 : decode cX1_bury 48 = .ok (.getfield 21, 3) := by decide +kernel
theorem dX1_bury_51 : decode cX1_bury 51 = .ok (.iload_n 3, 1) := by decide +kernel
theorem dX1_bury_52 : decode cX1_bury 52 = .ok (.iconst 0, 1) := by decide +kernel
theorem dX1_bury_53 : decode cX1_bury 53 = .ok (.iastore, 1) := by decide +kernel
theorem dX1_bury_54 : decode cX1_bury 54 = .ok (.iinc 3 1, 3) := by decide +kernel
theorem dX1_bury_57 : decode cX1_bury 57 = .ok (.goto (-53), 3) := by decide +kernel
theorem dX1_bury_60 : decode cX1_bury 60 = .ok (.aload_n 0, 1) := by decide +kernel
theorem dX1_bury_61 : decode cX1_bury 61 = .ok (.invokevirtual 41, 3) := by decide +kernel
theorem dX1_bury_64 : decode cX1_bury 64 = .ok (.iload_n 2, 1) := by decide +kernel
theorem dX1_bury_65 : decode cX1_bury 65 = .ok (.ireturn, 1) := by decide +kernel
theorem dX1_dropPlayed_0 : decode cX1_dropPlayed 0 = .ok (.iconst 0, 1) := by decide +kernel
theorem dX1_dropPlayed_1 : decode cX1_dropPlayed 1 = .ok (.istore_n 1, 1) := by decide +kernel
theorem dX1_dropPlayed_2 : decode cX1_dropPlayed 2 = .ok (.iconst 0, 1) := by decide +kernel
theorem dX1_dropPlayed_3 : decode cX1_dropPlayed 3 = .ok (.istore_n 2, 1) := by decide +kernel
theorem dX1_dropPlayed_4 : decode cX1_dropPlayed 4 = .ok (.iload_n 2, 1) := by decide +kernel
theorem dX1_dropPlayed_5 : decode cX1_dropPlayed 5 = .ok (.aload_n 0, 1) := by decide +kernel
theorem dX1_dropPlayed_6 : decode cX1_dropPlayed 6 = .ok (.getfield 27, 3) := by decide +kernel
theorem dX1_dropPlayed_9 : decode cX1_dropPlayed 9 = .ok (.if_icmp .ge 87, 3) := by decide +kernel
theorem dX1_dropPlayed_12 : decode cX1_dropPlayed 12 = .ok (.iload_n 2, 1) := by decide +kernel
theorem dX1_dropPlayed_13 : decode cX1_dropPlayed 13 = .ok (.bipush 16, 2) := by decide +kernel
theorem dX1_dropPlayed_15 : decode cX1_dropPlayed 15 = .ok (.if_icmp .ge 81, 3) := by decide +kernel
theorem dX1_dropPlayed_18 : decode cX1_dropPlayed 18 = .ok (.aload_n 0, 1) := by decide +kernel
theorem dX1_dropPlayed_19 : decode cX1_dropPlayed 19 = .ok (.getfield 21, 3) := by decide +kernel
theorem dX1_dropPlayed_22 : decode cX1_dropPlayed 22 = .ok (.iload_n 2, 1) := by decide +kernel
theorem dX1_dropPlayed_23 : decode cX1_dropPlayed 23 = .ok (.iaload, 1) := by decide +kernel
theorem dX1_dropPlayed_24 : decode cX1_dropPlayed 24 = .ok (.ifCond .le 66, 3) := by decide +kernel
theorem dX1_dropPlayed_27 : decode cX1_dropPlayed 27 = .ok (.aload_n 0, 1) := by decide +kernel
theorem dX1_dropPlayed_28 : decode cX1_dropPlayed 28 = .ok (.getfield 9, 3) := by decide +kernel
theorem dX1_dropPlayed_31 : decode cX1_dropPlayed 31 = .ok (.iload_n 1, 1) := by decide +kernel
theorem dX1_dropPlayed_32 : decode cX1_dropPlayed 32 = .ok (.aload_n 0, 1) := by decide +kernel
theorem dX1_dropPlayed_33 : decode cX1_dropPlayed 33 = .ok (.getfield 9, 3) := by decide +kernel
theorem dX1_dropPlayed_36 : decode cX1_dropPlayed 36 = .ok (.iload_n 2, 1) := by decide +kernel
theorem dX1_dropPlayed_37 : decode cX1_dropPlayed 37 = .ok (.iaload, 1) := by decide +kernel
theorem dX1_dropPlayed_38 : decode cX1_dropPlayed 38 = .ok (.iastore, 1) := by decide +kernel
theorem dX1_dropPlayed_39 : decode cX1_dropPlayed 39 = .ok (.aload_n 0, 1) := by decide +kernel
theorem dX1_dropPlayed_40 : decode cX1_dropPlayed 40 = .ok (.getfield 15, 3) := by decide +kernel
theorem dX1_dropPlayed_43 : decode cX1_dropPlayed 43 = .ok (.iload_n 1, 1) := by decide +kernel
theorem dX1_dropPlayed_44 : decode cX1_dropPlayed 44 = .ok (.aload_n 0, 1) := by decide +kernel
theorem dX1_dropPlayed_45 : decode cX1_dropPlayed 45 = .ok (.getfield 15, 3) := by decide +kernel
theorem dX1_dropPlayed_48 : decode cX1_dropPlayed 48 = .ok (.iload_n 2, 1) := by decide +kernel
theorem dX1_dropPlayed_49 : decode cX1_dropPlayed 49 = .ok (.iaload, 1) := by decide +kernel
theorem dX1_dropPlayed_50 : decode cX1_dropPlayed 50 = .ok (.iastore, 1) := by decide +kernel
theorem dX1_dropPlayed_51 : decode cX1_dropPlayed 51 = .ok (.aload_n 0, 1) := by decide +kernel
theorem dX1_dropPlayed_52 : decode cX1_dropPlayed 52 = .ok (.getfield 18, 3) := by decide +kernel
theorem dX1_dropPlayed_55 : decode cX1_dropPlayed 55 = .ok (.iload_n 1, 1) := by decide +kernel
theorem dX1_dropPlayed_56 : decode cX1_dropPlayed 56 = .ok (.aload_n 0, 1) := by decide +kernel
theorem dX1_dropPlayed_57 : decode cX1_dropPlayed 57 = .ok (.getfield 18, 3) := by decide +kernel
theorem dX1_dropPlayed_60 : decode cX1_dropPlayed 60 = .ok (.iload_n 2, 1) := by decide +kernel
theorem dX1_dropPlayed_61 : decode cX1_dropPlayed 61 = .ok (.iaload, 1) := by decide +kernel
theorem dX1_dropPlayed_62 : decode cX1_dropPlayed 62 = .ok (.iastore, 1) := by decide +kernel
theorem dX1_dropPlayed_63 : decode cX1_dropPlayed 63 = .ok (.aload_n 0, 1) := by decide +kernel
theorem dX1_dropPlayed_64 : decode cX1_dropPlayed 64 = .ok (.getfield 21, 3) := by decide +kernel
theorem dX1_dropPlayed_67 : decode cX1_dropPlayed 67 = .ok (.iload_n 1, 1) := by decide +kernel
theorem dX1_dropPlayed_68 : decode cX1_dropPlayed 68 = .ok (.aload_n 0, 1) := by decide +kernel
theorem dX1_dropPlayed_69 : decode cX1_dropPlayed 69 = .ok (.getfield 21, 3) := by decide +kernel
theorem dX1_dropPlayed_72 : decode cX1_dropPlayed 72 = .ok (.iload_n 2, 1) := by decide +kernel
theorem dX1_dropPlayed_73 : decode cX1_dropPlayed 73 = .ok (.iaload, 1) := by decide +kernel
theorem dX1_dropPlayed_74 : decode cX1_dropPlayed 74 = .ok (.iastore, 1) := by decide +kernel
theorem dX1_dropPlayed_75 : decode cX1_dropPlayed 75 = .ok (.aload_n 0, 1) := by decide +kernel
theorem dX1_dropPlayed_76 : decode cX1_dropPlayed 76 = .ok (.getfield 24, 3) := by decide +kernel
theorem dX1_dropPlayed_79 : decode cX1_dropPlayed 79 = .ok (.iload_n 1, 1) := by decide +kernel
theorem dX1_dropPlayed_80 : decode cX1_dropPlayed 80 = .ok (.aload_n 0, 1) := by decide +kernel
theorem dX1_dropPlayed_81 : decode cX1_dropPlayed 81 = .ok (.getfield 24, 3) := by decide +kernel
theorem dX1_dropPlayed_84 : decode cX1_dropPlayed 84 = .ok (.iload_n 2, 1) := by decide +kernel
theorem dX1_dropPlayed_85 : decode cX1_dropPlayed 85 = .ok (.iaload, 1) := by decide +kernel
theorem dX1_dropPlayed_86 : decode cX1_dropPlayed 86 = .ok (.iastore, 1) := by decide +kernel
theorem dX1_dropPlayed_87 : decode cX1_dropPlayed 87 = .ok (.iinc 1 1, 3) := by decide +kernel
theorem dX1_dropPlayed_90 : decode cX1_dropPlayed 90 = .ok (.iinc 2 1, 3) := by decide +kernel
theorem dX1_dropPlayed_93 : decode cX1_dropPlayed 93 = .ok (.goto (-89), 3) := by decide +kernel
theorem dX1_dropPlayed_96 : decode cX1_dropPlayed 96 = .ok (.aload_n 0, 1) := by decide +kernel
theorem dX1_dropPlayed_97 : decode cX1_dropPlayed 97 = .ok (.iload_n 1, 1) := by decide +kernel
theorem dX1_dropPlayed_98 : decode cX1_dropPlayed 98 = .ok (.putfield 27, 3) := by decide +kernel
theorem dX1_dropPlayed_101 : decode cX1_dropPlayed 101 = .ok (.return_, 1) := by decide +kernel
theorem dX1_allHalves_0 : decode cX1_allHalves 0 = .ok (.iconst 0, 1) := by decide +kernel
theorem dX1_allHalves_1 : decode cX1_allHalves 1 = .ok (.istore_n 1, 1) := by decide +kernel
theorem dX1_allHalves_2 : decode cX1_allHalves 2 = .ok (.iconst 0, 1) := by decide +kernel
theorem dX1_allHalves_3 : decode cX1_allHalves 3 = .ok (.istore_n 2, 1) := by decide +kernel
theorem dX1_allHalves_4 : decode cX1_allHalves 4 = .ok (.iload_n 2, 1) := by decide +kernel
theorem dX1_allHalves_5 : decode cX1_allHalves 5 = .ok (.aload_n 0, 1) := by decide +kernel
theorem dX1_allHalves_6 : decode cX1_allHalves 6 = .ok (.getfield 27, 3) := by decide +kernel
theorem dX1_allHalves_9 : decode cX1_allHalves 9 = .ok (.if_icmp .ge 24, 3) := by decide +kernel
theorem dX1_allHalves_12 : decode cX1_allHalves 12 = .ok (.iload_n 2, 1) := by decide +kernel
theorem dX1_allHalves_13 : decode cX1_allHalves 13 = .ok (.bipush 16, 2) := by decide +kernel
theorem dX1_allHalves_15 : decode cX1_allHalves 15 = .ok (.if_icmp .ge 18, 3) := by decide +kernel
theorem dX1_allHalves_18 : decode cX1_allHalves 18 = .ok (.iload_n 1, 1) := by decide +kernel
theorem dX1_allHalves_19 : decode cX1_allHalves 19 = .ok (.aload_n 0, 1) := by decide +kernel
theorem dX1_allHalves_20 : decode cX1_allHalves 20 = .ok (.getfield 21, 3) := by decide +kernel
theorem dX1_allHalves_23 : decode cX1_allHalves 23 = .ok (.iload_n 2, 1) := by decide +kernel
theorem dX1_allHalves_24 : decode cX1_allHalves 24 = .ok (.iaload, 1) := by decide +kernel
theorem dX1_allHalves_25 : decode cX1_allHalves 25 = .ok (.iadd, 1) := by decide +kernel
theorem dX1_allHalves_26 : decode cX1_allHalves 26 = .ok (.istore_n 1, 1) := by decide +kernel
theorem dX1_allHalves_27 : decode cX1_allHalves 27 = .ok (.iinc 2 1, 3) := by decide +kernel
theorem dX1_allHalves_30 : decode cX1_allHalves 30 = .ok (.goto (-26), 3) := by decide +kernel
theorem dX1_allHalves_33 : decode cX1_allHalves 33 = .ok (.iload_n 1, 1) := by decide +kernel
theorem dX1_allHalves_34 : decode cX1_allHalves 34 = .ok (.ireturn, 1) := by decide +kernel
theorem dX2_init_0 : decode cX2_init 0 = .ok (.aload_n 0, 1) := by decide +kernel
theorem dX2_init_1 : decode cX2_init 1 = .ok (.invokespecial 3, 3) := by decide +kernel
theorem dX2_init_4 : decode cX2_init 4 = .ok (.aload_n 0, 1) := by decide +kernel
theorem dX2_init_5 : decode cX2_init 5 = .ok (.sipush 1928, 3) := by decide +kernel
theorem dX2_init_8 : decode cX2_init 8 = .ok (.newarray .long, 2) := by decide +kernel
theorem dX2_init_10 : decode cX2_init 10 = .ok (.putfield 11, 3) := by decide +kernel
theorem dX2_init_13 : decode cX2_init 13 = .ok (.aload_n 0, 1) := by decide +kernel
theorem dX2_init_14 : decode cX2_init 14 = .ok (.sipush 1928, 3) := by decide +kernel
theorem dX2_init_17 : decode cX2_init 17 = .ok (.newarray .long, 2) := by decide +kernel
theorem dX2_init_19 : decode cX2_init 19 = .ok (.putfield 15, 3) := by decide +kernel
theorem dX2_init_22 : decode cX2_init 22 = .ok (.aload_n 0, 1) := by decide +kernel
theorem dX2_init_23 : decode cX2_init 23 = .ok (.sipush 241, 3) := by decide +kernel
theorem dX2_init_26 : decode cX2_init 26 = .ok (.newarray .long, 2) := by decide +kernel
theorem dX2_init_28 : decode cX2_init 28 = .ok (.putfield 18, 3) := by decide +kernel
theorem dX2_init_31 : decode cX2_init 31 = .ok (.aload_n 0, 1) := by decide +kernel
theorem dX2_init_32 : decode cX2_init 32 = .ok (.sipush 241, 3) := by decide +kernel
theorem dX2_init_35 : decode cX2_init 35 = .ok (.newarray .long, 2) := by decide +kernel
theorem dX2_init_37 : decode cX2_init 37 = .ok (.putfield 21, 3) := by decide +kernel
theorem dX2_init_40 : decode cX2_init 40 = .ok (.aload_n 0, 1) := by decide +kernel
theorem dX2_init_41 : decode cX2_init 41 = .ok (.bipush 16, 2) := by decide +kernel
theorem dX2_init_43 : decode cX2_init 43 = .ok (.newarray .long, 2) := by decide +kernel
theorem dX2_init_45 : decode cX2_init 45 = .ok (.putfield 24, 3) := by decide +kernel
theorem dX2_init_48 : decode cX2_init 48 = .ok (.aload_n 0, 1) := by decide +kernel
theorem dX2_init_49 : decode cX2_init 49 = .ok (.bipush 16, 2) := by decide +kernel
theorem dX2_init_51 : decode cX2_init 51 = .ok (.newarray .int, 2) := by decide +kernel
theorem dX2_init_53 : decode cX2_init 53 = .ok (.putfield 27, 3) := by decide +kernel
theorem dX2_init_56 : decode cX2_init 56 = .ok (.aload_n 0, 1) := by decide +kernel
theorem dX2_init_57 : decode cX2_init 57 = .ok (.iconst (-1), 1) := by decide +kernel
theorem dX2_init_58 : decode cX2_init 58 = .ok (.putfield 31, 3) := by decide +kernel
theorem dX2_init_61 : decode cX2_init 61 = .ok (.aload_n 0, 1) := by decide +kernel
theorem dX2_init_62 : decode cX2_init 62 = .ok (.iconst 0, 1) := by decide +kernel
theorem dX2_init_63 : decode cX2_init 63 = .ok (.putfield 35, 3) := by decide +kernel
theorem dX2_init_66 : decode cX2_init 66 = .ok (.aload_n 0, 1) := by decide +kernel
theorem dX2_init_67 : decode cX2_init 67 = .ok (.iconst 0, 1) := by decide +kernel
theorem dX2_init_68 : decode cX2_init 68 = .ok (.putfield 38, 3) := by decide +kernel
theorem dX2_init_71 : decode cX2_init 71 = .ok (.aload_n 0, 1) := by decide +kernel
theorem dX2_init_72 : decode cX2_init 72 = .ok (.iconst 0, 1) := by decide +kernel
theorem dX2_init_73 : decode cX2_init 73 = .ok (.putfield 41, 3) := by decide +kernel
theorem dX2_init_76 : decode cX2_init 76 = .ok (.aload_n 0, 1) := by decide +kernel
theorem dX2_init_77 : decode cX2_init 77 = .ok (.iconst 0, 1) := by decide +kernel
theorem dX2_init_78 : decode cX2_init 78 = .ok (.putfield 44, 3) := by decide +kernel
theorem dX2_init_81 : decode cX2_init 81 = .ok (.aload_n 0, 1) := by decide +kernel
theorem dX2_init_82 : decode cX2_init 82 = .ok (.aload_n 1, 1) := by decide +kernel
theorem dX2_init_83 : decode cX2_init 83 = .ok (.putfield 47, 3) := by decide +kernel
theorem dX2_init_86 : decode cX2_init 86 = .ok (.aload_n 0, 1) := by decide +kernel
theorem dX2_init_87 : decode cX2_init 87 = .ok (.aload_n 1, 1) := by decide +kernel
theorem dX2_init_88 : decode cX2_init 88 = .ok (.getfield 51, 3) := by decide +kernel
theorem dX2_init_91 : decode cX2_init 91 = .ok (.putfield 57, 3) := by decide +kernel
theorem dX2_init_94 : decode cX2_init 94 = .ok (.aload_n 0, 1) := by decide +kernel
theorem dX2_init_95 : decode cX2_init 95 = .ok (.aload_n 2, 1) := by decide +kernel
theorem dX2_init_96 : decode cX2_init 96 = .ok (.putfield 58, 3) := by decide +kernel
theorem dX2_init_99 : decode cX2_init 99 = .ok (.lconst 1, 1) := by decide +kernel
theorem dX2_init_100 : decode cX2_init 100 = .ok (.lstore_n 3, 1) := by decide +kernel
theorem dX2_init_101 : decode cX2_init 101 = .ok (.bipush 15, 2) := by decide +kernel
theorem dX2_init_103 : decode cX2_init 103 = .ok (.istore 5, 2) := by decide +kernel
theorem dX2_init_105 : decode cX2_init 105 = .ok (.iload 5, 2) := by decide +kernel
theorem dX2_init_107 : decode cX2_init 107 = .ok (.ifCond .lt 23, 3) := by decide +kernel
theorem dX2_init_110 : decode cX2_init 110 = .ok (.aload_n 0, 1) := by decide +kernel
theorem dX2_init_111 : decode cX2_init 111 = .ok (.getfield 24, 3) := by decide +kernel
theorem dX2_init_114 : decode cX2_init 114 = .ok (.iload 5, 2) := by decide +kernel
theorem dX2_init_116 : decode cX2_init 116 = .ok (.lload_n 3, 1) := by decide +kernel
theorem dX2_init_117 : decode cX2_init 117 = .ok (.lastore, 1) := by decide +kernel
theorem dX2_init_118 : decode cX2_init 118 = .ok (.lload_n 3, 1) := by decide +kernel
theorem dX2_init_119 : decode cX2_init 119 = .ok (.ldc2_w 62, 3) := by decide +kernel
theorem dX2_init_122 : decode cX2_init 122 = .ok (.lmul, 1) := by decide +kernel
theorem dX2_init_123 : decode cX2_init 123 = .ok (.lstore_n 3, 1) := by decide +kernel
theorem dX2_init_124 : decode cX2_init 124 = .ok (.iinc 5 (-1), 3) := by decide +kernel
theorem dX2_init_127 : decode cX2_init 127 = .ok (.goto (-22), 3) := by decide +kernel
theorem dX2_init_130 : decode cX2_init 130 = .ok (.return_, 1) := by decide +kernel
theorem dX2_find_0 : decode cX2_find 0 = .ok (.aload_n 0, 1) := by decide +kernel
theorem dX2_find_1 : decode cX2_find 1 = .ok (.getfield 58, 3) := by decide +kernel
theorem dX2_find_4 : decode cX2_find 4 = .ok (.invokevirtual 64, 3) := by decide +kernel
theorem dX2_find_7 : decode cX2_find 7 = .ok (.aload_n 0, 1) := by decide +kernel
theorem dX2_find_8 : decode cX2_find 8 = .ok (.iload_n 1, 1) := by decide +kernel
theorem dX2_find_9 : decode cX2_find 9 = .ok (.putfield 31, 3) := by decide +kernel
theorem dX2_find_12 : decode cX2_find 12 = .ok (.iconst 0, 1) := by decide +kernel
theorem dX2_find_13 : decode cX2_find 13 = .ok (.istore 4, 2) := by decide +kernel
theorem dX2_find_15 : decode cX2_find 15 = .ok (.iconst 0, 1) := by decide +kernel
theorem dX2_find_16 : decode cX2_find 16 = .ok (.istore 5, 2) := by decide +kernel
theorem dX2_find_18 : decode cX2_find 18 = .ok (.iconst 0, 1) := by decide +kernel
theorem dX2_find_19 : decode cX2_find 19 = .ok (.istore 6, 2) := by decide +kernel
theorem dX2_find_21 : decode cX2_find 21 = .ok (.iload 6, 2) := by decide +kernel
theorem dX2_find_23 : decode cX2_find 23 = .ok (.aload_n 0, 1) := by decide +kernel
theorem dX2_find_24 : decode cX2_find 24 = .ok (.getfield 57, 3) := by decide +kernel
theorem dX2_find_27 : decode cX2_find 27 = .ok (.getfield 69, 3) := by decide +kernel
theorem dX2_find_30 : decode cX2_find 30 = .ok (.if_icmp .ge 67, 3) := by decide +kernel
theorem dX2_find_33 : decode cX2_find 33 = .ok (.iload 6, 2) := by decide +kernel
theorem dX2_find_35 : decode cX2_find 35 = .ok (.bipush 16, 2) := by decide +kernel
theorem dX2_find_37 : decode cX2_find 37 = .ok (.if_icmp .ge 60, 3) := by decide +kernel
theorem dX2_find_40 : decode cX2_find 40 = .ok (.aload_n 0, 1) := by decide +kernel
theorem dX2_find_41 : decode cX2_find 41 = .ok (.iload 6, 2) := by decide +kernel
theorem dX2_find_43 : decode cX2_find 43 = .ok (.invokevirtual 74, 3) := by decide +kernel
theorem dX2_find_46 : decode cX2_find 46 = .ok (.ifCond .eq 45, 3) := by decide +kernel
theorem dX2_find_49 : decode cX2_find 49 = .ok (.iload 4, 2) := by decide +kernel
theorem dX2_find_51 : decode cX2_find 51 = .ok (.iconst 1, 1) := by decide +kernel
theorem dX2_find_52 : decode cX2_find 52 = .ok (.aload_n 0, 1) := by decide +kernel
theorem dX2_find_53 : decode cX2_find 53 = .ok (.getfield 57, 3) := by decide +kernel
theorem dX2_find_56 : decode cX2_find 56 = .ok (.getfield 78, 3) := by decide +kernel
theorem dX2_find_59 : decode cX2_find 59 = .ok (.iload 6, 2) := by decide +kernel
theorem dX2_find_61 : decode cX2_find 61 = .ok (.iaload, 1) := by decide +kernel
theorem dX2_find_62 : decode cX2_find 62 = .ok (.ishl, 1) := by decide +kernel
theorem dX2_find_63 : decode cX2_find 63 = .ok (.ior, 1) := by decide +kernel
theorem dX2_find_64 : decode cX2_find 64 = .ok (.istore 4, 2) := by decide +kernel
theorem dX2_find_66 : decode cX2_find 66 = .ok (.iload 5, 2) := by decide +kernel
theorem dX2_find_68 : decode cX2_find 68 = .ok (.aload_n 0, 1) := by decide +kernel
theorem dX2_find_69 : decode cX2_find 69 = .ok (.getfield 57, 3) := by decide +kernel
theorem dX2_find_72 : decode cX2_find 72 = .ok (.getfield 80, 3) := by decide +kernel
theorem dX2_find_75 : decode cX2_find 75 = .ok (.iload 6, 2) := by decide +kernel
theorem dX2_find_77 : decode cX2_find 77 = .ok (.iaload, 1) := by decide +kernel
theorem dX2_find_78 : decode cX2_find 78 = .ok (.aload_n 0, 1) := by decide +kernel
theorem dX2_find_79 : decode cX2_find 79 = .ok (.getfield 47, 3) := by decide +kernel
theorem dX2_find_82 : decode cX2_find 82 = .ok (.iload 6, 2) := by decide +kernel
theorem dX2_find_84 : decode cX2_find 84 = .ok (.invokevirtual 81, 3) := by decide +kernel
theorem dX2_find_87 : decode cX2_find 87 = .ok (.imul, 1) := by decide +kernel
theorem dX2_find_88 : decode cX2_find 88 = .ok (.iadd, 1) := by decide +kernel
theorem dX2_find_89 : decode cX2_find 89 = .ok (.istore 5, 2) := by decide +kernel
theorem dX2_find_91 : decode cX2_find 91 = .ok (.iinc 6 1, 3) := by decide +kernel
theorem dX2_find_94 : decode cX2_find 94 = .ok (.goto (-73), 3) := by decide +kernel
theorem dX2_find_97 : decode cX2_find 97 = .ok (.aload_n 0, 1) := by decide +kernel
theorem dX2_find_98 : decode cX2_find 98 = .ok (.iload_n 2, 1) := by decide +kernel
theorem dX2_find_99 : decode cX2_find 99 = .ok (.iload 5, 2) := by decide +kernel
theorem dX2_find_101 : decode cX2_find 101 = .ok (.invokestatic 85, 3) := by decide +kernel
theorem dX2_find_104 : decode cX2_find 104 = .ok (.sipush 240, 3) := by decide +kernel
theorem dX2_find_107 : decode cX2_find 107 = .ok (.invokestatic 85, 3) := by decide +kernel
theorem dX2_find_110 : decode cX2_find 110 = .ok (.putfield 35, 3) := by decide +kernel
theorem dX2_find_113 : decode cX2_find 113 = .ok (.iload_n 3, 1) := by decide +kernel
theorem dX2_find_114 : decode cX2_find 114 = .ok (.iload 4, 2) := by decide +kernel
theorem dX2_find_116 : decode cX2_find 116 = .ok (.invokestatic 91, 3) := by decide +kernel
theorem dX2_find_119 : decode cX2_find 119 = .ok (.if_icmp .lt 7, 3) := by decide +kernel
theorem dX2_find_122 : decode cX2_find 122 = .ok (.iconst 1, 1) := by decide +kernel
theorem dX2_find_123 : decode cX2_find 123 = .ok (.goto 4, 3) := by decide +kernel
theorem dX2_find_126 : decode cX2_find 126 = .ok (.iconst 0, 1) := by decide +kernel
theorem dX2_find_127 : decode cX2_find 127 = .ok (.istore 6, 2) := by decide +kernel
theorem dX2_find_129 : decode cX2_find 129 = .ok (.iload 6, 2) := by decide +kernel
theorem dX2_find_131 : decode cX2_find 131 = .ok (.ifCond .eq 7, 3) := by decide +kernel
theorem dX2_find_134 : decode cX2_find 134 = .ok (.iconst 0, 1) := by decide +kernel
theorem dX2_find_135 : decode cX2_find 135 = .ok (.goto 4, 3) := by decide +kernel
theorem dX2_find_138 : decode cX2_find 138 = .ok (.iload_n 3, 1) := by decide +kernel
theorem dX2_find_139 : decode cX2_find 139 = .ok (.istore 7, 2) := by decide +kernel
theorem dX2_find_141 : decode cX2_find 141 = .ok (.aload_n 0, 1) := by decide +kernel
theorem dX2_find_142 : decode cX2_find 142 = .ok (.iload 7, 2) := by decide +kernel
theorem dX2_find_144 : decode cX2_find 144 = .ok (.invokevirtual 96, 3) := by decide +kernel
theorem dX2_find_147 : decode cX2_find 147 = .ok (.iconst 0, 1) := by decide +kernel
theorem dX2_find_148 : decode cX2_find 148 = .ok (.istore 8, 2) := by decide +kernel
theorem dX2_find_150 : decode cX2_find 150 = .ok (.iload 8, 2) := by decide +kernel
theorem dX2_find_152 : decode cX2_find 152 = .ok (.bipush 8, 2) := by decide +kernel
theorem dX2_find_154 : decode cX2_find 154 = .ok (.if_icmp .ge 66, 3) := by decide +kernel
theorem dX2_find_157 : decode cX2_find 157 = .ok (.iload 4, 2) := by decide +kernel
theorem dX2_find_159 : decode cX2_find 159 = .ok (.iload 8, 2) := by decide +kernel
theorem dX2_find_161 : decode cX2_find 161 = .ok (.ishr, 1) := by decide +kernel
theorem dX2_find_162 : decode cX2_find 162 = .ok (.iconst 1, 1) := by decide +kernel
theorem dX2_find_163 : decode cX2_find 163 = .ok (.iand, 1) := by decide +kernel
theorem dX2_find_164 : decode cX2_find 164 = .ok (.ifCond .eq 50, 3) := by decide +kernel
theorem dX2_find_167 : decode cX2_find 167 = .ok (.iload 7, 2) := by decide +kernel
theorem dX2_find_169 : decode cX2_find 169 = .ok (.istore 9, 2) := by decide +kernel
theorem dX2_find_171 : decode cX2_find 171 = .ok (.iload 9, 2) := by decide +kernel
theorem dX2_find_173 : decode cX2_find 173 = .ok (.iload 6, 2) := by decide +kernel
theorem dX2_find_175 : decode cX2_find 175 = .ok (.ifCond .eq 7, 3) := by decide +kernel
theorem dX2_find_178 : decode cX2_find 178 = .ok (.iconst 0, 1) := by decide +kernel
theorem dX2_find_179 : decode cX2_find 179 = .ok (.goto 4, 3) := by decide +kernel
theorem dX2_find_182 : decode cX2_find 182 = .ok (.iconst 1, 1) := by decide +kernel
theorem dX2_find_183 : decode cX2_find 183 = .ok (.if_icmp .lt 31, 3) := by decide +kernel
theorem dX2_find_186 : decode cX2_find 186 = .ok (.aload_n 0, 1) := by decide +kernel
theorem dX2_find_187 : decode cX2_find 187 = .ok (.iload 8, 2) := by decide +kernel
theorem dX2_find_189 : decode cX2_find 189 = .ok (.iload 6, 2) := by decide +kernel
theorem dX2_find_191 : decode cX2_find 191 = .ok (.ifCond .eq 8, 3) := by decide +kernel
theorem dX2_find_194 : decode cX2_find 194 = .ok (.iload 9, 2) := by decide +kernel
theorem dX2_find_196 : decode cX2_find 196 = .ok (.goto 7, 3) := by decide +kernel
theorem dX2_find_199 : decode cX2_find 199 = .ok (.iload 9, 2) := by decide +kernel
theorem dX2_find_201 : decode cX2_find 201 = .ok (.iconst 1, 1) := by decide +kernel
theorem dX2_find_202 : decode cX2_find 202 = .ok (.isub, 1) := by decide +kernel
theorem dX2_find_203 : decode cX2_find 203 = .ok (.iload 9, 2) := by decide +kernel
theorem dX2_find_205 : decode cX2_find 205 = .ok (.invokevirtual 100, 3) := by decide +kernel
theorem dX2_find_208 : decode cX2_find 208 = .ok (.iinc 9 (-1), 3) := by decide +kernel
theorem dX2_find_211 : decode cX2_find 211 = .ok (.goto (-40), 3) := by decide +kernel
theorem dX2_find_214 : decode cX2_find 214 = .ok (.iinc 8 1, 3) := by decide +kernel
theorem dX2_find_217 : decode cX2_find 217 = .ok (.goto (-67), 3) := by decide +kernel
theorem dX2_find_220 : decode cX2_find 220 = .ok (.aload_n 0, 1) := by decide +kernel
theorem dX2_find_221 : decode cX2_find 221 = .ok (.aload_n 0, 1) := by decide +kernel
theorem dX2_find_222 : decode cX2_find 222 = .ok (.getfield 15, 3) := by decide +kernel
theorem dX2_find_225 : decode cX2_find 225 = .ok (.iload 7, 2) := by decide +kernel
theorem dX2_find_227 : decode cX2_find 227 = .ok (.aload_n 0, 1) := by decide +kernel
theorem dX2_find_228 : decode cX2_find 228 = .ok (.getfield 35, 3) := by decide +kernel
theorem dX2_find_231 : decode cX2_find 231 = .ok (.invokestatic 104, 3) := by decide +kernel
theorem dX2_find_234 : decode cX2_find 234 = .ok (.laload, 1) := by decide +kernel
theorem dX2_find_235 : decode cX2_find 235 = .ok (.invokevirtual 107, 3) := by decide +kernel
theorem dX2_find_238 : decode cX2_find 238 = .ok (.return_, 1) := by decide +kernel
theorem dX2_isPlayable_0 : decode cX2_isPlayable 0 = .ok (.aload_n 0, 1) := by decide +kernel
theorem dX2_isPlayable_1 : decode cX2_isPlayable 1 = .ok (.getfield 57, 3) := by decide +kernel
theorem dX2_isPlayable_4 : decode cX2_isPlayable 4 = .ok (.iload_n 1, 1) := by decide +kernel
theorem dX2_isPlayable_5 : decode cX2_isPlayable 5 = .ok (.invokevirtual 111, 3) := by decide +kernel
theorem dX2_isPlayable_8 : decode cX2_isPlayable 8 = .ok (.ifCond .eq 47, 3) := by decide +kernel
theorem dX2_isPlayable_11 : decode cX2_isPlayable 11 = .ok (.aload_n 0, 1) := by decide +kernel
theorem dX2_isPlayable_12 : decode cX2_isPlayable 12 = .ok (.getfield 57, 3) := by decide +kernel
theorem dX2_isPlayable_15 : decode cX2_isPlayable 15 = .ok (.getfield 114, 3) := by decide +kernel
theorem dX2_isPlayable_18 : decode cX2_isPlayable 18 = .ok (.iload_n 1, 1) := by decide +kernel
theorem dX2_isPlayable_19 : decode cX2_isPlayable 19 = .ok (.iaload, 1) := by decide +kernel
theorem dX2_isPlayable_20 : decode cX2_isPlayable 20 = .ok (.aload_n 0, 1) := by decide +kernel
theorem dX2_isPlayable_21 : decode cX2_isPlayable 21 = .ok (.getfield 31, 3) := by decide +kernel
theorem dX2_isPlayable_24 : decode cX2_isPlayable 24 = .ok (.if_icmp .ne 31, 3) := by decide +kernel
theorem dX2_isPlayable_27 : decode cX2_isPlayable 27 = .ok (.aload_n 0, 1) := by decide +kernel
theorem dX2_isPlayable_28 : decode cX2_isPlayable 28 = .ok (.getfield 58, 3) := by decide +kernel
theorem dX2_isPlayable_31 : decode cX2_isPlayable 31 = .ok (.getfield 117, 3) := by decide +kernel
theorem dX2_isPlayable_34 : decode cX2_isPlayable 34 = .ok (.iload_n 1, 1) := by decide +kernel
theorem dX2_isPlayable_35 : decode cX2_isPlayable 35 = .ok (.baload, 1) := by decide +kernel
theorem dX2_isPlayable_36 : decode cX2_isPlayable 36 = .ok (.ifCond .ne 19, 3) := by decide +kernel
theorem dX2_isPlayable_39 : decode cX2_isPlayable 39 = .ok (.aload_n 0, 1) := by decide +kernel
theorem dX2_isPlayable_40 : decode cX2_isPlayable 40 = .ok (.getfield 58, 3) := by decide +kernel
theorem dX2_isPlayable_43 : decode cX2_isPlayable 43 = .ok (.getfield 121, 3) := by decide +kernel
theorem dX2_isPlayable_46 : decode cX2_isPlayable 46 = .ok (.iload_n 1, 1) := by decide +kernel
theorem dX2_isPlayable_47 : decode cX2_isPlayable 47 = .ok (.baload, 1) := by decide +kernel
theorem dX2_isPlayable_48 : decode cX2_isPlayable 48 = .ok (.ifCond .ne 7, 3) := by decide +kernel
theorem dX2_isPlayable_51 : decode cX2_isPlayable 51 = .ok (.iconst 1, 1) := by decide +kernel
theorem dX2_isPlayable_52 : decode cX2_isPlayable 52 = .ok (.goto 4, 3) := by decide +kernel
theorem dX2_isPlayable_55 : decode cX2_isPlayable 55 = .ok (.iconst 0, 1) := by decide +kernel
theorem dX2_isPlayable_56 : decode cX2_isPlayable 56 = .ok (.ireturn, 1) := by decide +kernel
theorem dX2_placeOf_0 : decode cX2_placeOf 0 = .ok (.iload_n 0, 1) := by decide +kernel
theorem dX2_placeOf_1 : decode cX2_placeOf 1 = .ok (.sipush 241, 3) := by decide +kernel
theorem dX2_placeOf_4 : decode cX2_placeOf 4 = .ok (.imul, 1) := by decide +kernel
theorem dX2_placeOf_5 : decode cX2_placeOf 5 = .ok (.iload_n 1, 1) := by decide +kernel
theorem dX2_placeOf_6 : decode cX2_placeOf 6 = .ok (.iadd, 1) := by decide +kernel
theorem dX2_placeOf_7 : decode cX2_placeOf 7 = .ok (.istore_n 2, 1) := by decide +kernel
theorem dX2_placeOf_8 : decode cX2_placeOf 8 = .ok (.iload_n 2, 1) := by decide +kernel
theorem dX2_placeOf_9 : decode cX2_placeOf 9 = .ok (.ifCond .lt 14, 3) := by decide +kernel
theorem dX2_placeOf_12 : decode cX2_placeOf 12 = .ok (.iload_n 2, 1) := by decide +kernel
theorem dX2_placeOf_13 : decode cX2_placeOf 13 = .ok (.sipush 1928, 3) := by decide +kernel
theorem dX2_placeOf_16 : decode cX2_placeOf 16 = .ok (.if_icmp .ge 7, 3) := by decide +kernel
theorem dX2_placeOf_19 : decode cX2_placeOf 19 = .ok (.iload_n 2, 1) := by decide +kernel
theorem dX2_placeOf_20 : decode cX2_placeOf 20 = .ok (.goto 4, 3) := by decide +kernel
theorem dX2_placeOf_23 : decode cX2_placeOf 23 = .ok (.iconst 0, 1) := by decide +kernel
theorem dX2_placeOf_24 : decode cX2_placeOf 24 = .ok (.ireturn, 1) := by decide +kernel
theorem dX2_clear_0 : decode cX2_clear 0 = .ok (.iload_n 1, 1) := by decide +kernel
theorem dX2_clear_1 : decode cX2_clear 1 = .ok (.iconst 1, 1) := by decide +kernel
theorem dX2_clear_2 : decode cX2_clear 2 = .ok (.iadd, 1) := by decide +kernel
theorem dX2_clear_3 : decode cX2_clear 3 = .ok (.sipush 241, 3) := by decide +kernel
theorem dX2_clear_6 : decode cX2_clear 6 = .ok (.imul, 1) := by decide +kernel
theorem dX2_clear_7 : decode cX2_clear 7 = .ok (.aload_n 0, 1) := by decide +kernel
theorem dX2_clear_8 : decode cX2_clear 8 = .ok (.getfield 11, 3) := by decide +kernel
theorem dX2_clear_11 : decode cX2_clear 11 = .ok (.arraylength, 1) := by decide +kernel
theorem dX2_clear_12 : decode cX2_clear 12 = .ok (.invokestatic 85, 3) := by decide +kernel
theorem dX2_clear_15 : decode cX2_clear 15 = .ok (.istore_n 2, 1) := by decide +kernel
theorem dX2_clear_16 : decode cX2_clear 16 = .ok (.iconst 0, 1) := by decide +kernel
theorem dX2_clear_17 : decode cX2_clear 17 = .ok (.istore_n 3, 1) := by decide +kernel
theorem dX2_clear_18 : decode cX2_clear 18 = .ok (.iload_n 3, 1) := by decide +kernel
theorem dX2_clear_19 : decode cX2_clear 19 = .ok (.iload_n 2, 1) := by decide +kernel
theorem dX2_clear_20 : decode cX2_clear 20 = .ok (.if_icmp .ge 23, 3) := by decide +kernel
theorem dX2_clear_23 : decode cX2_clear 23 = .ok (.aload_n 0, 1) := by decide +kernel
theorem dX2_clear_24 : decode cX2_clear 24 = .ok (.getfield 11, 3) := by decide +kernel
theorem dX2_clear_27 : decode cX2_clear 27 = .ok (.iload_n 3, 1) := by decide +kernel
theorem dX2_clear_28 : decode cX2_clear 28 = .ok (.lconst 0, 1) := by decide +kernel
theorem dX2_clear_29 : decode cX2_clear 29 = .ok (.lastore, 1) := by decide +kernel
theorem dX2_clear_30 : decode cX2_clear 30 = .ok (.aload_n 0, 1) := by decide +kernel
theorem dX2_clear_31 : decode cX2_clear 31 = .ok (.getfield 15, 3) := by decide +kernel
theorem dX2_clear_34 : decode cX2_clear 34 = .ok (.iload_n 3, 1) := by decide +kernel
theorem dX2_clear_35 : decode cX2_clear 35 = .ok (.lconst 0, 1) := by decide +kernel
theorem dX2_clear_36 : decode cX2_clear 36 = .ok (.lastore, 1) := by decide +kernel
theorem dX2_clear_37 : decode cX2_clear 37 = .ok (.iinc 3 1, 3) := by decide +kernel
theorem dX2_clear_40 : decode cX2_clear 40 = .ok (.goto (-22), 3) := by decide +kernel
theorem dX2_clear_43 : decode cX2_clear 43 = .ok (.return_, 1) := by decide +kernel
theorem dX2_join_0 : decode cX2_join 0 = .ok (.ldc2_w 124, 3) := by decide +kernel
theorem dX2_join_3 : decode cX2_join 3 = .ok (.ldc2_w 126, 3) := by decide +kernel
theorem dX2_join_6 : decode cX2_join 6 = .ok (.lconst 1, 1) := by decide +kernel
theorem dX2_join_7 : decode cX2_join 7 = .ok (.iload_n 1, 1) := by decide +kernel
theorem dX2_join_8 : decode cX2_join 8 = .ok (.lshl, 1) := by decide +kernel
theorem dX2_join_9 : decode cX2_join 9 = .ok (.lmul, 1) := by decide +kernel
theorem dX2_join_10 : decode cX2_join 10 = .ok (.ladd, 1) := by decide +kernel
theorem dX2_join_11 : decode cX2_join 11 = .ok (.lstore 4, 2) := by decide +kernel
theorem dX2_join_13 : decode cX2_join 13 = .ok (.iconst 0, 1) := by decide +kernel
theorem dX2_join_14 : decode cX2_join 14 = .ok (.istore 6, 2) := by decide +kernel
theorem dX2_join_16 : decode cX2_join 16 = .ok (.iload 6, 2) := by decide +kernel
theorem dX2_join_18 : decode cX2_join 18 = .ok (.aload_n 0, 1) := by decide +kernel
theorem dX2_join_19 : decode cX2_join 19 = .ok (.getfield 35, 3) := by decide +kernel
theorem dX2_join_22 : decode cX2_join 22 = .ok (.if_icmp .gt 56, 3) := by decide +kernel
theorem dX2_join_25 : decode cX2_join 25 = .ok (.iload 6, 2) := by decide +kernel
theorem dX2_join_27 : decode cX2_join 27 = .ok (.sipush 241, 3) := by decide +kernel
theorem dX2_join_30 : decode cX2_join 30 = .ok (.if_icmp .ge 48, 3) := by decide +kernel
theorem dX2_join_33 : decode cX2_join 33 = .ok (.iload_n 2, 1) := by decide +kernel
theorem dX2_join_34 : decode cX2_join 34 = .ok (.iload 6, 2) := by decide +kernel
theorem dX2_join_36 : decode cX2_join 36 = .ok (.invokestatic 104, 3) := by decide +kernel
theorem dX2_join_39 : decode cX2_join 39 = .ok (.istore 7, 2) := by decide +kernel
theorem dX2_join_41 : decode cX2_join 41 = .ok (.aload_n 0, 1) := by decide +kernel
theorem dX2_join_42 : decode cX2_join 42 = .ok (.getfield 18, 3) := by decide +kernel
theorem dX2_join_45 : decode cX2_join 45 = .ok (.iload 6, 2) := by decide +kernel
theorem dX2_join_47 : decode cX2_join 47 = .ok (.aload_n 0, 1) := by decide +kernel
theorem dX2_join_48 : decode cX2_join 48 = .ok (.getfield 11, 3) := by decide +kernel
theorem dX2_join_51 : decode cX2_join 51 = .ok (.iload 7, 2) := by decide +kernel
theorem dX2_join_53 : decode cX2_join 53 = .ok (.laload, 1) := by decide +kernel
theorem dX2_join_54 : decode cX2_join 54 = .ok (.lload 4, 2) := by decide +kernel
theorem dX2_join_56 : decode cX2_join 56 = .ok (.lsub, 1) := by decide +kernel
theorem dX2_join_57 : decode cX2_join 57 = .ok (.lastore, 1) := by decide +kernel
theorem dX2_join_58 : decode cX2_join 58 = .ok (.aload_n 0, 1) := by decide +kernel
theorem dX2_join_59 : decode cX2_join 59 = .ok (.getfield 21, 3) := by decide +kernel
theorem dX2_join_62 : decode cX2_join 62 = .ok (.iload 6, 2) := by decide +kernel
theorem dX2_join_64 : decode cX2_join 64 = .ok (.aload_n 0, 1) := by decide +kernel
theorem dX2_join_65 : decode cX2_join 65 = .ok (.getfield 15, 3) := by decide +kernel
theorem dX2_join_68 : decode cX2_join 68 = .ok (.iload 7, 2) := by decide +kernel
theorem dX2_join_70 : decode cX2_join 70 = .ok (.laload, 1) := by decide +kernel
theorem dX2_join_71 : decode cX2_join 71 = .ok (.lastore, 1) := by decide +kernel
theorem dX2_join_72 : decode cX2_join 72 = .ok (.iinc 6 1, 3) := by decide +kernel
theorem dX2_join_75 : decode cX2_join 75 = .ok (.goto (-59), 3) := by decide +kernel
theorem dX2_join_78 : decode cX2_join 78 = .ok (.iconst 0, 1) := by decide +kernel
theorem dX2_join_79 : decode cX2_join 79 = .ok (.istore 6, 2) := by decide +kernel
theorem dX2_join_81 : decode cX2_join 81 = .ok (.iload 6, 2) := by decide +kernel
theorem dX2_join_83 : decode cX2_join 83 = .ok (.aload_n 0, 1) := by decide +kernel
theorem dX2_join_84 : decode cX2_join 84 = .ok (.getfield 57, 3) := by decide +kernel
theorem dX2_join_87 : decode cX2_join 87 = .ok (.getfield 69, 3) := by decide +kernel
theorem dX2_join_90 : decode cX2_join 90 = .ok (.if_icmp .ge 45, 3) := by decide +kernel
theorem dX2_join_93 : decode cX2_join 93 = .ok (.iload 6, 2) := by decide +kernel
theorem dX2_join_95 : decode cX2_join 95 = .ok (.bipush 16, 2) := by decide +kernel
theorem dX2_join_97 : decode cX2_join 97 = .ok (.if_icmp .ge 38, 3) := by decide +kernel
theorem dX2_join_100 : decode cX2_join 100 = .ok (.aload_n 0, 1) := by decide +kernel
theorem dX2_join_101 : decode cX2_join 101 = .ok (.iload 6, 2) := by decide +kernel
theorem dX2_join_103 : decode cX2_join 103 = .ok (.invokevirtual 74, 3) := by decide +kernel
theorem dX2_join_106 : decode cX2_join 106 = .ok (.ifCond .eq 23, 3) := by decide +kernel
theorem dX2_join_109 : decode cX2_join 109 = .ok (.aload_n 0, 1) := by decide +kernel
theorem dX2_join_110 : decode cX2_join 110 = .ok (.getfield 57, 3) := by decide +kernel
theorem dX2_join_113 : decode cX2_join 113 = .ok (.getfield 78, 3) := by decide +kernel
theorem dX2_join_116 : decode cX2_join 116 = .ok (.iload 6, 2) := by decide +kernel
theorem dX2_join_118 : decode cX2_join 118 = .ok (.iaload, 1) := by decide +kernel
theorem dX2_join_119 : decode cX2_join 119 = .ok (.iload_n 1, 1) := by decide +kernel
theorem dX2_join_120 : decode cX2_join 120 = .ok (.if_icmp .ne 9, 3) := by decide +kernel
theorem dX2_join_123 : decode cX2_join 123 = .ok (.aload_n 0, 1) := by decide +kernel
theorem dX2_join_124 : decode cX2_join 124 = .ok (.iload 6, 2) := by decide +kernel
theorem dX2_join_126 : decode cX2_join 126 = .ok (.invokevirtual 128, 3) := by decide +kernel
theorem dX2_join_129 : decode cX2_join 129 = .ok (.iinc 6 1, 3) := by decide +kernel
theorem dX2_join_132 : decode cX2_join 132 = .ok (.goto (-51), 3) := by decide +kernel
theorem dX2_join_135 : decode cX2_join 135 = .ok (.iconst 0, 1) := by decide +kernel
theorem dX2_join_136 : decode cX2_join 136 = .ok (.istore 6, 2) := by decide +kernel
theorem dX2_join_138 : decode cX2_join 138 = .ok (.iload 6, 2) := by decide +kernel
theorem dX2_join_140 : decode cX2_join 140 = .ok (.aload_n 0, 1) := by decide +kernel
theorem dX2_join_141 : decode cX2_join 141 = .ok (.getfield 35, 3) := by decide +kernel
theorem dX2_join_144 : decode cX2_join 144 = .ok (.if_icmp .gt 87, 3) := by decide +kernel
theorem dX2_join_147 : decode cX2_join 147 = .ok (.iload 6, 2) := by decide +kernel
theorem dX2_join_149 : decode cX2_join 149 = .ok (.sipush 241, 3) := by decide +kernel
theorem dX2_join_152 : decode cX2_join 152 = .ok (.if_icmp .ge 79, 3) := by decide +kernel
theorem dX2_join_155 : decode cX2_join 155 = .ok (.iload_n 3, 1) := by decide +kernel
theorem dX2_join_156 : decode cX2_join 156 = .ok (.iload 6, 2) := by decide +kernel
theorem dX2_join_158 : decode cX2_join 158 = .ok (.invokestatic 104, 3) := by decide +kernel
theorem dX2_join_161 : decode cX2_join 161 = .ok (.istore 7, 2) := by decide +kernel
theorem dX2_join_163 : decode cX2_join 163 = .ok (.aload_n 0, 1) := by decide +kernel
theorem dX2_join_164 : decode cX2_join 164 = .ok (.getfield 18, 3) := by decide +kernel
theorem dX2_join_167 : decode cX2_join 167 = .ok (.iload 6, 2) := by decide +kernel
theorem dX2_join_169 : decode cX2_join 169 = .ok (.laload, 1) := by decide +kernel
theorem dX2_join_170 : decode cX2_join 170 = .ok (.aload_n 0, 1) := by decide +kernel
theorem dX2_join_171 : decode cX2_join 171 = .ok (.getfield 21, 3) := by decide +kernel
theorem dX2_join_174 : decode cX2_join 174 = .ok (.iload 6, 2) := by decide +kernel
theorem dX2_join_176 : decode cX2_join 176 = .ok (.laload, 1) := by decide +kernel
theorem dX2_join_177 : decode cX2_join 177 = .ok (.aload_n 0, 1) := by decide +kernel
theorem dX2_join_178 : decode cX2_join 178 = .ok (.getfield 11, 3) := by decide +kernel
theorem dX2_join_181 : decode cX2_join 181 = .ok (.iload 7, 2) := by decide +kernel
theorem dX2_join_183 : decode cX2_join 183 = .ok (.laload, 1) := by decide +kernel
theorem dX2_join_184 : decode cX2_join 184 = .ok (.aload_n 0, 1) := by decide +kernel
theorem dX2_join_185 : decode cX2_join 185 = .ok (.getfield 15, 3) := by decide +kernel
theorem dX2_join_188 : decode cX2_join 188 = .ok (.iload 7, 2) := by decide +kernel
theorem dX2_join_190 : decode cX2_join 190 = .ok (.laload, 1) := by decide +kernel
theorem dX2_join_191 : decode cX2_join 191 = .ok (.invokestatic 131, 3) := by decide +kernel
theorem dX2_join_194 : decode cX2_join 194 = .ok (.ifCond .eq 31, 3) := by decide +kernel
theorem dX2_join_197 : decode cX2_join 197 = .ok (.aload_n 0, 1) := by decide +kernel
theorem dX2_join_198 : decode cX2_join 198 = .ok (.getfield 11, 3) := by decide +kernel
theorem dX2_join_201 : decode cX2_join 201 = .ok (.iload 7, 2) := by decide +kernel
theorem dX2_join_203 : decode cX2_join 203 = .ok (.aload_n 0, 1) := by decide +kernel
theorem dX2_join_204 : decode cX2_join 204 = .ok (.getfield 18, 3) := by decide +kernel
theorem dX2_join_207 : decode cX2_join 207 = .ok (.iload 6, 2) := by decide +kernel
theorem dX2_join_209 : decode cX2_join 209 = .ok (.laload, 1) := by decide +kernel
theorem dX2_join_210 : decode cX2_join 210 = .ok (.lastore, 1) := by decide +kernel
theorem dX2_join_211 : decode cX2_join 211 = .ok (.aload_n 0, 1) := by decide +kernel
theorem dX2_join_212 : decode cX2_join 212 = .ok (.getfield 15, 3) := by decide +kernel
theorem dX2_join_215 : decode cX2_join 215 = .ok (.iload 7, 2) := by decide +kernel
theorem dX2_join_217 : decode cX2_join 217 = .ok (.aload_n 0, 1) := by decide +kernel
theorem dX2_join_218 : decode cX2_join 218 = .ok (.getfield 21, 3) := by decide +kernel
theorem dX2_join_221 : decode cX2_join 221 = .ok (.iload 6, 2) := by decide +kernel
theorem dX2_join_223 : decode cX2_join 223 = .ok (.laload, 1) := by decide +kernel
theorem dX2_join_224 : decode cX2_join 224 = .ok (.lastore, 1) := by decide +kernel
theorem dX2_join_225 : decode cX2_join 225 = .ok (.iinc 6 1, 3) := by decide +kernel
theorem dX2_join_228 : decode cX2_join 228 = .ok (.goto (-90), 3) := by decide +kernel
theorem dX2_join_231 : decode cX2_join 231 = .ok (.return_, 1) := by decide +kernel
theorem dX2_offer_0 : decode cX2_offer 0 = .ok (.aload_n 0, 1) := by decide +kernel
theorem dX2_offer_1 : decode cX2_offer 1 = .ok (.getfield 57, 3) := by decide +kernel
theorem dX2_offer_4 : decode cX2_offer 4 = .ok (.iload_n 1, 1) := by decide +kernel
theorem dX2_offer_5 : decode cX2_offer 5 = .ok (.invokevirtual 111, 3) := by decide +kernel
theorem dX2_offer_8 : decode cX2_offer 8 = .ok (.ifCond .eq 15, 3) := by decide +kernel
theorem dX2_offer_11 : decode cX2_offer 11 = .ok (.aload_n 0, 1) := by decide +kernel
theorem dX2_offer_12 : decode cX2_offer 12 = .ok (.getfield 57, 3) := by decide +kernel
theorem dX2_offer_15 : decode cX2_offer 15 = .ok (.getfield 80, 3) := by decide +kernel
theorem dX2_offer_18 : decode cX2_offer 18 = .ok (.iload_n 1, 1) := by decide +kernel
theorem dX2_offer_19 : decode cX2_offer 19 = .ok (.iaload, 1) := by decide +kernel
theorem dX2_offer_20 : decode cX2_offer 20 = .ok (.goto 4, 3) := by decide +kernel
theorem dX2_offer_23 : decode cX2_offer 23 = .ok (.iconst 0, 1) := by decide +kernel
theorem dX2_offer_24 : decode cX2_offer 24 = .ok (.istore_n 2, 1) := by decide +kernel
theorem dX2_offer_25 : decode cX2_offer 25 = .ok (.iconst 1, 1) := by decide +kernel
theorem dX2_offer_26 : decode cX2_offer 26 = .ok (.istore_n 3, 1) := by decide +kernel
theorem dX2_offer_27 : decode cX2_offer 27 = .ok (.iload_n 2, 1) := by decide +kernel
theorem dX2_offer_28 : decode cX2_offer 28 = .ok (.ifCond .le 35, 3) := by decide +kernel
theorem dX2_offer_31 : decode cX2_offer 31 = .ok (.iload_n 3, 1) := by decide +kernel
theorem dX2_offer_32 : decode cX2_offer 32 = .ok (.bipush 9, 2) := by decide +kernel
theorem dX2_offer_34 : decode cX2_offer 34 = .ok (.if_icmp .gt 29, 3) := by decide +kernel
theorem dX2_offer_37 : decode cX2_offer 37 = .ok (.iload_n 3, 1) := by decide +kernel
theorem dX2_offer_38 : decode cX2_offer 38 = .ok (.iload_n 2, 1) := by decide +kernel
theorem dX2_offer_39 : decode cX2_offer 39 = .ok (.invokestatic 85, 3) := by decide +kernel
theorem dX2_offer_42 : decode cX2_offer 42 = .ok (.istore 4, 2) := by decide +kernel
theorem dX2_offer_44 : decode cX2_offer 44 = .ok (.aload_n 0, 1) := by decide +kernel
theorem dX2_offer_45 : decode cX2_offer 45 = .ok (.iload_n 1, 1) := by decide +kernel
theorem dX2_offer_46 : decode cX2_offer 46 = .ok (.iload 4, 2) := by decide +kernel
theorem dX2_offer_48 : decode cX2_offer 48 = .ok (.invokevirtual 135, 3) := by decide +kernel
theorem dX2_offer_51 : decode cX2_offer 51 = .ok (.iload_n 2, 1) := by decide +kernel
theorem dX2_offer_52 : decode cX2_offer 52 = .ok (.iload 4, 2) := by decide +kernel
theorem dX2_offer_54 : decode cX2_offer 54 = .ok (.isub, 1) := by decide +kernel
theorem dX2_offer_55 : decode cX2_offer 55 = .ok (.istore_n 2, 1) := by decide +kernel
theorem dX2_offer_56 : decode cX2_offer 56 = .ok (.iload_n 3, 1) := by decide +kernel
theorem dX2_offer_57 : decode cX2_offer 57 = .ok (.iconst 2, 1) := by decide +kernel
theorem dX2_offer_58 : decode cX2_offer 58 = .ok (.imul, 1) := by decide +kernel
theorem dX2_offer_59 : decode cX2_offer 59 = .ok (.istore_n 3, 1) := by decide +kernel
theorem dX2_offer_60 : decode cX2_offer 60 = .ok (.goto (-33), 3) := by decide +kernel
theorem dX2_offer_63 : decode cX2_offer 63 = .ok (.return_, 1) := by decide +kernel
theorem dX2_offerBundle_0 : decode cX2_offerBundle 0 = .ok (.iload_n 2, 1) := by decide +kernel
theorem dX2_offerBundle_1 : decode cX2_offerBundle 1 = .ok (.aload_n 0, 1) := by decide +kernel
theorem dX2_offerBundle_2 : decode cX2_offerBundle 2 = .ok (.getfield 47, 3) := by decide +kernel
theorem dX2_offerBundle_5 : decode cX2_offerBundle 5 = .ok (.iload_n 1, 1) := by decide +kernel
theorem dX2_offerBundle_6 : decode cX2_offerBundle 6 = .ok (.invokevirtual 81, 3) := by decide +kernel
theorem dX2_offerBundle_9 : decode cX2_offerBundle 9 = .ok (.imul, 1) := by decide +kernel
theorem dX2_offerBundle_10 : decode cX2_offerBundle 10 = .ok (.istore_n 3, 1) := by decide +kernel
theorem dX2_offerBundle_11 : decode cX2_offerBundle 11 = .ok (.iload_n 3, 1) := by decide +kernel
theorem dX2_offerBundle_12 : decode cX2_offerBundle 12 = .ok (.iconst 1, 1) := by decide +kernel
theorem dX2_offerBundle_13 : decode cX2_offerBundle 13 = .ok (.if_icmp .lt 13, 3) := by decide +kernel
theorem dX2_offerBundle_16 : decode cX2_offerBundle 16 = .ok (.iload_n 1, 1) := by decide +kernel
theorem dX2_offerBundle_17 : decode cX2_offerBundle 17 = .ok (.ifCond .lt 9, 3) := by decide +kernel
theorem dX2_offerBundle_20 : decode cX2_offerBundle 20 = .ok (.iload_n 1, 1) := by decide +kernel
theorem dX2_offerBundle_21 : decode cX2_offerBundle 21 = .ok (.bipush 16, 2) := by decide +kernel
theorem dX2_offerBundle_23 : decode cX2_offerBundle 23 = .ok (.if_icmp .lt 4, 3) := by decide +kernel
theorem dX2_offerBundle_26 : decode cX2_offerBundle 26 = .ok (.return_, 1) := by decide +kernel
theorem dX2_offerBundle_27 : decode cX2_offerBundle 27 = .ok (.ldc2_w 139, 3) := by decide +kernel
theorem dX2_offerBundle_30 : decode cX2_offerBundle 30 = .ok (.iload_n 2, 1) := by decide +kernel
theorem dX2_offerBundle_31 : decode cX2_offerBundle 31 = .ok (.i2l, 1) := by decide +kernel
theorem dX2_offerBundle_32 : decode cX2_offerBundle 32 = .ok (.lmul, 1) := by decide +kernel
theorem dX2_offerBundle_33 : decode cX2_offerBundle 33 = .ok (.aload_n 0, 1) := by decide +kernel
theorem dX2_offerBundle_34 : decode cX2_offerBundle 34 = .ok (.getfield 58, 3) := by decide +kernel
theorem dX2_offerBundle_37 : decode cX2_offerBundle 37 = .ok (.getfield 141, 3) := by decide +kernel
theorem dX2_offerBundle_40 : decode cX2_offerBundle 40 = .ok (.iload_n 1, 1) := by decide +kernel
theorem dX2_offerBundle_41 : decode cX2_offerBundle 41 = .ok (.iaload, 1) := by decide +kernel
theorem dX2_offerBundle_42 : decode cX2_offerBundle 42 = .ok (.i2l, 1) := by decide +kernel
theorem dX2_offerBundle_43 : decode cX2_offerBundle 43 = .ok (.lmul, 1) := by decide +kernel
theorem dX2_offerBundle_44 : decode cX2_offerBundle 44 = .ok (.iload_n 3, 1) := by decide +kernel
theorem dX2_offerBundle_45 : decode cX2_offerBundle 45 = .ok (.i2l, 1) := by decide +kernel
theorem dX2_offerBundle_46 : decode cX2_offerBundle 46 = .ok (.lsub, 1) := by decide +kernel
theorem dX2_offerBundle_47 : decode cX2_offerBundle 47 = .ok (.lstore 4, 2) := by decide +kernel
theorem dX2_offerBundle_49 : decode cX2_offerBundle 49 = .ok (.aload_n 0, 1) := by decide +kernel
theorem dX2_offerBundle_50 : decode cX2_offerBundle 50 = .ok (.getfield 24, 3) := by decide +kernel
theorem dX2_offerBundle_53 : decode cX2_offerBundle 53 = .ok (.iload_n 1, 1) := by decide +kernel
theorem dX2_offerBundle_54 : decode cX2_offerBundle 54 = .ok (.laload, 1) := by decide +kernel
theorem dX2_offerBundle_55 : decode cX2_offerBundle 55 = .ok (.iload_n 2, 1) := by decide +kernel
theorem dX2_offerBundle_56 : decode cX2_offerBundle 56 = .ok (.i2l, 1) := by decide +kernel
theorem dX2_offerBundle_57 : decode cX2_offerBundle 57 = .ok (.lmul, 1) := by decide +kernel
theorem dX2_offerBundle_58 : decode cX2_offerBundle 58 = .ok (.lstore 6, 2) := by decide +kernel
theorem dX2_offerBundle_60 : decode cX2_offerBundle 60 = .ok (.aload_n 0, 1) := by decide +kernel
theorem dX2_offerBundle_61 : decode cX2_offerBundle 61 = .ok (.getfield 35, 3) := by decide +kernel
theorem dX2_offerBundle_64 : decode cX2_offerBundle 64 = .ok (.sipush 240, 3) := by decide +kernel
theorem dX2_offerBundle_67 : decode cX2_offerBundle 67 = .ok (.invokestatic 85, 3) := by decide +kernel
theorem dX2_offerBundle_70 : decode cX2_offerBundle 70 = .ok (.istore 8, 2) := by decide +kernel
theorem dX2_offerBundle_72 : decode cX2_offerBundle 72 = .ok (.iload 8, 2) := by decide +kernel
theorem dX2_offerBundle_74 : decode cX2_offerBundle 74 = .ok (.iload_n 3, 1) := by decide +kernel
theorem dX2_offerBundle_75 : decode cX2_offerBundle 75 = .ok (.if_icmp .lt 79, 3) := by decide +kernel
theorem dX2_offerBundle_78 : decode cX2_offerBundle 78 = .ok (.aload_n 0, 1) := by decide +kernel
theorem dX2_offerBundle_79 : decode cX2_offerBundle 79 = .ok (.getfield 18, 3) := by decide +kernel
theorem dX2_offerBundle_82 : decode cX2_offerBundle 82 = .ok (.iload 8, 2) := by decide +kernel
theorem dX2_offerBundle_84 : decode cX2_offerBundle 84 = .ok (.iload_n 3, 1) := by decide +kernel
theorem dX2_offerBundle_85 : decode cX2_offerBundle 85 = .ok (.isub, 1) := by decide +kernel
theorem dX2_offerBundle_86 : decode cX2_offerBundle 86 = .ok (.laload, 1) := by decide +kernel
theorem dX2_offerBundle_87 : decode cX2_offerBundle 87 = .ok (.lload 4, 2) := by decide +kernel
theorem dX2_offerBundle_89 : decode cX2_offerBundle 89 = .ok (.ladd, 1) := by decide +kernel
theorem dX2_offerBundle_90 : decode cX2_offerBundle 90 = .ok (.lstore 9, 2) := by decide +kernel
theorem dX2_offerBundle_92 : decode cX2_offerBundle 92 = .ok (.aload_n 0, 1) := by decide +kernel
theorem dX2_offerBundle_93 : decode cX2_offerBundle 93 = .ok (.getfield 21, 3) := by decide +kernel
theorem dX2_offerBundle_96 : decode cX2_offerBundle 96 = .ok (.iload 8, 2) := by decide +kernel
theorem dX2_offerBundle_98 : decode cX2_offerBundle 98 = .ok (.iload_n 3, 1) := by decide +kernel
theorem dX2_offerBundle_99 : decode cX2_offerBundle 99 = .ok (.isub, 1) := by decide +kernel
theorem dX2_offerBundle_100 : decode cX2_offerBundle 100 = .ok (.laload, 1) := by decide +kernel
theorem dX2_offerBundle_101 : decode cX2_offerBundle 101 = .ok (.lload 6, 2) := by decide +kernel
theorem dX2_offerBundle_103 : decode cX2_offerBundle 103 = .ok (.ladd, 1) := by decide +kernel
theorem dX2_offerBundle_104 : decode cX2_offerBundle 104 = .ok (.lstore 11, 2) := by decide +kernel
theorem dX2_offerBundle_106 : decode cX2_offerBundle 106 = .ok (.lload 9, 2) := by decide +kernel
theorem dX2_offerBundle_108 : decode cX2_offerBundle 108 = .ok (.lload 11, 2) := by decide +kernel
theorem dX2_offerBundle_110 : decode cX2_offerBundle 110 = .ok (.aload_n 0, 1) := by decide +kernel
theorem dX2_offerBundle_111 : decode cX2_offerBundle 111 = .ok (.getfield 18, 3) := by decide +kernel
theorem dX2_offerBundle_114 : decode cX2_offerBundle 114 = .ok (.iload 8, 2) := by decide +kernel
theorem dX2_offerBundle_116 : decode cX2_offerBundle 116 = .ok (.laload, 1) := by decide +kernel
theorem dX2_offerBundle_117 : decode cX2_offerBundle 117 = .ok (.aload_n 0, 1) := by decide +kernel
theorem dX2_offerBundle_118 : decode cX2_offerBundle 118 = .ok (.getfield 21, 3) := by decide +kernel
theorem dX2_offerBundle_121 : decode cX2_offerBundle 121 = .ok (.iload 8, 2) := by decide +kernel
theorem dX2_offerBundle_123 : decode cX2_offerBundle 123 = .ok (.laload, 1) := by decide +kernel
theorem dX2_offerBundle_124 : decode cX2_offerBundle 124 = .ok (.invokestatic 131, 3) := by decide +kernel
theorem dX2_offerBundle_127 : decode cX2_offerBundle 127 = .ok (.ifCond .eq 21, 3) := by decide +kernel
theorem dX2_offerBundle_130 : decode cX2_offerBundle 130 = .ok (.aload_n 0, 1) := by decide +kernel
theorem dX2_offerBundle_131 : decode cX2_offerBundle 131 = .ok (.getfield 18, 3) := by decide +kernel
theorem dX2_offerBundle_134 : decode cX2_offerBundle 134 = .ok (.iload 8, 2) := by decide +kernel
theorem dX2_offerBundle_136 : decode cX2_offerBundle 136 = .ok (.lload 9, 2) := by decide +kernel
theorem dX2_offerBundle_138 : decode cX2_offerBundle 138 = .ok (.lastore, 1) := by decide +kernel
theorem dX2_offerBundle_139 : decode cX2_offerBundle 139 = .ok (.aload_n 0, 1) := by decide +kernel
theorem dX2_offerBundle_140 : decode cX2_offerBundle 140 = .ok (.getfield 21, 3) := by decide +kernel
theorem dX2_offerBundle_143 : decode cX2_offerBundle 143 = .ok (.iload 8, 2) := by decide +kernel
theorem dX2_offerBundle_145 : decode cX2_offerBundle 145 = .ok (.lload 11, 2) := by decide +kernel
theorem dX2_offerBundle_147 : decode cX2_offerBundle 147 = .ok (.lastore, 1) := by decide +kernel
theorem dX2_offerBundle_148 : decode cX2_offerBundle 148 = .ok (.iinc 8 (-1), 3) := by decide +kernel
theorem dX2_offerBundle_151 : decode cX2_offerBundle 151 = .ok (.goto (-79), 3) := by decide +kernel
theorem dX2_offerBundle_154 : decode cX2_offerBundle 154 = .ok (.return_, 1) := by decide +kernel
theorem dX2_isBetter_0 : decode cX2_isBetter 0 = .ok (.lload_n 0, 1) := by decide +kernel
theorem dX2_isBetter_1 : decode cX2_isBetter 1 = .ok (.lload 4, 2) := by decide +kernel
theorem dX2_isBetter_3 : decode cX2_isBetter 3 = .ok (.lcmp, 1) := by decide +kernel
theorem dX2_isBetter_4 : decode cX2_isBetter 4 = .ok (.ifCond .gt 17, 3) := by decide +kernel
theorem dX2_isBetter_7 : decode cX2_isBetter 7 = .ok (.lload_n 0, 1) := by decide +kernel
theorem dX2_isBetter_8 : decode cX2_isBetter 8 = .ok (.lload 4, 2) := by decide +kernel
theorem dX2_isBetter_10 : decode cX2_isBetter 10 = .ok (.lcmp, 1) := by decide +kernel
theorem dX2_isBetter_11 : decode cX2_isBetter 11 = .ok (.ifCond .ne 14, 3) := by decide +kernel
theorem dX2_isBetter_14 : decode cX2_isBetter 14 = .ok (.lload_n 2, 1) := by decide +kernel
theorem dX2_isBetter_15 : decode cX2_isBetter 15 = .ok (.lload 6, 2) := by decide +kernel
theorem dX2_isBetter_17 : decode cX2_isBetter 17 = .ok (.lcmp, 1) := by decide +kernel
theorem dX2_isBetter_18 : decode cX2_isBetter 18 = .ok (.ifCond .ge 7, 3) := by decide +kernel
theorem dX2_isBetter_21 : decode cX2_isBetter 21 = .ok (.iconst 1, 1) := by decide +kernel
theorem dX2_isBetter_22 : decode cX2_isBetter 22 = .ok (.goto 4, 3) := by decide +kernel
theorem dX2_isBetter_25 : decode cX2_isBetter 25 = .ok (.iconst 0, 1) := by decide +kernel
theorem dX2_isBetter_26 : decode cX2_isBetter 26 = .ok (.ireturn, 1) := by decide +kernel
theorem dX2_read_0 : decode cX2_read 0 = .ok (.aload_n 0, 1) := by decide +kernel
theorem dX2_read_1 : decode cX2_read 1 = .ok (.iconst 0, 1) := by decide +kernel
theorem dX2_read_2 : decode cX2_read 2 = .ok (.putfield 38, 3) := by decide +kernel
theorem dX2_read_5 : decode cX2_read 5 = .ok (.aload_n 0, 1) := by decide +kernel
theorem dX2_read_6 : decode cX2_read 6 = .ok (.iconst 0, 1) := by decide +kernel
theorem dX2_read_7 : decode cX2_read 7 = .ok (.putfield 41, 3) := by decide +kernel
theorem dX2_read_10 : decode cX2_read 10 = .ok (.aload_n 0, 1) := by decide +kernel
theorem dX2_read_11 : decode cX2_read 11 = .ok (.iconst 0, 1) := by decide +kernel
theorem dX2_read_12 : decode cX2_read 12 = .ok (.putfield 44, 3) := by decide +kernel
theorem dX2_read_15 : decode cX2_read 15 = .ok (.iconst 0, 1) := by decide +kernel
theorem dX2_read_16 : decode cX2_read 16 = .ok (.istore_n 3, 1) := by decide +kernel
theorem dX2_read_17 : decode cX2_read 17 = .ok (.iload_n 3, 1) := by decide +kernel
theorem dX2_read_18 : decode cX2_read 18 = .ok (.aload_n 0, 1) := by decide +kernel
theorem dX2_read_19 : decode cX2_read 19 = .ok (.getfield 57, 3) := by decide +kernel
theorem dX2_read_22 : decode cX2_read 22 = .ok (.getfield 69, 3) := by decide +kernel
theorem dX2_read_25 : decode cX2_read 25 = .ok (.if_icmp .ge 119, 3) := by decide +kernel
theorem dX2_read_28 : decode cX2_read 28 = .ok (.iload_n 3, 1) := by decide +kernel
theorem dX2_read_29 : decode cX2_read 29 = .ok (.bipush 16, 2) := by decide +kernel
theorem dX2_read_31 : decode cX2_read 31 = .ok (.if_icmp .ge 113, 3) := by decide +kernel
theorem dX2_read_34 : decode cX2_read 34 = .ok (.aload_n 0, 1) := by decide +kernel
theorem dX2_read_35 : decode cX2_read 35 = .ok (.getfield 24, 3) := by decide +kernel
theorem dX2_read_38 : decode cX2_read 38 = .ok (.iload_n 3, 1) := by decide +kernel
theorem dX2_read_39 : decode cX2_read 39 = .ok (.laload, 1) := by decide +kernel
theorem dX2_read_40 : decode cX2_read 40 = .ok (.lstore 4, 2) := by decide +kernel
theorem dX2_read_42 : decode cX2_read 42 = .ok (.lload 4, 2) := by decide +kernel
theorem dX2_read_44 : decode cX2_read 44 = .ok (.lconst 0, 1) := by decide +kernel
theorem dX2_read_45 : decode cX2_read 45 = .ok (.lcmp, 1) := by decide +kernel
theorem dX2_read_46 : decode cX2_read 46 = .ok (.ifCond .le 15, 3) := by decide +kernel
theorem dX2_read_49 : decode cX2_read 49 = .ok (.lload_n 1, 1) := by decide +kernel
theorem dX2_read_50 : decode cX2_read 50 = .ok (.lload 4, 2) := by decide +kernel
theorem dX2_read_52 : decode cX2_read 52 = .ok (.ldiv, 1) := by decide +kernel
theorem dX2_read_53 : decode cX2_read 53 = .ok (.ldc2_w 62, 3) := by decide +kernel
theorem dX2_read_56 : decode cX2_read 56 = .ok (.lrem, 1) := by decide +kernel
theorem dX2_read_57 : decode cX2_read 57 = .ok (.l2i, 1) := by decide +kernel
theorem dX2_read_58 : decode cX2_read 58 = .ok (.goto 4, 3) := by decide +kernel
theorem dX2_read_61 : decode cX2_read 61 = .ok (.iconst 0, 1) := by decide +kernel
theorem dX2_read_62 : decode cX2_read 62 = .ok (.istore 6, 2) := by decide +kernel
theorem dX2_read_64 : decode cX2_read 64 = .ok (.aload_n 0, 1) := by decide +kernel
theorem dX2_read_65 : decode cX2_read 65 = .ok (.getfield 27, 3) := by decide +kernel
theorem dX2_read_68 : decode cX2_read 68 = .ok (.iload_n 3, 1) := by decide +kernel
theorem dX2_read_69 : decode cX2_read 69 = .ok (.iload 6, 2) := by decide +kernel
theorem dX2_read_71 : decode cX2_read 71 = .ok (.iastore, 1) := by decide +kernel
theorem dX2_read_72 : decode cX2_read 72 = .ok (.iload 6, 2) := by decide +kernel
theorem dX2_read_74 : decode cX2_read 74 = .ok (.ifCond .le 64, 3) := by decide +kernel
theorem dX2_read_77 : decode cX2_read 77 = .ok (.aload_n 0, 1) := by decide +kernel
theorem dX2_read_78 : decode cX2_read 78 = .ok (.dup, 1) := by decide +kernel
theorem dX2_read_79 : decode cX2_read 79 = .ok (.getfield 38, 3) := by decide +kernel
theorem dX2_read_82 : decode cX2_read 82 = .ok (.iload 6, 2) := by decide +kernel
theorem dX2_read_84 : decode cX2_read 84 = .ok (.aload_n 0, 1) := by decide +kernel
theorem dX2_read_85 : decode cX2_read 85 = .ok (.getfield 58, 3) := by decide +kernel
theorem dX2_read_88 : decode cX2_read 88 = .ok (.getfield 141, 3) := by decide +kernel
theorem dX2_read_91 : decode cX2_read 91 = .ok (.iload_n 3, 1) := by decide +kernel
theorem dX2_read_92 : decode cX2_read 92 = .ok (.iaload, 1) := by decide +kernel
theorem dX2_read_93 : decode cX2_read 93 = .ok (.imul, 1) := by decide +kernel
theorem dX2_read_94 : decode cX2_read 94 = .ok (.iadd, 1) := by decide +kernel
theorem dX2_read_95 : decode cX2_read 95 = .ok (.putfield 38, 3) := by decide +kernel
theorem dX2_read_98 : decode cX2_read 98 = .ok (.aload_n 0, 1) := by decide +kernel
theorem dX2_read_99 : decode cX2_read 99 = .ok (.dup, 1) := by decide +kernel
theorem dX2_read_100 : decode cX2_read 100 = .ok (.getfield 41, 3) := by decide +kernel
theorem dX2_read_103 : decode cX2_read 103 = .ok (.iconst 1, 1) := by decide +kernel
theorem dX2_read_104 : decode cX2_read 104 = .ok (.aload_n 0, 1) := by decide +kernel
theorem dX2_read_105 : decode cX2_read 105 = .ok (.getfield 57, 3) := by decide +kernel
theorem dX2_read_108 : decode cX2_read 108 = .ok (.getfield 78, 3) := by decide +kernel
theorem dX2_read_111 : decode cX2_read 111 = .ok (.iload_n 3, 1) := by decide +kernel
theorem dX2_read_112 : decode cX2_read 112 = .ok (.iaload, 1) := by decide +kernel
theorem dX2_read_113 : decode cX2_read 113 = .ok (.ishl, 1) := by decide +kernel
theorem dX2_read_114 : decode cX2_read 114 = .ok (.ior, 1) := by decide +kernel
theorem dX2_read_115 : decode cX2_read 115 = .ok (.putfield 41, 3) := by decide +kernel
theorem dX2_read_118 : decode cX2_read 118 = .ok (.aload_n 0, 1) := by decide +kernel
theorem dX2_read_119 : decode cX2_read 119 = .ok (.dup, 1) := by decide +kernel
theorem dX2_read_120 : decode cX2_read 120 = .ok (.getfield 44, 3) := by decide +kernel
theorem dX2_read_123 : decode cX2_read 123 = .ok (.iload 6, 2) := by decide +kernel
theorem dX2_read_125 : decode cX2_read 125 = .ok (.aload_n 0, 1) := by decide +kernel
theorem dX2_read_126 : decode cX2_read 126 = .ok (.getfield 47, 3) := by decide +kernel
theorem dX2_read_129 : decode cX2_read 129 = .ok (.iload_n 3, 1) := by decide +kernel
theorem dX2_read_130 : decode cX2_read 130 = .ok (.invokevirtual 81, 3) := by decide +kernel
theorem dX2_read_133 : decode cX2_read 133 = .ok (.imul, 1) := by decide +kernel
theorem dX2_read_134 : decode cX2_read 134 = .ok (.iadd, 1) := by decide +kernel
theorem dX2_read_135 : decode cX2_read 135 = .ok (.putfield 44, 3) := by decide +kernel
theorem dX2_read_138 : decode cX2_read 138 = .ok (.iinc 3 1, 3) := by decide +kernel
theorem dX2_read_141 : decode cX2_read 141 = .ok (.goto (-124), 3) := by decide +kernel
theorem dX2_read_144 : decode cX2_read 144 = .ok (.return_, 1) := by decide +kernel
theorem dX2_payAll_0 : decode cX2_payAll 0 = .ok (.iconst 0, 1) := by decide +kernel
theorem dX2_payAll_1 : decode cX2_payAll 1 = .ok (.istore_n 1, 1) := by decide +kernel
theorem dX2_payAll_2 : decode cX2_payAll 2 = .ok (.iload_n 1, 1) := by decide +kernel
theorem dX2_payAll_3 : decode cX2_payAll 3 = .ok (.aload_n 0, 1) := by decide +kernel
theorem dX2_payAll_4 : decode cX2_payAll 4 = .ok (.getfield 57, 3) := by decide +kernel
theorem dX2_payAll_7 : decode cX2_payAll 7 = .ok (.getfield 69, 3) := by decide +kernel
theorem dX2_payAll_10 : decode cX2_payAll 10 = .ok (.if_icmp .ge 33, 3) := by decide +kernel
theorem dX2_payAll_13 : decode cX2_payAll 13 = .ok (.iload_n 1, 1) := by decide +kernel
theorem dX2_payAll_14 : decode cX2_payAll 14 = .ok (.bipush 16, 2) := by decide +kernel
theorem dX2_payAll_16 : decode cX2_payAll 16 = .ok (.if_icmp .ge 27, 3) := by decide +kernel
theorem dX2_payAll_19 : decode cX2_payAll 19 = .ok (.aload_n 0, 1) := by decide +kernel
theorem dX2_payAll_20 : decode cX2_payAll 20 = .ok (.getfield 57, 3) := by decide +kernel
theorem dX2_payAll_23 : decode cX2_payAll 23 = .ok (.getfield 80, 3) := by decide +kernel
theorem dX2_payAll_26 : decode cX2_payAll 26 = .ok (.iload_n 1, 1) := by decide +kernel
theorem dX2_payAll_27 : decode cX2_payAll 27 = .ok (.dup2, 1) := by decide +kernel
theorem dX2_payAll_28 : decode cX2_payAll 28 = .ok (.iaload, 1) := by decide +kernel
theorem dX2_payAll_29 : decode cX2_payAll 29 = .ok (.aload_n 0, 1) := by decide +kernel
theorem dX2_payAll_30 : decode cX2_payAll 30 = .ok (.getfield 27, 3) := by decide +kernel
theorem dX2_payAll_33 : decode cX2_payAll 33 = .ok (.iload_n 1, 1) := by decide +kernel
theorem dX2_payAll_34 : decode cX2_payAll 34 = .ok (.iaload, 1) := by decide +kernel
theorem dX2_payAll_35 : decode cX2_payAll 35 = .ok (.isub, 1) := by decide +kernel
theorem dX2_payAll_36 : decode cX2_payAll 36 = .ok (.iastore, 1) := by decide +kernel
theorem dX2_payAll_37 : decode cX2_payAll 37 = .ok (.iinc 1 1, 3) := by decide +kernel
theorem dX2_payAll_40 : decode cX2_payAll 40 = .ok (.goto (-38), 3) := by decide +kernel
theorem dX2_payAll_43 : decode cX2_payAll 43 = .ok (.aload_n 0, 1) := by decide +kernel
theorem dX2_payAll_44 : decode cX2_payAll 44 = .ok (.getfield 57, 3) := by decide +kernel
theorem dX2_payAll_47 : decode cX2_payAll 47 = .ok (.invokevirtual 144, 3) := by decide +kernel
theorem dX2_payAll_50 : decode cX2_payAll 50 = .ok (.return_, 1) := by decide +kernel
theorem dX2_freeBehind_0 : decode cX2_freeBehind 0 = .ok (.aload_n 0, 1) := by decide +kernel
theorem dX2_freeBehind_1 : decode cX2_freeBehind 1 = .ok (.getfield 58, 3) := by decide +kernel
theorem dX2_freeBehind_4 : decode cX2_freeBehind 4 = .ok (.invokevirtual 64, 3) := by decide +kernel
theorem dX2_freeBehind_7 : decode cX2_freeBehind 7 = .ok (.iconst 0, 1) := by decide +kernel
theorem dX2_freeBehind_8 : decode cX2_freeBehind 8 = .ok (.istore_n 2, 1) := by decide +kernel
theorem dX2_freeBehind_9 : decode cX2_freeBehind 9 = .ok (.iconst 0, 1) := by decide +kernel
theorem dX2_freeBehind_10 : decode cX2_freeBehind 10 = .ok (.istore_n 3, 1) := by decide +kernel
theorem dX2_freeBehind_11 : decode cX2_freeBehind 11 = .ok (.iload_n 3, 1) := by decide +kernel
theorem dX2_freeBehind_12 : decode cX2_freeBehind 12 = .ok (.aload_n 0, 1) := by decide +kernel
theorem dX2_freeBehind_13 : decode cX2_freeBehind 13 = .ok (.getfield 57, 3) := by decide +kernel
theorem dX2_freeBehind_16 : decode cX2_freeBehind 16 = .ok (.getfield 69, 3) := by decide +kernel
theorem dX2_freeBehind_19 : decode cX2_freeBehind 19 = .ok (.if_icmp .ge 80, 3) := by decide +kernel
theorem dX2_freeBehind_22 : decode cX2_freeBehind 22 = .ok (.iload_n 3, 1) := by decide +kernel
theorem dX2_freeBehind_23 : decode cX2_freeBehind 23 = .ok (.bipush 16, 2) := by decide +kernel
theorem dX2_freeBehind_25 : decode cX2_freeBehind 25 = .ok (.if_icmp .ge 74, 3) := by decide +kernel
theorem dX2_freeBehind_28 : decode cX2_freeBehind 28 = .ok (.aload_n 0, 1) := by decide +kernel
theorem dX2_freeBehind_29 : decode cX2_freeBehind 29 = .ok (.getfield 57, 3) := by decide +kernel
theorem dX2_freeBehind_32 : decode cX2_freeBehind 32 = .ok (.getfield 78, 3) := by decide +kernel
theorem dX2_freeBehind_35 : decode cX2_freeBehind 35 = .ok (.iload_n 3, 1) := by decide +kernel
theorem dX2_freeBehind_36 : decode cX2_freeBehind 36 = .ok (.iaload, 1) := by decide +kernel
theorem dX2_freeBehind_37 : decode cX2_freeBehind 37 = .ok (.iload_n 1, 1) := by decide +kernel
theorem dX2_freeBehind_38 : decode cX2_freeBehind 38 = .ok (.if_icmp .ne 19, 3) := by decide +kernel
theorem dX2_freeBehind_41 : decode cX2_freeBehind 41 = .ok (.aload_n 0, 1) := by decide +kernel
theorem dX2_freeBehind_42 : decode cX2_freeBehind 42 = .ok (.getfield 58, 3) := by decide +kernel
theorem dX2_freeBehind_45 : decode cX2_freeBehind 45 = .ok (.getfield 117, 3) := by decide +kernel
theorem dX2_freeBehind_48 : decode cX2_freeBehind 48 = .ok (.iload_n 3, 1) := by decide +kernel
theorem dX2_freeBehind_49 : decode cX2_freeBehind 49 = .ok (.baload, 1) := by decide +kernel
theorem dX2_freeBehind_50 : decode cX2_freeBehind 50 = .ok (.ifCond .ne 7, 3) := by decide +kernel
theorem dX2_freeBehind_53 : decode cX2_freeBehind 53 = .ok (.iconst 1, 1) := by decide +kernel
theorem dX2_freeBehind_54 : decode cX2_freeBehind 54 = .ok (.goto 4, 3) := by decide +kernel
theorem dX2_freeBehind_57 : decode cX2_freeBehind 57 = .ok (.iconst 0, 1) := by decide +kernel
theorem dX2_freeBehind_58 : decode cX2_freeBehind 58 = .ok (.istore 4, 2) := by decide +kernel
theorem dX2_freeBehind_60 : decode cX2_freeBehind 60 = .ok (.aload_n 0, 1) := by decide +kernel
theorem dX2_freeBehind_61 : decode cX2_freeBehind 61 = .ok (.getfield 27, 3) := by decide +kernel
theorem dX2_freeBehind_64 : decode cX2_freeBehind 64 = .ok (.iload_n 3, 1) := by decide +kernel
theorem dX2_freeBehind_65 : decode cX2_freeBehind 65 = .ok (.iload 4, 2) := by decide +kernel
theorem dX2_freeBehind_67 : decode cX2_freeBehind 67 = .ok (.ifCond .eq 15, 3) := by decide +kernel
theorem dX2_freeBehind_70 : decode cX2_freeBehind 70 = .ok (.aload_n 0, 1) := by decide +kernel
theorem dX2_freeBehind_71 : decode cX2_freeBehind 71 = .ok (.getfield 57, 3) := by decide +kernel
theorem dX2_freeBehind_74 : decode cX2_freeBehind 74 = .ok (.getfield 80, 3) := by decide +kernel
theorem dX2_freeBehind_77 : decode cX2_freeBehind 77 = .ok (.iload_n 3, 1) := by decide +kernel
theorem dX2_freeBehind_78 : decode cX2_freeBehind 78 = .ok (.iaload, 1) := by decide +kernel
theorem dX2_freeBehind_79 : decode cX2_freeBehind 79 = .ok (.goto 4, 3) := by decide +kernel
theorem dX2_freeBehind_82 : decode cX2_freeBehind 82 = .ok (.iconst 0, 1) := by decide +kernel
theorem dX2_freeBehind_83 : decode cX2_freeBehind 83 = .ok (.iastore, 1) := by decide +kernel
theorem dX2_freeBehind_84 : decode cX2_freeBehind 84 = .ok (.iload_n 2, 1) := by decide +kernel
theorem dX2_freeBehind_85 : decode cX2_freeBehind 85 = .ok (.aload_n 0, 1) := by decide +kernel
theorem dX2_freeBehind_86 : decode cX2_freeBehind 86 = .ok (.getfield 27, 3) := by decide +kernel
theorem dX2_freeBehind_89 : decode cX2_freeBehind 89 = .ok (.iload_n 3, 1) := by decide +kernel
theorem dX2_freeBehind_90 : decode cX2_freeBehind 90 = .ok (.iaload, 1) := by decide +kernel
theorem dX2_freeBehind_91 : decode cX2_freeBehind 91 = .ok (.iadd, 1) := by decide +kernel
theorem dX2_freeBehind_92 : decode cX2_freeBehind 92 = .ok (.istore_n 2, 1) := by decide +kernel
theorem dX2_freeBehind_93 : decode cX2_freeBehind 93 = .ok (.iinc 3 1, 3) := by decide +kernel
theorem dX2_freeBehind_96 : decode cX2_freeBehind 96 = .ok (.goto (-85), 3) := by decide +kernel
theorem dX2_freeBehind_99 : decode cX2_freeBehind 99 = .ok (.iload_n 2, 1) := by decide +kernel
theorem dX2_freeBehind_100 : decode cX2_freeBehind 100 = .ok (.ifCond .ne 5, 3) := by decide +kernel
theorem dX2_freeBehind_103 : decode cX2_freeBehind 103 = .ok (.iconst (-1), 1) := by decide +kernel
theorem dX2_freeBehind_104 : decode cX2_freeBehind 104 = .ok (.ireturn, 1) := by decide +kernel
theorem dX2_freeBehind_105 : decode cX2_freeBehind 105 = .ok (.iconst 0, 1) := by decide +kernel
theorem dX2_freeBehind_106 : decode cX2_freeBehind 106 = .ok (.istore_n 3, 1) := by decide +kernel
theorem dX2_freeBehind_107 : decode cX2_freeBehind 107 = .ok (.iload_n 3, 1) := by decide +kernel
theorem dX2_freeBehind_108 : decode cX2_freeBehind 108 = .ok (.aload_n 0, 1) := by decide +kernel
theorem dX2_freeBehind_109 : decode cX2_freeBehind 109 = .ok (.getfield 47, 3) := by decide +kernel
theorem dX2_freeBehind_112 : decode cX2_freeBehind 112 = .ok (.getfield 147, 3) := by decide +kernel
theorem dX2_freeBehind_115 : decode cX2_freeBehind 115 = .ok (.if_icmp .ge 46, 3) := by decide +kernel
theorem dX2_freeBehind_118 : decode cX2_freeBehind 118 = .ok (.iload_n 3, 1) := by decide +kernel
theorem dX2_freeBehind_119 : decode cX2_freeBehind 119 = .ok (.bipush 8, 2) := by decide +kernel
theorem dX2_freeBehind_121 : decode cX2_freeBehind 121 = .ok (.if_icmp .ge 40, 3) := by decide +kernel
theorem dX2_freeBehind_124 : decode cX2_freeBehind 124 = .ok (.iload_n 2, 1) := by decide +kernel
theorem dX2_freeBehind_125 : decode cX2_freeBehind 125 = .ok (.aload_n 0, 1) := by decide +kernel
theorem dX2_freeBehind_126 : decode cX2_freeBehind 126 = .ok (.aload_n 0, 1) := by decide +kernel
theorem dX2_freeBehind_127 : decode cX2_freeBehind 127 = .ok (.getfield 47, 3) := by decide +kernel
theorem dX2_freeBehind_130 : decode cX2_freeBehind 130 = .ok (.getfield 150, 3) := by decide +kernel
theorem dX2_freeBehind_133 : decode cX2_freeBehind 133 = .ok (.iload_n 3, 1) := by decide +kernel
theorem dX2_freeBehind_134 : decode cX2_freeBehind 134 = .ok (.iaload, 1) := by decide +kernel
theorem dX2_freeBehind_135 : decode cX2_freeBehind 135 = .ok (.aload_n 0, 1) := by decide +kernel
theorem dX2_freeBehind_136 : decode cX2_freeBehind 136 = .ok (.getfield 47, 3) := by decide +kernel
theorem dX2_freeBehind_139 : decode cX2_freeBehind 139 = .ok (.getfield 153, 3) := by decide +kernel
theorem dX2_freeBehind_142 : decode cX2_freeBehind 142 = .ok (.iload_n 3, 1) := by decide +kernel
theorem dX2_freeBehind_143 : decode cX2_freeBehind 143 = .ok (.iaload, 1) := by decide +kernel
theorem dX2_freeBehind_144 : decode cX2_freeBehind 144 = .ok (.invokevirtual 155, 3) := by decide +kernel
