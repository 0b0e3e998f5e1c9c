theorem dX12_isDance_1 : decode cX12_isDance 1 = .ok (.i2l, 1) := by decide +kernel
theorem dX12_isDance_2 : decode cX12_isDance 2 = .ok (.lconst 0, 1) := by decide +kernel
theorem dX12_isDance_3 : decode cX12_isDance 3 = .ok (.aload_n 0, 1) := by decide +kernel
theorem dX12_isDance_4 : decode cX12_isDance 4 = .ok (.getfield 13, 3) := by decide +kernel
theorem dX12_isDance_7 : decode cX12_isDance 7 = .ok (.iconst 5, 1) := by decide +kernel
theorem dX12_isDance_8 : decode cX12_isDance 8 = .ok (.iaload, 1) := by decide +kernel
theorem dX12_isDance_9 : decode cX12_isDance 9 = .ok (.i2l, 1) := by decide +kernel
theorem dX12_isDance_10 : decode cX12_isDance 10 = .ok (.lconst 1, 1) := by decide +kernel
theorem dX12_isDance_11 : decode cX12_isDance 11 = .ok (.lsub, 1) := by decide +kernel
theorem dX12_isDance_12 : decode cX12_isDance 12 = .ok (.invokestatic 129, 3) := by decide +kernel
theorem dX12_isDance_15 : decode cX12_isDance 15 = .ok (.ireturn, 1) := by decide +kernel
theorem dX12_ahead_0 : decode cX12_ahead 0 = .ok (.aload_n 0, 1) := by decide +kernel
theorem dX12_ahead_1 : decode cX12_ahead 1 = .ok (.iconst 0, 1) := by decide +kernel
theorem dX12_ahead_2 : decode cX12_ahead 2 = .ok (.putfield 123, 3) := by decide +kernel
theorem dX12_ahead_5 : decode cX12_ahead 5 = .ok (.iload_n 1, 1) := by decide +kernel
theorem dX12_ahead_6 : decode cX12_ahead 6 = .ok (.iload_n 2, 1) := by decide +kernel
theorem dX12_ahead_7 : decode cX12_ahead 7 = .ok (.if_icmp .ne 9, 3) := by decide +kernel
theorem dX12_ahead_10 : decode cX12_ahead 10 = .ok (.aload_n 0, 1) := by decide +kernel
theorem dX12_ahead_11 : decode cX12_ahead 11 = .ok (.iconst (-1), 1) := by decide +kernel
theorem dX12_ahead_12 : decode cX12_ahead 12 = .ok (.invokevirtual 133, 3) := by decide +kernel
theorem dX12_ahead_15 : decode cX12_ahead 15 = .ok (.ireturn, 1) := by decide +kernel
theorem dX12_ahead_16 : decode cX12_ahead 16 = .ok (.aload_n 0, 1) := by decide +kernel
theorem dX12_ahead_17 : decode cX12_ahead 17 = .ok (.iload_n 1, 1) := by decide +kernel
theorem dX12_ahead_18 : decode cX12_ahead 18 = .ok (.invokevirtual 424, 3) := by decide +kernel
theorem dX12_ahead_21 : decode cX12_ahead 21 = .ok (.ifCond .eq 11, 3) := by decide +kernel
theorem dX12_ahead_24 : decode cX12_ahead 24 = .ok (.aload_n 0, 1) := by decide +kernel
theorem dX12_ahead_25 : decode cX12_ahead 25 = .ok (.iload_n 2, 1) := by decide +kernel
theorem dX12_ahead_26 : decode cX12_ahead 26 = .ok (.invokevirtual 424, 3) := by decide +kernel
theorem dX12_ahead_29 : decode cX12_ahead 29 = .ok (.ifCond .ne 10, 3) := by decide +kernel
theorem dX12_ahead_32 : decode cX12_ahead 32 = .ok (.aload_n 0, 1) := by decide +kernel
theorem dX12_ahead_33 : decode cX12_ahead 33 = .ok (.bipush (-2), 2) := by decide +kernel
theorem dX12_ahead_35 : decode cX12_ahead 35 = .ok (.invokevirtual 133, 3) := by decide +kernel
theorem dX12_ahead_38 : decode cX12_ahead 38 = .ok (.ireturn, 1) := by decide +kernel
theorem dX12_ahead_39 : decode cX12_ahead 39 = .ok (.aload_n 0, 1) := by decide +kernel
theorem dX12_ahead_40 : decode cX12_ahead 40 = .ok (.getfield 13, 3) := by decide +kernel
theorem dX12_ahead_43 : decode cX12_ahead 43 = .ok (.bipush 6, 2) := by decide +kernel
theorem dX12_ahead_45 : decode cX12_ahead 45 = .ok (.iaload, 1) := by decide +kernel
theorem dX12_ahead_46 : decode cX12_ahead 46 = .ok (.istore_n 3, 1) := by decide +kernel
theorem dX12_ahead_47 : decode cX12_ahead 47 = .ok (.iload_n 3, 1) := by decide +kernel
theorem dX12_ahead_48 : decode cX12_ahead 48 = .ok (.bipush 12, 2) := by decide +kernel
theorem dX12_ahead_50 : decode cX12_ahead 50 = .ok (.if_icmp .ne 10, 3) := by decide +kernel
theorem dX12_ahead_53 : decode cX12_ahead 53 = .ok (.aload_n 0, 1) := by decide +kernel
theorem dX12_ahead_54 : decode cX12_ahead 54 = .ok (.bipush (-5), 2) := by decide +kernel
theorem dX12_ahead_56 : decode cX12_ahead 56 = .ok (.invokevirtual 133, 3) := by decide +kernel
theorem dX12_ahead_59 : decode cX12_ahead 59 = .ok (.ireturn, 1) := by decide +kernel
theorem dX12_ahead_60 : decode cX12_ahead 60 = .ok (.aload_n 0, 1) := by decide +kernel
theorem dX12_ahead_61 : decode cX12_ahead 61 = .ok (.getfield 13, 3) := by decide +kernel
theorem dX12_ahead_64 : decode cX12_ahead 64 = .ok (.sipush 130, 3) := by decide +kernel
theorem dX12_ahead_67 : decode cX12_ahead 67 = .ok (.iconst 2, 1) := by decide +kernel
theorem dX12_ahead_68 : decode cX12_ahead 68 = .ok (.iload_n 3, 1) := by decide +kernel
theorem dX12_ahead_69 : decode cX12_ahead 69 = .ok (.imul, 1) := by decide +kernel
theorem dX12_ahead_70 : decode cX12_ahead 70 = .ok (.iadd, 1) := by decide +kernel
theorem dX12_ahead_71 : decode cX12_ahead 71 = .ok (.iload_n 1, 1) := by decide +kernel
theorem dX12_ahead_72 : decode cX12_ahead 72 = .ok (.iastore, 1) := by decide +kernel
theorem dX12_ahead_73 : decode cX12_ahead 73 = .ok (.aload_n 0, 1) := by decide +kernel
theorem dX12_ahead_74 : decode cX12_ahead 74 = .ok (.getfield 13, 3) := by decide +kernel
theorem dX12_ahead_77 : decode cX12_ahead 77 = .ok (.sipush 130, 3) := by decide +kernel
theorem dX12_ahead_80 : decode cX12_ahead 80 = .ok (.iconst 2, 1) := by decide +kernel
theorem dX12_ahead_81 : decode cX12_ahead 81 = .ok (.iload_n 3, 1) := by decide +kernel
theorem dX12_ahead_82 : decode cX12_ahead 82 = .ok (.imul, 1) := by decide +kernel
theorem dX12_ahead_83 : decode cX12_ahead 83 = .ok (.iadd, 1) := by decide +kernel
theorem dX12_ahead_84 : decode cX12_ahead 84 = .ok (.iconst 1, 1) := by decide +kernel
theorem dX12_ahead_85 : decode cX12_ahead 85 = .ok (.iadd, 1) := by decide +kernel
theorem dX12_ahead_86 : decode cX12_ahead 86 = .ok (.iload_n 2, 1) := by decide +kernel
theorem dX12_ahead_87 : decode cX12_ahead 87 = .ok (.iastore, 1) := by decide +kernel
theorem dX12_ahead_88 : decode cX12_ahead 88 = .ok (.aload_n 0, 1) := by decide +kernel
theorem dX12_ahead_89 : decode cX12_ahead 89 = .ok (.getfield 13, 3) := by decide +kernel
theorem dX12_ahead_92 : decode cX12_ahead 92 = .ok (.bipush 6, 2) := by decide +kernel
theorem dX12_ahead_94 : decode cX12_ahead 94 = .ok (.dup2, 1) := by decide +kernel
theorem dX12_ahead_95 : decode cX12_ahead 95 = .ok (.iaload, 1) := by decide +kernel
theorem dX12_ahead_96 : decode cX12_ahead 96 = .ok (.iconst 1, 1) := by decide +kernel
theorem dX12_ahead_97 : decode cX12_ahead 97 = .ok (.iadd, 1) := by decide +kernel
theorem dX12_ahead_98 : decode cX12_ahead 98 = .ok (.iastore, 1) := by decide +kernel
theorem dX12_ahead_99 : decode cX12_ahead 99 = .ok (.aload_n 0, 1) := by decide +kernel
theorem dX12_ahead_100 : decode cX12_ahead 100 = .ok (.iload_n 3, 1) := by decide +kernel
theorem dX12_ahead_101 : decode cX12_ahead 101 = .ok (.iconst 1, 1) := by decide +kernel
theorem dX12_ahead_102 : decode cX12_ahead 102 = .ok (.iadd, 1) := by decide +kernel
theorem dX12_ahead_103 : decode cX12_ahead 103 = .ok (.invokevirtual 133, 3) := by decide +kernel
theorem dX12_ahead_106 : decode cX12_ahead 106 = .ok (.ireturn, 1) := by decide +kernel
theorem dX12_forget_0 : decode cX12_forget 0 = .ok (.aload_n 0, 1) := by decide +kernel
theorem dX12_forget_1 : decode cX12_forget 1 = .ok (.iconst 0, 1) := by decide +kernel
theorem dX12_forget_2 : decode cX12_forget 2 = .ok (.putfield 123, 3) := by decide +kernel
theorem dX12_forget_5 : decode cX12_forget 5 = .ok (.aload_n 0, 1) := by decide +kernel
theorem dX12_forget_6 : decode cX12_forget 6 = .ok (.getfield 13, 3) := by decide +kernel
theorem dX12_forget_9 : decode cX12_forget 9 = .ok (.iconst 5, 1) := by decide +kernel
theorem dX12_forget_10 : decode cX12_forget 10 = .ok (.iaload, 1) := by decide +kernel
theorem dX12_forget_11 : decode cX12_forget 11 = .ok (.istore_n 1, 1) := by decide +kernel
theorem dX12_forget_12 : decode cX12_forget 12 = .ok (.aload_n 0, 1) := by decide +kernel
theorem dX12_forget_13 : decode cX12_forget 13 = .ok (.getfield 13, 3) := by decide +kernel
theorem dX12_forget_16 : decode cX12_forget 16 = .ok (.iconst 5, 1) := by decide +kernel
theorem dX12_forget_17 : decode cX12_forget 17 = .ok (.iconst 0, 1) := by decide +kernel
theorem dX12_forget_18 : decode cX12_forget 18 = .ok (.iastore, 1) := by decide +kernel
theorem dX12_forget_19 : decode cX12_forget 19 = .ok (.aload_n 0, 1) := by decide +kernel
theorem dX12_forget_20 : decode cX12_forget 20 = .ok (.getfield 13, 3) := by decide +kernel
theorem dX12_forget_23 : decode cX12_forget 23 = .ok (.bipush 6, 2) := by decide +kernel
theorem dX12_forget_25 : decode cX12_forget 25 = .ok (.iconst 0, 1) := by decide +kernel
theorem dX12_forget_26 : decode cX12_forget 26 = .ok (.iastore, 1) := by decide +kernel
theorem dX12_forget_27 : decode cX12_forget 27 = .ok (.iload_n 1, 1) := by decide +kernel
theorem dX12_forget_28 : decode cX12_forget 28 = .ok (.ireturn, 1) := by decide +kernel
theorem dX12_findBefore_0 : decode cX12_findBefore 0 = .ok (.iconst 0, 1) := by decide +kernel
theorem dX12_findBefore_1 : decode cX12_findBefore 1 = .ok (.istore_n 1, 1) := by decide +kernel
theorem dX12_findBefore_2 : decode cX12_findBefore 2 = .ok (.iload_n 1, 1) := by decide +kernel
theorem dX12_findBefore_3 : decode cX12_findBefore 3 = .ok (.bipush 10, 2) := by decide +kernel
theorem dX12_findBefore_5 : decode cX12_findBefore 5 = .ok (.if_icmp .ge 16, 3) := by decide +kernel
theorem dX12_findBefore_8 : decode cX12_findBefore 8 = .ok (.aload_n 0, 1) := by decide +kernel
theorem dX12_findBefore_9 : decode cX12_findBefore 9 = .ok (.getfield 111, 3) := by decide +kernel
theorem dX12_findBefore_12 : decode cX12_findBefore 12 = .ok (.iload_n 1, 1) := by decide +kernel
theorem dX12_findBefore_13 : decode cX12_findBefore 13 = .ok (.iconst 0, 1) := by decide +kernel
theorem dX12_findBefore_14 : decode cX12_findBefore 14 = .ok (.iastore, 1) := by decide +kernel
theorem dX12_findBefore_15 : decode cX12_findBefore 15 = .ok (.iinc 1 1, 3) := by decide +kernel
theorem dX12_findBefore_18 : decode cX12_findBefore 18 = .ok (.goto (-16), 3) := by decide +kernel
theorem dX12_findBefore_21 : decode cX12_findBefore 21 = .ok (.iconst 0, 1) := by decide +kernel
theorem dX12_findBefore_22 : decode cX12_findBefore 22 = .ok (.istore_n 1, 1) := by decide +kernel
theorem dX12_findBefore_23 : decode cX12_findBefore 23 = .ok (.iload_n 1, 1) := by decide +kernel
theorem dX12_findBefore_24 : decode cX12_findBefore 24 = .ok (.aload_n 0, 1) := by decide +kernel
theorem dX12_findBefore_25 : decode cX12_findBefore 25 = .ok (.getfield 13, 3) := by decide +kernel
theorem dX12_findBefore_28 : decode cX12_findBefore 28 = .ok (.bipush 6, 2) := by decide +kernel
theorem dX12_findBefore_30 : decode cX12_findBefore 30 = .ok (.iaload, 1) := by decide +kernel
theorem dX12_findBefore_31 : decode cX12_findBefore 31 = .ok (.if_icmp .ge 45, 3) := by decide +kernel
theorem dX12_findBefore_34 : decode cX12_findBefore 34 = .ok (.aload_n 0, 1) := by decide +kernel
theorem dX12_findBefore_35 : decode cX12_findBefore 35 = .ok (.getfield 111, 3) := by decide +kernel
theorem dX12_findBefore_38 : decode cX12_findBefore 38 = .ok (.aload_n 0, 1) := by decide +kernel
theorem dX12_findBefore_39 : decode cX12_findBefore 39 = .ok (.getfield 13, 3) := by decide +kernel
theorem dX12_findBefore_42 : decode cX12_findBefore 42 = .ok (.sipush 130, 3) := by decide +kernel
theorem dX12_findBefore_45 : decode cX12_findBefore 45 = .ok (.iconst 2, 1) := by decide +kernel
theorem dX12_findBefore_46 : decode cX12_findBefore 46 = .ok (.iload_n 1, 1) := by decide +kernel
theorem dX12_findBefore_47 : decode cX12_findBefore 47 = .ok (.imul, 1) := by decide +kernel
theorem dX12_findBefore_48 : decode cX12_findBefore 48 = .ok (.iadd, 1) := by decide +kernel
theorem dX12_findBefore_49 : decode cX12_findBefore 49 = .ok (.iconst 1, 1) := by decide +kernel
theorem dX12_findBefore_50 : decode cX12_findBefore 50 = .ok (.iadd, 1) := by decide +kernel
theorem dX12_findBefore_51 : decode cX12_findBefore 51 = .ok (.iaload, 1) := by decide +kernel
theorem dX12_findBefore_52 : decode cX12_findBefore 52 = .ok (.dup2, 1) := by decide +kernel
theorem dX12_findBefore_53 : decode cX12_findBefore 53 = .ok (.iaload, 1) := by decide +kernel
theorem dX12_findBefore_54 : decode cX12_findBefore 54 = .ok (.iconst 1, 1) := by decide +kernel
theorem dX12_findBefore_55 : decode cX12_findBefore 55 = .ok (.aload_n 0, 1) := by decide +kernel
theorem dX12_findBefore_56 : decode cX12_findBefore 56 = .ok (.getfield 13, 3) := by decide +kernel
theorem dX12_findBefore_59 : decode cX12_findBefore 59 = .ok (.sipush 130, 3) := by decide +kernel
theorem dX12_findBefore_62 : decode cX12_findBefore 62 = .ok (.iconst 2, 1) := by decide +kernel
theorem dX12_findBefore_63 : decode cX12_findBefore 63 = .ok (.iload_n 1, 1) := by decide +kernel
theorem dX12_findBefore_64 : decode cX12_findBefore 64 = .ok (.imul, 1) := by decide +kernel
theorem dX12_findBefore_65 : decode cX12_findBefore 65 = .ok (.iadd, 1) := by decide +kernel
theorem dX12_findBefore_66 : decode cX12_findBefore 66 = .ok (.iaload, 1) := by decide +kernel
theorem dX12_findBefore_67 : decode cX12_findBefore 67 = .ok (.ishl, 1) := by decide +kernel
theorem dX12_findBefore_68 : decode cX12_findBefore 68 = .ok (.ior, 1) := by decide +kernel
theorem dX12_findBefore_69 : decode cX12_findBefore 69 = .ok (.iastore, 1) := by decide +kernel
theorem dX12_findBefore_70 : decode cX12_findBefore 70 = .ok (.iinc 1 1, 3) := by decide +kernel
theorem dX12_findBefore_73 : decode cX12_findBefore 73 = .ok (.goto (-50), 3) := by decide +kernel
theorem dX12_findBefore_76 : decode cX12_findBefore 76 = .ok (.iconst 0, 1) := by decide +kernel
theorem dX12_findBefore_77 : decode cX12_findBefore 77 = .ok (.istore_n 1, 1) := by decide +kernel
theorem dX12_findBefore_78 : decode cX12_findBefore 78 = .ok (.iload_n 1, 1) := by decide +kernel
theorem dX12_findBefore_79 : decode cX12_findBefore 79 = .ok (.bipush 10, 2) := by decide +kernel
theorem dX12_findBefore_81 : decode cX12_findBefore 81 = .ok (.if_icmp .ge 55, 3) := by decide +kernel
theorem dX12_findBefore_84 : decode cX12_findBefore 84 = .ok (.iconst 0, 1) := by decide +kernel
theorem dX12_findBefore_85 : decode cX12_findBefore 85 = .ok (.istore_n 2, 1) := by decide +kernel
theorem dX12_findBefore_86 : decode cX12_findBefore 86 = .ok (.iload_n 2, 1) := by decide +kernel
theorem dX12_findBefore_87 : decode cX12_findBefore 87 = .ok (.bipush 10, 2) := by decide +kernel
theorem dX12_findBefore_89 : decode cX12_findBefore 89 = .ok (.if_icmp .ge 41, 3) := by decide +kernel
theorem dX12_findBefore_92 : decode cX12_findBefore 92 = .ok (.aload_n 0, 1) := by decide +kernel
theorem dX12_findBefore_93 : decode cX12_findBefore 93 = .ok (.getfield 111, 3) := by decide +kernel
theorem dX12_findBefore_96 : decode cX12_findBefore 96 = .ok (.iload_n 2, 1) := by decide +kernel
theorem dX12_findBefore_97 : decode cX12_findBefore 97 = .ok (.dup2, 1) := by decide +kernel
theorem dX12_findBefore_98 : decode cX12_findBefore 98 = .ok (.iaload, 1) := by decide +kernel
theorem dX12_findBefore_99 : decode cX12_findBefore 99 = .ok (.aload_n 0, 1) := by decide +kernel
theorem dX12_findBefore_100 : decode cX12_findBefore 100 = .ok (.getfield 111, 3) := by decide +kernel
theorem dX12_findBefore_103 : decode cX12_findBefore 103 = .ok (.iload_n 2, 1) := by decide +kernel
theorem dX12_findBefore_104 : decode cX12_findBefore 104 = .ok (.iaload, 1) := by decide +kernel
theorem dX12_findBefore_105 : decode cX12_findBefore 105 = .ok (.iload_n 1, 1) := by decide +kernel
theorem dX12_findBefore_106 : decode cX12_findBefore 106 = .ok (.invokestatic 367, 3) := by decide +kernel
theorem dX12_findBefore_109 : decode cX12_findBefore 109 = .ok (.ifCond .eq 12, 3) := by decide +kernel
theorem dX12_findBefore_112 : decode cX12_findBefore 112 = .ok (.aload_n 0, 1) := by decide +kernel
theorem dX12_findBefore_113 : decode cX12_findBefore 113 = .ok (.getfield 111, 3) := by decide +kernel
theorem dX12_findBefore_116 : decode cX12_findBefore 116 = .ok (.iload_n 1, 1) := by decide +kernel
theorem dX12_findBefore_117 : decode cX12_findBefore 117 = .ok (.iaload, 1) := by decide +kernel
theorem dX12_findBefore_118 : decode cX12_findBefore 118 = .ok (.goto 4, 3) := by decide +kernel
theorem dX12_findBefore_121 : decode cX12_findBefore 121 = .ok (.iconst 0, 1) := by decide +kernel
theorem dX12_findBefore_122 : decode cX12_findBefore 122 = .ok (.ior, 1) := by decide +kernel
theorem dX12_findBefore_123 : decode cX12_findBefore 123 = .ok (.iastore, 1) := by decide +kernel
theorem dX12_findBefore_124 : decode cX12_findBefore 124 = .ok (.iinc 2 1, 3) := by decide +kernel
theorem dX12_findBefore_127 : decode cX12_findBefore 127 = .ok (.goto (-41), 3) := by decide +kernel
theorem dX12_findBefore_130 : decode cX12_findBefore 130 = .ok (.iinc 1 1, 3) := by decide +kernel
theorem dX12_findBefore_133 : decode cX12_findBefore 133 = .ok (.goto (-55), 3) := by decide +kernel
theorem dX12_findBefore_136 : decode cX12_findBefore 136 = .ok (.return_, 1) := by decide +kernel
theorem dX12_dancesOf_0 : decode cX12_dancesOf 0 = .ok (.iconst 0, 1) := by decide +kernel
theorem dX12_dancesOf_1 : decode cX12_dancesOf 1 = .ok (.istore_n 2, 1) := by decide +kernel
theorem dX12_dancesOf_2 : decode cX12_dancesOf 2 = .ok (.iconst 0, 1) := by decide +kernel
theorem dX12_dancesOf_3 : decode cX12_dancesOf 3 = .ok (.istore_n 3, 1) := by decide +kernel
theorem dX12_dancesOf_4 : decode cX12_dancesOf 4 = .ok (.iload_n 3, 1) := by decide +kernel
theorem dX12_dancesOf_5 : decode cX12_dancesOf 5 = .ok (.aload_n 0, 1) := by decide +kernel
theorem dX12_dancesOf_6 : decode cX12_dancesOf 6 = .ok (.getfield 13, 3) := by decide +kernel
theorem dX12_dancesOf_9 : decode cX12_dancesOf 9 = .ok (.iconst 5, 1) := by decide +kernel
theorem dX12_dancesOf_10 : decode cX12_dancesOf 10 = .ok (.iaload, 1) := by decide +kernel
theorem dX12_dancesOf_11 : decode cX12_dancesOf 11 = .ok (.if_icmp .ge 36, 3) := by decide +kernel
theorem dX12_dancesOf_14 : decode cX12_dancesOf 14 = .ok (.iload_n 2, 1) := by decide +kernel
theorem dX12_dancesOf_15 : decode cX12_dancesOf 15 = .ok (.aload_n 0, 1) := by decide +kernel
theorem dX12_dancesOf_16 : decode cX12_dancesOf 16 = .ok (.getfield 13, 3) := by decide +kernel
theorem dX12_dancesOf_19 : decode cX12_dancesOf 19 = .ok (.bipush 110, 2) := by decide +kernel
theorem dX12_dancesOf_21 : decode cX12_dancesOf 21 = .ok (.iconst 2, 1) := by decide +kernel
theorem dX12_dancesOf_22 : decode cX12_dancesOf 22 = .ok (.iload_n 3, 1) := by decide +kernel
theorem dX12_dancesOf_23 : decode cX12_dancesOf 23 = .ok (.imul, 1) := by decide +kernel
theorem dX12_dancesOf_24 : decode cX12_dancesOf 24 = .ok (.iadd, 1) := by decide +kernel
theorem dX12_dancesOf_25 : decode cX12_dancesOf 25 = .ok (.iconst 1, 1) := by decide +kernel
theorem dX12_dancesOf_26 : decode cX12_dancesOf 26 = .ok (.iadd, 1) := by decide +kernel
theorem dX12_dancesOf_27 : decode cX12_dancesOf 27 = .ok (.iaload, 1) := by decide +kernel
theorem dX12_dancesOf_28 : decode cX12_dancesOf 28 = .ok (.iload_n 1, 1) := by decide +kernel
theorem dX12_dancesOf_29 : decode cX12_dancesOf 29 = .ok (.if_icmp .ne 9, 3) := by decide +kernel
theorem dX12_dancesOf_32 : decode cX12_dancesOf 32 = .ok (.iconst 1, 1) := by decide +kernel
theorem dX12_dancesOf_33 : decode cX12_dancesOf 33 = .ok (.iload_n 3, 1) := by decide +kernel
theorem dX12_dancesOf_34 : decode cX12_dancesOf 34 = .ok (.ishl, 1) := by decide +kernel
theorem dX12_dancesOf_35 : decode cX12_dancesOf 35 = .ok (.goto 4, 3) := by decide +kernel
theorem dX12_dancesOf_38 : decode cX12_dancesOf 38 = .ok (.iconst 0, 1) := by decide +kernel
theorem dX12_dancesOf_39 : decode cX12_dancesOf 39 = .ok (.ior, 1) := by decide +kernel
theorem dX12_dancesOf_40 : decode cX12_dancesOf 40 = .ok (.istore_n 2, 1) := by decide +kernel
theorem dX12_dancesOf_41 : decode cX12_dancesOf 41 = .ok (.iinc 3 1, 3) := by decide +kernel
theorem dX12_dancesOf_44 : decode cX12_dancesOf 44 = .ok (.goto (-40), 3) := by decide +kernel
theorem dX12_dancesOf_47 : decode cX12_dancesOf 47 = .ok (.iload_n 2, 1) := by decide +kernel
theorem dX12_dancesOf_48 : decode cX12_dancesOf 48 = .ok (.ireturn, 1) := by decide +kernel
theorem dX12_findOrders_0 : decode cX12_findOrders 0 = .ok (.iconst 0, 1) := by decide +kernel
theorem dX12_findOrders_1 : decode cX12_findOrders 1 = .ok (.istore_n 2, 1) := by decide +kernel
theorem dX12_findOrders_2 : decode cX12_findOrders 2 = .ok (.iload_n 2, 1) := by decide +kernel
theorem dX12_findOrders_3 : decode cX12_findOrders 3 = .ok (.iload_n 1, 1) := by decide +kernel
theorem dX12_findOrders_4 : decode cX12_findOrders 4 = .ok (.if_icmp .gt 112, 3) := by decide +kernel
theorem dX12_findOrders_7 : decode cX12_findOrders 7 = .ok (.aload_n 0, 1) := by decide +kernel
theorem dX12_findOrders_8 : decode cX12_findOrders 8 = .ok (.getfield 114, 3) := by decide +kernel
theorem dX12_findOrders_11 : decode cX12_findOrders 11 = .ok (.iload_n 2, 1) := by decide +kernel
theorem dX12_findOrders_12 : decode cX12_findOrders 12 = .ok (.iload_n 2, 1) := by decide +kernel
theorem dX12_findOrders_13 : decode cX12_findOrders 13 = .ok (.ifCond .ne 7, 3) := by decide +kernel
theorem dX12_findOrders_16 : decode cX12_findOrders 16 = .ok (.iconst 1, 1) := by decide +kernel
theorem dX12_findOrders_17 : decode cX12_findOrders 17 = .ok (.goto 4, 3) := by decide +kernel
theorem dX12_findOrders_20 : decode cX12_findOrders 20 = .ok (.iconst 0, 1) := by decide +kernel
theorem dX12_findOrders_21 : decode cX12_findOrders 21 = .ok (.iastore, 1) := by decide +kernel
theorem dX12_findOrders_22 : decode cX12_findOrders 22 = .ok (.iconst 0, 1) := by decide +kernel
theorem dX12_findOrders_23 : decode cX12_findOrders 23 = .ok (.istore_n 3, 1) := by decide +kernel
theorem dX12_findOrders_24 : decode cX12_findOrders 24 = .ok (.iload_n 3, 1) := by decide +kernel
theorem dX12_findOrders_25 : decode cX12_findOrders 25 = .ok (.bipush 10, 2) := by decide +kernel
theorem dX12_findOrders_27 : decode cX12_findOrders 27 = .ok (.if_icmp .ge 83, 3) := by decide +kernel
theorem dX12_findOrders_30 : decode cX12_findOrders 30 = .ok (.iload_n 2, 1) := by decide +kernel
theorem dX12_findOrders_31 : decode cX12_findOrders 31 = .ok (.iload_n 1, 1) := by decide +kernel
theorem dX12_findOrders_32 : decode cX12_findOrders 32 = .ok (.iconst (-1), 1) := by decide +kernel
theorem dX12_findOrders_33 : decode cX12_findOrders 33 = .ok (.ixor, 1) := by decide +kernel
theorem dX12_findOrders_34 : decode cX12_findOrders 34 = .ok (.iand, 1) := by decide +kernel
theorem dX12_findOrders_35 : decode cX12_findOrders 35 = .ok (.ifCond .ne 75, 3) := by decide +kernel
theorem dX12_findOrders_38 : decode cX12_findOrders 38 = .ok (.iload_n 2, 1) := by decide +kernel
theorem dX12_findOrders_39 : decode cX12_findOrders 39 = .ok (.iload_n 3, 1) := by decide +kernel
theorem dX12_findOrders_40 : decode cX12_findOrders 40 = .ok (.invokestatic 367, 3) := by decide +kernel
theorem dX12_findOrders_43 : decode cX12_findOrders 43 = .ok (.ifCond .eq 28, 3) := by decide +kernel
theorem dX12_findOrders_46 : decode cX12_findOrders 46 = .ok (.aload_n 0, 1) := by decide +kernel
theorem dX12_findOrders_47 : decode cX12_findOrders 47 = .ok (.getfield 111, 3) := by decide +kernel
theorem dX12_findOrders_50 : decode cX12_findOrders 50 = .ok (.iload_n 3, 1) := by decide +kernel
theorem dX12_findOrders_51 : decode cX12_findOrders 51 = .ok (.iaload, 1) := by decide +kernel
theorem dX12_findOrders_52 : decode cX12_findOrders 52 = .ok (.iload_n 1, 1) := by decide +kernel
theorem dX12_findOrders_53 : decode cX12_findOrders 53 = .ok (.iand, 1) := by decide +kernel
theorem dX12_findOrders_54 : decode cX12_findOrders 54 = .ok (.iload_n 2, 1) := by decide +kernel
theorem dX12_findOrders_55 : decode cX12_findOrders 55 = .ok (.iconst 1, 1) := by decide +kernel
theorem dX12_findOrders_56 : decode cX12_findOrders 56 = .ok (.iload_n 3, 1) := by decide +kernel
theorem dX12_findOrders_57 : decode cX12_findOrders 57 = .ok (.ishl, 1) := by decide +kernel
theorem dX12_findOrders_58 : decode cX12_findOrders 58 = .ok (.iconst (-1), 1) := by decide +kernel
theorem dX12_findOrders_59 : decode cX12_findOrders 59 = .ok (.ixor, 1) := by decide +kernel
theorem dX12_findOrders_60 : decode cX12_findOrders 60 = .ok (.iand, 1) := by decide +kernel
theorem dX12_findOrders_61 : decode cX12_findOrders 61 = .ok (.iconst (-1), 1) := by decide +kernel
theorem dX12_findOrders_62 : decode cX12_findOrders 62 = .ok (.ixor, 1) := by decide +kernel
theorem dX12_findOrders_63 : decode cX12_findOrders 63 = .ok (.iand, 1) := by decide +kernel
theorem dX12_findOrders_64 : decode cX12_findOrders 64 = .ok (.ifCond .ne 7, 3) := by decide +kernel
theorem dX12_findOrders_67 : decode cX12_findOrders 67 = .ok (.iconst 1, 1) := by decide +kernel
theorem dX12_findOrders_68 : decode cX12_findOrders 68 = .ok (.goto 4, 3) := by decide +kernel
theorem dX12_findOrders_71 : decode cX12_findOrders 71 = .ok (.iconst 0, 1) := by decide +kernel
theorem dX12_findOrders_72 : decode cX12_findOrders 72 = .ok (.istore 4, 2) := by decide +kernel
theorem dX12_findOrders_74 : decode cX12_findOrders 74 = .ok (.aload_n 0, 1) := by decide +kernel
theorem dX12_findOrders_75 : decode cX12_findOrders 75 = .ok (.getfield 114, 3) := by decide +kernel
theorem dX12_findOrders_78 : decode cX12_findOrders 78 = .ok (.iload_n 2, 1) := by decide +kernel
theorem dX12_findOrders_79 : decode cX12_findOrders 79 = .ok (.dup2, 1) := by decide +kernel
theorem dX12_findOrders_80 : decode cX12_findOrders 80 = .ok (.iaload, 1) := by decide +kernel
theorem dX12_findOrders_81 : decode cX12_findOrders 81 = .ok (.iload 4, 2) := by decide +kernel
theorem dX12_findOrders_83 : decode cX12_findOrders 83 = .ok (.ifCond .eq 18, 3) := by decide +kernel
theorem dX12_findOrders_86 : decode cX12_findOrders 86 = .ok (.aload_n 0, 1) := by decide +kernel
theorem dX12_findOrders_87 : decode cX12_findOrders 87 = .ok (.getfield 114, 3) := by decide +kernel
theorem dX12_findOrders_90 : decode cX12_findOrders 90 = .ok (.iload_n 2, 1) := by decide +kernel
theorem dX12_findOrders_91 : decode cX12_findOrders 91 = .ok (.iconst 1, 1) := by decide +kernel
theorem dX12_findOrders_92 : decode cX12_findOrders 92 = .ok (.iload_n 3, 1) := by decide +kernel
theorem dX12_findOrders_93 : decode cX12_findOrders 93 = .ok (.ishl, 1) := by decide +kernel
theorem dX12_findOrders_94 : decode cX12_findOrders 94 = .ok (.iconst (-1), 1) := by decide +kernel
theorem dX12_findOrders_95 : decode cX12_findOrders 95 = .ok (.ixor, 1) := by decide +kernel
theorem dX12_findOrders_96 : decode cX12_findOrders 96 = .ok (.iand, 1) := by decide +kernel
theorem dX12_findOrders_97 : decode cX12_findOrders 97 = .ok (.iaload, 1) := by decide +kernel
theorem dX12_findOrders_98 : decode cX12_findOrders 98 = .ok (.goto 4, 3) := by decide +kernel
theorem dX12_findOrders_101 : decode cX12_findOrders 101 = .ok (.iconst 0, 1) := by decide +kernel
theorem dX12_findOrders_102 : decode cX12_findOrders 102 = .ok (.iadd, 1) := by decide +kernel
theorem dX12_findOrders_103 : decode cX12_findOrders 103 = .ok (.iastore, 1) := by decide +kernel
theorem dX12_findOrders_104 : decode cX12_findOrders 104 = .ok (.iinc 3 1, 3) := by decide +kernel
theorem dX12_findOrders_107 : decode cX12_findOrders 107 = .ok (.goto (-83), 3) := by decide +kernel
theorem dX12_findOrders_110 : decode cX12_findOrders 110 = .ok (.iinc 2 1, 3) := by decide +kernel
theorem dX12_findOrders_113 : decode cX12_findOrders 113 = .ok (.goto (-111), 3) := by decide +kernel
theorem dX12_findOrders_116 : decode cX12_findOrders 116 = .ok (.return_, 1) := by decide +kernel
theorem dX12_lasts_0 : decode cX12_lasts 0 = .ok (.iconst 0, 1) := by decide +kernel
theorem dX12_lasts_1 : decode cX12_lasts 1 = .ok (.istore_n 3, 1) := by decide +kernel
theorem dX12_lasts_2 : decode cX12_lasts 2 = .ok (.iconst 0, 1) := by decide +kernel
theorem dX12_lasts_3 : decode cX12_lasts 3 = .ok (.istore 4, 2) := by decide +kernel
theorem dX12_lasts_5 : decode cX12_lasts 5 = .ok (.iload 4, 2) := by decide +kernel
theorem dX12_lasts_7 : decode cX12_lasts 7 = .ok (.bipush 10, 2) := by decide +kernel
theorem dX12_lasts_9 : decode cX12_lasts 9 = .ok (.if_icmp .ge 148, 3) := by decide +kernel
theorem dX12_lasts_12 : decode cX12_lasts 12 = .ok (.iload_n 1, 1) := by decide +kernel
theorem dX12_lasts_13 : decode cX12_lasts 13 = .ok (.iload 4, 2) := by decide +kernel
theorem dX12_lasts_15 : decode cX12_lasts 15 = .ok (.invokestatic 367, 3) := by decide +kernel
theorem dX12_lasts_18 : decode cX12_lasts 18 = .ok (.ifCond .eq 46, 3) := by decide +kernel
theorem dX12_lasts_21 : decode cX12_lasts 21 = .ok (.aload_n 0, 1) := by decide +kernel
theorem dX12_lasts_22 : decode cX12_lasts 22 = .ok (.getfield 13, 3) := by decide +kernel
theorem dX12_lasts_25 : decode cX12_lasts 25 = .ok (.bipush 110, 2) := by decide +kernel
theorem dX12_lasts_27 : decode cX12_lasts 27 = .ok (.iconst 2, 1) := by decide +kernel
theorem dX12_lasts_28 : decode cX12_lasts 28 = .ok (.iload 4, 2) := by decide +kernel
theorem dX12_lasts_30 : decode cX12_lasts 30 = .ok (.imul, 1) := by decide +kernel
theorem dX12_lasts_31 : decode cX12_lasts 31 = .ok (.iadd, 1) := by decide +kernel
theorem dX12_lasts_32 : decode cX12_lasts 32 = .ok (.iaload, 1) := by decide +kernel
theorem dX12_lasts_33 : decode cX12_lasts 33 = .ok (.iload_n 2, 1) := by decide +kernel
theorem dX12_lasts_34 : decode cX12_lasts 34 = .ok (.if_icmp .ne 30, 3) := by decide +kernel
theorem dX12_lasts_37 : decode cX12_lasts 37 = .ok (.aload_n 0, 1) := by decide +kernel
theorem dX12_lasts_38 : decode cX12_lasts 38 = .ok (.getfield 111, 3) := by decide +kernel
theorem dX12_lasts_41 : decode cX12_lasts 41 = .ok (.iload 4, 2) := by decide +kernel
theorem dX12_lasts_43 : decode cX12_lasts 43 = .ok (.iaload, 1) := by decide +kernel
theorem dX12_lasts_44 : decode cX12_lasts 44 = .ok (.iload_n 1, 1) := by decide +kernel
theorem dX12_lasts_45 : decode cX12_lasts 45 = .ok (.iand, 1) := by decide +kernel
theorem dX12_lasts_46 : decode cX12_lasts 46 = .ok (.iload_n 1, 1) := by decide +kernel
theorem dX12_lasts_47 : decode cX12_lasts 47 = .ok (.iconst 1, 1) := by decide +kernel
theorem dX12_lasts_48 : decode cX12_lasts 48 = .ok (.iload 4, 2) := by decide +kernel
theorem dX12_lasts_50 : decode cX12_lasts 50 = .ok (.ishl, 1) := by decide +kernel
theorem dX12_lasts_51 : decode cX12_lasts 51 = .ok (.iconst (-1), 1) := by decide +kernel
theorem dX12_lasts_52 : decode cX12_lasts 52 = .ok (.ixor, 1) := by decide +kernel
theorem dX12_lasts_53 : decode cX12_lasts 53 = .ok (.iand, 1) := by decide +kernel
theorem dX12_lasts_54 : decode cX12_lasts 54 = .ok (.iconst (-1), 1) := by decide +kernel
theorem dX12_lasts_55 : decode cX12_lasts 55 = .ok (.ixor, 1) := by decide +kernel
theorem dX12_lasts_56 : decode cX12_lasts 56 = .ok (.iand, 1) := by decide +kernel
theorem dX12_lasts_57 : decode cX12_lasts 57 = .ok (.ifCond .ne 7, 3) := by decide +kernel
theorem dX12_lasts_60 : decode cX12_lasts 60 = .ok (.iconst 1, 1) := by decide +kernel
theorem dX12_lasts_61 : decode cX12_lasts 61 = .ok (.goto 4, 3) := by decide +kernel
theorem dX12_lasts_64 : decode cX12_lasts 64 = .ok (.iconst 0, 1) := by decide +kernel
theorem dX12_lasts_65 : decode cX12_lasts 65 = .ok (.istore 5, 2) := by decide +kernel
theorem dX12_lasts_67 : decode cX12_lasts 67 = .ok (.iconst 0, 1) := by decide +kernel
theorem dX12_lasts_68 : decode cX12_lasts 68 = .ok (.istore 6, 2) := by decide +kernel
theorem dX12_lasts_70 : decode cX12_lasts 70 = .ok (.iload 6, 2) := by decide +kernel
theorem dX12_lasts_72 : decode cX12_lasts 72 = .ok (.bipush 10, 2) := by decide +kernel
theorem dX12_lasts_74 : decode cX12_lasts 74 = .ok (.if_icmp .ge 52, 3) := by decide +kernel
theorem dX12_lasts_77 : decode cX12_lasts 77 = .ok (.iload 5, 2) := by decide +kernel
theorem dX12_lasts_79 : decode cX12_lasts 79 = .ok (.ifCond .eq 47, 3) := by decide +kernel
theorem dX12_lasts_82 : decode cX12_lasts 82 = .ok (.iload 6, 2) := by decide +kernel
theorem dX12_lasts_84 : decode cX12_lasts 84 = .ok (.iload 4, 2) := by decide +kernel
theorem dX12_lasts_86 : decode cX12_lasts 86 = .ok (.if_icmp .eq 27, 3) := by decide +kernel
theorem dX12_lasts_89 : decode cX12_lasts 89 = .ok (.iload_n 1, 1) := by decide +kernel
theorem dX12_lasts_90 : decode cX12_lasts 90 = .ok (.iload 6, 2) := by decide +kernel
theorem dX12_lasts_92 : decode cX12_lasts 92 = .ok (.invokestatic 367, 3) := by decide +kernel
theorem dX12_lasts_95 : decode cX12_lasts 95 = .ok (.ifCond .eq 18, 3) := by decide +kernel
theorem dX12_lasts_98 : decode cX12_lasts 98 = .ok (.aload_n 0, 1) := by decide +kernel
theorem dX12_lasts_99 : decode cX12_lasts 99 = .ok (.getfield 111, 3) := by decide +kernel
theorem dX12_lasts_102 : decode cX12_lasts 102 = .ok (.iload 6, 2) := by decide +kernel
theorem dX12_lasts_104 : decode cX12_lasts 104 = .ok (.iaload, 1) := by decide +kernel
theorem dX12_lasts_105 : decode cX12_lasts 105 = .ok (.iload 4, 2) := by decide +kernel
theorem dX12_lasts_107 : decode cX12_lasts 107 = .ok (.invokestatic 367, 3) := by decide +kernel
theorem dX12_lasts_110 : decode cX12_lasts 110 = .ok (.ifCond .ne 7, 3) := by decide +kernel
theorem dX12_lasts_113 : decode cX12_lasts 113 = .ok (.iconst 1, 1) := by decide +kernel
theorem dX12_lasts_114 : decode cX12_lasts 114 = .ok (.goto 4, 3) := by decide +kernel
theorem dX12_lasts_117 : decode cX12_lasts 117 = .ok (.iconst 0, 1) := by decide +kernel
theorem dX12_lasts_118 : decode cX12_lasts 118 = .ok (.istore 5, 2) := by decide +kernel
theorem dX12_lasts_120 : decode cX12_lasts 120 = .ok (.iinc 6 1, 3) := by decide +kernel
theorem dX12_lasts_123 : decode cX12_lasts 123 = .ok (.goto (-53), 3) := by decide +kernel
theorem dX12_lasts_126 : decode cX12_lasts 126 = .ok (.iload_n 3, 1) := by decide +kernel
theorem dX12_lasts_127 : decode cX12_lasts 127 = .ok (.iload 5, 2) := by decide +kernel
theorem dX12_lasts_129 : decode cX12_lasts 129 = .ok (.ifCond .eq 19, 3) := by decide +kernel
theorem dX12_lasts_132 : decode cX12_lasts 132 = .ok (.aload_n 0, 1) := by decide +kernel
theorem dX12_lasts_133 : decode cX12_lasts 133 = .ok (.getfield 114, 3) := by decide +kernel
theorem dX12_lasts_136 : decode cX12_lasts 136 = .ok (.iload_n 1, 1) := by decide +kernel
theorem dX12_lasts_137 : decode cX12_lasts 137 = .ok (.iconst 1, 1) := by decide +kernel
theorem dX12_lasts_138 : decode cX12_lasts 138 = .ok (.iload 4, 2) := by decide +kernel
theorem dX12_lasts_140 : decode cX12_lasts 140 = .ok (.ishl, 1) := by decide +kernel
theorem dX12_lasts_141 : decode cX12_lasts 141 = .ok (.iconst (-1), 1) := by decide +kernel
theorem dX12_lasts_142 : decode cX12_lasts 142 = .ok (.ixor, 1) := by decide +kernel
theorem dX12_lasts_143 : decode cX12_lasts 143 = .ok (.iand, 1) := by decide +kernel
theorem dX12_lasts_144 : decode cX12_lasts 144 = .ok (.iaload, 1) := by decide +kernel
theorem dX12_lasts_145 : decode cX12_lasts 145 = .ok (.goto 4, 3) := by decide +kernel
theorem dX12_lasts_148 : decode cX12_lasts 148 = .ok (.iconst 0, 1) := by decide +kernel
theorem dX12_lasts_149 : decode cX12_lasts 149 = .ok (.iadd, 1) := by decide +kernel
theorem dX12_lasts_150 : decode cX12_lasts 150 = .ok (.istore_n 3, 1) := by decide +kernel
theorem dX12_lasts_151 : decode cX12_lasts 151 = .ok (.iinc 4 1, 3) := by decide +kernel
theorem dX12_lasts_154 : decode cX12_lasts 154 = .ok (.goto (-149), 3) := by decide +kernel
theorem dX12_lasts_157 : decode cX12_lasts 157 = .ok (.iload_n 3, 1) := by decide +kernel
theorem dX12_lasts_158 : decode cX12_lasts 158 = .ok (.ireturn, 1) := by decide +kernel
theorem dX12_orders_0 : decode cX12_orders 0 = .ok (.aload_n 0, 1) := by decide +kernel
theorem dX12_orders_1 : decode cX12_orders 1 = .ok (.iconst 0, 1) := by decide +kernel
theorem dX12_orders_2 : decode cX12_orders 2 = .ok (.putfield 123, 3) := by decide +kernel
theorem dX12_orders_5 : decode cX12_orders 5 = .ok (.aload_n 0, 1) := by decide +kernel
theorem dX12_orders_6 : decode cX12_orders 6 = .ok (.iload_n 1, 1) := by decide +kernel
theorem dX12_orders_7 : decode cX12_orders 7 = .ok (.invokevirtual 149, 3) := by decide +kernel
theorem dX12_orders_10 : decode cX12_orders 10 = .ok (.ifCond .eq 15, 3) := by decide +kernel
theorem dX12_orders_13 : decode cX12_orders 13 = .ok (.iload_n 2, 1) := by decide +kernel
theorem dX12_orders_14 : decode cX12_orders 14 = .ok (.iconst (-1), 1) := by decide +kernel
theorem dX12_orders_15 : decode cX12_orders 15 = .ok (.if_icmp .eq 12, 3) := by decide +kernel
theorem dX12_orders_18 : decode cX12_orders 18 = .ok (.iload_n 2, 1) := by decide +kernel
theorem dX12_orders_19 : decode cX12_orders 19 = .ok (.invokestatic 153, 3) := by decide +kernel
theorem dX12_orders_22 : decode cX12_orders 22 = .ok (.ifCond .ne 5, 3) := by decide +kernel
theorem dX12_orders_25 : decode cX12_orders 25 = .ok (.iconst (-1), 1) := by decide +kernel
theorem dX12_orders_26 : decode cX12_orders 26 = .ok (.ireturn, 1) := by decide +kernel
theorem dX12_orders_27 : decode cX12_orders 27 = .ok (.aload_n 0, 1) := by decide +kernel
theorem dX12_orders_28 : decode cX12_orders 28 = .ok (.invokevirtual 427, 3) := by decide +kernel
theorem dX12_orders_31 : decode cX12_orders 31 = .ok (.aload_n 0, 1) := by decide +kernel
theorem dX12_orders_32 : decode cX12_orders 32 = .ok (.iload_n 1, 1) := by decide +kernel
theorem dX12_orders_33 : decode cX12_orders 33 = .ok (.invokevirtual 430, 3) := by decide +kernel
theorem dX12_orders_36 : decode cX12_orders 36 = .ok (.istore_n 3, 1) := by decide +kernel
theorem dX12_orders_37 : decode cX12_orders 37 = .ok (.aload_n 0, 1) := by decide +kernel
theorem dX12_orders_38 : decode cX12_orders 38 = .ok (.iload_n 3, 1) := by decide +kernel
theorem dX12_orders_39 : decode cX12_orders 39 = .ok (.invokevirtual 433, 3) := by decide +kernel
theorem dX12_orders_42 : decode cX12_orders 42 = .ok (.iload_n 2, 1) := by decide +kernel
theorem dX12_orders_43 : decode cX12_orders 43 = .ok (.iconst (-1), 1) := by decide +kernel
theorem dX12_orders_44 : decode cX12_orders 44 = .ok (.if_icmp .ne 12, 3) := by decide +kernel
theorem dX12_orders_47 : decode cX12_orders 47 = .ok (.aload_n 0, 1) := by decide +kernel
theorem dX12_orders_48 : decode cX12_orders 48 = .ok (.getfield 114, 3) := by decide +kernel
theorem dX12_orders_51 : decode cX12_orders 51 = .ok (.iload_n 3, 1) := by decide +kernel
theorem dX12_orders_52 : decode cX12_orders 52 = .ok (.iaload, 1) := by decide +kernel
theorem dX12_orders_53 : decode cX12_orders 53 = .ok (.goto 9, 3) := by decide +kernel
theorem dX12_orders_56 : decode cX12_orders 56 = .ok (.aload_n 0, 1) := by decide +kernel
theorem dX12_orders_57 : decode cX12_orders 57 = .ok (.iload_n 3, 1) := by decide +kernel
theorem dX12_orders_58 : decode cX12_orders 58 = .ok (.iload_n 2, 1) := by decide +kernel
theorem dX12_orders_59 : decode cX12_orders 59 = .ok (.invokevirtual 436, 3) := by decide +kernel
theorem dX12_orders_62 : decode cX12_orders 62 = .ok (.ireturn, 1) := by decide +kernel
theorem dX12_can_0 : decode cX12_can 0 = .ok (.aload_n 0, 1) := by decide +kernel
theorem dX12_can_1 : decode cX12_can 1 = .ok (.iconst 0, 1) := by decide +kernel
theorem dX12_can_2 : decode cX12_can 2 = .ok (.putfield 123, 3) := by decide +kernel
theorem dX12_can_5 : decode cX12_can 5 = .ok (.aload_n 0, 1) := by decide +kernel
theorem dX12_can_6 : decode cX12_can 6 = .ok (.iload_n 1, 1) := by decide +kernel
theorem dX12_can_7 : decode cX12_can 7 = .ok (.invokevirtual 149, 3) := by decide +kernel
theorem dX12_can_10 : decode cX12_can 10 = .ok (.ifCond .ne 5, 3) := by decide +kernel
theorem dX12_can_13 : decode cX12_can 13 = .ok (.iconst (-1), 1) := by decide +kernel
theorem dX12_can_14 : decode cX12_can 14 = .ok (.ireturn, 1) := by decide +kernel
theorem dX12_can_15 : decode cX12_can 15 = .ok (.aload_n 0, 1) := by decide +kernel
theorem dX12_can_16 : decode cX12_can 16 = .ok (.invokevirtual 427, 3) := by decide +kernel
theorem dX12_can_19 : decode cX12_can 19 = .ok (.aload_n 0, 1) := by decide +kernel
theorem dX12_can_20 : decode cX12_can 20 = .ok (.iload_n 1, 1) := by decide +kernel
theorem dX12_can_21 : decode cX12_can 21 = .ok (.invokevirtual 430, 3) := by decide +kernel
theorem dX12_can_24 : decode cX12_can 24 = .ok (.istore_n 2, 1) := by decide +kernel
theorem dX12_can_25 : decode cX12_can 25 = .ok (.aload_n 0, 1) := by decide +kernel
theorem dX12_can_26 : decode cX12_can 26 = .ok (.iload_n 2, 1) := by decide +kernel
theorem dX12_can_27 : decode cX12_can 27 = .ok (.invokevirtual 433, 3) := by decide +kernel
theorem dX12_can_30 : decode cX12_can 30 = .ok (.iconst 0, 1) := by decide +kernel
theorem dX12_can_31 : decode cX12_can 31 = .ok (.istore_n 3, 1) := by decide +kernel
theorem dX12_can_32 : decode cX12_can 32 = .ok (.iconst 0, 1) := by decide +kernel
theorem dX12_can_33 : decode cX12_can 33 = .ok (.istore 4, 2) := by decide +kernel
theorem dX12_can_35 : decode cX12_can 35 = .ok (.iload 4, 2) := by decide +kernel
theorem dX12_can_37 : decode cX12_can 37 = .ok (.bipush 8, 2) := by decide +kernel
theorem dX12_can_39 : decode cX12_can 39 = .ok (.if_icmp .ge 30, 3) := by decide +kernel
theorem dX12_can_42 : decode cX12_can 42 = .ok (.iload_n 3, 1) := by decide +kernel
theorem dX12_can_43 : decode cX12_can 43 = .ok (.aload_n 0, 1) := by decide +kernel
theorem dX12_can_44 : decode cX12_can 44 = .ok (.iload_n 2, 1) := by decide +kernel
theorem dX12_can_45 : decode cX12_can 45 = .ok (.iload 4, 2) := by decide +kernel
theorem dX12_can_47 : decode cX12_can 47 = .ok (.invokevirtual 436, 3) := by decide +kernel
theorem dX12_can_50 : decode cX12_can 50 = .ok (.ifCond .le 10, 3) := by decide +kernel
theorem dX12_can_53 : decode cX12_can 53 = .ok (.iconst 1, 1) := by decide +kernel
theorem dX12_can_54 : decode cX12_can 54 = .ok (.iload 4, 2) := by decide +kernel
theorem dX12_can_56 : decode cX12_can 56 = .ok (.ishl, 1) := by decide +kernel
theorem dX12_can_57 : decode cX12_can 57 = .ok (.goto 4, 3) := by decide +kernel
theorem dX12_can_60 : decode cX12_can 60 = .ok (.iconst 0, 1) := by decide +kernel
theorem dX12_can_61 : decode cX12_can 61 = .ok (.ior, 1) := by decide +kernel
theorem dX12_can_62 : decode cX12_can 62 = .ok (.istore_n 3, 1) := by decide +kernel
theorem dX12_can_63 : decode cX12_can 63 = .ok (.iinc 4 1, 3) := by decide +kernel
theorem dX12_can_66 : decode cX12_can 66 = .ok (.goto (-31), 3) := by decide +kernel
theorem dX12_can_69 : decode cX12_can 69 = .ok (.iload_n 3, 1) := by decide +kernel
theorem dX12_can_70 : decode cX12_can 70 = .ok (.ireturn, 1) := by decide +kernel
theorem dX12_draw_0 : decode cX12_draw 0 = .ok (.aload_n 0, 1) := by decide +kernel
theorem dX12_draw_1 : decode cX12_draw 1 = .ok (.aload_n 0, 1) := by decide +kernel
theorem dX12_draw_2 : decode cX12_draw 2 = .ok (.getfield 439, 3) := by decide +kernel
theorem dX12_draw_5 : decode cX12_draw 5 = .ok (.ldc2_w 442, 3) := by decide +kernel
theorem dX12_draw_8 : decode cX12_draw 8 = .ok (.lmul, 1) := by decide +kernel
theorem dX12_draw_9 : decode cX12_draw 9 = .ok (.ldc2_w 444, 3) := by decide +kernel
theorem dX12_draw_12 : decode cX12_draw 12 = .ok (.ladd, 1) := by decide +kernel
theorem dX12_draw_13 : decode cX12_draw 13 = .ok (.ldc2_w 446, 3) := by decide +kernel
theorem dX12_draw_16 : decode cX12_draw 16 = .ok (.lrem, 1) := by decide +kernel
theorem dX12_draw_17 : decode cX12_draw 17 = .ok (.putfield 439, 3) := by decide +kernel
theorem dX12_draw_20 : decode cX12_draw 20 = .ok (.aload_n 0, 1) := by decide +kernel
theorem dX12_draw_21 : decode cX12_draw 21 = .ok (.getfield 439, 3) := by decide +kernel
theorem dX12_draw_24 : decode cX12_draw 24 = .ok (.iload_n 1, 1) := by decide +kernel
theorem dX12_draw_25 : decode cX12_draw 25 = .ok (.i2l, 1) := by decide +kernel
theorem dX12_draw_26 : decode cX12_draw 26 = .ok (.lrem, 1) := by decide +kernel
theorem dX12_draw_27 : decode cX12_draw 27 = .ok (.l2i, 1) := by decide +kernel
theorem dX12_draw_28 : decode cX12_draw 28 = .ok (.ireturn, 1) := by decide +kernel
theorem dX12_evenings_0 : decode cX12_evenings 0 = .ok (.aload_n 0, 1) := by decide +kernel
theorem dX12_evenings_1 : decode cX12_evenings 1 = .ok (.iconst 0, 1) := by decide +kernel
theorem dX12_evenings_2 : decode cX12_evenings 2 = .ok (.putfield 123, 3) := by decide +kernel
theorem dX12_evenings_5 : decode cX12_evenings 5 = .ok (.iload_n 1, 1) := by decide +kernel
theorem dX12_evenings_6 : decode cX12_evenings 6 = .ok (.i2l, 1) := by decide +kernel
theorem dX12_evenings_7 : decode cX12_evenings 7 = .ok (.lconst 0, 1) := by decide +kernel
theorem dX12_evenings_8 : decode cX12_evenings 8 = .ok (.ldc2_w 222, 3) := by decide +kernel
theorem dX12_evenings_11 : decode cX12_evenings 11 = .ok (.invokestatic 129, 3) := by decide +kernel
theorem dX12_evenings_14 : decode cX12_evenings 14 = .ok (.ifCond .eq 15, 3) := by decide +kernel
theorem dX12_evenings_17 : decode cX12_evenings 17 = .ok (.iload_n 2, 1) := by decide +kernel
theorem dX12_evenings_18 : decode cX12_evenings 18 = .ok (.i2l, 1) := by decide +kernel
theorem dX12_evenings_19 : decode cX12_evenings 19 = .ok (.lconst 1, 1) := by decide +kernel
theorem dX12_evenings_20 : decode cX12_evenings 20 = .ok (.ldc2_w 245, 3) := by decide +kernel
theorem dX12_evenings_23 : decode cX12_evenings 23 = .ok (.invokestatic 129, 3) := by decide +kernel
theorem dX12_evenings_26 : decode cX12_evenings 26 = .ok (.ifCond .ne 9, 3) := by decide +kernel
theorem dX12_evenings_29 : decode cX12_evenings 29 = .ok (.aload_n 0, 1) := by decide +kernel
theorem dX12_evenings_30 : decode cX12_evenings 30 = .ok (.iconst (-1), 1) := by decide +kernel
theorem dX12_evenings_31 : decode cX12_evenings 31 = .ok (.invokevirtual 133, 3) := by decide +kernel
theorem dX12_evenings_34 : decode cX12_evenings 34 = .ok (.ireturn, 1) := by decide +kernel
theorem dX12_evenings_35 : decode cX12_evenings 35 = .ok (.aload_n 0, 1) := by decide +kernel
theorem dX12_evenings_36 : decode cX12_evenings 36 = .ok (.iload_n 1, 1) := by decide +kernel
theorem dX12_evenings_37 : decode cX12_evenings 37 = .ok (.i2l, 1) := by decide +kernel
theorem dX12_evenings_38 : decode cX12_evenings 38 = .ok (.putfield 439, 3) := by decide +kernel
theorem dX12_evenings_41 : decode cX12_evenings 41 = .ok (.iconst 0, 1) := by decide +kernel
theorem dX12_evenings_42 : decode cX12_evenings 42 = .ok (.istore_n 3, 1) := by decide +kernel
theorem dX12_evenings_43 : decode cX12_evenings 43 = .ok (.iload_n 3, 1) := by decide +kernel
theorem dX12_evenings_44 : decode cX12_evenings 44 = .ok (.aload_n 0, 1) := by decide +kernel
theorem dX12_evenings_45 : decode cX12_evenings 45 = .ok (.invokevirtual 139, 3) := by decide +kernel
theorem dX12_evenings_48 : decode cX12_evenings 48 = .ok (.if_icmp .ge 21, 3) := by decide +kernel
theorem dX12_evenings_51 : decode cX12_evenings 51 = .ok (.aload_n 0, 1) := by decide +kernel
theorem dX12_evenings_52 : decode cX12_evenings 52 = .ok (.getfield 117, 3) := by decide +kernel
theorem dX12_evenings_55 : decode cX12_evenings 55 = .ok (.iload_n 3, 1) := by decide +kernel
theorem dX12_evenings_56 : decode cX12_evenings 56 = .ok (.aload_n 0, 1) := by decide +kernel
theorem dX12_evenings_57 : decode cX12_evenings 57 = .ok (.iload_n 3, 1) := by decide +kernel
theorem dX12_evenings_58 : decode cX12_evenings 58 = .ok (.iconst 0, 1) := by decide +kernel
theorem dX12_evenings_59 : decode cX12_evenings 59 = .ok (.invokevirtual 143, 3) := by decide +kernel
theorem dX12_evenings_62 : decode cX12_evenings 62 = .ok (.iastore, 1) := by decide +kernel
theorem dX12_evenings_63 : decode cX12_evenings 63 = .ok (.iinc 3 1, 3) := by decide +kernel
theorem dX12_evenings_66 : decode cX12_evenings 66 = .ok (.goto (-23), 3) := by decide +kernel
theorem dX12_evenings_69 : decode cX12_evenings 69 = .ok (.iconst 0, 1) := by decide +kernel
theorem dX12_evenings_70 : decode cX12_evenings 70 = .ok (.istore_n 3, 1) := by decide +kernel
theorem dX12_evenings_71 : decode cX12_evenings 71 = .ok (.iconst 0, 1) := by decide +kernel
theorem dX12_evenings_72 : decode cX12_evenings 72 = .ok (.istore 4, 2) := by decide +kernel
theorem dX12_evenings_74 : decode cX12_evenings 74 = .ok (.iload 4, 2) := by decide +kernel
theorem dX12_evenings_76 : decode cX12_evenings 76 = .ok (.bipush 6, 2) := by decide +kernel
theorem dX12_evenings_78 : decode cX12_evenings 78 = .ok (.iload_n 2, 1) := by decide +kernel
theorem dX12_evenings_79 : decode cX12_evenings 79 = .ok (.imul, 1) := by decide +kernel
theorem dX12_evenings_80 : decode cX12_evenings 80 = .ok (.if_icmp .ge 135, 3) := by decide +kernel
theorem dX12_evenings_83 : decode cX12_evenings 83 = .ok (.aload_n 0, 1) := by decide +kernel
theorem dX12_evenings_84 : decode cX12_evenings 84 = .ok (.getfield 13, 3) := by decide +kernel
theorem dX12_evenings_87 : decode cX12_evenings 87 = .ok (.iconst 0, 1) := by decide +kernel
theorem dX12_evenings_88 : decode cX12_evenings 88 = .ok (.iaload, 1) := by decide +kernel
theorem dX12_evenings_89 : decode cX12_evenings 89 = .ok (.ifCond .le 126, 3) := by decide +kernel
theorem dX12_evenings_92 : decode cX12_evenings 92 = .ok (.aload_n 0, 1) := by decide +kernel
theorem dX12_evenings_93 : decode cX12_evenings 93 = .ok (.bipush 8, 2) := by decide +kernel
theorem dX12_evenings_95 : decode cX12_evenings 95 = .ok (.invokevirtual 448, 3) := by decide +kernel
theorem dX12_evenings_98 : decode cX12_evenings 98 = .ok (.istore 5, 2) := by decide +kernel
theorem dX12_evenings_100 : decode cX12_evenings 100 = .ok (.aload_n 0, 1) := by decide +kernel
theorem dX12_evenings_101 : decode cX12_evenings 101 = .ok (.aload_n 0, 1) := by decide +kernel
theorem dX12_evenings_102 : decode cX12_evenings 102 = .ok (.getfield 13, 3) := by decide +kernel
theorem dX12_evenings_105 : decode cX12_evenings 105 = .ok (.iconst 0, 1) := by decide +kernel
theorem dX12_evenings_106 : decode cX12_evenings 106 = .ok (.iaload, 1) := by decide +kernel
theorem dX12_evenings_107 : decode cX12_evenings 107 = .ok (.invokevirtual 448, 3) := by decide +kernel
theorem dX12_evenings_110 : decode cX12_evenings 110 = .ok (.istore 6, 2) := by decide +kernel
theorem dX12_evenings_112 : decode cX12_evenings 112 = .ok (.iconst (-1), 1) := by decide +kernel
theorem dX12_evenings_113 : decode cX12_evenings 113 = .ok (.istore 7, 2) := by decide +kernel
theorem dX12_evenings_115 : decode cX12_evenings 115 = .ok (.aload_n 0, 1) := by decide +kernel
theorem dX12_evenings_116 : decode cX12_evenings 116 = .ok (.invokevirtual 139, 3) := by decide +kernel
theorem dX12_evenings_119 : decode cX12_evenings 119 = .ok (.iconst 1, 1) := by decide +kernel
theorem dX12_evenings_120 : decode cX12_evenings 120 = .ok (.isub, 1) := by decide +kernel
theorem dX12_evenings_121 : decode cX12_evenings 121 = .ok (.istore 8, 2) := by decide +kernel
theorem dX12_evenings_123 : decode cX12_evenings 123 = .ok (.iload 8, 2) := by decide +kernel
theorem dX12_evenings_125 : decode cX12_evenings 125 = .ok (.ifCond .lt 66, 3) := by decide +kernel
theorem dX12_evenings_128 : decode cX12_evenings 128 = .ok (.aload_n 0, 1) := by decide +kernel
theorem dX12_evenings_129 : decode cX12_evenings 129 = .ok (.iload 8, 2) := by decide +kernel
theorem dX12_evenings_131 : decode cX12_evenings 131 = .ok (.iconst 2, 1) := by decide +kernel
theorem dX12_evenings_132 : decode cX12_evenings 132 = .ok (.invokevirtual 143, 3) := by decide +kernel
theorem dX12_evenings_135 : decode cX12_evenings 135 = .ok (.iload 6, 2) := by decide +kernel
theorem dX12_evenings_137 : decode cX12_evenings 137 = .ok (.if_icmp .ne 31, 3) := by decide +kernel
theorem dX12_evenings_140 : decode cX12_evenings 140 = .ok (.aload_n 0, 1) := by decide +kernel
theorem dX12_evenings_141 : decode cX12_evenings 141 = .ok (.getfield 117, 3) := by decide +kernel
theorem dX12_evenings_144 : decode cX12_evenings 144 = .ok (.iload 8, 2) := by decide +kernel
theorem dX12_evenings_146 : decode cX12_evenings 146 = .ok (.iaload, 1) := by decide +kernel
theorem dX12_evenings_147 : decode cX12_evenings 147 = .ok (.iload 5, 2) := by decide +kernel
theorem dX12_evenings_149 : decode cX12_evenings 149 = .ok (.if_icmp .eq 19, 3) := by decide +kernel
theorem dX12_evenings_152 : decode cX12_evenings 152 = .ok (.aload_n 0, 1) := by decide +kernel
theorem dX12_evenings_153 : decode cX12_evenings 153 = .ok (.iload 8, 2) := by decide +kernel
theorem dX12_evenings_155 : decode cX12_evenings 155 = .ok (.iconst 1, 1) := by decide +kernel
theorem dX12_evenings_156 : decode cX12_evenings 156 = .ok (.invokevirtual 143, 3) := by decide +kernel
theorem dX12_evenings_159 : decode cX12_evenings 159 = .ok (.iload 5, 2) := by decide +kernel
theorem dX12_evenings_161 : decode cX12_evenings 161 = .ok (.if_icmp .eq 7, 3) := by decide +kernel
theorem dX12_evenings_164 : decode cX12_evenings 164 = .ok (.iconst 1, 1) := by decide +kernel
theorem dX12_evenings_165 : decode cX12_evenings 165 = .ok (.goto 4, 3) := by decide +kernel
theorem dX12_evenings_168 : decode cX12_evenings 168 = .ok (.iconst 0, 1) := by decide +kernel
theorem dX12_evenings_169 : decode cX12_evenings 169 = .ok (.istore 9, 2) := by decide +kernel
theorem dX12_evenings_171 : decode cX12_evenings 171 = .ok (.iload 9, 2) := by decide +kernel
theorem dX12_evenings_173 : decode cX12_evenings 173 = .ok (.ifCond .eq 8, 3) := by decide +kernel
theorem dX12_evenings_176 : decode cX12_evenings 176 = .ok (.iload 8, 2) := by decide +kernel
theorem dX12_evenings_178 : decode cX12_evenings 178 = .ok (.goto 5, 3) := by decide +kernel
theorem dX12_evenings_181 : decode cX12_evenings 181 = .ok (.iload 7, 2) := by decide +kernel
theorem dX12_evenings_183 : decode cX12_evenings 183 = .ok (.istore 7, 2) := by decide +kernel
theorem dX12_evenings_185 : decode cX12_evenings 185 = .ok (.iinc 8 (-1), 3) := by decide +kernel
theorem dX12_evenings_188 : decode cX12_evenings 188 = .ok (.goto (-65), 3) := by decide +kernel
theorem dX12_evenings_191 : decode cX12_evenings 191 = .ok (.iload 7, 2) := by decide +kernel
theorem dX12_evenings_193 : decode cX12_evenings 193 = .ok (.iconst (-1), 1) := by decide +kernel
theorem dX12_evenings_194 : decode cX12_evenings 194 = .ok (.if_icmp .eq 15, 3) := by decide +kernel
theorem dX12_evenings_197 : decode cX12_evenings 197 = .ok (.aload_n 0, 1) := by decide +kernel
theorem dX12_evenings_198 : decode cX12_evenings 198 = .ok (.getfield 117, 3) := by decide +kernel
theorem dX12_evenings_201 : decode cX12_evenings 201 = .ok (.iload 7, 2) := by decide +kernel
theorem dX12_evenings_203 : decode cX12_evenings 203 = .ok (.iload 5, 2) := by decide +kernel
theorem dX12_evenings_205 : decode cX12_evenings 205 = .ok (.iastore, 1) := by decide +kernel
theorem dX12_evenings_206 : decode cX12_evenings 206 = .ok (.iinc 3 1, 3) := by decide +kernel
theorem dX12_evenings_209 : decode cX12_evenings 209 = .ok (.iinc 4 1, 3) := by decide +kernel
theorem dX12_evenings_212 : decode cX12_evenings 212 = .ok (.goto (-138), 3) := by decide +kernel
theorem dX12_evenings_215 : decode cX12_evenings 215 = .ok (.aload_n 0, 1) := by decide +kernel
theorem dX12_evenings_216 : decode cX12_evenings 216 = .ok (.iconst 1, 1) := by decide +kernel
theorem dX12_evenings_217 : decode cX12_evenings 217 = .ok (.putfield 451, 3) := by decide +kernel
theorem dX12_evenings_220 : decode cX12_evenings 220 = .ok (.iconst 0, 1) := by decide +kernel
theorem dX12_evenings_221 : decode cX12_evenings 221 = .ok (.istore 4, 2) := by decide +kernel
theorem dX12_evenings_223 : decode cX12_evenings 223 = .ok (.iload 4, 2) := by decide +kernel
theorem dX12_evenings_225 : decode cX12_evenings 225 = .ok (.bipush 8, 2) := by decide +kernel
theorem dX12_evenings_227 : decode cX12_evenings 227 = .ok (.if_icmp .ge 121, 3) := by decide +kernel
theorem dX12_evenings_230 : decode cX12_evenings 230 = .ok (.iconst 0, 1) := by decide +kernel
theorem dX12_evenings_231 : decode cX12_evenings 231 = .ok (.istore 5, 2) := by decide +kernel
theorem dX12_evenings_233 : decode cX12_evenings 233 = .ok (.aload_n 0, 1) := by decide +kernel
theorem dX12_evenings_234 : decode cX12_evenings 234 = .ok (.getfield 120, 3) := by decide +kernel
theorem dX12_evenings_237 : decode cX12_evenings 237 = .ok (.iconst 2, 1) := by decide +kernel
theorem dX12_evenings_238 : decode cX12_evenings 238 = .ok (.iload 4, 2) := by decide +kernel
theorem dX12_evenings_240 : decode cX12_evenings 240 = .ok (.imul, 1) := by decide +kernel
theorem dX12_evenings_241 : decode cX12_evenings 241 = .ok (.iconst 0, 1) := by decide +kernel
theorem dX12_evenings_242 : decode cX12_evenings 242 = .ok (.iastore, 1) := by decide +kernel
theorem dX12_evenings_243 : decode cX12_evenings 243 = .ok (.iconst 0, 1) := by decide +kernel
theorem dX12_evenings_244 : decode cX12_evenings 244 = .ok (.istore 6, 2) := by decide +kernel
theorem dX12_evenings_246 : decode cX12_evenings 246 = .ok (.iload 6, 2) := by decide +kernel
theorem dX12_evenings_248 : decode cX12_evenings 248 = .ok (.aload_n 0, 1) := by decide +kernel
theorem dX12_evenings_249 : decode cX12_evenings 249 = .ok (.invokevirtual 139, 3) := by decide +kernel
theorem dX12_evenings_252 : decode cX12_evenings 252 = .ok (.if_icmp .ge 74, 3) := by decide +kernel
theorem dX12_evenings_255 : decode cX12_evenings 255 = .ok (.aload_n 0, 1) := by decide +kernel
theorem dX12_evenings_256 : decode cX12_evenings 256 = .ok (.getfield 120, 3) := by decide +kernel
theorem dX12_evenings_259 : decode cX12_evenings 259 = .ok (.iconst 2, 1) := by decide +kernel
theorem dX12_evenings_260 : decode cX12_evenings 260 = .ok (.iload 4, 2) := by decide +kernel
theorem dX12_evenings_262 : decode cX12_evenings 262 = .ok (.imul, 1) := by decide +kernel
theorem dX12_evenings_263 : decode cX12_evenings 263 = .ok (.dup2, 1) := by decide +kernel
theorem dX12_evenings_264 : decode cX12_evenings 264 = .ok (.iaload, 1) := by decide +kernel
theorem dX12_evenings_265 : decode cX12_evenings 265 = .ok (.aload_n 0, 1) := by decide +kernel
theorem dX12_evenings_266 : decode cX12_evenings 266 = .ok (.getfield 117, 3) := by decide +kernel
theorem dX12_evenings_269 : decode cX12_evenings 269 = .ok (.iload 6, 2) := by decide +kernel
theorem dX12_evenings_271 : decode cX12_evenings 271 = .ok (.iaload, 1) := by decide +kernel
theorem dX12_evenings_272 : decode cX12_evenings 272 = .ok (.iload 4, 2) := by decide +kernel
theorem dX12_evenings_274 : decode cX12_evenings 274 = .ok (.if_icmp .ne 13, 3) := by decide +kernel
theorem dX12_evenings_277 : decode cX12_evenings 277 = .ok (.aload_n 0, 1) := by decide +kernel
theorem dX12_evenings_278 : decode cX12_evenings 278 = .ok (.iload 6, 2) := by decide +kernel
theorem dX12_evenings_280 : decode cX12_evenings 280 = .ok (.iconst 3, 1) := by decide +kernel
theorem dX12_evenings_281 : decode cX12_evenings 281 = .ok (.invokevirtual 143, 3) := by decide +kernel
theorem dX12_evenings_284 : decode cX12_evenings 284 = .ok (.goto 4, 3) := by decide +kernel
theorem dX12_evenings_287 : decode cX12_evenings 287 = .ok (.iconst 0, 1) := by decide +kernel
theorem dX12_evenings_288 : decode cX12_evenings 288 = .ok (.iadd, 1) := by decide +kernel
theorem dX12_evenings_289 : decode cX12_evenings 289 = .ok (.iastore, 1) := by decide +kernel
theorem dX12_evenings_290 : decode cX12_evenings 290 = .ok (.iload 5, 2) := by decide +kernel
theorem dX12_evenings_292 : decode cX12_evenings 292 = .ok (.aload_n 0, 1) := by decide +kernel
theorem dX12_evenings_293 : decode cX12_evenings 293 = .ok (.getfield 117, 3) := by decide +kernel
theorem dX12_evenings_296 : decode cX12_evenings 296 = .ok (.iload 6, 2) := by decide +kernel
theorem dX12_evenings_298 : decode cX12_evenings 298 = .ok (.iaload, 1) := by decide +kernel
theorem dX12_evenings_299 : decode cX12_evenings 299 = .ok (.iload 4, 2) := by decide +kernel
theorem dX12_evenings_301 : decode cX12_evenings 301 = .ok (.if_icmp .ne 15, 3) := by decide +kernel
theorem dX12_evenings_304 : decode cX12_evenings 304 = .ok (.iconst 1, 1) := by decide +kernel
theorem dX12_evenings_305 : decode cX12_evenings 305 = .ok (.aload_n 0, 1) := by decide +kernel
theorem dX12_evenings_306 : decode cX12_evenings 306 = .ok (.iload 6, 2) := by decide +kernel
theorem dX12_evenings_308 : decode cX12_evenings 308 = .ok (.iconst 1, 1) := by decide +kernel
theorem dX12_evenings_309 : decode cX12_evenings 309 = .ok (.invokevirtual 143, 3) := by decide +kernel
theorem dX12_evenings_312 : decode cX12_evenings 312 = .ok (.ishl, 1) := by decide +kernel
theorem dX12_evenings_313 : decode cX12_evenings 313 = .ok (.goto 4, 3) := by decide +kernel
theorem dX12_evenings_316 : decode cX12_evenings 316 = .ok (.iconst 0, 1) := by decide +kernel
theorem dX12_evenings_317 : decode cX12_evenings 317 = .ok (.ior, 1) := by decide +kernel
theorem dX12_evenings_318 : decode cX12_evenings 318 = .ok (.istore 5, 2) := by decide +kernel
theorem dX12_evenings_320 : decode cX12_evenings 320 = .ok (.iinc 6 1, 3) := by decide +kernel
theorem dX12_evenings_323 : decode cX12_evenings 323 = .ok (.goto (-77), 3) := by decide +kernel
theorem dX12_evenings_326 : decode cX12_evenings 326 = .ok (.aload_n 0, 1) := by decide +kernel
theorem dX12_evenings_327 : decode cX12_evenings 327 = .ok (.getfield 120, 3) := by decide +kernel
theorem dX12_evenings_330 : decode cX12_evenings 330 = .ok (.iconst 2, 1) := by decide +kernel
theorem dX12_evenings_331 : decode cX12_evenings 331 = .ok (.iload 4, 2) := by decide +kernel
theorem dX12_evenings_333 : decode cX12_evenings 333 = .ok (.imul, 1) := by decide +kernel
theorem dX12_evenings_334 : decode cX12_evenings 334 = .ok (.iconst 1, 1) := by decide +kernel
theorem dX12_evenings_335 : decode cX12_evenings 335 = .ok (.iadd, 1) := by decide +kernel
theorem dX12_evenings_336 : decode cX12_evenings 336 = .ok (.iload 5, 2) := by decide +kernel
theorem dX12_evenings_338 : decode cX12_evenings 338 = .ok (.invokestatic 370, 3) := by decide +kernel
theorem dX12_evenings_341 : decode cX12_evenings 341 = .ok (.iastore, 1) := by decide +kernel
theorem dX12_evenings_342 : decode cX12_evenings 342 = .ok (.iinc 4 1, 3) := by decide +kernel
theorem dX12_evenings_345 : decode cX12_evenings 345 = .ok (.goto (-122), 3) := by decide +kernel
theorem dX12_evenings_348 : decode cX12_evenings 348 = .ok (.aload_n 0, 1) := by decide +kernel
theorem dX12_evenings_349 : decode cX12_evenings 349 = .ok (.iload_n 3, 1) := by decide +kernel
theorem dX12_evenings_350 : decode cX12_evenings 350 = .ok (.invokevirtual 133, 3) := by decide +kernel
theorem dX12_evenings_353 : decode cX12_evenings 353 = .ok (.ireturn, 1) := by decide +kernel
theorem dX12_owed_0 : decode cX12_owed 0 = .ok (.aload_n 0, 1) := by decide +kernel
theorem dX12_owed_1 : decode cX12_owed 1 = .ok (.iconst 0, 1) := by decide +kernel
theorem dX12_owed_2 : decode cX12_owed 2 = .ok (.putfield 123, 3) := by decide +kernel
theorem dX12_owed_5 : decode cX12_owed 5 = .ok (.aload_n 0, 1) := by decide +kernel
theorem dX12_owed_6 : decode cX12_owed 6 = .ok (.getfield 451, 3) := by decide +kernel
theorem dX12_owed_9 : decode cX12_owed 9 = .ok (.ifCond .eq 33, 3) := by decide +kernel
theorem dX12_owed_12 : decode cX12_owed 12 = .ok (.iload_n 1, 1) := by decide +kernel
theorem dX12_owed_13 : decode cX12_owed 13 = .ok (.invokestatic 153, 3) := by decide +kernel
theorem dX12_owed_16 : decode cX12_owed 16 = .ok (.ifCond .eq 26, 3) := by decide +kernel
theorem dX12_owed_19 : decode cX12_owed 19 = .ok (.iload_n 2, 1) := by decide +kernel
theorem dX12_owed_20 : decode cX12_owed 20 = .ok (.i2l, 1) := by decide +kernel
theorem dX12_owed_21 : decode cX12_owed 21 = .ok (.lconst 0, 1) := by decide +kernel
theorem dX12_owed_22 : decode cX12_owed 22 = .ok (.lconst 1, 1) := by decide +kernel
theorem dX12_owed_23 : decode cX12_owed 23 = .ok (.invokestatic 129, 3) := by decide +kernel
theorem dX12_owed_26 : decode cX12_owed 26 = .ok (.ifCond .eq 16, 3) := by decide +kernel
theorem dX12_owed_29 : decode cX12_owed 29 = .ok (.aload_n 0, 1) := by decide +kernel
theorem dX12_owed_30 : decode cX12_owed 30 = .ok (.getfield 120, 3) := by decide +kernel
theorem dX12_owed_33 : decode cX12_owed 33 = .ok (.iconst 2, 1) := by decide +kernel
theorem dX12_owed_34 : decode cX12_owed 34 = .ok (.iload_n 1, 1) := by decide +kernel
theorem dX12_owed_35 : decode cX12_owed 35 = .ok (.imul, 1) := by decide +kernel
theorem dX12_owed_36 : decode cX12_owed 36 = .ok (.iload_n 2, 1) := by decide +kernel
theorem dX12_owed_37 : decode cX12_owed 37 = .ok (.iadd, 1) := by decide +kernel
theorem dX12_owed_38 : decode cX12_owed 38 = .ok (.iaload, 1) := by decide +kernel
theorem dX12_owed_39 : decode cX12_owed 39 = .ok (.goto 4, 3) := by decide +kernel
theorem dX12_owed_42 : decode cX12_owed 42 = .ok (.iconst (-1), 1) := by decide +kernel
theorem dX12_owed_43 : decode cX12_owed 43 = .ok (.ireturn, 1) := by decide +kernel
theorem dX12_count_0 : decode cX12_count 0 = .ok (.aload_n 0, 1) := by decide +kernel
theorem dX12_count_1 : decode cX12_count 1 = .ok (.iconst 0, 1) := by decide +kernel
theorem dX12_count_2 : decode cX12_count 2 = .ok (.putfield 123, 3) := by decide +kernel
theorem dX12_count_5 : decode cX12_count 5 = .ok (.iconst 0, 1) := by decide +kernel
theorem dX12_count_6 : decode cX12_count 6 = .ok (.istore_n 2, 1) := by decide +kernel
theorem dX12_count_7 : decode cX12_count 7 = .ok (.iconst 0, 1) := by decide +kernel
theorem dX12_count_8 : decode cX12_count 8 = .ok (.istore_n 3, 1) := by decide +kernel
theorem dX12_count_9 : decode cX12_count 9 = .ok (.iload_n 3, 1) := by decide +kernel
theorem dX12_count_10 : decode cX12_count 10 = .ok (.aload_n 0, 1) := by decide +kernel
theorem dX12_count_11 : decode cX12_count 11 = .ok (.invokevirtual 139, 3) := by decide +kernel
theorem dX12_count_14 : decode cX12_count 14 = .ok (.if_icmp .ge 18, 3) := by decide +kernel
theorem dX12_count_17 : decode cX12_count 17 = .ok (.iload_n 2, 1) := by decide +kernel
theorem dX12_count_18 : decode cX12_count 18 = .ok (.aload_n 0, 1) := by decide +kernel
theorem dX12_count_19 : decode cX12_count 19 = .ok (.iload_n 3, 1) := by decide +kernel
theorem dX12_count_20 : decode cX12_count 20 = .ok (.iconst 3, 1) := by decide +kernel
theorem dX12_count_21 : decode cX12_count 21 = .ok (.invokevirtual 143, 3) := by decide +kernel
theorem dX12_count_24 : decode cX12_count 24 = .ok (.iadd, 1) := by decide +kernel
theorem dX12_count_25 : decode cX12_count 25 = .ok (.istore_n 2, 1) := by decide +kernel
theorem dX12_count_26 : decode cX12_count 26 = .ok (.iinc 3 1, 3) := by decide +kernel
theorem dX12_count_29 : decode cX12_count 29 = .ok (.goto (-20), 3) := by decide +kernel
theorem dX12_count_32 : decode cX12_count 32 = .ok (.iload_n 1, 1) := by decide +kernel
theorem dX12_count_33 : decode cX12_count 33 = .ok (.tableswitch 174 0 14 #[75, 82, 87, 89, 96, 103, 110, 118, 123, 130, 137, 144, 151, 159, 166], 75) := by decide +kernel
theorem dX12_count_108 : decode cX12_count 108 = .ok (.aload_n 0, 1) := by decide +kernel
theorem dX12_count_109 : decode cX12_count 109 = .ok (.getfield 13, 3) := by decide +kernel
theorem dX12_count_112 : decode cX12_count 112 = .ok (.iconst 0, 1) := by decide +kernel
theorem dX12_count_113 : decode cX12_count 113 = .ok (.iaload, 1) := by decide +kernel
theorem dX12_count_114 : decode cX12_count 114 = .ok (.ireturn, 1) := by decide +kernel
theorem dX12_count_115 : decode cX12_count 115 = .ok (.aload_n 0, 1) := by decide +kernel
theorem dX12_count_116 : decode cX12_count 116 = .ok (.invokevirtual 139, 3) := by decide +kernel
theorem dX12_count_119 : decode cX12_count 119 = .ok (.ireturn, 1) := by decide +kernel
theorem dX12_count_120 : decode cX12_count 120 = .ok (.iload_n 2, 1) := by decide +kernel
theorem dX12_count_121 : decode cX12_count 121 = .ok (.ireturn, 1) := by decide +kernel
theorem dX12_count_122 : decode cX12_count 122 = .ok (.aload_n 0, 1) := by decide +kernel
theorem dX12_count_123 : decode cX12_count 123 = .ok (.getfield 13, 3) := by decide +kernel
theorem dX12_count_126 : decode cX12_count 126 = .ok (.iconst 2, 1) := by decide +kernel
theorem dX12_count_127 : decode cX12_count 127 = .ok (.iaload, 1) := by decide +kernel
theorem dX12_count_128 : decode cX12_count 128 = .ok (.ireturn, 1) := by decide +kernel
theorem dX12_count_129 : decode cX12_count 129 = .ok (.aload_n 0, 1) := by decide +kernel
theorem dX12_count_130 : decode cX12_count 130 = .ok (.getfield 13, 3) := by decide +kernel
theorem dX12_count_133 : decode cX12_count 133 = .ok (.iconst 4, 1) := by decide +kernel
theorem dX12_count_134 : decode cX12_count 134 = .ok (.iaload, 1) := by decide +kernel
theorem dX12_count_135 : decode cX12_count 135 = .ok (.ireturn, 1) := by decide +kernel
theorem dX12_count_136 : decode cX12_count 136 = .ok (.aload_n 0, 1) := by decide +kernel
theorem dX12_count_137 : decode cX12_count 137 = .ok (.getfield 13, 3) := by decide +kernel
theorem dX12_count_140 : decode cX12_count 140 = .ok (.iconst 5, 1) := by decide +kernel
theorem dX12_count_141 : decode cX12_count 141 = .ok (.iaload, 1) := by decide +kernel
theorem dX12_count_142 : decode cX12_count 142 = .ok (.ireturn, 1) := by decide +kernel
theorem dX12_count_143 : decode cX12_count 143 = .ok (.aload_n 0, 1) := by decide +kernel
theorem dX12_count_144 : decode cX12_count 144 = .ok (.getfield 13, 3) := by decide +kernel
theorem dX12_count_147 : decode cX12_count 147 = .ok (.bipush 6, 2) := by decide +kernel
theorem dX12_count_149 : decode cX12_count 149 = .ok (.iaload, 1) := by decide +kernel
theorem dX12_count_150 : decode cX12_count 150 = .ok (.ireturn, 1) := by decide +kernel
theorem dX12_count_151 : decode cX12_count 151 = .ok (.aload_n 0, 1) := by decide +kernel
theorem dX12_count_152 : decode cX12_count 152 = .ok (.getfield 180, 3) := by decide +kernel
theorem dX12_count_155 : decode cX12_count 155 = .ok (.ireturn, 1) := by decide +kernel
theorem dX12_count_156 : decode cX12_count 156 = .ok (.aload_n 0, 1) := by decide +kernel
theorem dX12_count_157 : decode cX12_count 157 = .ok (.getfield 7, 3) := by decide +kernel
theorem dX12_count_160 : decode cX12_count 160 = .ok (.iconst 1, 1) := by decide +kernel
theorem dX12_count_161 : decode cX12_count 161 = .ok (.iaload, 1) := by decide +kernel
theorem dX12_count_162 : decode cX12_count 162 = .ok (.ireturn, 1) := by decide +kernel
theorem dX12_count_163 : decode cX12_count 163 = .ok (.aload_n 0, 1) := by decide +kernel
theorem dX12_count_164 : decode cX12_count 164 = .ok (.getfield 7, 3) := by decide +kernel
theorem dX12_count_167 : decode cX12_count 167 = .ok (.iconst 2, 1) := by decide +kernel
theorem dX12_count_168 : decode cX12_count 168 = .ok (.iaload, 1) := by decide +kernel
theorem dX12_count_169 : decode cX12_count 169 = .ok (.ireturn, 1) := by decide +kernel
theorem dX12_count_170 : decode cX12_count 170 = .ok (.aload_n 0, 1) := by decide +kernel
theorem dX12_count_171 : decode cX12_count 171 = .ok (.getfield 7, 3) := by decide +kernel
theorem dX12_count_174 : decode cX12_count 174 = .ok (.iconst 3, 1) := by decide +kernel
theorem dX12_count_175 : decode cX12_count 175 = .ok (.iaload, 1) := by decide +kernel
theorem dX12_count_176 : decode cX12_count 176 = .ok (.ireturn, 1) := by decide +kernel
theorem dX12_count_177 : decode cX12_count 177 = .ok (.aload_n 0, 1) := by decide +kernel
theorem dX12_count_178 : decode cX12_count 178 = .ok (.getfield 7, 3) := by decide +kernel
theorem dX12_count_181 : decode cX12_count 181 = .ok (.iconst 5, 1) := by decide +kernel
theorem dX12_count_182 : decode cX12_count 182 = .ok (.iaload, 1) := by decide +kernel
theorem dX12_count_183 : decode cX12_count 183 = .ok (.ireturn, 1) := by decide +kernel
theorem dX12_count_184 : decode cX12_count 184 = .ok (.aload_n 0, 1) := by decide +kernel
theorem dX12_count_185 : decode cX12_count 185 = .ok (.getfield 7, 3) := by decide +kernel
theorem dX12_count_188 : decode cX12_count 188 = .ok (.bipush 6, 2) := by decide +kernel
theorem dX12_count_190 : decode cX12_count 190 = .ok (.iaload, 1) := by decide +kernel
theorem dX12_count_191 : decode cX12_count 191 = .ok (.ireturn, 1) := by decide +kernel
theorem dX12_count_192 : decode cX12_count 192 = .ok (.aload_n 0, 1) := by decide +kernel
theorem dX12_count_193 : decode cX12_count 193 = .ok (.getfield 13, 3) := by decide +kernel
theorem dX12_count_196 : decode cX12_count 196 = .ok (.iconst 3, 1) := by decide +kernel
theorem dX12_count_197 : decode cX12_count 197 = .ok (.iaload, 1) := by decide +kernel
theorem dX12_count_198 : decode cX12_count 198 = .ok (.ireturn, 1) := by decide +kernel
theorem dX12_count_199 : decode cX12_count 199 = .ok (.aload_n 0, 1) := by decide +kernel
theorem dX12_count_200 : decode cX12_count 200 = .ok (.getfield 13, 3) := by decide +kernel
theorem dX12_count_203 : decode cX12_count 203 = .ok (.bipush 7, 2) := by decide +kernel
theorem dX12_count_205 : decode cX12_count 205 = .ok (.iaload, 1) := by decide +kernel
theorem dX12_count_206 : decode cX12_count 206 = .ok (.ireturn, 1) := by decide +kernel
theorem dX12_count_207 : decode cX12_count 207 = .ok (.iconst (-1), 1) := by decide +kernel
theorem dX12_count_208 : decode cX12_count 208 = .ok (.ireturn, 1) := by decide +kernel
theorem dX12_status_0 : decode cX12_status 0 = .ok (.aload_n 0, 1) := by decide +kernel
theorem dX12_status_1 : decode cX12_status 1 = .ok (.iconst 0, 1) := by decide +kernel
theorem dX12_status_2 : decode cX12_status 2 = .ok (.putfield 123, 3) := by decide +kernel
theorem dX12_status_5 : decode cX12_status 5 = .ok (.aload_n 0, 1) := by decide +kernel
theorem dX12_status_6 : decode cX12_status 6 = .ok (.getfield 126, 3) := by decide +kernel
theorem dX12_status_9 : decode cX12_status 9 = .ok (.ireturn, 1) := by decide +kernel
theorem dJ6_bitCount_0f7a4_0 : decode cJ6_bitCount_0f7a4 0 = .ok (.iload_n 0, 1) := by decide +kernel
theorem dJ6_bitCount_0f7a4_1 : decode cJ6_bitCount_0f7a4 1 = .ok (.iload_n 0, 1) := by decide +kernel
theorem dJ6_bitCount_0f7a4_2 : decode cJ6_bitCount_0f7a4 2 = .ok (.iconst 1, 1) := by decide +kernel
theorem dJ6_bitCount_0f7a4_3 : decode cJ6_bitCount_0f7a4 3 = .ok (.iushr, 1) := by decide +kernel
theorem dJ6_bitCount_0f7a4_4 : decode cJ6_bitCount_0f7a4 4 = .ok (.ldc_w 265, 3) := by decide +kernel
theorem dJ6_bitCount_0f7a4_7 : decode cJ6_bitCount_0f7a4 7 = .ok (.iand, 1) := by decide +kernel
theorem dJ6_bitCount_0f7a4_8 : decode cJ6_bitCount_0f7a4 8 = .ok (.isub, 1) := by decide +kernel
theorem dJ6_bitCount_0f7a4_9 : decode cJ6_bitCount_0f7a4 9 = .ok (.istore_n 0, 1) := by decide +kernel
theorem dJ6_bitCount_0f7a4_10 : decode cJ6_bitCount_0f7a4 10 = .ok (.iload_n 0, 1) := by decide +kernel
theorem dJ6_bitCount_0f7a4_11 : decode cJ6_bitCount_0f7a4 11 = .ok (.ldc_w 266, 3) := by decide +kernel
theorem dJ6_bitCount_0f7a4_14 : decode cJ6_bitCount_0f7a4 14 = .ok (.iand, 1) := by decide +kernel
theorem dJ6_bitCount_0f7a4_15 : decode cJ6_bitCount_0f7a4 15 = .ok (.iload_n 0, 1) := by decide +kernel
theorem dJ6_bitCount_0f7a4_16 : decode cJ6_bitCount_0f7a4 16 = .ok (.iconst 2, 1) := by decide +kernel
theorem dJ6_bitCount_0f7a4_17 : decode cJ6_bitCount_0f7a4 17 = .ok (.iushr, 1) := by decide +kernel
theorem dJ6_bitCount_0f7a4_18 : decode cJ6_bitCount_0f7a4 18 = .ok (.ldc_w 266, 3) := by decide +kernel
theorem dJ6_bitCount_0f7a4_21 : decode cJ6_bitCount_0f7a4 21 = .ok (.iand, 1) := by decide +kernel
theorem dJ6_bitCount_0f7a4_22 : decode cJ6_bitCount_0f7a4 22 = .ok (.iadd, 1) := by decide +kernel
theorem dJ6_bitCount_0f7a4_23 : decode cJ6_bitCount_0f7a4 23 = .ok (.istore_n 0, 1) := by decide +kernel
theorem dJ6_bitCount_0f7a4_24 : decode cJ6_bitCount_0f7a4 24 = .ok (.iload_n 0, 1) := by decide +kernel
theorem dJ6_bitCount_0f7a4_25 : decode cJ6_bitCount_0f7a4 25 = .ok (.iload_n 0, 1) := by decide +kernel
theorem dJ6_bitCount_0f7a4_26 : decode cJ6_bitCount_0f7a4 26 = .ok (.iconst 4, 1) := by decide +kernel
theorem dJ6_bitCount_0f7a4_27 : decode cJ6_bitCount_0f7a4 27 = .ok (.iushr, 1) := by decide +kernel
theorem dJ6_bitCount_0f7a4_28 : decode cJ6_bitCount_0f7a4 28 = .ok (.iadd, 1) := by decide +kernel
theorem dJ6_bitCount_0f7a4_29 : decode cJ6_bitCount_0f7a4 29 = .ok (.ldc_w 267, 3) := by decide +kernel
theorem dJ6_bitCount_0f7a4_32 : decode cJ6_bitCount_0f7a4 32 = .ok (.iand, 1) := by decide +kernel
theorem dJ6_bitCount_0f7a4_33 : decode cJ6_bitCount_0f7a4 33 = .ok (.istore_n 0, 1) := by decide +kernel
theorem dJ6_bitCount_0f7a4_34 : decode cJ6_bitCount_0f7a4 34 = .ok (.iload_n 0, 1) := by decide +kernel
theorem dJ6_bitCount_0f7a4_35 : decode cJ6_bitCount_0f7a4 35 = .ok (.iload_n 0, 1) := by decide +kernel
theorem dJ6_bitCount_0f7a4_36 : decode cJ6_bitCount_0f7a4 36 = .ok (.bipush 8, 2) := by decide +kernel
theorem dJ6_bitCount_0f7a4_38 : decode cJ6_bitCount_0f7a4 38 = .ok (.iushr, 1) := by decide +kernel
theorem dJ6_bitCount_0f7a4_39 : decode cJ6_bitCount_0f7a4 39 = .ok (.iadd, 1) := by decide +kernel
theorem dJ6_bitCount_0f7a4_40 : decode cJ6_bitCount_0f7a4 40 = .ok (.istore_n 0, 1) := by decide +kernel
theorem dJ6_bitCount_0f7a4_41 : decode cJ6_bitCount_0f7a4 41 = .ok (.iload_n 0, 1) := by decide +kernel
theorem dJ6_bitCount_0f7a4_42 : decode cJ6_bitCount_0f7a4 42 = .ok (.iload_n 0, 1) := by decide +kernel
theorem dJ6_bitCount_0f7a4_43 : decode cJ6_bitCount_0f7a4 43 = .ok (.bipush 16, 2) := by decide +kernel
theorem dJ6_bitCount_0f7a4_45 : decode cJ6_bitCount_0f7a4 45 = .ok (.iushr, 1) := by decide +kernel
theorem dJ6_bitCount_0f7a4_46 : decode cJ6_bitCount_0f7a4 46 = .ok (.iadd, 1) := by decide +kernel
theorem dJ6_bitCount_0f7a4_47 : decode cJ6_bitCount_0f7a4 47 = .ok (.istore_n 0, 1) := by decide +kernel
theorem dJ6_bitCount_0f7a4_48 : decode cJ6_bitCount_0f7a4 48 = .ok (.iload_n 0, 1) := by decide +kernel
theorem dJ6_bitCount_0f7a4_49 : decode cJ6_bitCount_0f7a4 49 = .ok (.bipush 63, 2) := by decide +kernel
theorem dJ6_bitCount_0f7a4_51 : decode cJ6_bitCount_0f7a4 51 = .ok (.iand, 1) := by decide +kernel
theorem dJ6_bitCount_0f7a4_52 : decode cJ6_bitCount_0f7a4 52 = .ok (.ireturn, 1) := by decide +kernel
theorem dJ9_max_7cf53_0 : decode cJ9_max_7cf53 0 = .ok (.iload_n 0, 1) := by decide +kernel
theorem dJ9_max_7cf53_1 : decode cJ9_max_7cf53 1 = .ok (.iload_n 1, 1) := by decide +kernel
theorem dJ9_max_7cf53_2 : decode cJ9_max_7cf53 2 = .ok (.if_icmp .lt 7, 3) := by decide +kernel
theorem dJ9_max_7cf53_5 : decode cJ9_max_7cf53 5 = .ok (.iload_n 0, 1) := by decide +kernel
theorem dJ9_max_7cf53_6 : decode cJ9_max_7cf53 6 = .ok (.goto 4, 3) := by decide +kernel
theorem dJ9_max_7cf53_9 : decode cJ9_max_7cf53 9 = .ok (.iload_n 1, 1) := by decide +kernel
theorem dJ9_max_7cf53_10 : decode cJ9_max_7cf53 10 = .ok (.ireturn, 1) := by decide +kernel
theorem dJ9_min_7cf53_0 : decode cJ9_min_7cf53 0 = .ok (.iload_n 0, 1) := by decide +kernel
theorem dJ9_min_7cf53_1 : decode cJ9_min_7cf53 1 = .ok (.iload_n 1, 1) := by decide +kernel
theorem dJ9_min_7cf53_2 : decode cJ9_min_7cf53 2 = .ok (.if_icmp .gt 7, 3) := by decide +kernel
theorem dJ9_min_7cf53_5 : decode cJ9_min_7cf53 5 = .ok (.iload_n 0, 1) := by decide +kernel
theorem dJ9_min_7cf53_6 : decode cJ9_min_7cf53 6 = .ok (.goto 4, 3) := by decide +kernel
theorem dJ9_min_7cf53_9 : decode cJ9_min_7cf53 9 = .ok (.iload_n 1, 1) := by decide +kernel
theorem dJ9_min_7cf53_10 : decode cJ9_min_7cf53 10 = .ok (.ireturn, 1) := by decide +kernel
theorem dJ0_length_8abf5_0 : decode cJ0_length_8abf5 0 = .ok (.aload_n 0, 1) := by decide +kernel
theorem dJ0_length_8abf5_1 : decode cJ0_length_8abf5 1 = .ok (.getfield 9, 3) := by decide +kernel
theorem dJ0_length_8abf5_4 : decode cJ0_length_8abf5 4 = .ok (.arraylength, 1) := by decide +kernel
theorem dJ0_length_8abf5_5 : decode cJ0_length_8abf5 5 = .ok (.aload_n 0, 1) := by decide +kernel
theorem dJ0_length_8abf5_6 : decode cJ0_length_8abf5 6 = .ok (.invokevirtual 335, 3) := by decide +kernel
theorem dJ0_length_8abf5_9 : decode cJ0_length_8abf5 9 = .ok (.ishr, 1) := by decide +kernel
theorem dJ0_length_8abf5_10 : decode cJ0_length_8abf5 10 = .ok (.ireturn, 1) := by decide +kernel
theorem dJ0_charAt_5068e_0 : decode cJ0_charAt_5068e 0 = .ok (.aload_n 0, 1) := by decide +kernel
theorem dJ0_charAt_5068e_1 : decode cJ0_charAt_5068e 1 = .ok (.invokevirtual 492, 3) := by decide +kernel
theorem dJ0_charAt_5068e_4 : decode cJ0_charAt_5068e 4 = .ok (.ifCond .eq 12, 3) := by decide +kernel
theorem dJ0_charAt_5068e_7 : decode cJ0_charAt_5068e 7 = .ok (.aload_n 0, 1) := by decide +kernel
theorem dJ0_charAt_5068e_8 : decode cJ0_charAt_5068e 8 = .ok (.getfield 9, 3) := by decide +kernel
theorem dJ0_charAt_5068e_11 : decode cJ0_charAt_5068e 11 = .ok (.iload_n 1, 1) := by decide +kernel
theorem dJ0_charAt_5068e_12 : decode cJ0_charAt_5068e 12 = .ok (.invokestatic 495, 3) := by decide +kernel
theorem dJ0_charAt_5068e_15 : decode cJ0_charAt_5068e 15 = .ok (.ireturn, 1) := by decide +kernel
theorem dJ0_charAt_5068e_16 : decode cJ0_charAt_5068e 16 = .ok (.aload_n 0, 1) := by decide +kernel
theorem dJ0_charAt_5068e_17 : decode cJ0_charAt_5068e 17 = .ok (.getfield 9, 3) := by decide +kernel
theorem dJ0_charAt_5068e_20 : decode cJ0_charAt_5068e 20 = .ok (.iload_n 1, 1) := by decide +kernel
theorem dJ0_charAt_5068e_21 : decode cJ0_charAt_5068e 21 = .ok (.invokestatic 498, 3) := by decide +kernel
theorem dJ0_charAt_5068e_24 : decode cJ0_charAt_5068e 24 = .ok (.ireturn, 1) := by decide +kernel
theorem dJ0_coder_7d493_0 : decode cJ0_coder_7d493 0 = .ok (.getstatic 38, 3) := by decide +kernel
theorem dJ0_coder_7d493_3 : decode cJ0_coder_7d493 3 = .ok (.ifCond .eq 10, 3) := by decide +kernel
theorem dJ0_coder_7d493_6 : decode cJ0_coder_7d493 6 = .ok (.aload_n 0, 1) := by decide +kernel
theorem dJ0_coder_7d493_7 : decode cJ0_coder_7d493 7 = .ok (.getfield 15, 3) := by decide +kernel
theorem dJ0_coder_7d493_10 : decode cJ0_coder_7d493 10 = .ok (.goto 4, 3) := by decide +kernel
theorem dJ0_coder_7d493_13 : decode cJ0_coder_7d493 13 = .ok (.iconst 1, 1) := by decide +kernel
theorem dJ0_coder_7d493_14 : decode cJ0_coder_7d493 14 = .ok (.ireturn, 1) := by decide +kernel
theorem dJ0_isLatin1_aae02_0 : decode cJ0_isLatin1_aae02 0 = .ok (.getstatic 38, 3) := by decide +kernel
theorem dJ0_isLatin1_aae02_3 : decode cJ0_isLatin1_aae02 3 = .ok (.ifCond .eq 14, 3) := by decide +kernel
theorem dJ0_isLatin1_aae02_6 : decode cJ0_isLatin1_aae02 6 = .ok (.aload_n 0, 1) := by decide +kernel
theorem dJ0_isLatin1_aae02_7 : decode cJ0_isLatin1_aae02 7 = .ok (.getfield 15, 3) := by decide +kernel
theorem dJ0_isLatin1_aae02_10 : decode cJ0_isLatin1_aae02 10 = .ok (.ifCond .ne 7, 3) := by decide +kernel
theorem dJ0_isLatin1_aae02_13 : decode cJ0_isLatin1_aae02 13 = .ok (.iconst 1, 1) := by decide +kernel
theorem dJ0_isLatin1_aae02_14 : decode cJ0_isLatin1_aae02 14 = .ok (.goto 4, 3) := by decide +kernel
theorem dJ0_isLatin1_aae02_17 : decode cJ0_isLatin1_aae02 17 = .ok (.iconst 0, 1) := by decide +kernel
theorem dJ0_isLatin1_aae02_18 : decode cJ0_isLatin1_aae02 18 = .ok (.ireturn, 1) := by decide +kernel
theorem dJ0_checkIndex_df160_0 : decode cJ0_checkIndex_df160 0 = .ok (.iload_n 0, 1) := by decide +kernel
theorem dJ0_checkIndex_df160_1 : decode cJ0_checkIndex_df160 1 = .ok (.iload_n 1, 1) := by decide +kernel
theorem dJ0_checkIndex_df160_2 : decode cJ0_checkIndex_df160 2 = .ok (.getstatic 1053, 3) := by decide +kernel
theorem dJ0_checkIndex_df160_5 : decode cJ0_checkIndex_df160 5 = .ok (.invokestatic 1059, 3) := by decide +kernel
theorem dJ0_checkIndex_df160_8 : decode cJ0_checkIndex_df160 8 = .ok (.pop, 1) := by decide +kernel
theorem dJ0_checkIndex_df160_9 : decode cJ0_checkIndex_df160 9 = .ok (.return_, 1) := by decide +kernel
theorem dJ1_charAt_3b067_0 : decode cJ1_charAt_3b067 0 = .ok (.iload_n 1, 1) := by decide +kernel
theorem dJ1_charAt_3b067_1 : decode cJ1_charAt_3b067 1 = .ok (.aload_n 0, 1) := by decide +kernel
theorem dJ1_charAt_3b067_2 : decode cJ1_charAt_3b067 2 = .ok (.arraylength, 1) := by decide +kernel
theorem dJ1_charAt_3b067_3 : decode cJ1_charAt_3b067 3 = .ok (.invokestatic 9, 3) := by decide +kernel
theorem dJ1_charAt_3b067_6 : decode cJ1_charAt_3b067 6 = .ok (.aload_n 0, 1) := by decide +kernel
theorem dJ1_charAt_3b067_7 : decode cJ1_charAt_3b067 7 = .ok (.iload_n 1, 1) := by decide +kernel
theorem dJ1_charAt_3b067_8 : decode cJ1_charAt_3b067 8 = .ok (.baload, 1) := by decide +kernel
theorem dJ1_charAt_3b067_9 : decode cJ1_charAt_3b067 9 = .ok (.sipush 255, 3) := by decide +kernel
theorem dJ1_charAt_3b067_12 : decode cJ1_charAt_3b067 12 = .ok (.iand, 1) := by decide +kernel
theorem dJ1_charAt_3b067_13 : decode cJ1_charAt_3b067 13 = .ok (.i2c, 1) := by decide +kernel
theorem dJ1_charAt_3b067_14 : decode cJ1_charAt_3b067 14 = .ok (.ireturn, 1) := by decide +kernel
theorem dJ2_getChar_3b067_0 : decode cJ2_getChar_3b067 0 = .ok (.getstatic 44, 3) := by decide +kernel
theorem dJ2_getChar_3b067_3 : decode cJ2_getChar_3b067 3 = .ok (.ifCond .ne 25, 3) := by decide +kernel
theorem dJ2_getChar_3b067_6 : decode cJ2_getChar_3b067 6 = .ok (.iload_n 1, 1) := by decide +kernel
theorem dJ2_getChar_3b067_7 : decode cJ2_getChar_3b067 7 = .ok (.ifCond .lt 11, 3) := by decide +kernel
theorem dJ2_getChar_3b067_10 : decode cJ2_getChar_3b067 10 = .ok (.iload_n 1, 1) := by decide +kernel
theorem dJ2_getChar_3b067_11 : decode cJ2_getChar_3b067 11 = .ok (.aload_n 0, 1) := by decide +kernel
theorem dJ2_getChar_3b067_12 : decode cJ2_getChar_3b067 12 = .ok (.invokestatic 48, 3) := by decide +kernel
theorem dJ2_getChar_3b067_15 : decode cJ2_getChar_3b067 15 = .ok (.if_icmp .lt 13, 3) := by decide +kernel
theorem dJ2_getChar_3b067_18 : decode cJ2_getChar_3b067 18 = .ok (.new 52, 3) := by decide +kernel
theorem dJ2_getChar_3b067_21 : decode cJ2_getChar_3b067 21 = .ok (.dup, 1) := by decide +kernel
theorem dJ2_getChar_3b067_22 : decode cJ2_getChar_3b067 22 = .ok (.ldc 54, 2) := by decide +kernel
theorem dJ2_getChar_3b067_24 : decode cJ2_getChar_3b067 24 = .ok (.invokespecial 56, 3) := by decide +kernel
theorem dJ2_getChar_3b067_27 : decode cJ2_getChar_3b067 27 = .ok (.athrow, 1) := by decide +kernel
theorem dJ2_getChar_3b067_28 : decode cJ2_getChar_3b067 28 = .ok (.iload_n 1, 1) := by decide +kernel
theorem dJ2_getChar_3b067_29 : decode cJ2_getChar_3b067 29 = .ok (.iconst 1, 1) := by decide +kernel
theorem dJ2_getChar_3b067_30 : decode cJ2_getChar_3b067 30 = .ok (.ishl, 1) := by decide +kernel
theorem dJ2_getChar_3b067_31 : decode cJ2_getChar_3b067 31 = .ok (.istore_n 1, 1) := by decide +kernel
theorem dJ2_getChar_3b067_32 : decode cJ2_getChar_3b067 32 = .ok (.aload_n 0, 1) := by decide +kernel
theorem dJ2_getChar_3b067_33 : decode cJ2_getChar_3b067 33 = .ok (.iload_n 1, 1) := by decide +kernel
theorem dJ2_getChar_3b067_34 : decode cJ2_getChar_3b067 34 = .ok (.iinc 1 1, 3) := by decide +kernel
theorem dJ2_getChar_3b067_37 : decode cJ2_getChar_3b067 37 = .ok (.baload, 1) := by decide +kernel
theorem dJ2_getChar_3b067_38 : decode cJ2_getChar_3b067 38 = .ok (.sipush 255, 3) := by decide +kernel
theorem dJ2_getChar_3b067_41 : decode cJ2_getChar_3b067 41 = .ok (.iand, 1) := by decide +kernel
theorem dJ2_getChar_3b067_42 : decode cJ2_getChar_3b067 42 = .ok (.getstatic 59, 3) := by decide +kernel
theorem dJ2_getChar_3b067_45 : decode cJ2_getChar_3b067 45 = .ok (.ishl, 1) := by decide +kernel
theorem dJ2_getChar_3b067_46 : decode cJ2_getChar_3b067 46 = .ok (.aload_n 0, 1) := by decide +kernel
theorem dJ2_getChar_3b067_47 : decode cJ2_getChar_3b067 47 = .ok (.iload_n 1, 1) := by decide +kernel
theorem dJ2_getChar_3b067_48 : decode cJ2_getChar_3b067 48 = .ok (.baload, 1) := by decide +kernel
theorem dJ2_getChar_3b067_49 : decode cJ2_getChar_3b067 49 = .ok (.sipush 255, 3) := by decide +kernel
theorem dJ2_getChar_3b067_52 : decode cJ2_getChar_3b067 52 = .ok (.iand, 1) := by decide +kernel
theorem dJ2_getChar_3b067_53 : decode cJ2_getChar_3b067 53 = .ok (.getstatic 63, 3) := by decide +kernel
theorem dJ2_getChar_3b067_56 : decode cJ2_getChar_3b067 56 = .ok (.ishl, 1) := by decide +kernel
theorem dJ2_getChar_3b067_57 : decode cJ2_getChar_3b067 57 = .ok (.ior, 1) := by decide +kernel
theorem dJ2_getChar_3b067_58 : decode cJ2_getChar_3b067 58 = .ok (.i2c, 1) := by decide +kernel
theorem dJ2_getChar_3b067_59 : decode cJ2_getChar_3b067 59 = .ok (.ireturn, 1) := by decide +kernel
theorem dJ2_length_9d52b_0 : decode cJ2_length_9d52b 0 = .ok (.aload_n 0, 1) := by decide +kernel
theorem dJ2_length_9d52b_1 : decode cJ2_length_9d52b 1 = .ok (.arraylength, 1) := by decide +kernel
theorem dJ2_length_9d52b_2 : decode cJ2_length_9d52b 2 = .ok (.iconst 1, 1) := by decide +kernel
theorem dJ2_length_9d52b_3 : decode cJ2_length_9d52b 3 = .ok (.ishr, 1) := by decide +kernel
theorem dJ2_length_9d52b_4 : decode cJ2_length_9d52b 4 = .ok (.ireturn, 1) := by decide +kernel
theorem dJ2_charAt_3b067_0 : decode cJ2_charAt_3b067 0 = .ok (.iload_n 1, 1) := by decide +kernel
theorem dJ2_charAt_3b067_1 : decode cJ2_charAt_3b067 1 = .ok (.aload_n 0, 1) := by decide +kernel
theorem dJ2_charAt_3b067_2 : decode cJ2_charAt_3b067 2 = .ok (.invokestatic 67, 3) := by decide +kernel
theorem dJ2_charAt_3b067_5 : decode cJ2_charAt_3b067 5 = .ok (.aload_n 0, 1) := by decide +kernel
theorem dJ2_charAt_3b067_6 : decode cJ2_charAt_3b067 6 = .ok (.iload_n 1, 1) := by decide +kernel
theorem dJ2_charAt_3b067_7 : decode cJ2_charAt_3b067 7 = .ok (.invokestatic 71, 3) := by decide +kernel
theorem dJ2_charAt_3b067_10 : decode cJ2_charAt_3b067 10 = .ok (.ireturn, 1) := by decide +kernel
theorem dJ2_checkIndex_2214a_0 : decode cJ2_checkIndex_2214a 0 = .ok (.iload_n 0, 1) := by decide +kernel
theorem dJ2_checkIndex_2214a_1 : decode cJ2_checkIndex_2214a 1 = .ok (.aload_n 1, 1) := by decide +kernel
theorem dJ2_checkIndex_2214a_2 : decode cJ2_checkIndex_2214a 2 = .ok (.invokestatic 48, 3) := by decide +kernel
theorem dJ2_checkIndex_2214a_5 : decode cJ2_checkIndex_2214a 5 = .ok (.invokestatic 414, 3) := by decide +kernel
theorem dJ2_checkIndex_2214a_8 : decode cJ2_checkIndex_2214a 8 = .ok (.return_, 1) := by decide +kernel
theorem dJ7_fill_53178_0 : decode cJ7_fill_53178 0 = .ok (.iconst 0, 1) := by decide +kernel
theorem dJ7_fill_53178_1 : decode cJ7_fill_53178 1 = .ok (.istore_n 2, 1) := by decide +kernel
theorem dJ7_fill_53178_2 : decode cJ7_fill_53178 2 = .ok (.aload_n 0, 1) := by decide +kernel
theorem dJ7_fill_53178_3 : decode cJ7_fill_53178 3 = .ok (.arraylength, 1) := by decide +kernel
theorem dJ7_fill_53178_4 : decode cJ7_fill_53178 4 = .ok (.istore_n 3, 1) := by decide +kernel
theorem dJ7_fill_53178_5 : decode cJ7_fill_53178 5 = .ok (.iload_n 2, 1) := by decide +kernel
theorem dJ7_fill_53178_6 : decode cJ7_fill_53178 6 = .ok (.iload_n 3, 1) := by decide +kernel
theorem dJ7_fill_53178_7 : decode cJ7_fill_53178 7 = .ok (.if_icmp .ge 13, 3) := by decide +kernel
theorem dJ7_fill_53178_10 : decode cJ7_fill_53178 10 = .ok (.aload_n 0, 1) := by decide +kernel
theorem dJ7_fill_53178_11 : decode cJ7_fill_53178 11 = .ok (.iload_n 2, 1) := by decide +kernel
theorem dJ7_fill_53178_12 : decode cJ7_fill_53178 12 = .ok (.iload_n 1, 1) := by decide +kernel
theorem dJ7_fill_53178_13 : decode cJ7_fill_53178 13 = .ok (.iastore, 1) := by decide +kernel
theorem dJ7_fill_53178_14 : decode cJ7_fill_53178 14 = .ok (.iinc 2 1, 3) := by decide +kernel
theorem dJ7_fill_53178_17 : decode cJ7_fill_53178 17 = .ok (.goto (-12), 3) := by decide +kernel
theorem dJ7_fill_53178_20 : decode cJ7_fill_53178 20 = .ok (.return_, 1) := by decide +kernel
theorem dJ7_copyOf_59c91_0 : decode cJ7_copyOf_59c91 0 = .ok (.iload_n 1, 1) := by decide +kernel
theorem dJ7_copyOf_59c91_1 : decode cJ7_copyOf_59c91 1 = .ok (.aload_n 0, 1) := by decide +kernel
theorem dJ7_copyOf_59c91_2 : decode cJ7_copyOf_59c91 2 = .ok (.arraylength, 1) := by decide +kernel
theorem dJ7_copyOf_59c91_3 : decode cJ7_copyOf_59c91 3 = .ok (.if_icmp .ne 11, 3) := by decide +kernel
theorem dJ7_copyOf_59c91_6 : decode cJ7_copyOf_59c91 6 = .ok (.aload_n 0, 1) := by decide +kernel
theorem dJ7_copyOf_59c91_7 : decode cJ7_copyOf_59c91 7 = .ok (.invokevirtual 316, 3) := by decide +kernel
theorem dJ7_copyOf_59c91_10 : decode cJ7_copyOf_59c91 10 = .ok (.checkcast 317, 3) := by decide +kernel
theorem dJ7_copyOf_59c91_13 : decode cJ7_copyOf_59c91 13 = .ok (.areturn, 1) := by decide +kernel
theorem dJ7_copyOf_59c91_14 : decode cJ7_copyOf_59c91 14 = .ok (.iload_n 1, 1) := by decide +kernel
theorem dJ7_copyOf_59c91_15 : decode cJ7_copyOf_59c91 15 = .ok (.newarray .int, 2) := by decide +kernel
theorem dJ7_copyOf_59c91_17 : decode cJ7_copyOf_59c91 17 = .ok (.astore_n 2, 1) := by decide +kernel
theorem dJ7_copyOf_59c91_18 : decode cJ7_copyOf_59c91 18 = .ok (.aload_n 0, 1) := by decide +kernel
theorem dJ7_copyOf_59c91_19 : decode cJ7_copyOf_59c91 19 = .ok (.iconst 0, 1) := by decide +kernel
theorem dJ7_copyOf_59c91_20 : decode cJ7_copyOf_59c91 20 = .ok (.aload_n 2, 1) := by decide +kernel
theorem dJ7_copyOf_59c91_21 : decode cJ7_copyOf_59c91 21 = .ok (.iconst 0, 1) := by decide +kernel
theorem dJ7_copyOf_59c91_22 : decode cJ7_copyOf_59c91 22 = .ok (.aload_n 0, 1) := by decide +kernel
theorem dJ7_copyOf_59c91_23 : decode cJ7_copyOf_59c91 23 = .ok (.arraylength, 1) := by decide +kernel
theorem dJ7_copyOf_59c91_24 : decode cJ7_copyOf_59c91 24 = .ok (.iload_n 1, 1) := by decide +kernel
theorem dJ7_copyOf_59c91_25 : decode cJ7_copyOf_59c91 25 = .ok (.invokestatic 304, 3) := by decide +kernel
theorem dJ7_copyOf_59c91_28 : decode cJ7_copyOf_59c91 28 = .ok (.invokestatic 150, 3) := by decide +kernel
theorem dJ7_copyOf_59c91_31 : decode cJ7_copyOf_59c91 31 = .ok (.aload_n 2, 1) := by decide +kernel
theorem dJ7_copyOf_59c91_32 : decode cJ7_copyOf_59c91 32 = .ok (.areturn, 1) := by decide +kernel
theorem dJ3_checkIndex_8e157_0 : decode cJ3_checkIndex_8e157 0 = .ok (.iload_n 0, 1) := by decide +kernel
theorem dJ3_checkIndex_8e157_1 : decode cJ3_checkIndex_8e157 1 = .ok (.ifCond .lt 8, 3) := by decide +kernel
theorem dJ3_checkIndex_8e157_4 : decode cJ3_checkIndex_8e157 4 = .ok (.iload_n 0, 1) := by decide +kernel
theorem dJ3_checkIndex_8e157_5 : decode cJ3_checkIndex_8e157 5 = .ok (.iload_n 1, 1) := by decide +kernel
theorem dJ3_checkIndex_8e157_6 : decode cJ3_checkIndex_8e157 6 = .ok (.if_icmp .lt 10, 3) := by decide +kernel
theorem dJ3_checkIndex_8e157_9 : decode cJ3_checkIndex_8e157 9 = .ok (.aload_n 2, 1) := by decide +kernel
theorem dJ3_checkIndex_8e157_10 : decode cJ3_checkIndex_8e157 10 = .ok (.iload_n 0, 1) := by decide +kernel
theorem dJ3_checkIndex_8e157_11 : decode cJ3_checkIndex_8e157 11 = .ok (.iload_n 1, 1) := by decide +kernel
theorem dJ3_checkIndex_8e157_12 : decode cJ3_checkIndex_8e157 12 = .ok (.invokestatic 95, 3) := by decide +kernel
theorem dJ3_checkIndex_8e157_15 : decode cJ3_checkIndex_8e157 15 = .ok (.athrow, 1) := by decide +kernel
theorem dJ3_checkIndex_8e157_16 : decode cJ3_checkIndex_8e157 16 = .ok (.iload_n 0, 1) := by decide +kernel
theorem dJ3_checkIndex_8e157_17 : decode cJ3_checkIndex_8e157 17 = .ok (.ireturn, 1) := by decide +kernel
