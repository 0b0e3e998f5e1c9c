theorem dX2_freeBehind_147 : decode cX2_freeBehind 147 = .ok (.isub, 1) := by decide +kernel
theorem dX2_freeBehind_148 : decode cX2_freeBehind 148 = .ok (.istore_n 2, 1) := by decide +kernel
theorem dX2_freeBehind_149 : decode cX2_freeBehind 149 = .ok (.iload_n 2, 1) := by decide +kernel
theorem dX2_freeBehind_150 : decode cX2_freeBehind 150 = .ok (.ifCond .ne 5, 3) := by decide +kernel
theorem dX2_freeBehind_153 : decode cX2_freeBehind 153 = .ok (.iload_n 3, 1) := by decide +kernel
theorem dX2_freeBehind_154 : decode cX2_freeBehind 154 = .ok (.ireturn, 1) := by decide +kernel
theorem dX2_freeBehind_155 : decode cX2_freeBehind 155 = .ok (.iinc 3 1, 3) := by decide +kernel
theorem dX2_freeBehind_158 : decode cX2_freeBehind 158 = .ok (.goto (-51), 3) := by decide +kernel
theorem dX2_freeBehind_161 : decode cX2_freeBehind 161 = .ok (.bipush 100, 2) := by decide +kernel
theorem dX2_freeBehind_163 : decode cX2_freeBehind 163 = .ok (.ireturn, 1) := by decide +kernel
theorem dX2_playAlone_0 : decode cX2_playAlone 0 = .ok (.iconst 0, 1) := by decide +kernel
theorem dX2_playAlone_1 : decode cX2_playAlone 1 = .ok (.istore_n 3, 1) := by decide +kernel
theorem dX2_playAlone_2 : decode cX2_playAlone 2 = .ok (.iload_n 2, 1) := by decide +kernel
theorem dX2_playAlone_3 : decode cX2_playAlone 3 = .ok (.istore 4, 2) := by decide +kernel
theorem dX2_playAlone_5 : decode cX2_playAlone 5 = .ok (.iconst 0, 1) := by decide +kernel
theorem dX2_playAlone_6 : decode cX2_playAlone 6 = .ok (.istore 5, 2) := by decide +kernel
theorem dX2_playAlone_8 : decode cX2_playAlone 8 = .ok (.iload 5, 2) := by decide +kernel
theorem dX2_playAlone_10 : decode cX2_playAlone 10 = .ok (.aload_n 0, 1) := by decide +kernel
theorem dX2_playAlone_11 : decode cX2_playAlone 11 = .ok (.getfield 57, 3) := by decide +kernel
theorem dX2_playAlone_14 : decode cX2_playAlone 14 = .ok (.getfield 69, 3) := by decide +kernel
theorem dX2_playAlone_17 : decode cX2_playAlone 17 = .ok (.if_icmp .ge 103, 3) := by decide +kernel
theorem dX2_playAlone_20 : decode cX2_playAlone 20 = .ok (.iload 5, 2) := by decide +kernel
theorem dX2_playAlone_22 : decode cX2_playAlone 22 = .ok (.bipush 16, 2) := by decide +kernel
theorem dX2_playAlone_24 : decode cX2_playAlone 24 = .ok (.if_icmp .ge 96, 3) := by decide +kernel
theorem dX2_playAlone_27 : decode cX2_playAlone 27 = .ok (.aload_n 0, 1) := by decide +kernel
theorem dX2_playAlone_28 : decode cX2_playAlone 28 = .ok (.getfield 47, 3) := by decide +kernel
theorem dX2_playAlone_31 : decode cX2_playAlone 31 = .ok (.iload 5, 2) := by decide +kernel
theorem dX2_playAlone_33 : decode cX2_playAlone 33 = .ok (.invokevirtual 81, 3) := by decide +kernel
theorem dX2_playAlone_36 : decode cX2_playAlone 36 = .ok (.istore 6, 2) := by decide +kernel
theorem dX2_playAlone_38 : decode cX2_playAlone 38 = .ok (.aload_n 0, 1) := by decide +kernel
theorem dX2_playAlone_39 : decode cX2_playAlone 39 = .ok (.getfield 57, 3) := by decide +kernel
theorem dX2_playAlone_42 : decode cX2_playAlone 42 = .ok (.getfield 114, 3) := by decide +kernel
theorem dX2_playAlone_45 : decode cX2_playAlone 45 = .ok (.iload 5, 2) := by decide +kernel
theorem dX2_playAlone_47 : decode cX2_playAlone 47 = .ok (.iaload, 1) := by decide +kernel
theorem dX2_playAlone_48 : decode cX2_playAlone 48 = .ok (.iload_n 1, 1) := by decide +kernel
theorem dX2_playAlone_49 : decode cX2_playAlone 49 = .ok (.if_icmp .ne 65, 3) := by decide +kernel
theorem dX2_playAlone_52 : decode cX2_playAlone 52 = .ok (.aload_n 0, 1) := by decide +kernel
theorem dX2_playAlone_53 : decode cX2_playAlone 53 = .ok (.getfield 58, 3) := by decide +kernel
theorem dX2_playAlone_56 : decode cX2_playAlone 56 = .ok (.getfield 121, 3) := by decide +kernel
theorem dX2_playAlone_59 : decode cX2_playAlone 59 = .ok (.iload 5, 2) := by decide +kernel
theorem dX2_playAlone_61 : decode cX2_playAlone 61 = .ok (.baload, 1) := by decide +kernel
theorem dX2_playAlone_62 : decode cX2_playAlone 62 = .ok (.ifCond .ne 52, 3) := by decide +kernel
theorem dX2_playAlone_65 : decode cX2_playAlone 65 = .ok (.iload 6, 2) := by decide +kernel
theorem dX2_playAlone_67 : decode cX2_playAlone 67 = .ok (.ifCond .le 47, 3) := by decide +kernel
theorem dX2_playAlone_70 : decode cX2_playAlone 70 = .ok (.aload_n 0, 1) := by decide +kernel
theorem dX2_playAlone_71 : decode cX2_playAlone 71 = .ok (.getfield 27, 3) := by decide +kernel
theorem dX2_playAlone_74 : decode cX2_playAlone 74 = .ok (.iload 5, 2) := by decide +kernel
theorem dX2_playAlone_76 : decode cX2_playAlone 76 = .ok (.iaload, 1) := by decide +kernel
theorem dX2_playAlone_77 : decode cX2_playAlone 77 = .ok (.iload 4, 2) := by decide +kernel
theorem dX2_playAlone_79 : decode cX2_playAlone 79 = .ok (.iload 6, 2) := by decide +kernel
theorem dX2_playAlone_81 : decode cX2_playAlone 81 = .ok (.idiv, 1) := by decide +kernel
theorem dX2_playAlone_82 : decode cX2_playAlone 82 = .ok (.invokestatic 85, 3) := by decide +kernel
theorem dX2_playAlone_85 : decode cX2_playAlone 85 = .ok (.istore 7, 2) := by decide +kernel
theorem dX2_playAlone_87 : decode cX2_playAlone 87 = .ok (.aload_n 0, 1) := by decide +kernel
theorem dX2_playAlone_88 : decode cX2_playAlone 88 = .ok (.getfield 27, 3) := by decide +kernel
theorem dX2_playAlone_91 : decode cX2_playAlone 91 = .ok (.iload 5, 2) := by decide +kernel
theorem dX2_playAlone_93 : decode cX2_playAlone 93 = .ok (.dup2, 1) := by decide +kernel
theorem dX2_playAlone_94 : decode cX2_playAlone 94 = .ok (.iaload, 1) := by decide +kernel
theorem dX2_playAlone_95 : decode cX2_playAlone 95 = .ok (.iload 7, 2) := by decide +kernel
theorem dX2_playAlone_97 : decode cX2_playAlone 97 = .ok (.isub, 1) := by decide +kernel
theorem dX2_playAlone_98 : decode cX2_playAlone 98 = .ok (.iastore, 1) := by decide +kernel
theorem dX2_playAlone_99 : decode cX2_playAlone 99 = .ok (.iload 4, 2) := by decide +kernel
theorem dX2_playAlone_101 : decode cX2_playAlone 101 = .ok (.iload 7, 2) := by decide +kernel
theorem dX2_playAlone_103 : decode cX2_playAlone 103 = .ok (.iload 6, 2) := by decide +kernel
theorem dX2_playAlone_105 : decode cX2_playAlone 105 = .ok (.imul, 1) := by decide +kernel
theorem dX2_playAlone_106 : decode cX2_playAlone 106 = .ok (.isub, 1) := by decide +kernel
theorem dX2_playAlone_107 : decode cX2_playAlone 107 = .ok (.istore 4, 2) := by decide +kernel
theorem dX2_playAlone_109 : decode cX2_playAlone 109 = .ok (.iload_n 3, 1) := by decide +kernel
theorem dX2_playAlone_110 : decode cX2_playAlone 110 = .ok (.iload 7, 2) := by decide +kernel
theorem dX2_playAlone_112 : decode cX2_playAlone 112 = .ok (.iadd, 1) := by decide +kernel
theorem dX2_playAlone_113 : decode cX2_playAlone 113 = .ok (.istore_n 3, 1) := by decide +kernel
theorem dX2_playAlone_114 : decode cX2_playAlone 114 = .ok (.iinc 5 1, 3) := by decide +kernel
theorem dX2_playAlone_117 : decode cX2_playAlone 117 = .ok (.goto (-109), 3) := by decide +kernel
theorem dX2_playAlone_120 : decode cX2_playAlone 120 = .ok (.iload_n 3, 1) := by decide +kernel
theorem dX2_playAlone_121 : decode cX2_playAlone 121 = .ok (.ireturn, 1) := by decide +kernel
theorem dX3_init_0 : decode cX3_init 0 = .ok (.aload_n 0, 1) := by decide +kernel
theorem dX3_init_1 : decode cX3_init 1 = .ok (.invokespecial 3, 3) := by decide +kernel
theorem dX3_init_4 : decode cX3_init 4 = .ok (.aload_n 0, 1) := by decide +kernel
theorem dX3_init_5 : decode cX3_init 5 = .ok (.bipush 16, 2) := by decide +kernel
theorem dX3_init_7 : decode cX3_init 7 = .ok (.newarray .int, 2) := by decide +kernel
theorem dX3_init_9 : decode cX3_init 9 = .ok (.putfield 9, 3) := by decide +kernel
theorem dX3_init_12 : decode cX3_init 12 = .ok (.aload_n 0, 1) := by decide +kernel
theorem dX3_init_13 : decode cX3_init 13 = .ok (.bipush 16, 2) := by decide +kernel
theorem dX3_init_15 : decode cX3_init 15 = .ok (.newarray .boolean, 2) := by decide +kernel
theorem dX3_init_17 : decode cX3_init 17 = .ok (.putfield 15, 3) := by decide +kernel
theorem dX3_init_20 : decode cX3_init 20 = .ok (.aload_n 0, 1) := by decide +kernel
theorem dX3_init_21 : decode cX3_init 21 = .ok (.bipush 16, 2) := by decide +kernel
theorem dX3_init_23 : decode cX3_init 23 = .ok (.newarray .boolean, 2) := by decide +kernel
theorem dX3_init_25 : decode cX3_init 25 = .ok (.putfield 19, 3) := by decide +kernel
theorem dX3_init_28 : decode cX3_init 28 = .ok (.aload_n 0, 1) := by decide +kernel
theorem dX3_init_29 : decode cX3_init 29 = .ok (.bipush 8, 2) := by decide +kernel
theorem dX3_init_31 : decode cX3_init 31 = .ok (.newarray .int, 2) := by decide +kernel
theorem dX3_init_33 : decode cX3_init 33 = .ok (.putfield 22, 3) := by decide +kernel
theorem dX3_init_36 : decode cX3_init 36 = .ok (.aload_n 0, 1) := by decide +kernel
theorem dX3_init_37 : decode cX3_init 37 = .ok (.bipush 64, 2) := by decide +kernel
theorem dX3_init_39 : decode cX3_init 39 = .ok (.newarray .int, 2) := by decide +kernel
theorem dX3_init_41 : decode cX3_init 41 = .ok (.putfield 25, 3) := by decide +kernel
theorem dX3_init_44 : decode cX3_init 44 = .ok (.aload_n 0, 1) := by decide +kernel
theorem dX3_init_45 : decode cX3_init 45 = .ok (.iconst 0, 1) := by decide +kernel
theorem dX3_init_46 : decode cX3_init 46 = .ok (.putfield 28, 3) := by decide +kernel
theorem dX3_init_49 : decode cX3_init 49 = .ok (.aload_n 0, 1) := by decide +kernel
theorem dX3_init_50 : decode cX3_init 50 = .ok (.aload_n 1, 1) := by decide +kernel
theorem dX3_init_51 : decode cX3_init 51 = .ok (.putfield 32, 3) := by decide +kernel
theorem dX3_init_54 : decode cX3_init 54 = .ok (.aload_n 0, 1) := by decide +kernel
theorem dX3_init_55 : decode cX3_init 55 = .ok (.aload_n 1, 1) := by decide +kernel
theorem dX3_init_56 : decode cX3_init 56 = .ok (.getfield 36, 3) := by decide +kernel
theorem dX3_init_59 : decode cX3_init 59 = .ok (.putfield 42, 3) := by decide +kernel
theorem dX3_init_62 : decode cX3_init 62 = .ok (.return_, 1) := by decide +kernel
theorem dX3_hear_0 : decode cX3_hear 0 = .ok (.aload_n 0, 1) := by decide +kernel
theorem dX3_hear_1 : decode cX3_hear 1 = .ok (.getfield 22, 3) := by decide +kernel
theorem dX3_hear_4 : decode cX3_hear 4 = .ok (.iconst 0, 1) := by decide +kernel
theorem dX3_hear_5 : decode cX3_hear 5 = .ok (.invokestatic 43, 3) := by decide +kernel
theorem dX3_hear_8 : decode cX3_hear 8 = .ok (.iconst 0, 1) := by decide +kernel
theorem dX3_hear_9 : decode cX3_hear 9 = .ok (.istore_n 1, 1) := by decide +kernel
theorem dX3_hear_10 : decode cX3_hear 10 = .ok (.iload_n 1, 1) := by decide +kernel
theorem dX3_hear_11 : decode cX3_hear 11 = .ok (.aload_n 0, 1) := by decide +kernel
theorem dX3_hear_12 : decode cX3_hear 12 = .ok (.getfield 42, 3) := by decide +kernel
theorem dX3_hear_15 : decode cX3_hear 15 = .ok (.getfield 49, 3) := by decide +kernel
theorem dX3_hear_18 : decode cX3_hear 18 = .ok (.if_icmp .ge 42, 3) := by decide +kernel
theorem dX3_hear_21 : decode cX3_hear 21 = .ok (.iload_n 1, 1) := by decide +kernel
theorem dX3_hear_22 : decode cX3_hear 22 = .ok (.bipush 16, 2) := by decide +kernel
theorem dX3_hear_24 : decode cX3_hear 24 = .ok (.if_icmp .ge 36, 3) := by decide +kernel
theorem dX3_hear_27 : decode cX3_hear 27 = .ok (.aload_n 0, 1) := by decide +kernel
theorem dX3_hear_28 : decode cX3_hear 28 = .ok (.getfield 42, 3) := by decide +kernel
theorem dX3_hear_31 : decode cX3_hear 31 = .ok (.getfield 54, 3) := by decide +kernel
theorem dX3_hear_34 : decode cX3_hear 34 = .ok (.iload_n 1, 1) := by decide +kernel
theorem dX3_hear_35 : decode cX3_hear 35 = .ok (.iaload, 1) := by decide +kernel
theorem dX3_hear_36 : decode cX3_hear 36 = .ok (.istore_n 2, 1) := by decide +kernel
theorem dX3_hear_37 : decode cX3_hear 37 = .ok (.iload_n 2, 1) := by decide +kernel
theorem dX3_hear_38 : decode cX3_hear 38 = .ok (.invokestatic 57, 3) := by decide +kernel
theorem dX3_hear_41 : decode cX3_hear 41 = .ok (.ifCond .eq 13, 3) := by decide +kernel
theorem dX3_hear_44 : decode cX3_hear 44 = .ok (.aload_n 0, 1) := by decide +kernel
theorem dX3_hear_45 : decode cX3_hear 45 = .ok (.getfield 22, 3) := by decide +kernel
theorem dX3_hear_48 : decode cX3_hear 48 = .ok (.iload_n 2, 1) := by decide +kernel
theorem dX3_hear_49 : decode cX3_hear 49 = .ok (.dup2, 1) := by decide +kernel
theorem dX3_hear_50 : decode cX3_hear 50 = .ok (.iaload, 1) := by decide +kernel
theorem dX3_hear_51 : decode cX3_hear 51 = .ok (.iconst 1, 1) := by decide +kernel
theorem dX3_hear_52 : decode cX3_hear 52 = .ok (.iadd, 1) := by decide +kernel
theorem dX3_hear_53 : decode cX3_hear 53 = .ok (.iastore, 1) := by decide +kernel
theorem dX3_hear_54 : decode cX3_hear 54 = .ok (.iinc 1 1, 3) := by decide +kernel
theorem dX3_hear_57 : decode cX3_hear 57 = .ok (.goto (-47), 3) := by decide +kernel
theorem dX3_hear_60 : decode cX3_hear 60 = .ok (.aload_n 0, 1) := by decide +kernel
theorem dX3_hear_61 : decode cX3_hear 61 = .ok (.getfield 32, 3) := by decide +kernel
theorem dX3_hear_64 : decode cX3_hear 64 = .ok (.invokevirtual 61, 3) := by decide +kernel
theorem dX3_hear_67 : decode cX3_hear 67 = .ok (.astore_n 1, 1) := by decide +kernel
theorem dX3_hear_68 : decode cX3_hear 68 = .ok (.iconst 0, 1) := by decide +kernel
theorem dX3_hear_69 : decode cX3_hear 69 = .ok (.istore_n 2, 1) := by decide +kernel
theorem dX3_hear_70 : decode cX3_hear 70 = .ok (.iload_n 2, 1) := by decide +kernel
theorem dX3_hear_71 : decode cX3_hear 71 = .ok (.aload_n 0, 1) := by decide +kernel
theorem dX3_hear_72 : decode cX3_hear 72 = .ok (.getfield 42, 3) := by decide +kernel
theorem dX3_hear_75 : decode cX3_hear 75 = .ok (.getfield 49, 3) := by decide +kernel
theorem dX3_hear_78 : decode cX3_hear 78 = .ok (.if_icmp .ge 53, 3) := by decide +kernel
theorem dX3_hear_81 : decode cX3_hear 81 = .ok (.iload_n 2, 1) := by decide +kernel
theorem dX3_hear_82 : decode cX3_hear 82 = .ok (.bipush 16, 2) := by decide +kernel
theorem dX3_hear_84 : decode cX3_hear 84 = .ok (.if_icmp .ge 47, 3) := by decide +kernel
theorem dX3_hear_87 : decode cX3_hear 87 = .ok (.aload_n 0, 1) := by decide +kernel
theorem dX3_hear_88 : decode cX3_hear 88 = .ok (.getfield 9, 3) := by decide +kernel
theorem dX3_hear_91 : decode cX3_hear 91 = .ok (.iload_n 2, 1) := by decide +kernel
theorem dX3_hear_92 : decode cX3_hear 92 = .ok (.aload_n 0, 1) := by decide +kernel
theorem dX3_hear_93 : decode cX3_hear 93 = .ok (.getfield 32, 3) := by decide +kernel
theorem dX3_hear_96 : decode cX3_hear 96 = .ok (.iload_n 2, 1) := by decide +kernel
theorem dX3_hear_97 : decode cX3_hear 97 = .ok (.invokevirtual 65, 3) := by decide +kernel
theorem dX3_hear_100 : decode cX3_hear 100 = .ok (.iastore, 1) := by decide +kernel
theorem dX3_hear_101 : decode cX3_hear 101 = .ok (.aload_n 0, 1) := by decide +kernel
theorem dX3_hear_102 : decode cX3_hear 102 = .ok (.getfield 15, 3) := by decide +kernel
theorem dX3_hear_105 : decode cX3_hear 105 = .ok (.iload_n 2, 1) := by decide +kernel
theorem dX3_hear_106 : decode cX3_hear 106 = .ok (.iconst 0, 1) := by decide +kernel
theorem dX3_hear_107 : decode cX3_hear 107 = .ok (.bastore, 1) := by decide +kernel
theorem dX3_hear_108 : decode cX3_hear 108 = .ok (.aload_n 0, 1) := by decide +kernel
theorem dX3_hear_109 : decode cX3_hear 109 = .ok (.getfield 19, 3) := by decide +kernel
theorem dX3_hear_112 : decode cX3_hear 112 = .ok (.iload_n 2, 1) := by decide +kernel
theorem dX3_hear_113 : decode cX3_hear 113 = .ok (.iconst 0, 1) := by decide +kernel
theorem dX3_hear_114 : decode cX3_hear 114 = .ok (.bastore, 1) := by decide +kernel
theorem dX3_hear_115 : decode cX3_hear 115 = .ok (.aload_n 1, 1) := by decide +kernel
theorem dX3_hear_116 : decode cX3_hear 116 = .ok (.ifnull 9, 3) := by decide +kernel
theorem dX3_hear_119 : decode cX3_hear 119 = .ok (.aload_n 0, 1) := by decide +kernel
theorem dX3_hear_120 : decode cX3_hear 120 = .ok (.aload_n 1, 1) := by decide +kernel
theorem dX3_hear_121 : decode cX3_hear 121 = .ok (.iload_n 2, 1) := by decide +kernel
theorem dX3_hear_122 : decode cX3_hear 122 = .ok (.invokevirtual 69, 3) := by decide +kernel
theorem dX3_hear_125 : decode cX3_hear 125 = .ok (.iinc 2 1, 3) := by decide +kernel
theorem dX3_hear_128 : decode cX3_hear 128 = .ok (.goto (-58), 3) := by decide +kernel
theorem dX3_hear_131 : decode cX3_hear 131 = .ok (.return_, 1) := by decide +kernel
theorem dX3_balanceOf_0 : decode cX3_balanceOf 0 = .ok (.iconst 0, 1) := by decide +kernel
theorem dX3_balanceOf_1 : decode cX3_balanceOf 1 = .ok (.istore_n 2, 1) := by decide +kernel
theorem dX3_balanceOf_2 : decode cX3_balanceOf 2 = .ok (.iconst 0, 1) := by decide +kernel
theorem dX3_balanceOf_3 : decode cX3_balanceOf 3 = .ok (.istore_n 3, 1) := by decide +kernel
theorem dX3_balanceOf_4 : decode cX3_balanceOf 4 = .ok (.iload_n 3, 1) := by decide +kernel
theorem dX3_balanceOf_5 : decode cX3_balanceOf 5 = .ok (.aload_n 0, 1) := by decide +kernel
theorem dX3_balanceOf_6 : decode cX3_balanceOf 6 = .ok (.getfield 42, 3) := by decide +kernel
theorem dX3_balanceOf_9 : decode cX3_balanceOf 9 = .ok (.getfield 49, 3) := by decide +kernel
theorem dX3_balanceOf_12 : decode cX3_balanceOf 12 = .ok (.if_icmp .ge 78, 3) := by decide +kernel
theorem dX3_balanceOf_15 : decode cX3_balanceOf 15 = .ok (.iload_n 3, 1) := by decide +kernel
theorem dX3_balanceOf_16 : decode cX3_balanceOf 16 = .ok (.bipush 16, 2) := by decide +kernel
theorem dX3_balanceOf_18 : decode cX3_balanceOf 18 = .ok (.if_icmp .ge 72, 3) := by decide +kernel
theorem dX3_balanceOf_21 : decode cX3_balanceOf 21 = .ok (.aload_n 0, 1) := by decide +kernel
theorem dX3_balanceOf_22 : decode cX3_balanceOf 22 = .ok (.getfield 15, 3) := by decide +kernel
theorem dX3_balanceOf_25 : decode cX3_balanceOf 25 = .ok (.iload_n 3, 1) := by decide +kernel
theorem dX3_balanceOf_26 : decode cX3_balanceOf 26 = .ok (.baload, 1) := by decide +kernel
theorem dX3_balanceOf_27 : decode cX3_balanceOf 27 = .ok (.ifCond .ne 57, 3) := by decide +kernel
theorem dX3_balanceOf_30 : decode cX3_balanceOf 30 = .ok (.aload_n 0, 1) := by decide +kernel
theorem dX3_balanceOf_31 : decode cX3_balanceOf 31 = .ok (.getfield 42, 3) := by decide +kernel
theorem dX3_balanceOf_34 : decode cX3_balanceOf 34 = .ok (.getfield 72, 3) := by decide +kernel
theorem dX3_balanceOf_37 : decode cX3_balanceOf 37 = .ok (.iload_n 3, 1) := by decide +kernel
theorem dX3_balanceOf_38 : decode cX3_balanceOf 38 = .ok (.iaload, 1) := by decide +kernel
theorem dX3_balanceOf_39 : decode cX3_balanceOf 39 = .ok (.aload_n 0, 1) := by decide +kernel
theorem dX3_balanceOf_40 : decode cX3_balanceOf 40 = .ok (.getfield 9, 3) := by decide +kernel
theorem dX3_balanceOf_43 : decode cX3_balanceOf 43 = .ok (.iload_n 3, 1) := by decide +kernel
theorem dX3_balanceOf_44 : decode cX3_balanceOf 44 = .ok (.iaload, 1) := by decide +kernel
theorem dX3_balanceOf_45 : decode cX3_balanceOf 45 = .ok (.imul, 1) := by decide +kernel
theorem dX3_balanceOf_46 : decode cX3_balanceOf 46 = .ok (.istore 4, 2) := by decide +kernel
theorem dX3_balanceOf_48 : decode cX3_balanceOf 48 = .ok (.aload_n 0, 1) := by decide +kernel
theorem dX3_balanceOf_49 : decode cX3_balanceOf 49 = .ok (.getfield 42, 3) := by decide +kernel
theorem dX3_balanceOf_52 : decode cX3_balanceOf 52 = .ok (.getfield 75, 3) := by decide +kernel
theorem dX3_balanceOf_55 : decode cX3_balanceOf 55 = .ok (.iload_n 3, 1) := by decide +kernel
theorem dX3_balanceOf_56 : decode cX3_balanceOf 56 = .ok (.iaload, 1) := by decide +kernel
theorem dX3_balanceOf_57 : decode cX3_balanceOf 57 = .ok (.iload_n 1, 1) := by decide +kernel
theorem dX3_balanceOf_58 : decode cX3_balanceOf 58 = .ok (.if_icmp .ne 8, 3) := by decide +kernel
theorem dX3_balanceOf_61 : decode cX3_balanceOf 61 = .ok (.iload_n 2, 1) := by decide +kernel
theorem dX3_balanceOf_62 : decode cX3_balanceOf 62 = .ok (.iload 4, 2) := by decide +kernel
theorem dX3_balanceOf_64 : decode cX3_balanceOf 64 = .ok (.iadd, 1) := by decide +kernel
theorem dX3_balanceOf_65 : decode cX3_balanceOf 65 = .ok (.istore_n 2, 1) := by decide +kernel
theorem dX3_balanceOf_66 : decode cX3_balanceOf 66 = .ok (.aload_n 0, 1) := by decide +kernel
theorem dX3_balanceOf_67 : decode cX3_balanceOf 67 = .ok (.getfield 42, 3) := by decide +kernel
theorem dX3_balanceOf_70 : decode cX3_balanceOf 70 = .ok (.getfield 54, 3) := by decide +kernel
theorem dX3_balanceOf_73 : decode cX3_balanceOf 73 = .ok (.iload_n 3, 1) := by decide +kernel
theorem dX3_balanceOf_74 : decode cX3_balanceOf 74 = .ok (.iaload, 1) := by decide +kernel
theorem dX3_balanceOf_75 : decode cX3_balanceOf 75 = .ok (.iload_n 1, 1) := by decide +kernel
theorem dX3_balanceOf_76 : decode cX3_balanceOf 76 = .ok (.if_icmp .ne 8, 3) := by decide +kernel
theorem dX3_balanceOf_79 : decode cX3_balanceOf 79 = .ok (.iload_n 2, 1) := by decide +kernel
theorem dX3_balanceOf_80 : decode cX3_balanceOf 80 = .ok (.iload 4, 2) := by decide +kernel
theorem dX3_balanceOf_82 : decode cX3_balanceOf 82 = .ok (.isub, 1) := by decide +kernel
theorem dX3_balanceOf_83 : decode cX3_balanceOf 83 = .ok (.istore_n 2, 1) := by decide +kernel
theorem dX3_balanceOf_84 : decode cX3_balanceOf 84 = .ok (.iinc 3 1, 3) := by decide +kernel
theorem dX3_balanceOf_87 : decode cX3_balanceOf 87 = .ok (.goto (-83), 3) := by decide +kernel
theorem dX3_balanceOf_90 : decode cX3_balanceOf 90 = .ok (.iload_n 2, 1) := by decide +kernel
theorem dX3_balanceOf_91 : decode cX3_balanceOf 91 = .ok (.ireturn, 1) := by decide +kernel
theorem dX3_hearDebt_0 : decode cX3_hearDebt 0 = .ok (.iconst 0, 1) := by decide +kernel
theorem dX3_hearDebt_1 : decode cX3_hearDebt 1 = .ok (.istore_n 3, 1) := by decide +kernel
theorem dX3_hearDebt_2 : decode cX3_hearDebt 2 = .ok (.iconst 0, 1) := by decide +kernel
theorem dX3_hearDebt_3 : decode cX3_hearDebt 3 = .ok (.istore 4, 2) := by decide +kernel
theorem dX3_hearDebt_5 : decode cX3_hearDebt 5 = .ok (.iload 4, 2) := by decide +kernel
theorem dX3_hearDebt_7 : decode cX3_hearDebt 7 = .ok (.bipush 12, 2) := by decide +kernel
theorem dX3_hearDebt_9 : decode cX3_hearDebt 9 = .ok (.if_icmp .ge 114, 3) := by decide +kernel
theorem dX3_hearDebt_12 : decode cX3_hearDebt 12 = .ok (.iload_n 3, 1) := by decide +kernel
theorem dX3_hearDebt_13 : decode cX3_hearDebt 13 = .ok (.iconst 1, 1) := by decide +kernel
theorem dX3_hearDebt_14 : decode cX3_hearDebt 14 = .ok (.iadd, 1) := by decide +kernel
theorem dX3_hearDebt_15 : decode cX3_hearDebt 15 = .ok (.aload_n 1, 1) := by decide +kernel
theorem dX3_hearDebt_16 : decode cX3_hearDebt 16 = .ok (.arraylength, 1) := by decide +kernel
theorem dX3_hearDebt_17 : decode cX3_hearDebt 17 = .ok (.if_icmp .ge 106, 3) := by decide +kernel
theorem dX3_hearDebt_20 : decode cX3_hearDebt 20 = .ok (.aload_n 1, 1) := by decide +kernel
theorem dX3_hearDebt_21 : decode cX3_hearDebt 21 = .ok (.iload_n 3, 1) := by decide +kernel
theorem dX3_hearDebt_22 : decode cX3_hearDebt 22 = .ok (.iaload, 1) := by decide +kernel
theorem dX3_hearDebt_23 : decode cX3_hearDebt 23 = .ok (.istore 5, 2) := by decide +kernel
theorem dX3_hearDebt_25 : decode cX3_hearDebt 25 = .ok (.aload_n 1, 1) := by decide +kernel
theorem dX3_hearDebt_26 : decode cX3_hearDebt 26 = .ok (.iload_n 3, 1) := by decide +kernel
theorem dX3_hearDebt_27 : decode cX3_hearDebt 27 = .ok (.iconst 1, 1) := by decide +kernel
theorem dX3_hearDebt_28 : decode cX3_hearDebt 28 = .ok (.iadd, 1) := by decide +kernel
theorem dX3_hearDebt_29 : decode cX3_hearDebt 29 = .ok (.iaload, 1) := by decide +kernel
theorem dX3_hearDebt_30 : decode cX3_hearDebt 30 = .ok (.istore 6, 2) := by decide +kernel
theorem dX3_hearDebt_32 : decode cX3_hearDebt 32 = .ok (.iload 6, 2) := by decide +kernel
theorem dX3_hearDebt_34 : decode cX3_hearDebt 34 = .ok (.iload_n 3, 1) := by decide +kernel
theorem dX3_hearDebt_35 : decode cX3_hearDebt 35 = .ok (.if_icmp .le 10, 3) := by decide +kernel
theorem dX3_hearDebt_38 : decode cX3_hearDebt 38 = .ok (.iload 6, 2) := by decide +kernel
theorem dX3_hearDebt_40 : decode cX3_hearDebt 40 = .ok (.aload_n 1, 1) := by decide +kernel
theorem dX3_hearDebt_41 : decode cX3_hearDebt 41 = .ok (.arraylength, 1) := by decide +kernel
theorem dX3_hearDebt_42 : decode cX3_hearDebt 42 = .ok (.if_icmp .le 4, 3) := by decide +kernel
theorem dX3_hearDebt_45 : decode cX3_hearDebt 45 = .ok (.return_, 1) := by decide +kernel
theorem dX3_hearDebt_46 : decode cX3_hearDebt 46 = .ok (.aload_n 0, 1) := by decide +kernel
theorem dX3_hearDebt_47 : decode cX3_hearDebt 47 = .ok (.aload_n 1, 1) := by decide +kernel
theorem dX3_hearDebt_48 : decode cX3_hearDebt 48 = .ok (.iload_n 3, 1) := by decide +kernel
theorem dX3_hearDebt_49 : decode cX3_hearDebt 49 = .ok (.iconst 2, 1) := by decide +kernel
theorem dX3_hearDebt_50 : decode cX3_hearDebt 50 = .ok (.iadd, 1) := by decide +kernel
theorem dX3_hearDebt_51 : decode cX3_hearDebt 51 = .ok (.iload 6, 2) := by decide +kernel
theorem dX3_hearDebt_53 : decode cX3_hearDebt 53 = .ok (.iload_n 2, 1) := by decide +kernel
theorem dX3_hearDebt_54 : decode cX3_hearDebt 54 = .ok (.invokevirtual 78, 3) := by decide +kernel
theorem dX3_hearDebt_57 : decode cX3_hearDebt 57 = .ok (.ifCond .eq 57, 3) := by decide +kernel
theorem dX3_hearDebt_60 : decode cX3_hearDebt 60 = .ok (.iload 5, 2) := by decide +kernel
theorem dX3_hearDebt_62 : decode cX3_hearDebt 62 = .ok (.iconst 1, 1) := by decide +kernel
theorem dX3_hearDebt_63 : decode cX3_hearDebt 63 = .ok (.if_icmp .ne 28, 3) := by decide +kernel
theorem dX3_hearDebt_66 : decode cX3_hearDebt 66 = .ok (.aload_n 0, 1) := by decide +kernel
theorem dX3_hearDebt_67 : decode cX3_hearDebt 67 = .ok (.getfield 9, 3) := by decide +kernel
theorem dX3_hearDebt_70 : decode cX3_hearDebt 70 = .ok (.iload_n 2, 1) := by decide +kernel
theorem dX3_hearDebt_71 : decode cX3_hearDebt 71 = .ok (.iconst 0, 1) := by decide +kernel
theorem dX3_hearDebt_72 : decode cX3_hearDebt 72 = .ok (.sipush 999, 3) := by decide +kernel
theorem dX3_hearDebt_75 : decode cX3_hearDebt 75 = .ok (.aload_n 0, 1) := by decide +kernel
theorem dX3_hearDebt_76 : decode cX3_hearDebt 76 = .ok (.getfield 25, 3) := by decide +kernel
theorem dX3_hearDebt_79 : decode cX3_hearDebt 79 = .ok (.iconst 0, 1) := by decide +kernel
theorem dX3_hearDebt_80 : decode cX3_hearDebt 80 = .ok (.iaload, 1) := by decide +kernel
theorem dX3_hearDebt_81 : decode cX3_hearDebt 81 = .ok (.invokestatic 82, 3) := by decide +kernel
theorem dX3_hearDebt_84 : decode cX3_hearDebt 84 = .ok (.invokestatic 88, 3) := by decide +kernel
theorem dX3_hearDebt_87 : decode cX3_hearDebt 87 = .ok (.iastore, 1) := by decide +kernel
theorem dX3_hearDebt_88 : decode cX3_hearDebt 88 = .ok (.goto 26, 3) := by decide +kernel
theorem dX3_hearDebt_91 : decode cX3_hearDebt 91 = .ok (.iload 5, 2) := by decide +kernel
theorem dX3_hearDebt_93 : decode cX3_hearDebt 93 = .ok (.iconst 3, 1) := by decide +kernel
theorem dX3_hearDebt_94 : decode cX3_hearDebt 94 = .ok (.if_icmp .ne 13, 3) := by decide +kernel
theorem dX3_hearDebt_97 : decode cX3_hearDebt 97 = .ok (.aload_n 0, 1) := by decide +kernel
theorem dX3_hearDebt_98 : decode cX3_hearDebt 98 = .ok (.getfield 15, 3) := by decide +kernel
theorem dX3_hearDebt_101 : decode cX3_hearDebt 101 = .ok (.iload_n 2, 1) := by decide +kernel
theorem dX3_hearDebt_102 : decode cX3_hearDebt 102 = .ok (.iconst 1, 1) := by decide +kernel
theorem dX3_hearDebt_103 : decode cX3_hearDebt 103 = .ok (.bastore, 1) := by decide +kernel
theorem dX3_hearDebt_104 : decode cX3_hearDebt 104 = .ok (.goto 10, 3) := by decide +kernel
theorem dX3_hearDebt_107 : decode cX3_hearDebt 107 = .ok (.aload_n 0, 1) := by decide +kernel
theorem dX3_hearDebt_108 : decode cX3_hearDebt 108 = .ok (.getfield 19, 3) := by decide +kernel
theorem dX3_hearDebt_111 : decode cX3_hearDebt 111 = .ok (.iload_n 2, 1) := by decide +kernel
theorem dX3_hearDebt_112 : decode cX3_hearDebt 112 = .ok (.iconst 1, 1) := by decide +kernel
theorem dX3_hearDebt_113 : decode cX3_hearDebt 113 = .ok (.bastore, 1) := by decide +kernel
theorem dX3_hearDebt_114 : decode cX3_hearDebt 114 = .ok (.iload 6, 2) := by decide +kernel
theorem dX3_hearDebt_116 : decode cX3_hearDebt 116 = .ok (.istore_n 3, 1) := by decide +kernel
theorem dX3_hearDebt_117 : decode cX3_hearDebt 117 = .ok (.iinc 4 1, 3) := by decide +kernel
theorem dX3_hearDebt_120 : decode cX3_hearDebt 120 = .ok (.goto (-115), 3) := by decide +kernel
theorem dX3_hearDebt_123 : decode cX3_hearDebt 123 = .ok (.return_, 1) := by decide +kernel
theorem dX3_holds_0 : decode cX3_holds 0 = .ok (.aload_n 0, 1) := by decide +kernel
theorem dX3_holds_1 : decode cX3_holds 1 = .ok (.iconst 0, 1) := by decide +kernel
theorem dX3_holds_2 : decode cX3_holds 2 = .ok (.putfield 28, 3) := by decide +kernel
theorem dX3_holds_5 : decode cX3_holds 5 = .ok (.iload_n 2, 1) := by decide +kernel
theorem dX3_holds_6 : decode cX3_holds 6 = .ok (.istore 5, 2) := by decide +kernel
theorem dX3_holds_8 : decode cX3_holds 8 = .ok (.iconst 0, 1) := by decide +kernel
theorem dX3_holds_9 : decode cX3_holds 9 = .ok (.istore 6, 2) := by decide +kernel
theorem dX3_holds_11 : decode cX3_holds 11 = .ok (.iload 6, 2) := by decide +kernel
theorem dX3_holds_13 : decode cX3_holds 13 = .ok (.aload_n 1, 1) := by decide +kernel
theorem dX3_holds_14 : decode cX3_holds 14 = .ok (.arraylength, 1) := by decide +kernel
theorem dX3_holds_15 : decode cX3_holds 15 = .ok (.if_icmp .ge 167, 3) := by decide +kernel
theorem dX3_holds_18 : decode cX3_holds 18 = .ok (.iload 5, 2) := by decide +kernel
theorem dX3_holds_20 : decode cX3_holds 20 = .ok (.iconst 1, 1) := by decide +kernel
theorem dX3_holds_21 : decode cX3_holds 21 = .ok (.iadd, 1) := by decide +kernel
theorem dX3_holds_22 : decode cX3_holds 22 = .ok (.iload_n 3, 1) := by decide +kernel
theorem dX3_holds_23 : decode cX3_holds 23 = .ok (.if_icmp .ge 159, 3) := by decide +kernel
theorem dX3_holds_26 : decode cX3_holds 26 = .ok (.iload_n 3, 1) := by decide +kernel
theorem dX3_holds_27 : decode cX3_holds 27 = .ok (.aload_n 1, 1) := by decide +kernel
theorem dX3_holds_28 : decode cX3_holds 28 = .ok (.arraylength, 1) := by decide +kernel
theorem dX3_holds_29 : decode cX3_holds 29 = .ok (.if_icmp .gt 153, 3) := by decide +kernel
theorem dX3_holds_32 : decode cX3_holds 32 = .ok (.aload_n 1, 1) := by decide +kernel
theorem dX3_holds_33 : decode cX3_holds 33 = .ok (.iload 5, 2) := by decide +kernel
theorem dX3_holds_35 : decode cX3_holds 35 = .ok (.iaload, 1) := by decide +kernel
theorem dX3_holds_36 : decode cX3_holds 36 = .ok (.istore 7, 2) := by decide +kernel
theorem dX3_holds_38 : decode cX3_holds 38 = .ok (.aload_n 1, 1) := by decide +kernel
theorem dX3_holds_39 : decode cX3_holds 39 = .ok (.iload 5, 2) := by decide +kernel
theorem dX3_holds_41 : decode cX3_holds 41 = .ok (.iconst 1, 1) := by decide +kernel
theorem dX3_holds_42 : decode cX3_holds 42 = .ok (.iadd, 1) := by decide +kernel
theorem dX3_holds_43 : decode cX3_holds 43 = .ok (.iaload, 1) := by decide +kernel
theorem dX3_holds_44 : decode cX3_holds 44 = .ok (.istore 8, 2) := by decide +kernel
theorem dX3_holds_46 : decode cX3_holds 46 = .ok (.iinc 5 2, 3) := by decide +kernel
theorem dX3_holds_49 : decode cX3_holds 49 = .ok (.iload 7, 2) := by decide +kernel
theorem dX3_holds_51 : decode cX3_holds 51 = .ok (.iconst 4, 1) := by decide +kernel
theorem dX3_holds_52 : decode cX3_holds 52 = .ok (.if_icmp .ne 12, 3) := by decide +kernel
theorem dX3_holds_55 : decode cX3_holds 55 = .ok (.aload_n 0, 1) := by decide +kernel
theorem dX3_holds_56 : decode cX3_holds 56 = .ok (.iload 8, 2) := by decide +kernel
theorem dX3_holds_58 : decode cX3_holds 58 = .ok (.invokevirtual 91, 3) := by decide +kernel
theorem dX3_holds_61 : decode cX3_holds 61 = .ok (.goto 115, 3) := by decide +kernel
theorem dX3_holds_64 : decode cX3_holds 64 = .ok (.iload 7, 2) := by decide +kernel
theorem dX3_holds_66 : decode cX3_holds 66 = .ok (.iconst 5, 1) := by decide +kernel
theorem dX3_holds_67 : decode cX3_holds 67 = .ok (.if_icmp .ne 18, 3) := by decide +kernel
theorem dX3_holds_70 : decode cX3_holds 70 = .ok (.aload_n 0, 1) := by decide +kernel
theorem dX3_holds_71 : decode cX3_holds 71 = .ok (.aload_n 0, 1) := by decide +kernel
theorem dX3_holds_72 : decode cX3_holds 72 = .ok (.iload 8, 2) := by decide +kernel
theorem dX3_holds_74 : decode cX3_holds 74 = .ok (.iload 4, 2) := by decide +kernel
theorem dX3_holds_76 : decode cX3_holds 76 = .ok (.invokevirtual 95, 3) := by decide +kernel
theorem dX3_holds_79 : decode cX3_holds 79 = .ok (.invokevirtual 91, 3) := by decide +kernel
theorem dX3_holds_82 : decode cX3_holds 82 = .ok (.goto 94, 3) := by decide +kernel
theorem dX3_holds_85 : decode cX3_holds 85 = .ok (.iload 7, 2) := by decide +kernel
theorem dX3_holds_87 : decode cX3_holds 87 = .ok (.bipush 14, 2) := by decide +kernel
theorem dX3_holds_89 : decode cX3_holds 89 = .ok (.if_icmp .eq 10, 3) := by decide +kernel
theorem dX3_holds_92 : decode cX3_holds 92 = .ok (.iload 7, 2) := by decide +kernel
theorem dX3_holds_94 : decode cX3_holds 94 = .ok (.bipush 15, 2) := by decide +kernel
theorem dX3_holds_96 : decode cX3_holds 96 = .ok (.if_icmp .ne 41, 3) := by decide +kernel
theorem dX3_holds_99 : decode cX3_holds 99 = .ok (.aload_n 0, 1) := by decide +kernel
theorem dX3_holds_100 : decode cX3_holds 100 = .ok (.invokevirtual 98, 3) := by decide +kernel
theorem dX3_holds_103 : decode cX3_holds 103 = .ok (.iload 7, 2) := by decide +kernel
theorem dX3_holds_105 : decode cX3_holds 105 = .ok (.bipush 14, 2) := by decide +kernel
theorem dX3_holds_107 : decode cX3_holds 107 = .ok (.if_icmp .ne 7, 3) := by decide +kernel
theorem dX3_holds_110 : decode cX3_holds 110 = .ok (.iconst 1, 1) := by decide +kernel
theorem dX3_holds_111 : decode cX3_holds 111 = .ok (.goto 4, 3) := by decide +kernel
theorem dX3_holds_114 : decode cX3_holds 114 = .ok (.iconst 0, 1) := by decide +kernel
theorem dX3_holds_115 : decode cX3_holds 115 = .ok (.if_icmp .ne 15, 3) := by decide +kernel
theorem dX3_holds_118 : decode cX3_holds 118 = .ok (.iload 5, 2) := by decide +kernel
theorem dX3_holds_120 : decode cX3_holds 120 = .ok (.iload 8, 2) := by decide +kernel
theorem dX3_holds_122 : decode cX3_holds 122 = .ok (.invokestatic 88, 3) := by decide +kernel
theorem dX3_holds_125 : decode cX3_holds 125 = .ok (.istore 5, 2) := by decide +kernel
theorem dX3_holds_127 : decode cX3_holds 127 = .ok (.goto 49, 3) := by decide +kernel
theorem dX3_holds_130 : decode cX3_holds 130 = .ok (.aload_n 0, 1) := by decide +kernel
theorem dX3_holds_131 : decode cX3_holds 131 = .ok (.invokevirtual 102, 3) := by decide +kernel
theorem dX3_holds_134 : decode cX3_holds 134 = .ok (.goto 42, 3) := by decide +kernel
theorem dX3_holds_137 : decode cX3_holds 137 = .ok (.iload 7, 2) := by decide +kernel
theorem dX3_holds_139 : decode cX3_holds 139 = .ok (.bipush 13, 2) := by decide +kernel
theorem dX3_holds_141 : decode cX3_holds 141 = .ok (.if_icmp .ne 24, 3) := by decide +kernel
theorem dX3_holds_144 : decode cX3_holds 144 = .ok (.iconst 1, 1) := by decide +kernel
theorem dX3_holds_145 : decode cX3_holds 145 = .ok (.aload_n 0, 1) := by decide +kernel
theorem dX3_holds_146 : decode cX3_holds 146 = .ok (.invokevirtual 98, 3) := by decide +kernel
theorem dX3_holds_149 : decode cX3_holds 149 = .ok (.isub, 1) := by decide +kernel
theorem dX3_holds_150 : decode cX3_holds 150 = .ok (.istore 9, 2) := by decide +kernel
theorem dX3_holds_152 : decode cX3_holds 152 = .ok (.aload_n 0, 1) := by decide +kernel
theorem dX3_holds_153 : decode cX3_holds 153 = .ok (.invokevirtual 102, 3) := by decide +kernel
theorem dX3_holds_156 : decode cX3_holds 156 = .ok (.aload_n 0, 1) := by decide +kernel
theorem dX3_holds_157 : decode cX3_holds 157 = .ok (.iload 9, 2) := by decide +kernel
theorem dX3_holds_159 : decode cX3_holds 159 = .ok (.invokevirtual 91, 3) := by decide +kernel
theorem dX3_holds_162 : decode cX3_holds 162 = .ok (.goto 14, 3) := by decide +kernel
theorem dX3_holds_165 : decode cX3_holds 165 = .ok (.aload_n 0, 1) := by decide +kernel
theorem dX3_holds_166 : decode cX3_holds 166 = .ok (.iload 7, 2) := by decide +kernel
theorem dX3_holds_168 : decode cX3_holds 168 = .ok (.invokevirtual 105, 3) := by decide +kernel
theorem dX3_holds_171 : decode cX3_holds 171 = .ok (.ifCond .ne 5, 3) := by decide +kernel
theorem dX3_holds_174 : decode cX3_holds 174 = .ok (.iconst 0, 1) := by decide +kernel
theorem dX3_holds_175 : decode cX3_holds 175 = .ok (.ireturn, 1) := by decide +kernel
theorem dX3_holds_176 : decode cX3_holds 176 = .ok (.iinc 6 1, 3) := by decide +kernel
theorem dX3_holds_179 : decode cX3_holds 179 = .ok (.goto (-168), 3) := by decide +kernel
theorem dX3_holds_182 : decode cX3_holds 182 = .ok (.aload_n 0, 1) := by decide +kernel
theorem dX3_holds_183 : decode cX3_holds 183 = .ok (.invokevirtual 98, 3) := by decide +kernel
theorem dX3_holds_186 : decode cX3_holds 186 = .ok (.iconst 1, 1) := by decide +kernel
theorem dX3_holds_187 : decode cX3_holds 187 = .ok (.if_icmp .ne 7, 3) := by decide +kernel
theorem dX3_holds_190 : decode cX3_holds 190 = .ok (.iconst 1, 1) := by decide +kernel
theorem dX3_holds_191 : decode cX3_holds 191 = .ok (.goto 4, 3) := by decide +kernel
theorem dX3_holds_194 : decode cX3_holds 194 = .ok (.iconst 0, 1) := by decide +kernel
theorem dX3_holds_195 : decode cX3_holds 195 = .ok (.ireturn, 1) := by decide +kernel
theorem dX3_join_0 : decode cX3_join 0 = .ok (.aload_n 0, 1) := by decide +kernel
theorem dX3_join_1 : decode cX3_join 1 = .ok (.getfield 28, 3) := by decide +kernel
theorem dX3_join_4 : decode cX3_join 4 = .ok (.iconst 2, 1) := by decide +kernel
theorem dX3_join_5 : decode cX3_join 5 = .ok (.if_icmp .lt 12, 3) := by decide +kernel
theorem dX3_join_8 : decode cX3_join 8 = .ok (.aload_n 0, 1) := by decide +kernel
theorem dX3_join_9 : decode cX3_join 9 = .ok (.getfield 28, 3) := by decide +kernel
theorem dX3_join_12 : decode cX3_join 12 = .ok (.bipush 64, 2) := by decide +kernel
theorem dX3_join_14 : decode cX3_join 14 = .ok (.if_icmp .le 5, 3) := by decide +kernel
theorem dX3_join_17 : decode cX3_join 17 = .ok (.iconst 0, 1) := by decide +kernel
theorem dX3_join_18 : decode cX3_join 18 = .ok (.ireturn, 1) := by decide +kernel
theorem dX3_join_19 : decode cX3_join 19 = .ok (.aload_n 0, 1) := by decide +kernel
theorem dX3_join_20 : decode cX3_join 20 = .ok (.getfield 25, 3) := by decide +kernel
theorem dX3_join_23 : decode cX3_join 23 = .ok (.aload_n 0, 1) := by decide +kernel
theorem dX3_join_24 : decode cX3_join 24 = .ok (.getfield 28, 3) := by decide +kernel
theorem dX3_join_27 : decode cX3_join 27 = .ok (.iconst 2, 1) := by decide +kernel
theorem dX3_join_28 : decode cX3_join 28 = .ok (.isub, 1) := by decide +kernel
theorem dX3_join_29 : decode cX3_join 29 = .ok (.iaload, 1) := by decide +kernel
theorem dX3_join_30 : decode cX3_join 30 = .ok (.i2l, 1) := by decide +kernel
theorem dX3_join_31 : decode cX3_join 31 = .ok (.lstore_n 2, 1) := by decide +kernel
theorem dX3_join_32 : decode cX3_join 32 = .ok (.aload_n 0, 1) := by decide +kernel
theorem dX3_join_33 : decode cX3_join 33 = .ok (.getfield 25, 3) := by decide +kernel
theorem dX3_join_36 : decode cX3_join 36 = .ok (.aload_n 0, 1) := by decide +kernel
theorem dX3_join_37 : decode cX3_join 37 = .ok (.getfield 28, 3) := by decide +kernel
theorem dX3_join_40 : decode cX3_join 40 = .ok (.iconst 1, 1) := by decide +kernel
theorem dX3_join_41 : decode cX3_join 41 = .ok (.isub, 1) := by decide +kernel
theorem dX3_join_42 : decode cX3_join 42 = .ok (.iaload, 1) := by decide +kernel
theorem dX3_join_43 : decode cX3_join 43 = .ok (.i2l, 1) := by decide +kernel
theorem dX3_join_44 : decode cX3_join 44 = .ok (.lstore 4, 2) := by decide +kernel
theorem dX3_join_46 : decode cX3_join 46 = .ok (.iload_n 1, 1) := by decide +kernel
theorem dX3_join_47 : decode cX3_join 47 = .ok (.bipush 9, 2) := by decide +kernel
theorem dX3_join_49 : decode cX3_join 49 = .ok (.if_icmp .ne 12, 3) := by decide +kernel
theorem dX3_join_52 : decode cX3_join 52 = .ok (.lload 4, 2) := by decide +kernel
theorem dX3_join_54 : decode cX3_join 54 = .ok (.lconst 0, 1) := by decide +kernel
theorem dX3_join_55 : decode cX3_join 55 = .ok (.lcmp, 1) := by decide +kernel
theorem dX3_join_56 : decode cX3_join 56 = .ok (.ifCond .ne 5, 3) := by decide +kernel
theorem dX3_join_59 : decode cX3_join 59 = .ok (.iconst 0, 1) := by decide +kernel
theorem dX3_join_60 : decode cX3_join 60 = .ok (.ireturn, 1) := by decide +kernel
theorem dX3_join_61 : decode cX3_join 61 = .ok (.iload_n 1, 1) := by decide +kernel
theorem dX3_join_62 : decode cX3_join 62 = .ok (.lload_n 2, 1) := by decide +kernel
theorem dX3_join_63 : decode cX3_join 63 = .ok (.lload 4, 2) := by decide +kernel
theorem dX3_join_65 : decode cX3_join 65 = .ok (.invokestatic 108, 3) := by decide +kernel
theorem dX3_join_68 : decode cX3_join 68 = .ok (.lstore 6, 2) := by decide +kernel
theorem dX3_join_70 : decode cX3_join 70 = .ok (.lload 6, 2) := by decide +kernel
theorem dX3_join_72 : decode cX3_join 72 = .ok (.ldc2_w 112, 3) := by decide +kernel
theorem dX3_join_75 : decode cX3_join 75 = .ok (.lcmp, 1) := by decide +kernel
theorem dX3_join_76 : decode cX3_join 76 = .ok (.ifCond .gt 12, 3) := by decide +kernel
theorem dX3_join_79 : decode cX3_join 79 = .ok (.lload 6, 2) := by decide +kernel
theorem dX3_join_81 : decode cX3_join 81 = .ok (.ldc2_w 114, 3) := by decide +kernel
theorem dX3_join_84 : decode cX3_join 84 = .ok (.lcmp, 1) := by decide +kernel
theorem dX3_join_85 : decode cX3_join 85 = .ok (.ifCond .ge 5, 3) := by decide +kernel
theorem dX3_join_88 : decode cX3_join 88 = .ok (.iconst 0, 1) := by decide +kernel
theorem dX3_join_89 : decode cX3_join 89 = .ok (.ireturn, 1) := by decide +kernel
theorem dX3_join_90 : decode cX3_join 90 = .ok (.aload_n 0, 1) := by decide +kernel
theorem dX3_join_91 : decode cX3_join 91 = .ok (.invokevirtual 102, 3) := by decide +kernel
theorem dX3_join_94 : decode cX3_join 94 = .ok (.aload_n 0, 1) := by decide +kernel
theorem dX3_join_95 : decode cX3_join 95 = .ok (.invokevirtual 102, 3) := by decide +kernel
theorem dX3_join_98 : decode cX3_join 98 = .ok (.aload_n 0, 1) := by decide +kernel
theorem dX3_join_99 : decode cX3_join 99 = .ok (.lload 6, 2) := by decide +kernel
theorem dX3_join_101 : decode cX3_join 101 = .ok (.l2i, 1) := by decide +kernel
theorem dX3_join_102 : decode cX3_join 102 = .ok (.invokevirtual 91, 3) := by decide +kernel
theorem dX3_join_105 : decode cX3_join 105 = .ok (.iconst 1, 1) := by decide +kernel
theorem dX3_join_106 : decode cX3_join 106 = .ok (.ireturn, 1) := by decide +kernel
theorem dX3_joined_0 : decode cX3_joined 0 = .ok (.iload_n 0, 1) := by decide +kernel
theorem dX3_joined_1 : decode cX3_joined 1 = .ok (.tableswitch 89 6 11 #[39, 43, 47, 51, 65, 77], 39) := by decide +kernel
theorem dX3_joined_40 : decode cX3_joined 40 = .ok (.lload_n 1, 1) := by decide +kernel
theorem dX3_joined_41 : decode cX3_joined 41 = .ok (.lload_n 3, 1) := by decide +kernel
theorem dX3_joined_42 : decode cX3_joined 42 = .ok (.ladd, 1) := by decide +kernel
theorem dX3_joined_43 : decode cX3_joined 43 = .ok (.lreturn, 1) := by decide +kernel
theorem dX3_joined_44 : decode cX3_joined 44 = .ok (.lload_n 1, 1) := by decide +kernel
theorem dX3_joined_45 : decode cX3_joined 45 = .ok (.lload_n 3, 1) := by decide +kernel
theorem dX3_joined_46 : decode cX3_joined 46 = .ok (.lsub, 1) := by decide +kernel
theorem dX3_joined_47 : decode cX3_joined 47 = .ok (.lreturn, 1) := by decide +kernel
theorem dX3_joined_48 : decode cX3_joined 48 = .ok (.lload_n 1, 1) := by decide +kernel
theorem dX3_joined_49 : decode cX3_joined 49 = .ok (.lload_n 3, 1) := by decide +kernel
theorem dX3_joined_50 : decode cX3_joined 50 = .ok (.lmul, 1) := by decide +kernel
theorem dX3_joined_51 : decode cX3_joined 51 = .ok (.lreturn, 1) := by decide +kernel
theorem dX3_joined_52 : decode cX3_joined 52 = .ok (.lload_n 3, 1) := by decide +kernel
theorem dX3_joined_53 : decode cX3_joined 53 = .ok (.lconst 0, 1) := by decide +kernel
theorem dX3_joined_54 : decode cX3_joined 54 = .ok (.lcmp, 1) := by decide +kernel
theorem dX3_joined_55 : decode cX3_joined 55 = .ok (.ifCond .ne 7, 3) := by decide +kernel
theorem dX3_joined_58 : decode cX3_joined 58 = .ok (.lconst 0, 1) := by decide +kernel
theorem dX3_joined_59 : decode cX3_joined 59 = .ok (.goto 6, 3) := by decide +kernel
theorem dX3_joined_62 : decode cX3_joined 62 = .ok (.lload_n 1, 1) := by decide +kernel
theorem dX3_joined_63 : decode cX3_joined 63 = .ok (.lload_n 3, 1) := by decide +kernel
theorem dX3_joined_64 : decode cX3_joined 64 = .ok (.ldiv, 1) := by decide +kernel
theorem dX3_joined_65 : decode cX3_joined 65 = .ok (.lreturn, 1) := by decide +kernel
theorem dX3_joined_66 : decode cX3_joined 66 = .ok (.lload_n 1, 1) := by decide +kernel
theorem dX3_joined_67 : decode cX3_joined 67 = .ok (.lload_n 3, 1) := by decide +kernel
theorem dX3_joined_68 : decode cX3_joined 68 = .ok (.lcmp, 1) := by decide +kernel
theorem dX3_joined_69 : decode cX3_joined 69 = .ok (.ifCond .ge 7, 3) := by decide +kernel
theorem dX3_joined_72 : decode cX3_joined 72 = .ok (.lconst 1, 1) := by decide +kernel
theorem dX3_joined_73 : decode cX3_joined 73 = .ok (.goto 4, 3) := by decide +kernel
theorem dX3_joined_76 : decode cX3_joined 76 = .ok (.lconst 0, 1) := by decide +kernel
theorem dX3_joined_77 : decode cX3_joined 77 = .ok (.lreturn, 1) := by decide +kernel
theorem dX3_joined_78 : decode cX3_joined 78 = .ok (.lload_n 1, 1) := by decide +kernel
theorem dX3_joined_79 : decode cX3_joined 79 = .ok (.lload_n 3, 1) := by decide +kernel
theorem dX3_joined_80 : decode cX3_joined 80 = .ok (.lcmp, 1) := by decide +kernel
theorem dX3_joined_81 : decode cX3_joined 81 = .ok (.ifCond .le 7, 3) := by decide +kernel
theorem dX3_joined_84 : decode cX3_joined 84 = .ok (.lconst 1, 1) := by decide +kernel
theorem dX3_joined_85 : decode cX3_joined 85 = .ok (.goto 4, 3) := by decide +kernel
theorem dX3_joined_88 : decode cX3_joined 88 = .ok (.lconst 0, 1) := by decide +kernel
theorem dX3_joined_89 : decode cX3_joined 89 = .ok (.lreturn, 1) := by decide +kernel
theorem dX3_joined_90 : decode cX3_joined 90 = .ok (.lload_n 1, 1) := by decide +kernel
theorem dX3_joined_91 : decode cX3_joined 91 = .ok (.lload_n 3, 1) := by decide +kernel
theorem dX3_joined_92 : decode cX3_joined 92 = .ok (.lcmp, 1) := by decide +kernel
theorem dX3_joined_93 : decode cX3_joined 93 = .ok (.ifCond .ne 7, 3) := by decide +kernel
theorem dX3_joined_96 : decode cX3_joined 96 = .ok (.lconst 1, 1) := by decide +kernel
theorem dX3_joined_97 : decode cX3_joined 97 = .ok (.goto 4, 3) := by decide +kernel
theorem dX3_joined_100 : decode cX3_joined 100 = .ok (.lconst 0, 1) := by decide +kernel
theorem dX3_joined_101 : decode cX3_joined 101 = .ok (.lreturn, 1) := by decide +kernel
theorem dX3_wordOf_0 : decode cX3_wordOf 0 = .ok (.aload_n 0, 1) := by decide +kernel
theorem dX3_wordOf_1 : decode cX3_wordOf 1 = .ok (.getfield 42, 3) := by decide +kernel
theorem dX3_wordOf_4 : decode cX3_wordOf 4 = .ok (.iload_n 2, 1) := by decide +kernel
theorem dX3_wordOf_5 : decode cX3_wordOf 5 = .ok (.invokevirtual 116, 3) := by decide +kernel
theorem dX3_wordOf_8 : decode cX3_wordOf 8 = .ok (.ifCond .ne 5, 3) := by decide +kernel
theorem dX3_wordOf_11 : decode cX3_wordOf 11 = .ok (.iconst 0, 1) := by decide +kernel
theorem dX3_wordOf_12 : decode cX3_wordOf 12 = .ok (.ireturn, 1) := by decide +kernel
theorem dX3_wordOf_13 : decode cX3_wordOf 13 = .ok (.aload_n 0, 1) := by decide +kernel
theorem dX3_wordOf_14 : decode cX3_wordOf 14 = .ok (.getfield 42, 3) := by decide +kernel
theorem dX3_wordOf_17 : decode cX3_wordOf 17 = .ok (.getfield 54, 3) := by decide +kernel
theorem dX3_wordOf_20 : decode cX3_wordOf 20 = .ok (.iload_n 2, 1) := by decide +kernel
theorem dX3_wordOf_21 : decode cX3_wordOf 21 = .ok (.iaload, 1) := by decide +kernel
theorem dX3_wordOf_22 : decode cX3_wordOf 22 = .ok (.istore_n 3, 1) := by decide +kernel
theorem dX3_wordOf_23 : decode cX3_wordOf 23 = .ok (.iload_n 1, 1) := by decide +kernel
theorem dX3_wordOf_24 : decode cX3_wordOf 24 = .ok (.tableswitch 99 0 5 #[40, 42, 52, 62, 71, 81], 40) := by decide +kernel
theorem dX3_wordOf_64 : decode cX3_wordOf 64 = .ok (.iload_n 3, 1) := by decide +kernel
theorem dX3_wordOf_65 : decode cX3_wordOf 65 = .ok (.ireturn, 1) := by decide +kernel
theorem dX3_wordOf_66 : decode cX3_wordOf 66 = .ok (.aload_n 0, 1) := by decide +kernel
theorem dX3_wordOf_67 : decode cX3_wordOf 67 = .ok (.getfield 42, 3) := by decide +kernel
theorem dX3_wordOf_70 : decode cX3_wordOf 70 = .ok (.getfield 75, 3) := by decide +kernel
theorem dX3_wordOf_73 : decode cX3_wordOf 73 = .ok (.iload_n 2, 1) := by decide +kernel
theorem dX3_wordOf_74 : decode cX3_wordOf 74 = .ok (.iaload, 1) := by decide +kernel
theorem dX3_wordOf_75 : decode cX3_wordOf 75 = .ok (.ireturn, 1) := by decide +kernel
theorem dX3_wordOf_76 : decode cX3_wordOf 76 = .ok (.aload_n 0, 1) := by decide +kernel
theorem dX3_wordOf_77 : decode cX3_wordOf 77 = .ok (.getfield 42, 3) := by decide +kernel
theorem dX3_wordOf_80 : decode cX3_wordOf 80 = .ok (.getfield 119, 3) := by decide +kernel
theorem dX3_wordOf_83 : decode cX3_wordOf 83 = .ok (.iload_n 2, 1) := by decide +kernel
theorem dX3_wordOf_84 : decode cX3_wordOf 84 = .ok (.iaload, 1) := by decide +kernel
theorem dX3_wordOf_85 : decode cX3_wordOf 85 = .ok (.ireturn, 1) := by decide +kernel
theorem dX3_wordOf_86 : decode cX3_wordOf 86 = .ok (.aload_n 0, 1) := by decide +kernel
theorem dX3_wordOf_87 : decode cX3_wordOf 87 = .ok (.getfield 32, 3) := by decide +kernel
theorem dX3_wordOf_90 : decode cX3_wordOf 90 = .ok (.iload_n 2, 1) := by decide +kernel
theorem dX3_wordOf_91 : decode cX3_wordOf 91 = .ok (.invokevirtual 65, 3) := by decide +kernel
theorem dX3_wordOf_94 : decode cX3_wordOf 94 = .ok (.ireturn, 1) := by decide +kernel
theorem dX3_wordOf_95 : decode cX3_wordOf 95 = .ok (.aload_n 0, 1) := by decide +kernel
theorem dX3_wordOf_96 : decode cX3_wordOf 96 = .ok (.getfield 42, 3) := by decide +kernel
theorem dX3_wordOf_99 : decode cX3_wordOf 99 = .ok (.getfield 72, 3) := by decide +kernel
theorem dX3_wordOf_102 : decode cX3_wordOf 102 = .ok (.iload_n 2, 1) := by decide +kernel
theorem dX3_wordOf_103 : decode cX3_wordOf 103 = .ok (.iaload, 1) := by decide +kernel
theorem dX3_wordOf_104 : decode cX3_wordOf 104 = .ok (.ireturn, 1) := by decide +kernel
theorem dX3_wordOf_105 : decode cX3_wordOf 105 = .ok (.aload_n 0, 1) := by decide +kernel
theorem dX3_wordOf_106 : decode cX3_wordOf 106 = .ok (.getfield 32, 3) := by decide +kernel
theorem dX3_wordOf_109 : decode cX3_wordOf 109 = .ok (.getfield 122, 3) := by decide +kernel
theorem dX3_wordOf_112 : decode cX3_wordOf 112 = .ok (.aload_n 0, 1) := by decide +kernel
theorem dX3_wordOf_113 : decode cX3_wordOf 113 = .ok (.getfield 42, 3) := by decide +kernel
theorem dX3_wordOf_116 : decode cX3_wordOf 116 = .ok (.getfield 125, 3) := by decide +kernel
theorem dX3_wordOf_119 : decode cX3_wordOf 119 = .ok (.iload_n 2, 1) := by decide +kernel
theorem dX3_wordOf_120 : decode cX3_wordOf 120 = .ok (.iaload, 1) := by decide +kernel
theorem dX3_wordOf_121 : decode cX3_wordOf 121 = .ok (.isub, 1) := by decide +kernel
theorem dX3_wordOf_122 : decode cX3_wordOf 122 = .ok (.ireturn, 1) := by decide +kernel
theorem dX3_wordOf_123 : decode cX3_wordOf 123 = .ok (.iload_n 3, 1) := by decide +kernel
theorem dX3_wordOf_124 : decode cX3_wordOf 124 = .ok (.invokestatic 57, 3) := by decide +kernel
theorem dX3_wordOf_127 : decode cX3_wordOf 127 = .ok (.ifCond .eq 12, 3) := by decide +kernel
theorem dX3_wordOf_130 : decode cX3_wordOf 130 = .ok (.aload_n 0, 1) := by decide +kernel
theorem dX3_wordOf_131 : decode cX3_wordOf 131 = .ok (.getfield 22, 3) := by decide +kernel
theorem dX3_wordOf_134 : decode cX3_wordOf 134 = .ok (.iload_n 3, 1) := by decide +kernel
theorem dX3_wordOf_135 : decode cX3_wordOf 135 = .ok (.iaload, 1) := by decide +kernel
theorem dX3_wordOf_136 : decode cX3_wordOf 136 = .ok (.goto 4, 3) := by decide +kernel
theorem dX3_wordOf_139 : decode cX3_wordOf 139 = .ok (.iconst 0, 1) := by decide +kernel
theorem dX3_wordOf_140 : decode cX3_wordOf 140 = .ok (.ireturn, 1) := by decide +kernel
theorem dX3_push_0 : decode cX3_push 0 = .ok (.aload_n 0, 1) := by decide +kernel
theorem dX3_push_1 : decode cX3_push 1 = .ok (.getfield 28, 3) := by decide +kernel
theorem dX3_push_4 : decode cX3_push 4 = .ok (.ifCond .lt 32, 3) := by decide +kernel
theorem dX3_push_7 : decode cX3_push 7 = .ok (.aload_n 0, 1) := by decide +kernel
theorem dX3_push_8 : decode cX3_push 8 = .ok (.getfield 28, 3) := by decide +kernel
theorem dX3_push_11 : decode cX3_push 11 = .ok (.bipush 64, 2) := by decide +kernel
theorem dX3_push_13 : decode cX3_push 13 = .ok (.if_icmp .ge 23, 3) := by decide +kernel
theorem dX3_push_16 : decode cX3_push 16 = .ok (.aload_n 0, 1) := by decide +kernel
theorem dX3_push_17 : decode cX3_push 17 = .ok (.getfield 25, 3) := by decide +kernel
theorem dX3_push_20 : decode cX3_push 20 = .ok (.aload_n 0, 1) := by decide +kernel
theorem dX3_push_21 : decode cX3_push 21 = .ok (.getfield 28, 3) := by decide +kernel
theorem dX3_push_24 : decode cX3_push 24 = .ok (.iload_n 1, 1) := by decide +kernel
theorem dX3_push_25 : decode cX3_push 25 = .ok (.iastore, 1) := by decide +kernel
theorem dX3_push_26 : decode cX3_push 26 = .ok (.aload_n 0, 1) := by decide +kernel
theorem dX3_push_27 : decode cX3_push 27 = .ok (.dup, 1) := by decide +kernel
theorem dX3_push_28 : decode cX3_push 28 = .ok (.getfield 28, 3) := by decide +kernel
theorem dX3_push_31 : decode cX3_push 31 = .ok (.iconst 1, 1) := by decide +kernel
theorem dX3_push_32 : decode cX3_push 32 = .ok (.iadd, 1) := by decide +kernel
theorem dX3_push_33 : decode cX3_push 33 = .ok (.putfield 28, 3) := by decide +kernel
theorem dX3_push_36 : decode cX3_push 36 = .ok (.return_, 1) := by decide +kernel
theorem dX3_top_0 : decode cX3_top 0 = .ok (.aload_n 0, 1) := by decide +kernel
theorem dX3_top_1 : decode cX3_top 1 = .ok (.getfield 28, 3) := by decide +kernel
theorem dX3_top_4 : decode cX3_top 4 = .ok (.ifCond .le 26, 3) := by decide +kernel
theorem dX3_top_7 : decode cX3_top 7 = .ok (.aload_n 0, 1) := by decide +kernel
theorem dX3_top_8 : decode cX3_top 8 = .ok (.getfield 28, 3) := by decide +kernel
theorem dX3_top_11 : decode cX3_top 11 = .ok (.bipush 64, 2) := by decide +kernel
theorem dX3_top_13 : decode cX3_top 13 = .ok (.if_icmp .gt 17, 3) := by decide +kernel
theorem dX3_top_16 : decode cX3_top 16 = .ok (.aload_n 0, 1) := by decide +kernel
theorem dX3_top_17 : decode cX3_top 17 = .ok (.getfield 25, 3) := by decide +kernel
theorem dX3_top_20 : decode cX3_top 20 = .ok (.aload_n 0, 1) := by decide +kernel
theorem dX3_top_21 : decode cX3_top 21 = .ok (.getfield 28, 3) := by decide +kernel
theorem dX3_top_24 : decode cX3_top 24 = .ok (.iconst 1, 1) := by decide +kernel
theorem dX3_top_25 : decode cX3_top 25 = .ok (.isub, 1) := by decide +kernel
theorem dX3_top_26 : decode cX3_top 26 = .ok (.iaload, 1) := by decide +kernel
theorem dX3_top_27 : decode cX3_top 27 = .ok (.goto 4, 3) := by decide +kernel
theorem dX3_top_30 : decode cX3_top 30 = .ok (.iconst 0, 1) := by decide +kernel
theorem dX3_top_31 : decode cX3_top 31 = .ok (.ireturn, 1) := by decide +kernel
theorem dX3_pop_0 : decode cX3_pop 0 = .ok (.aload_n 0, 1) := by decide +kernel
theorem dX3_pop_1 : decode cX3_pop 1 = .ok (.getfield 28, 3) := by decide +kernel
theorem dX3_pop_4 : decode cX3_pop 4 = .ok (.ifCond .le 13, 3) := by decide +kernel
theorem dX3_pop_7 : decode cX3_pop 7 = .ok (.aload_n 0, 1) := by decide +kernel
theorem dX3_pop_8 : decode cX3_pop 8 = .ok (.dup, 1) := by decide +kernel
theorem dX3_pop_9 : decode cX3_pop 9 = .ok (.getfield 28, 3) := by decide +kernel
theorem dX3_pop_12 : decode cX3_pop 12 = .ok (.iconst 1, 1) := by decide +kernel
theorem dX3_pop_13 : decode cX3_pop 13 = .ok (.isub, 1) := by decide +kernel
theorem dX3_pop_14 : decode cX3_pop 14 = .ok (.putfield 28, 3) := by decide +kernel
theorem dX3_pop_17 : decode cX3_pop 17 = .ok (.return_, 1) := by decide +kernel
theorem dX4_init_0 : decode cX4_init 0 = .ok (.aload_n 0, 1) := by decide +kernel
theorem dX4_init_1 : decode cX4_init 1 = .ok (.invokespecial 3, 3) := by decide +kernel
theorem dX4_init_4 : decode cX4_init 4 = .ok (.aload_n 0, 1) := by decide +kernel
theorem dX4_init_5 : decode cX4_init 5 = .ok (.bipush 8, 2) := by decide +kernel
theorem dX4_init_7 : decode cX4_init 7 = .ok (.newarray .int, 2) := by decide +kernel
theorem dX4_init_9 : decode cX4_init 9 = .ok (.putfield 9, 3) := by decide +kernel
theorem dX4_init_12 : decode cX4_init 12 = .ok (.aload_n 0, 1) := by decide +kernel
theorem dX4_init_13 : decode cX4_init 13 = .ok (.sipush 256, 3) := by decide +kernel
theorem dX4_init_16 : decode cX4_init 16 = .ok (.newarray .int, 2) := by decide +kernel
theorem dX4_init_18 : decode cX4_init 18 = .ok (.putfield 15, 3) := by decide +kernel
theorem dX4_init_21 : decode cX4_init 21 = .ok (.aload_n 0, 1) := by decide +kernel
theorem dX4_init_22 : decode cX4_init 22 = .ok (.sipush 256, 3) := by decide +kernel
theorem dX4_init_25 : decode cX4_init 25 = .ok (.newarray .int, 2) := by decide +kernel
theorem dX4_init_27 : decode cX4_init 27 = .ok (.putfield 18, 3) := by decide +kernel
theorem dX4_init_30 : decode cX4_init 30 = .ok (.aload_n 0, 1) := by decide +kernel
theorem dX4_init_31 : decode cX4_init 31 = .ok (.iconst 0, 1) := by decide +kernel
theorem dX4_init_32 : decode cX4_init 32 = .ok (.putfield 21, 3) := by decide +kernel
theorem dX4_init_35 : decode cX4_init 35 = .ok (.aload_n 0, 1) := by decide +kernel
theorem dX4_init_36 : decode cX4_init 36 = .ok (.aload_n 1, 1) := by decide +kernel
theorem dX4_init_37 : decode cX4_init 37 = .ok (.getfield 25, 3) := by decide +kernel
theorem dX4_init_40 : decode cX4_init 40 = .ok (.putfield 31, 3) := by decide +kernel
theorem dX4_init_43 : decode cX4_init 43 = .ok (.aload_n 0, 1) := by decide +kernel
theorem dX4_init_44 : decode cX4_init 44 = .ok (.aload_n 2, 1) := by decide +kernel
theorem dX4_init_45 : decode cX4_init 45 = .ok (.putfield 32, 3) := by decide +kernel
theorem dX4_init_48 : decode cX4_init 48 = .ok (.return_, 1) := by decide +kernel
theorem dX4_addUp_0 : decode cX4_addUp 0 = .ok (.aload_n 0, 1) := by decide +kernel
theorem dX4_addUp_1 : decode cX4_addUp 1 = .ok (.getfield 32, 3) := by decide +kernel
theorem dX4_addUp_4 : decode cX4_addUp 4 = .ok (.invokevirtual 36, 3) := by decide +kernel
theorem dX4_addUp_7 : decode cX4_addUp 7 = .ok (.aload_n 0, 1) := by decide +kernel
theorem dX4_addUp_8 : decode cX4_addUp 8 = .ok (.getfield 9, 3) := by decide +kernel
theorem dX4_addUp_11 : decode cX4_addUp 11 = .ok (.iconst 0, 1) := by decide +kernel
theorem dX4_addUp_12 : decode cX4_addUp 12 = .ok (.invokestatic 41, 3) := by decide +kernel
theorem dX4_addUp_15 : decode cX4_addUp 15 = .ok (.aload_n 0, 1) := by decide +kernel
theorem dX4_addUp_16 : decode cX4_addUp 16 = .ok (.iconst 0, 1) := by decide +kernel
theorem dX4_addUp_17 : decode cX4_addUp 17 = .ok (.putfield 21, 3) := by decide +kernel
theorem dX4_addUp_20 : decode cX4_addUp 20 = .ok (.iconst 0, 1) := by decide +kernel
theorem dX4_addUp_21 : decode cX4_addUp 21 = .ok (.istore_n 2, 1) := by decide +kernel
theorem dX4_addUp_22 : decode cX4_addUp 22 = .ok (.iload_n 2, 1) := by decide +kernel
theorem dX4_addUp_23 : decode cX4_addUp 23 = .ok (.aload_n 0, 1) := by decide +kernel
theorem dX4_addUp_24 : decode cX4_addUp 24 = .ok (.getfield 31, 3) := by decide +kernel
theorem dX4_addUp_27 : decode cX4_addUp 27 = .ok (.getfield 47, 3) := by decide +kernel
theorem dX4_addUp_30 : decode cX4_addUp 30 = .ok (.if_icmp .ge 89, 3) := by decide +kernel
theorem dX4_addUp_33 : decode cX4_addUp 33 = .ok (.iload_n 2, 1) := by decide +kernel
theorem dX4_addUp_34 : decode cX4_addUp 34 = .ok (.bipush 16, 2) := by decide +kernel
theorem dX4_addUp_36 : decode cX4_addUp 36 = .ok (.if_icmp .ge 83, 3) := by decide +kernel
theorem dX4_addUp_39 : decode cX4_addUp 39 = .ok (.aload_n 0, 1) := by decide +kernel
theorem dX4_addUp_40 : decode cX4_addUp 40 = .ok (.getfield 31, 3) := by decide +kernel
theorem dX4_addUp_43 : decode cX4_addUp 43 = .ok (.getfield 52, 3) := by decide +kernel
theorem dX4_addUp_46 : decode cX4_addUp 46 = .ok (.iload_n 2, 1) := by decide +kernel
theorem dX4_addUp_47 : decode cX4_addUp 47 = .ok (.iaload, 1) := by decide +kernel
theorem dX4_addUp_48 : decode cX4_addUp 48 = .ok (.iload_n 1, 1) := by decide +kernel
theorem dX4_addUp_49 : decode cX4_addUp 49 = .ok (.if_icmp .ne 64, 3) := by decide +kernel
theorem dX4_addUp_52 : decode cX4_addUp 52 = .ok (.aload_n 0, 1) := by decide +kernel
theorem dX4_addUp_53 : decode cX4_addUp 53 = .ok (.getfield 32, 3) := by decide +kernel
theorem dX4_addUp_56 : decode cX4_addUp 56 = .ok (.getfield 55, 3) := by decide +kernel
theorem dX4_addUp_59 : decode cX4_addUp 59 = .ok (.iload_n 2, 1) := by decide +kernel
theorem dX4_addUp_60 : decode cX4_addUp 60 = .ok (.baload, 1) := by decide +kernel
theorem dX4_addUp_61 : decode cX4_addUp 61 = .ok (.ifCond .ne 52, 3) := by decide +kernel
theorem dX4_addUp_64 : decode cX4_addUp 64 = .ok (.aload_n 0, 1) := by decide +kernel
theorem dX4_addUp_65 : decode cX4_addUp 65 = .ok (.getfield 31, 3) := by decide +kernel
theorem dX4_addUp_68 : decode cX4_addUp 68 = .ok (.getfield 59, 3) := by decide +kernel
theorem dX4_addUp_71 : decode cX4_addUp 71 = .ok (.iload_n 2, 1) := by decide +kernel
theorem dX4_addUp_72 : decode cX4_addUp 72 = .ok (.iaload, 1) := by decide +kernel
theorem dX4_addUp_73 : decode cX4_addUp 73 = .ok (.istore_n 3, 1) := by decide +kernel
theorem dX4_addUp_74 : decode cX4_addUp 74 = .ok (.aload_n 0, 1) := by decide +kernel
theorem dX4_addUp_75 : decode cX4_addUp 75 = .ok (.dup, 1) := by decide +kernel
theorem dX4_addUp_76 : decode cX4_addUp 76 = .ok (.getfield 21, 3) := by decide +kernel
theorem dX4_addUp_79 : decode cX4_addUp 79 = .ok (.iload_n 3, 1) := by decide +kernel
theorem dX4_addUp_80 : decode cX4_addUp 80 = .ok (.iadd, 1) := by decide +kernel
theorem dX4_addUp_81 : decode cX4_addUp 81 = .ok (.putfield 21, 3) := by decide +kernel
theorem dX4_addUp_84 : decode cX4_addUp 84 = .ok (.aload_n 0, 1) := by decide +kernel
theorem dX4_addUp_85 : decode cX4_addUp 85 = .ok (.aload_n 0, 1) := by decide +kernel
theorem dX4_addUp_86 : decode cX4_addUp 86 = .ok (.getfield 31, 3) := by decide +kernel
theorem dX4_addUp_89 : decode cX4_addUp 89 = .ok (.getfield 62, 3) := by decide +kernel
theorem dX4_addUp_92 : decode cX4_addUp 92 = .ok (.iload_n 2, 1) := by decide +kernel
theorem dX4_addUp_93 : decode cX4_addUp 93 = .ok (.iaload, 1) := by decide +kernel
theorem dX4_addUp_94 : decode cX4_addUp 94 = .ok (.iload_n 3, 1) := by decide +kernel
theorem dX4_addUp_95 : decode cX4_addUp 95 = .ok (.invokevirtual 65, 3) := by decide +kernel
theorem dX4_addUp_98 : decode cX4_addUp 98 = .ok (.aload_n 0, 1) := by decide +kernel
theorem dX4_addUp_99 : decode cX4_addUp 99 = .ok (.aload_n 0, 1) := by decide +kernel
theorem dX4_addUp_100 : decode cX4_addUp 100 = .ok (.getfield 31, 3) := by decide +kernel
theorem dX4_addUp_103 : decode cX4_addUp 103 = .ok (.getfield 69, 3) := by decide +kernel
theorem dX4_addUp_106 : decode cX4_addUp 106 = .ok (.iload_n 2, 1) := by decide +kernel
theorem dX4_addUp_107 : decode cX4_addUp 107 = .ok (.iaload, 1) := by decide +kernel
theorem dX4_addUp_108 : decode cX4_addUp 108 = .ok (.iload_n 3, 1) := by decide +kernel
theorem dX4_addUp_109 : decode cX4_addUp 109 = .ok (.ineg, 1) := by decide +kernel
theorem dX4_addUp_110 : decode cX4_addUp 110 = .ok (.invokevirtual 65, 3) := by decide +kernel
theorem dX4_addUp_113 : decode cX4_addUp 113 = .ok (.iinc 2 1, 3) := by decide +kernel
theorem dX4_addUp_116 : decode cX4_addUp 116 = .ok (.goto (-94), 3) := by decide +kernel
theorem dX4_addUp_119 : decode cX4_addUp 119 = .ok (.return_, 1) := by decide +kernel
theorem dX4_change_0 : decode cX4_change 0 = .ok (.iload_n 1, 1) := by decide +kernel
theorem dX4_change_1 : decode cX4_change 1 = .ok (.invokestatic 72, 3) := by decide +kernel
theorem dX4_change_4 : decode cX4_change 4 = .ok (.ifCond .eq 13, 3) := by decide +kernel
theorem dX4_change_7 : decode cX4_change 7 = .ok (.aload_n 0, 1) := by decide +kernel
theorem dX4_change_8 : decode cX4_change 8 = .ok (.getfield 9, 3) := by decide +kernel
theorem dX4_change_11 : decode cX4_change 11 = .ok (.iload_n 1, 1) := by decide +kernel
theorem dX4_change_12 : decode cX4_change 12 = .ok (.dup2, 1) := by decide +kernel
theorem dX4_change_13 : decode cX4_change 13 = .ok (.iaload, 1) := by decide +kernel
theorem dX4_change_14 : decode cX4_change 14 = .ok (.iload_n 2, 1) := by decide +kernel
theorem dX4_change_15 : decode cX4_change 15 = .ok (.iadd, 1) := by decide +kernel
theorem dX4_change_16 : decode cX4_change 16 = .ok (.iastore, 1) := by decide +kernel
theorem dX4_change_17 : decode cX4_change 17 = .ok (.return_, 1) := by decide +kernel
theorem dX4_least_0 : decode cX4_least 0 = .ok (.iconst 0, 1) := by decide +kernel
theorem dX4_least_1 : decode cX4_least 1 = .ok (.istore_n 1, 1) := by decide +kernel
theorem dX4_least_2 : decode cX4_least 2 = .ok (.aload_n 0, 1) := by decide +kernel
theorem dX4_least_3 : decode cX4_least 3 = .ok (.getfield 9, 3) := by decide +kernel
theorem dX4_least_6 : decode cX4_least 6 = .ok (.astore_n 2, 1) := by decide +kernel
theorem dX4_least_7 : decode cX4_least 7 = .ok (.aload_n 2, 1) := by decide +kernel
theorem dX4_least_8 : decode cX4_least 8 = .ok (.arraylength, 1) := by decide +kernel
theorem dX4_least_9 : decode cX4_least 9 = .ok (.istore_n 3, 1) := by decide +kernel
theorem dX4_least_10 : decode cX4_least 10 = .ok (.iconst 0, 1) := by decide +kernel
theorem dX4_least_11 : decode cX4_least 11 = .ok (.istore 4, 2) := by decide +kernel
theorem dX4_least_13 : decode cX4_least 13 = .ok (.iload 4, 2) := by decide +kernel
theorem dX4_least_15 : decode cX4_least 15 = .ok (.iload_n 3, 1) := by decide +kernel
theorem dX4_least_16 : decode cX4_least 16 = .ok (.if_icmp .ge 24, 3) := by decide +kernel
theorem dX4_least_19 : decode cX4_least 19 = .ok (.aload_n 2, 1) := by decide +kernel
theorem dX4_least_20 : decode cX4_least 20 = .ok (.iload 4, 2) := by decide +kernel
theorem dX4_least_22 : decode cX4_least 22 = .ok (.iaload, 1) := by decide +kernel
theorem dX4_least_23 : decode cX4_least 23 = .ok (.istore 5, 2) := by decide +kernel
theorem dX4_least_25 : decode cX4_least 25 = .ok (.iload_n 1, 1) := by decide +kernel
theorem dX4_least_26 : decode cX4_least 26 = .ok (.iconst 0, 1) := by decide +kernel
theorem dX4_least_27 : decode cX4_least 27 = .ok (.iload 5, 2) := by decide +kernel
theorem dX4_least_29 : decode cX4_least 29 = .ok (.invokestatic 76, 3) := by decide +kernel
theorem dX4_least_32 : decode cX4_least 32 = .ok (.iadd, 1) := by decide +kernel
theorem dX4_least_33 : decode cX4_least 33 = .ok (.istore_n 1, 1) := by decide +kernel
theorem dX4_least_34 : decode cX4_least 34 = .ok (.iinc 4 1, 3) := by decide +kernel
theorem dX4_least_37 : decode cX4_least 37 = .ok (.goto (-24), 3) := by decide +kernel
theorem dX4_least_40 : decode cX4_least 40 = .ok (.iload_n 1, 1) := by decide +kernel
theorem dX4_least_41 : decode cX4_least 41 = .ok (.ireturn, 1) := by decide +kernel
theorem dX4_fewestPayments_0 : decode cX4_fewestPayments 0 = .ok (.iconst 0, 1) := by decide +kernel
theorem dX4_fewestPayments_1 : decode cX4_fewestPayments 1 = .ok (.istore_n 1, 1) := by decide +kernel
theorem dX4_fewestPayments_2 : decode cX4_fewestPayments 2 = .ok (.iconst 0, 1) := by decide +kernel
theorem dX4_fewestPayments_3 : decode cX4_fewestPayments 3 = .ok (.istore_n 2, 1) := by decide +kernel
theorem dX4_fewestPayments_4 : decode cX4_fewestPayments 4 = .ok (.iload_n 2, 1) := by decide +kernel
theorem dX4_fewestPayments_5 : decode cX4_fewestPayments 5 = .ok (.bipush 8, 2) := by decide +kernel
theorem dX4_fewestPayments_7 : decode cX4_fewestPayments 7 = .ok (.if_icmp .ge 24, 3) := by decide +kernel
theorem dX4_fewestPayments_10 : decode cX4_fewestPayments 10 = .ok (.aload_n 0, 1) := by decide +kernel
theorem dX4_fewestPayments_11 : decode cX4_fewestPayments 11 = .ok (.getfield 9, 3) := by decide +kernel
theorem dX4_fewestPayments_14 : decode cX4_fewestPayments 14 = .ok (.iload_n 2, 1) := by decide +kernel
theorem dX4_fewestPayments_15 : decode cX4_fewestPayments 15 = .ok (.iaload, 1) := by decide +kernel
theorem dX4_fewestPayments_16 : decode cX4_fewestPayments 16 = .ok (.ifCond .eq 9, 3) := by decide +kernel
theorem dX4_fewestPayments_19 : decode cX4_fewestPayments 19 = .ok (.iload_n 1, 1) := by decide +kernel
theorem dX4_fewestPayments_20 : decode cX4_fewestPayments 20 = .ok (.iconst 1, 1) := by decide +kernel
theorem dX4_fewestPayments_21 : decode cX4_fewestPayments 21 = .ok (.iload_n 2, 1) := by decide +kernel
theorem dX4_fewestPayments_22 : decode cX4_fewestPayments 22 = .ok (.ishl, 1) := by decide +kernel
theorem dX4_fewestPayments_23 : decode cX4_fewestPayments 23 = .ok (.ior, 1) := by decide +kernel
theorem dX4_fewestPayments_24 : decode cX4_fewestPayments 24 = .ok (.istore_n 1, 1) := by decide +kernel
theorem dX4_fewestPayments_25 : decode cX4_fewestPayments 25 = .ok (.iinc 2 1, 3) := by decide +kernel
theorem dX4_fewestPayments_28 : decode cX4_fewestPayments 28 = .ok (.goto (-24), 3) := by decide +kernel
theorem dX4_fewestPayments_31 : decode cX4_fewestPayments 31 = .ok (.aload_n 0, 1) := by decide +kernel
theorem dX4_fewestPayments_32 : decode cX4_fewestPayments 32 = .ok (.getfield 15, 3) := by decide +kernel
theorem dX4_fewestPayments_35 : decode cX4_fewestPayments 35 = .ok (.iconst 0, 1) := by decide +kernel
theorem dX4_fewestPayments_36 : decode cX4_fewestPayments 36 = .ok (.iconst 0, 1) := by decide +kernel
theorem dX4_fewestPayments_37 : decode cX4_fewestPayments 37 = .ok (.iastore, 1) := by decide +kernel
theorem dX4_fewestPayments_38 : decode cX4_fewestPayments 38 = .ok (.aload_n 0, 1) := by decide +kernel
theorem dX4_fewestPayments_39 : decode cX4_fewestPayments 39 = .ok (.getfield 18, 3) := by decide +kernel
theorem dX4_fewestPayments_42 : decode cX4_fewestPayments 42 = .ok (.iconst 0, 1) := by decide +kernel
theorem dX4_fewestPayments_43 : decode cX4_fewestPayments 43 = .ok (.iconst 0, 1) := by decide +kernel
theorem dX4_fewestPayments_44 : decode cX4_fewestPayments 44 = .ok (.iastore, 1) := by decide +kernel
theorem dX4_fewestPayments_45 : decode cX4_fewestPayments 45 = .ok (.iconst 1, 1) := by decide +kernel
theorem dX4_fewestPayments_46 : decode cX4_fewestPayments 46 = .ok (.istore_n 2, 1) := by decide +kernel
theorem dX4_fewestPayments_47 : decode cX4_fewestPayments 47 = .ok (.iload_n 2, 1) := by decide +kernel
theorem dX4_fewestPayments_48 : decode cX4_fewestPayments 48 = .ok (.iload_n 1, 1) := by decide +kernel
theorem dX4_fewestPayments_49 : decode cX4_fewestPayments 49 = .ok (.if_icmp .gt 30, 3) := by decide +kernel
theorem dX4_fewestPayments_52 : decode cX4_fewestPayments 52 = .ok (.iload_n 2, 1) := by decide +kernel
theorem dX4_fewestPayments_53 : decode cX4_fewestPayments 53 = .ok (.aload_n 0, 1) := by decide +kernel
theorem dX4_fewestPayments_54 : decode cX4_fewestPayments 54 = .ok (.getfield 15, 3) := by decide +kernel
theorem dX4_fewestPayments_57 : decode cX4_fewestPayments 57 = .ok (.arraylength, 1) := by decide +kernel
theorem dX4_fewestPayments_58 : decode cX4_fewestPayments 58 = .ok (.if_icmp .ge 21, 3) := by decide +kernel
theorem dX4_fewestPayments_61 : decode cX4_fewestPayments 61 = .ok (.iload_n 2, 1) := by decide +kernel
theorem dX4_fewestPayments_62 : decode cX4_fewestPayments 62 = .ok (.iload_n 1, 1) := by decide +kernel
theorem dX4_fewestPayments_63 : decode cX4_fewestPayments 63 = .ok (.iand, 1) := by decide +kernel
theorem dX4_fewestPayments_64 : decode cX4_fewestPayments 64 = .ok (.iload_n 2, 1) := by decide +kernel
theorem dX4_fewestPayments_65 : decode cX4_fewestPayments 65 = .ok (.if_icmp .ne 8, 3) := by decide +kernel
theorem dX4_fewestPayments_68 : decode cX4_fewestPayments 68 = .ok (.aload_n 0, 1) := by decide +kernel
theorem dX4_fewestPayments_69 : decode cX4_fewestPayments 69 = .ok (.iload_n 2, 1) := by decide +kernel
theorem dX4_fewestPayments_70 : decode cX4_fewestPayments 70 = .ok (.invokevirtual 82, 3) := by decide +kernel
theorem dX4_fewestPayments_73 : decode cX4_fewestPayments 73 = .ok (.iinc 2 1, 3) := by decide +kernel
theorem dX4_fewestPayments_76 : decode cX4_fewestPayments 76 = .ok (.goto (-29), 3) := by decide +kernel
theorem dX4_fewestPayments_79 : decode cX4_fewestPayments 79 = .ok (.iload_n 1, 1) := by decide +kernel
theorem dX4_fewestPayments_80 : decode cX4_fewestPayments 80 = .ok (.invokestatic 86, 3) := by decide +kernel
theorem dX4_fewestPayments_83 : decode cX4_fewestPayments 83 = .ok (.aload_n 0, 1) := by decide +kernel
theorem dX4_fewestPayments_84 : decode cX4_fewestPayments 84 = .ok (.getfield 18, 3) := by decide +kernel
theorem dX4_fewestPayments_87 : decode cX4_fewestPayments 87 = .ok (.iload_n 1, 1) := by decide +kernel
theorem dX4_fewestPayments_88 : decode cX4_fewestPayments 88 = .ok (.iaload, 1) := by decide +kernel
theorem dX4_fewestPayments_89 : decode cX4_fewestPayments 89 = .ok (.isub, 1) := by decide +kernel
theorem dX4_fewestPayments_90 : decode cX4_fewestPayments 90 = .ok (.ireturn, 1) := by decide +kernel
theorem dX4_group_0 : decode cX4_group 0 = .ok (.iconst 0, 1) := by decide +kernel
theorem dX4_group_1 : decode cX4_group 1 = .ok (.istore_n 2, 1) := by decide +kernel
theorem dX4_group_2 : decode cX4_group 2 = .ok (.iconst 0, 1) := by decide +kernel
theorem dX4_group_3 : decode cX4_group 3 = .ok (.istore_n 3, 1) := by decide +kernel
theorem dX4_group_4 : decode cX4_group 4 = .ok (.iconst 0, 1) := by decide +kernel
theorem dX4_group_5 : decode cX4_group 5 = .ok (.istore 4, 2) := by decide +kernel
theorem dX4_group_7 : decode cX4_group 7 = .ok (.iload 4, 2) := by decide +kernel
theorem dX4_group_9 : decode cX4_group 9 = .ok (.bipush 8, 2) := by decide +kernel
theorem dX4_group_11 : decode cX4_group 11 = .ok (.if_icmp .ge 53, 3) := by decide +kernel
theorem dX4_group_14 : decode cX4_group 14 = .ok (.iload_n 1, 1) := by decide +kernel
theorem dX4_group_15 : decode cX4_group 15 = .ok (.iconst 1, 1) := by decide +kernel
theorem dX4_group_16 : decode cX4_group 16 = .ok (.iload 4, 2) := by decide +kernel
theorem dX4_group_18 : decode cX4_group 18 = .ok (.ishl, 1) := by decide +kernel
theorem dX4_group_19 : decode cX4_group 19 = .ok (.iconst (-1), 1) := by decide +kernel
theorem dX4_group_20 : decode cX4_group 20 = .ok (.ixor, 1) := by decide +kernel
theorem dX4_group_21 : decode cX4_group 21 = .ok (.iand, 1) := by decide +kernel
theorem dX4_group_22 : decode cX4_group 22 = .ok (.istore 5, 2) := by decide +kernel
theorem dX4_group_24 : decode cX4_group 24 = .ok (.iload 5, 2) := by decide +kernel
theorem dX4_group_26 : decode cX4_group 26 = .ok (.iload_n 1, 1) := by decide +kernel
theorem dX4_group_27 : decode cX4_group 27 = .ok (.if_icmp .eq 31, 3) := by decide +kernel
theorem dX4_group_30 : decode cX4_group 30 = .ok (.iload_n 2, 1) := by decide +kernel
theorem dX4_group_31 : decode cX4_group 31 = .ok (.aload_n 0, 1) := by decide +kernel
theorem dX4_group_32 : decode cX4_group 32 = .ok (.getfield 18, 3) := by decide +kernel
theorem dX4_group_35 : decode cX4_group 35 = .ok (.iload 5, 2) := by decide +kernel
theorem dX4_group_37 : decode cX4_group 37 = .ok (.iaload, 1) := by decide +kernel
theorem dX4_group_38 : decode cX4_group 38 = .ok (.invokestatic 76, 3) := by decide +kernel
theorem dX4_group_41 : decode cX4_group 41 = .ok (.istore_n 2, 1) := by decide +kernel
theorem dX4_group_42 : decode cX4_group 42 = .ok (.aload_n 0, 1) := by decide +kernel
theorem dX4_group_43 : decode cX4_group 43 = .ok (.getfield 15, 3) := by decide +kernel
theorem dX4_group_46 : decode cX4_group 46 = .ok (.iload 5, 2) := by decide +kernel
theorem dX4_group_48 : decode cX4_group 48 = .ok (.iaload, 1) := by decide +kernel
theorem dX4_group_49 : decode cX4_group 49 = .ok (.aload_n 0, 1) := by decide +kernel
theorem dX4_group_50 : decode cX4_group 50 = .ok (.getfield 9, 3) := by decide +kernel
theorem dX4_group_53 : decode cX4_group 53 = .ok (.iload 4, 2) := by decide +kernel
theorem dX4_group_55 : decode cX4_group 55 = .ok (.iaload, 1) := by decide +kernel
theorem dX4_group_56 : decode cX4_group 56 = .ok (.iadd, 1) := by decide +kernel
theorem dX4_group_57 : decode cX4_group 57 = .ok (.istore_n 3, 1) := by decide +kernel
theorem dX4_group_58 : decode cX4_group 58 = .ok (.iinc 4 1, 3) := by decide +kernel
theorem dX4_group_61 : decode cX4_group 61 = .ok (.goto (-54), 3) := by decide +kernel
theorem dX4_group_64 : decode cX4_group 64 = .ok (.aload_n 0, 1) := by decide +kernel
theorem dX4_group_65 : decode cX4_group 65 = .ok (.getfield 15, 3) := by decide +kernel
theorem dX4_group_68 : decode cX4_group 68 = .ok (.iload_n 1, 1) := by decide +kernel
theorem dX4_group_69 : decode cX4_group 69 = .ok (.iload_n 3, 1) := by decide +kernel
theorem dX4_group_70 : decode cX4_group 70 = .ok (.iastore, 1) := by decide +kernel
theorem dX4_group_71 : decode cX4_group 71 = .ok (.aload_n 0, 1) := by decide +kernel
theorem dX4_group_72 : decode cX4_group 72 = .ok (.getfield 18, 3) := by decide +kernel
theorem dX4_group_75 : decode cX4_group 75 = .ok (.iload_n 1, 1) := by decide +kernel
theorem dX4_group_76 : decode cX4_group 76 = .ok (.iload_n 3, 1) := by decide +kernel
theorem dX4_group_77 : decode cX4_group 77 = .ok (.ifCond .ne 9, 3) := by decide +kernel
theorem dX4_group_80 : decode cX4_group 80 = .ok (.iload_n 2, 1) := by decide +kernel
theorem dX4_group_81 : decode cX4_group 81 = .ok (.iconst 1, 1) := by decide +kernel
theorem dX4_group_82 : decode cX4_group 82 = .ok (.iadd, 1) := by decide +kernel
theorem dX4_group_83 : decode cX4_group 83 = .ok (.goto 4, 3) := by decide +kernel
theorem dX4_group_86 : decode cX4_group 86 = .ok (.iload_n 2, 1) := by decide +kernel
theorem dX4_group_87 : decode cX4_group 87 = .ok (.iastore, 1) := by decide +kernel
theorem dX4_group_88 : decode cX4_group 88 = .ok (.return_, 1) := by decide +kernel
theorem dX5_init_0 : decode cX5_init 0 = .ok (.aload_n 0, 1) := by decide +kernel
theorem dX5_init_1 : decode cX5_init 1 = .ok (.invokespecial 3, 3) := by decide +kernel
theorem dX5_init_4 : decode cX5_init 4 = .ok (.aload_n 0, 1) := by decide +kernel
theorem dX5_init_5 : decode cX5_init 5 = .ok (.bipush 10, 2) := by decide +kernel
theorem dX5_init_7 : decode cX5_init 7 = .ok (.newarray .int, 2) := by decide +kernel
theorem dX5_init_9 : decode cX5_init 9 = .ok (.putfield 9, 3) := by decide +kernel
theorem dX5_init_12 : decode cX5_init 12 = .ok (.aload_n 0, 1) := by decide +kernel
theorem dX5_init_13 : decode cX5_init 13 = .ok (.sipush 1024, 3) := by decide +kernel
theorem dX5_init_16 : decode cX5_init 16 = .ok (.newarray .int, 2) := by decide +kernel
theorem dX5_init_18 : decode cX5_init 18 = .ok (.putfield 15, 3) := by decide +kernel
theorem dX5_init_21 : decode cX5_init 21 = .ok (.aload_n 0, 1) := by decide +kernel
theorem dX5_init_22 : decode cX5_init 22 = .ok (.iconst 0, 1) := by decide +kernel
theorem dX5_init_23 : decode cX5_init 23 = .ok (.putfield 18, 3) := by decide +kernel
theorem dX5_init_26 : decode cX5_init 26 = .ok (.aload_n 0, 1) := by decide +kernel
theorem dX5_init_27 : decode cX5_init 27 = .ok (.aload_n 1, 1) := by decide +kernel
theorem dX5_init_28 : decode cX5_init 28 = .ok (.putfield 22, 3) := by decide +kernel
theorem dX5_init_31 : decode cX5_init 31 = .ok (.return_, 1) := by decide +kernel
theorem dX5_find_0 : decode cX5_find 0 = .ok (.aload_n 0, 1) := by decide +kernel
theorem dX5_find_1 : decode cX5_find 1 = .ok (.invokevirtual 26, 3) := by decide +kernel
theorem dX5_find_4 : decode cX5_find 4 = .ok (.aload_n 0, 1) := by decide +kernel
theorem dX5_find_5 : decode cX5_find 5 = .ok (.iconst 0, 1) := by decide +kernel
theorem dX5_find_6 : decode cX5_find 6 = .ok (.putfield 18, 3) := by decide +kernel
theorem dX5_find_9 : decode cX5_find 9 = .ok (.iconst 0, 1) := by decide +kernel
theorem dX5_find_10 : decode cX5_find 10 = .ok (.istore_n 2, 1) := by decide +kernel
theorem dX5_find_11 : decode cX5_find 11 = .ok (.iload_n 2, 1) := by decide +kernel
theorem dX5_find_12 : decode cX5_find 12 = .ok (.aload_n 0, 1) := by decide +kernel
theorem dX5_find_13 : decode cX5_find 13 = .ok (.getfield 22, 3) := by decide +kernel
theorem dX5_find_16 : decode cX5_find 16 = .ok (.getfield 29, 3) := by decide +kernel
theorem dX5_find_19 : decode cX5_find 19 = .ok (.if_icmp .ge 40, 3) := by decide +kernel
theorem dX5_find_22 : decode cX5_find 22 = .ok (.iload_n 2, 1) := by decide +kernel
theorem dX5_find_23 : decode cX5_find 23 = .ok (.bipush 10, 2) := by decide +kernel
theorem dX5_find_25 : decode cX5_find 25 = .ok (.if_icmp .ge 34, 3) := by decide +kernel
theorem dX5_find_28 : decode cX5_find 28 = .ok (.aload_n 0, 1) := by decide +kernel
theorem dX5_find_29 : decode cX5_find 29 = .ok (.getfield 22, 3) := by decide +kernel
theorem dX5_find_32 : decode cX5_find 32 = .ok (.getfield 34, 3) := by decide +kernel
theorem dX5_find_35 : decode cX5_find 35 = .ok (.iload_n 2, 1) := by decide +kernel
theorem dX5_find_36 : decode cX5_find 36 = .ok (.iaload, 1) := by decide +kernel
theorem dX5_find_37 : decode cX5_find 37 = .ok (.iload_n 1, 1) := by decide +kernel
theorem dX5_find_38 : decode cX5_find 38 = .ok (.if_icmp .ne 15, 3) := by decide +kernel
theorem dX5_find_41 : decode cX5_find 41 = .ok (.aload_n 0, 1) := by decide +kernel
theorem dX5_find_42 : decode cX5_find 42 = .ok (.dup, 1) := by decide +kernel
theorem dX5_find_43 : decode cX5_find 43 = .ok (.getfield 18, 3) := by decide +kernel
theorem dX5_find_46 : decode cX5_find 46 = .ok (.iconst 1, 1) := by decide +kernel
theorem dX5_find_47 : decode cX5_find 47 = .ok (.iload_n 2, 1) := by decide +kernel
theorem dX5_find_48 : decode cX5_find 48 = .ok (.ishl, 1) := by decide +kernel
theorem dX5_find_49 : decode cX5_find 49 = .ok (.ior, 1) := by decide +kernel
theorem dX5_find_50 : decode cX5_find 50 = .ok (.putfield 18, 3) := by decide +kernel
theorem dX5_find_53 : decode cX5_find 53 = .ok (.iinc 2 1, 3) := by decide +kernel
theorem dX5_find_56 : decode cX5_find 56 = .ok (.goto (-45), 3) := by decide +kernel
theorem dX5_find_59 : decode cX5_find 59 = .ok (.aload_n 0, 1) := by decide +kernel
theorem dX5_find_60 : decode cX5_find 60 = .ok (.getfield 15, 3) := by decide +kernel
theorem dX5_find_63 : decode cX5_find 63 = .ok (.iconst 0, 1) := by decide +kernel
theorem dX5_find_64 : decode cX5_find 64 = .ok (.iconst 1, 1) := by decide +kernel
theorem dX5_find_65 : decode cX5_find 65 = .ok (.iastore, 1) := by decide +kernel
theorem dX5_find_66 : decode cX5_find 66 = .ok (.iconst 1, 1) := by decide +kernel
theorem dX5_find_67 : decode cX5_find 67 = .ok (.istore_n 2, 1) := by decide +kernel
theorem dX5_find_68 : decode cX5_find 68 = .ok (.iload_n 2, 1) := by decide +kernel
theorem dX5_find_69 : decode cX5_find 69 = .ok (.aload_n 0, 1) := by decide +kernel
theorem dX5_find_70 : decode cX5_find 70 = .ok (.getfield 18, 3) := by decide +kernel
theorem dX5_find_73 : decode cX5_find 73 = .ok (.if_icmp .gt 39, 3) := by decide +kernel
theorem dX5_find_76 : decode cX5_find 76 = .ok (.iload_n 2, 1) := by decide +kernel
theorem dX5_find_77 : decode cX5_find 77 = .ok (.aload_n 0, 1) := by decide +kernel
theorem dX5_find_78 : decode cX5_find 78 = .ok (.getfield 15, 3) := by decide +kernel
theorem dX5_find_81 : decode cX5_find 81 = .ok (.arraylength, 1) := by decide +kernel
theorem dX5_find_82 : decode cX5_find 82 = .ok (.if_icmp .ge 30, 3) := by decide +kernel
theorem dX5_find_85 : decode cX5_find 85 = .ok (.iload_n 2, 1) := by decide +kernel
theorem dX5_find_86 : decode cX5_find 86 = .ok (.aload_n 0, 1) := by decide +kernel
theorem dX5_find_87 : decode cX5_find 87 = .ok (.getfield 18, 3) := by decide +kernel
theorem dX5_find_90 : decode cX5_find 90 = .ok (.iand, 1) := by decide +kernel
theorem dX5_find_91 : decode cX5_find 91 = .ok (.iload_n 2, 1) := by decide +kernel
theorem dX5_find_92 : decode cX5_find 92 = .ok (.if_icmp .ne 14, 3) := by decide +kernel
theorem dX5_find_95 : decode cX5_find 95 = .ok (.aload_n 0, 1) := by decide +kernel
theorem dX5_find_96 : decode cX5_find 96 = .ok (.getfield 15, 3) := by decide +kernel
theorem dX5_find_99 : decode cX5_find 99 = .ok (.iload_n 2, 1) := by decide +kernel
theorem dX5_find_100 : decode cX5_find 100 = .ok (.aload_n 0, 1) := by decide +kernel
theorem dX5_find_101 : decode cX5_find 101 = .ok (.iload_n 2, 1) := by decide +kernel
theorem dX5_find_102 : decode cX5_find 102 = .ok (.invokevirtual 37, 3) := by decide +kernel
theorem dX5_find_105 : decode cX5_find 105 = .ok (.iastore, 1) := by decide +kernel
theorem dX5_find_106 : decode cX5_find 106 = .ok (.iinc 2 1, 3) := by decide +kernel
theorem dX5_find_109 : decode cX5_find 109 = .ok (.goto (-41), 3) := by decide +kernel
theorem dX5_find_112 : decode cX5_find 112 = .ok (.return_, 1) := by decide +kernel
theorem dX5_followAhead_0 : decode cX5_followAhead 0 = .ok (.aload_n 0, 1) := by decide +kernel
theorem dX5_followAhead_1 : decode cX5_followAhead 1 = .ok (.getfield 9, 3) := by decide +kernel
theorem dX5_followAhead_4 : decode cX5_followAhead 4 = .ok (.iconst 0, 1) := by decide +kernel
theorem dX5_followAhead_5 : decode cX5_followAhead 5 = .ok (.invokestatic 41, 3) := by decide +kernel
theorem dX5_followAhead_8 : decode cX5_followAhead 8 = .ok (.iconst 0, 1) := by decide +kernel
theorem dX5_followAhead_9 : decode cX5_followAhead 9 = .ok (.istore_n 1, 1) := by decide +kernel
theorem dX5_followAhead_10 : decode cX5_followAhead 10 = .ok (.iload_n 1, 1) := by decide +kernel
theorem dX5_followAhead_11 : decode cX5_followAhead 11 = .ok (.aload_n 0, 1) := by decide +kernel
theorem dX5_followAhead_12 : decode cX5_followAhead 12 = .ok (.getfield 22, 3) := by decide +kernel
theorem dX5_followAhead_15 : decode cX5_followAhead 15 = .ok (.getfield 47, 3) := by decide +kernel
theorem dX5_followAhead_18 : decode cX5_followAhead 18 = .ok (.if_icmp .ge 56, 3) := by decide +kernel
theorem dX5_followAhead_21 : decode cX5_followAhead 21 = .ok (.iload_n 1, 1) := by decide +kernel
theorem dX5_followAhead_22 : decode cX5_followAhead 22 = .ok (.bipush 12, 2) := by decide +kernel
theorem dX5_followAhead_24 : decode cX5_followAhead 24 = .ok (.if_icmp .ge 50, 3) := by decide +kernel
theorem dX5_followAhead_27 : decode cX5_followAhead 27 = .ok (.aload_n 0, 1) := by decide +kernel
theorem dX5_followAhead_28 : decode cX5_followAhead 28 = .ok (.getfield 22, 3) := by decide +kernel
theorem dX5_followAhead_31 : decode cX5_followAhead 31 = .ok (.getfield 50, 3) := by decide +kernel
theorem dX5_followAhead_34 : decode cX5_followAhead 34 = .ok (.iload_n 1, 1) := by decide +kernel
theorem dX5_followAhead_35 : decode cX5_followAhead 35 = .ok (.iaload, 1) := by decide +kernel
theorem dX5_followAhead_36 : decode cX5_followAhead 36 = .ok (.istore_n 2, 1) := by decide +kernel
theorem dX5_followAhead_37 : decode cX5_followAhead 37 = .ok (.aload_n 0, 1) := by decide +kernel
theorem dX5_followAhead_38 : decode cX5_followAhead 38 = .ok (.getfield 22, 3) := by decide +kernel
theorem dX5_followAhead_41 : decode cX5_followAhead 41 = .ok (.iload_n 2, 1) := by decide +kernel
theorem dX5_followAhead_42 : decode cX5_followAhead 42 = .ok (.invokevirtual 53, 3) := by decide +kernel
theorem dX5_followAhead_45 : decode cX5_followAhead 45 = .ok (.ifCond .eq 23, 3) := by decide +kernel
theorem dX5_followAhead_48 : decode cX5_followAhead 48 = .ok (.aload_n 0, 1) := by decide +kernel
theorem dX5_followAhead_49 : decode cX5_followAhead 49 = .ok (.getfield 9, 3) := by decide +kernel
theorem dX5_followAhead_52 : decode cX5_followAhead 52 = .ok (.iload_n 2, 1) := by decide +kernel
theorem dX5_followAhead_53 : decode cX5_followAhead 53 = .ok (.dup2, 1) := by decide +kernel
theorem dX5_followAhead_54 : decode cX5_followAhead 54 = .ok (.iaload, 1) := by decide +kernel
theorem dX5_followAhead_55 : decode cX5_followAhead 55 = .ok (.iconst 1, 1) := by decide +kernel
theorem dX5_followAhead_56 : decode cX5_followAhead 56 = .ok (.aload_n 0, 1) := by decide +kernel
theorem dX5_followAhead_57 : decode cX5_followAhead 57 = .ok (.getfield 22, 3) := by decide +kernel
theorem dX5_followAhead_60 : decode cX5_followAhead 60 = .ok (.getfield 57, 3) := by decide +kernel
theorem dX5_followAhead_63 : decode cX5_followAhead 63 = .ok (.iload_n 1, 1) := by decide +kernel
theorem dX5_followAhead_64 : decode cX5_followAhead 64 = .ok (.iaload, 1) := by decide +kernel
theorem dX5_followAhead_65 : decode cX5_followAhead 65 = .ok (.ishl, 1) := by decide +kernel
theorem dX5_followAhead_66 : decode cX5_followAhead 66 = .ok (.ior, 1) := by decide +kernel
theorem dX5_followAhead_67 : decode cX5_followAhead 67 = .ok (.iastore, 1) := by decide +kernel
theorem dX5_followAhead_68 : decode cX5_followAhead 68 = .ok (.iinc 1 1, 3) := by decide +kernel
theorem dX5_followAhead_71 : decode cX5_followAhead 71 = .ok (.goto (-61), 3) := by decide +kernel
theorem dX5_followAhead_74 : decode cX5_followAhead 74 = .ok (.iconst 0, 1) := by decide +kernel
theorem dX5_followAhead_75 : decode cX5_followAhead 75 = .ok (.istore_n 1, 1) := by decide +kernel
theorem dX5_followAhead_76 : decode cX5_followAhead 76 = .ok (.iload_n 1, 1) := by decide +kernel
theorem dX5_followAhead_77 : decode cX5_followAhead 77 = .ok (.bipush 10, 2) := by decide +kernel
theorem dX5_followAhead_79 : decode cX5_followAhead 79 = .ok (.if_icmp .ge 51, 3) := by decide +kernel
theorem dX5_followAhead_82 : decode cX5_followAhead 82 = .ok (.iconst 0, 1) := by decide +kernel
theorem dX5_followAhead_83 : decode cX5_followAhead 83 = .ok (.istore_n 2, 1) := by decide +kernel
theorem dX5_followAhead_84 : decode cX5_followAhead 84 = .ok (.iload_n 2, 1) := by decide +kernel
theorem dX5_followAhead_85 : decode cX5_followAhead 85 = .ok (.bipush 10, 2) := by decide +kernel
theorem dX5_followAhead_87 : decode cX5_followAhead 87 = .ok (.if_icmp .ge 37, 3) := by decide +kernel
theorem dX5_followAhead_90 : decode cX5_followAhead 90 = .ok (.aload_n 0, 1) := by decide +kernel
theorem dX5_followAhead_91 : decode cX5_followAhead 91 = .ok (.getfield 9, 3) := by decide +kernel
theorem dX5_followAhead_94 : decode cX5_followAhead 94 = .ok (.iload_n 2, 1) := by decide +kernel
theorem dX5_followAhead_95 : decode cX5_followAhead 95 = .ok (.iaload, 1) := by decide +kernel
theorem dX5_followAhead_96 : decode cX5_followAhead 96 = .ok (.iload_n 1, 1) := by decide +kernel
theorem dX5_followAhead_97 : decode cX5_followAhead 97 = .ok (.ishr, 1) := by decide +kernel
theorem dX5_followAhead_98 : decode cX5_followAhead 98 = .ok (.iconst 1, 1) := by decide +kernel
theorem dX5_followAhead_99 : decode cX5_followAhead 99 = .ok (.iand, 1) := by decide +kernel
theorem dX5_followAhead_100 : decode cX5_followAhead 100 = .ok (.ifCond .eq 18, 3) := by decide +kernel
theorem dX5_followAhead_103 : decode cX5_followAhead 103 = .ok (.aload_n 0, 1) := by decide +kernel
theorem dX5_followAhead_104 : decode cX5_followAhead 104 = .ok (.getfield 9, 3) := by decide +kernel
theorem dX5_followAhead_107 : decode cX5_followAhead 107 = .ok (.iload_n 2, 1) := by decide +kernel
theorem dX5_followAhead_108 : decode cX5_followAhead 108 = .ok (.dup2, 1) := by decide +kernel
theorem dX5_followAhead_109 : decode cX5_followAhead 109 = .ok (.iaload, 1) := by decide +kernel
theorem dX5_followAhead_110 : decode cX5_followAhead 110 = .ok (.aload_n 0, 1) := by decide +kernel
theorem dX5_followAhead_111 : decode cX5_followAhead 111 = .ok (.getfield 9, 3) := by decide +kernel
theorem dX5_followAhead_114 : decode cX5_followAhead 114 = .ok (.iload_n 1, 1) := by decide +kernel
theorem dX5_followAhead_115 : decode cX5_followAhead 115 = .ok (.iaload, 1) := by decide +kernel
theorem dX5_followAhead_116 : decode cX5_followAhead 116 = .ok (.ior, 1) := by decide +kernel
theorem dX5_followAhead_117 : decode cX5_followAhead 117 = .ok (.iastore, 1) := by decide +kernel
theorem dX5_followAhead_118 : decode cX5_followAhead 118 = .ok (.iinc 2 1, 3) := by decide +kernel
theorem dX5_followAhead_121 : decode cX5_followAhead 121 = .ok (.goto (-37), 3) := by decide +kernel
theorem dX5_followAhead_124 : decode cX5_followAhead 124 = .ok (.iinc 1 1, 3) := by decide +kernel
theorem dX5_followAhead_127 : decode cX5_followAhead 127 = .ok (.goto (-51), 3) := by decide +kernel
theorem dX5_followAhead_130 : decode cX5_followAhead 130 = .ok (.return_, 1) := by decide +kernel
theorem dX5_waysOf_0 : decode cX5_waysOf 0 = .ok (.iconst 0, 1) := by decide +kernel
theorem dX5_waysOf_1 : decode cX5_waysOf 1 = .ok (.istore_n 2, 1) := by decide +kernel
theorem dX5_waysOf_2 : decode cX5_waysOf 2 = .ok (.iconst 0, 1) := by decide +kernel
theorem dX5_waysOf_3 : decode cX5_waysOf 3 = .ok (.istore_n 3, 1) := by decide +kernel
theorem dX5_waysOf_4 : decode cX5_waysOf 4 = .ok (.iload_n 3, 1) := by decide +kernel
theorem dX5_waysOf_5 : decode cX5_waysOf 5 = .ok (.bipush 10, 2) := by decide +kernel
theorem dX5_waysOf_7 : decode cX5_waysOf 7 = .ok (.if_icmp .ge 18, 3) := by decide +kernel
theorem dX5_waysOf_10 : decode cX5_waysOf 10 = .ok (.iload_n 2, 1) := by decide +kernel
theorem dX5_waysOf_11 : decode cX5_waysOf 11 = .ok (.aload_n 0, 1) := by decide +kernel
theorem dX5_waysOf_12 : decode cX5_waysOf 12 = .ok (.iload_n 3, 1) := by decide +kernel
theorem dX5_waysOf_13 : decode cX5_waysOf 13 = .ok (.iload_n 1, 1) := by decide +kernel
theorem dX5_waysOf_14 : decode cX5_waysOf 14 = .ok (.invokevirtual 60, 3) := by decide +kernel
theorem dX5_waysOf_17 : decode cX5_waysOf 17 = .ok (.iadd, 1) := by decide +kernel
theorem dX5_waysOf_18 : decode cX5_waysOf 18 = .ok (.istore_n 2, 1) := by decide +kernel
theorem dX5_waysOf_19 : decode cX5_waysOf 19 = .ok (.iinc 3 1, 3) := by decide +kernel
theorem dX5_waysOf_22 : decode cX5_waysOf 22 = .ok (.goto (-18), 3) := by decide +kernel
theorem dX5_waysOf_25 : decode cX5_waysOf 25 = .ok (.iload_n 2, 1) := by decide +kernel
theorem dX5_waysOf_26 : decode cX5_waysOf 26 = .ok (.ireturn, 1) := by decide +kernel
theorem dX5_endingWith_0 : decode cX5_endingWith 0 = .ok (.iload_n 1, 1) := by decide +kernel
theorem dX5_endingWith_1 : decode cX5_endingWith 1 = .ok (.ifCond .lt 9, 3) := by decide +kernel
theorem dX5_endingWith_4 : decode cX5_endingWith 4 = .ok (.iload_n 1, 1) := by decide +kernel
theorem dX5_endingWith_5 : decode cX5_endingWith 5 = .ok (.bipush 10, 2) := by decide +kernel
theorem dX5_endingWith_7 : decode cX5_endingWith 7 = .ok (.if_icmp .lt 5, 3) := by decide +kernel
theorem dX5_endingWith_10 : decode cX5_endingWith 10 = .ok (.iconst 0, 1) := by decide +kernel
theorem dX5_endingWith_11 : decode cX5_endingWith 11 = .ok (.ireturn, 1) := by decide +kernel
theorem dX5_endingWith_12 : decode cX5_endingWith 12 = .ok (.iload_n 2, 1) := by decide +kernel
theorem dX5_endingWith_13 : decode cX5_endingWith 13 = .ok (.iconst 1, 1) := by decide +kernel
theorem dX5_endingWith_14 : decode cX5_endingWith 14 = .ok (.iload_n 1, 1) := by decide +kernel
theorem dX5_endingWith_15 : decode cX5_endingWith 15 = .ok (.ishl, 1) := by decide +kernel
theorem dX5_endingWith_16 : decode cX5_endingWith 16 = .ok (.iconst (-1), 1) := by decide +kernel
theorem dX5_endingWith_17 : decode cX5_endingWith 17 = .ok (.ixor, 1) := by decide +kernel
theorem dX5_endingWith_18 : decode cX5_endingWith 18 = .ok (.iand, 1) := by decide +kernel
theorem dX5_endingWith_19 : decode cX5_endingWith 19 = .ok (.istore_n 3, 1) := by decide +kernel
theorem dX5_endingWith_20 : decode cX5_endingWith 20 = .ok (.iload_n 3, 1) := by decide +kernel
theorem dX5_endingWith_21 : decode cX5_endingWith 21 = .ok (.iload_n 2, 1) := by decide +kernel
theorem dX5_endingWith_22 : decode cX5_endingWith 22 = .ok (.if_icmp .eq 21, 3) := by decide +kernel
theorem dX5_endingWith_25 : decode cX5_endingWith 25 = .ok (.aload_n 0, 1) := by decide +kernel
theorem dX5_endingWith_26 : decode cX5_endingWith 26 = .ok (.getfield 9, 3) := by decide +kernel
theorem dX5_endingWith_29 : decode cX5_endingWith 29 = .ok (.iload_n 1, 1) := by decide +kernel
theorem dX5_endingWith_30 : decode cX5_endingWith 30 = .ok (.iaload, 1) := by decide +kernel
theorem dX5_endingWith_31 : decode cX5_endingWith 31 = .ok (.aload_n 0, 1) := by decide +kernel
theorem dX5_endingWith_32 : decode cX5_endingWith 32 = .ok (.getfield 18, 3) := by decide +kernel
theorem dX5_endingWith_35 : decode cX5_endingWith 35 = .ok (.iand, 1) := by decide +kernel
theorem dX5_endingWith_36 : decode cX5_endingWith 36 = .ok (.iload_n 3, 1) := by decide +kernel
theorem dX5_endingWith_37 : decode cX5_endingWith 37 = .ok (.iconst (-1), 1) := by decide +kernel
theorem dX5_endingWith_38 : decode cX5_endingWith 38 = .ok (.ixor, 1) := by decide +kernel
theorem dX5_endingWith_39 : decode cX5_endingWith 39 = .ok (.iand, 1) := by decide +kernel
theorem dX5_endingWith_40 : decode cX5_endingWith 40 = .ok (.ifCond .eq 5, 3) := by decide +kernel
theorem dX5_endingWith_43 : decode cX5_endingWith 43 = .ok (.iconst 0, 1) := by decide +kernel
theorem dX5_endingWith_44 : decode cX5_endingWith 44 = .ok (.ireturn, 1) := by decide +kernel
theorem dX5_endingWith_45 : decode cX5_endingWith 45 = .ok (.iload_n 3, 1) := by decide +kernel
theorem dX5_endingWith_46 : decode cX5_endingWith 46 = .ok (.ifCond .lt 21, 3) := by decide +kernel
theorem dX5_endingWith_49 : decode cX5_endingWith 49 = .ok (.iload_n 3, 1) := by decide +kernel
theorem dX5_endingWith_50 : decode cX5_endingWith 50 = .ok (.aload_n 0, 1) := by decide +kernel
theorem dX5_endingWith_51 : decode cX5_endingWith 51 = .ok (.getfield 15, 3) := by decide +kernel
theorem dX5_endingWith_54 : decode cX5_endingWith 54 = .ok (.arraylength, 1) := by decide +kernel
theorem dX5_endingWith_55 : decode cX5_endingWith 55 = .ok (.if_icmp .ge 12, 3) := by decide +kernel
theorem dX5_endingWith_58 : decode cX5_endingWith 58 = .ok (.aload_n 0, 1) := by decide +kernel
theorem dX5_endingWith_59 : decode cX5_endingWith 59 = .ok (.getfield 15, 3) := by decide +kernel
theorem dX5_endingWith_62 : decode cX5_endingWith 62 = .ok (.iload_n 3, 1) := by decide +kernel
theorem dX5_endingWith_63 : decode cX5_endingWith 63 = .ok (.iaload, 1) := by decide +kernel
theorem dX5_endingWith_64 : decode cX5_endingWith 64 = .ok (.goto 4, 3) := by decide +kernel
theorem dX5_endingWith_67 : decode cX5_endingWith 67 = .ok (.iconst 0, 1) := by decide +kernel
theorem dX5_endingWith_68 : decode cX5_endingWith 68 = .ok (.ireturn, 1) := by decide +kernel
theorem dX5_all_0 : decode cX5_all 0 = .ok (.aload_n 0, 1) := by decide +kernel
theorem dX5_all_1 : decode cX5_all 1 = .ok (.getfield 18, 3) := by decide +kernel
theorem dX5_all_4 : decode cX5_all 4 = .ok (.ifCond .lt 27, 3) := by decide +kernel
theorem dX5_all_7 : decode cX5_all 7 = .ok (.aload_n 0, 1) := by decide +kernel
theorem dX5_all_8 : decode cX5_all 8 = .ok (.getfield 18, 3) := by decide +kernel
theorem dX5_all_11 : decode cX5_all 11 = .ok (.aload_n 0, 1) := by decide +kernel
theorem dX5_all_12 : decode cX5_all 12 = .ok (.getfield 15, 3) := by decide +kernel
theorem dX5_all_15 : decode cX5_all 15 = .ok (.arraylength, 1) := by decide +kernel
theorem dX5_all_16 : decode cX5_all 16 = .ok (.if_icmp .ge 15, 3) := by decide +kernel
theorem dX5_all_19 : decode cX5_all 19 = .ok (.aload_n 0, 1) := by decide +kernel
theorem dX5_all_20 : decode cX5_all 20 = .ok (.getfield 15, 3) := by decide +kernel
theorem dX5_all_23 : decode cX5_all 23 = .ok (.aload_n 0, 1) := by decide +kernel
theorem dX5_all_24 : decode cX5_all 24 = .ok (.getfield 18, 3) := by decide +kernel
theorem dX5_all_27 : decode cX5_all 27 = .ok (.iaload, 1) := by decide +kernel
theorem dX5_all_28 : decode cX5_all 28 = .ok (.goto 4, 3) := by decide +kernel
theorem dX5_all_31 : decode cX5_all 31 = .ok (.iconst 0, 1) := by decide +kernel
theorem dX5_all_32 : decode cX5_all 32 = .ok (.ireturn, 1) := by decide +kernel
theorem dX5_endedBy_0 : decode cX5_endedBy 0 = .ok (.iconst 0, 1) := by decide +kernel
theorem dX5_endedBy_1 : decode cX5_endedBy 1 = .ok (.istore_n 2, 1) := by decide +kernel
theorem dX5_endedBy_2 : decode cX5_endedBy 2 = .ok (.iconst 0, 1) := by decide +kernel
theorem dX5_endedBy_3 : decode cX5_endedBy 3 = .ok (.istore_n 3, 1) := by decide +kernel
theorem dX5_endedBy_4 : decode cX5_endedBy 4 = .ok (.iload_n 3, 1) := by decide +kernel
theorem dX5_endedBy_5 : decode cX5_endedBy 5 = .ok (.aload_n 0, 1) := by decide +kernel
theorem dX5_endedBy_6 : decode cX5_endedBy 6 = .ok (.getfield 22, 3) := by decide +kernel
theorem dX5_endedBy_9 : decode cX5_endedBy 9 = .ok (.getfield 29, 3) := by decide +kernel
theorem dX5_endedBy_12 : decode cX5_endedBy 12 = .ok (.if_icmp .ge 40, 3) := by decide +kernel
theorem dX5_endedBy_15 : decode cX5_endedBy 15 = .ok (.iload_n 3, 1) := by decide +kernel
theorem dX5_endedBy_16 : decode cX5_endedBy 16 = .ok (.bipush 10, 2) := by decide +kernel
theorem dX5_endedBy_18 : decode cX5_endedBy 18 = .ok (.if_icmp .ge 34, 3) := by decide +kernel
theorem dX5_endedBy_21 : decode cX5_endedBy 21 = .ok (.aload_n 0, 1) := by decide +kernel
theorem dX5_endedBy_22 : decode cX5_endedBy 22 = .ok (.getfield 22, 3) := by decide +kernel
theorem dX5_endedBy_25 : decode cX5_endedBy 25 = .ok (.getfield 64, 3) := by decide +kernel
theorem dX5_endedBy_28 : decode cX5_endedBy 28 = .ok (.iload_n 3, 1) := by decide +kernel
theorem dX5_endedBy_29 : decode cX5_endedBy 29 = .ok (.iaload, 1) := by decide +kernel
theorem dX5_endedBy_30 : decode cX5_endedBy 30 = .ok (.iload_n 1, 1) := by decide +kernel
theorem dX5_endedBy_31 : decode cX5_endedBy 31 = .ok (.if_icmp .ne 15, 3) := by decide +kernel
theorem dX5_endedBy_34 : decode cX5_endedBy 34 = .ok (.iload_n 2, 1) := by decide +kernel
theorem dX5_endedBy_35 : decode cX5_endedBy 35 = .ok (.aload_n 0, 1) := by decide +kernel
theorem dX5_endedBy_36 : decode cX5_endedBy 36 = .ok (.iload_n 3, 1) := by decide +kernel
theorem dX5_endedBy_37 : decode cX5_endedBy 37 = .ok (.aload_n 0, 1) := by decide +kernel
theorem dX5_endedBy_38 : decode cX5_endedBy 38 = .ok (.getfield 18, 3) := by decide +kernel
theorem dX5_endedBy_41 : decode cX5_endedBy 41 = .ok (.invokevirtual 60, 3) := by decide +kernel
theorem dX5_endedBy_44 : decode cX5_endedBy 44 = .ok (.iadd, 1) := by decide +kernel
theorem dX5_endedBy_45 : decode cX5_endedBy 45 = .ok (.istore_n 2, 1) := by decide +kernel
theorem dX5_endedBy_46 : decode cX5_endedBy 46 = .ok (.iinc 3 1, 3) := by decide +kernel
theorem dX5_endedBy_49 : decode cX5_endedBy 49 = .ok (.goto (-45), 3) := by decide +kernel
theorem dX5_endedBy_52 : decode cX5_endedBy 52 = .ok (.iload_n 2, 1) := by decide +kernel
theorem dX5_endedBy_53 : decode cX5_endedBy 53 = .ok (.ireturn, 1) := by decide +kernel
theorem dX6_init_0 : decode cX6_init 0 = .ok (.aload_n 0, 1) := by decide +kernel
theorem dX6_init_1 : decode cX6_init 1 = .ok (.invokespecial 3, 3) := by decide +kernel
theorem dX6_init_4 : decode cX6_init 4 = .ok (.aload_n 0, 1) := by decide +kernel
theorem dX6_init_5 : decode cX6_init 5 = .ok (.bipush 16, 2) := by decide +kernel
theorem dX6_init_7 : decode cX6_init 7 = .ok (.newarray .int, 2) := by decide +kernel
theorem dX6_init_9 : decode cX6_init 9 = .ok (.putfield 9, 3) := by decide +kernel
theorem dX6_init_12 : decode cX6_init 12 = .ok (.aload_n 0, 1) := by decide +kernel
theorem dX6_init_13 : decode cX6_init 13 = .ok (.bipush 8, 2) := by decide +kernel
theorem dX6_init_15 : decode cX6_init 15 = .ok (.newarray .int, 2) := by decide +kernel
theorem dX6_init_17 : decode cX6_init 17 = .ok (.putfield 15, 3) := by decide +kernel
theorem dX6_init_20 : decode cX6_init 20 = .ok (.aload_n 0, 1) := by decide +kernel
theorem dX6_init_21 : decode cX6_init 21 = .ok (.bipush 8, 2) := by decide +kernel
theorem dX6_init_23 : decode cX6_init 23 = .ok (.newarray .int, 2) := by decide +kernel
theorem dX6_init_25 : decode cX6_init 25 = .ok (.putfield 18, 3) := by decide +kernel
theorem dX6_init_28 : decode cX6_init 28 = .ok (.aload_n 0, 1) := by decide +kernel
theorem dX6_init_29 : decode cX6_init 29 = .ok (.iconst 0, 1) := by decide +kernel
theorem dX6_init_30 : decode cX6_init 30 = .ok (.putfield 21, 3) := by decide +kernel
theorem dX6_init_33 : decode cX6_init 33 = .ok (.aload_n 0, 1) := by decide +kernel
theorem dX6_init_34 : decode cX6_init 34 = .ok (.iconst 0, 1) := by decide +kernel
theorem dX6_init_35 : decode cX6_init 35 = .ok (.putfield 25, 3) := by decide +kernel
theorem dX6_init_38 : decode cX6_init 38 = .ok (.aload_n 0, 1) := by decide +kernel
theorem dX6_init_39 : decode cX6_init 39 = .ok (.aload_n 1, 1) := by decide +kernel
theorem dX6_init_40 : decode cX6_init 40 = .ok (.putfield 29, 3) := by decide +kernel
theorem dX6_init_43 : decode cX6_init 43 = .ok (.aload_n 0, 1) := by decide +kernel
theorem dX6_init_44 : decode cX6_init 44 = .ok (.aload_n 1, 1) := by decide +kernel
theorem dX6_init_45 : decode cX6_init 45 = .ok (.getfield 33, 3) := by decide +kernel
theorem dX6_init_48 : decode cX6_init 48 = .ok (.putfield 39, 3) := by decide +kernel
theorem dX6_init_51 : decode cX6_init 51 = .ok (.return_, 1) := by decide +kernel
theorem dX6_write_0 : decode cX6_write 0 = .ok (.aload_n 0, 1) := by decide +kernel
theorem dX6_write_1 : decode cX6_write 1 = .ok (.getfield 39, 3) := by decide +kernel
theorem dX6_write_4 : decode cX6_write 4 = .ok (.getfield 40, 3) := by decide +kernel
theorem dX6_write_7 : decode cX6_write 7 = .ok (.iconst 0, 1) := by decide +kernel
theorem dX6_write_8 : decode cX6_write 8 = .ok (.aload_n 0, 1) := by decide +kernel
theorem dX6_write_9 : decode cX6_write 9 = .ok (.getfield 9, 3) := by decide +kernel
theorem dX6_write_12 : decode cX6_write 12 = .ok (.iconst 0, 1) := by decide +kernel
theorem dX6_write_13 : decode cX6_write 13 = .ok (.bipush 16, 2) := by decide +kernel
theorem dX6_write_15 : decode cX6_write 15 = .ok (.invokestatic 43, 3) := by decide +kernel
theorem dX6_write_18 : decode cX6_write 18 = .ok (.aload_n 0, 1) := by decide +kernel
theorem dX6_write_19 : decode cX6_write 19 = .ok (.iload_n 1, 1) := by decide +kernel
theorem dX6_write_20 : decode cX6_write 20 = .ok (.putfield 25, 3) := by decide +kernel
theorem dX6_write_23 : decode cX6_write 23 = .ok (.iconst 0, 1) := by decide +kernel
theorem dX6_write_24 : decode cX6_write 24 = .ok (.istore_n 3, 1) := by decide +kernel
theorem dX6_write_25 : decode cX6_write 25 = .ok (.aload_n 0, 1) := by decide +kernel
theorem dX6_write_26 : decode cX6_write 26 = .ok (.getfield 29, 3) := by decide +kernel
theorem dX6_write_29 : decode cX6_write 29 = .ok (.getfield 49, 3) := by decide +kernel
theorem dX6_write_32 : decode cX6_write 32 = .ok (.ifCond .le 56, 3) := by decide +kernel
theorem dX6_write_35 : decode cX6_write 35 = .ok (.iconst 0, 1) := by decide +kernel
theorem dX6_write_36 : decode cX6_write 36 = .ok (.istore 4, 2) := by decide +kernel
theorem dX6_write_38 : decode cX6_write 38 = .ok (.iload 4, 2) := by decide +kernel
theorem dX6_write_40 : decode cX6_write 40 = .ok (.iload_n 2, 1) := by decide +kernel
theorem dX6_write_41 : decode cX6_write 41 = .ok (.bipush 6, 2) := by decide +kernel
theorem dX6_write_43 : decode cX6_write 43 = .ok (.imul, 1) := by decide +kernel
theorem dX6_write_44 : decode cX6_write 44 = .ok (.if_icmp .ge 44, 3) := by decide +kernel
theorem dX6_write_47 : decode cX6_write 47 = .ok (.aload_n 0, 1) := by decide +kernel
theorem dX6_write_48 : decode cX6_write 48 = .ok (.bipush 8, 2) := by decide +kernel
theorem dX6_write_50 : decode cX6_write 50 = .ok (.invokevirtual 52, 3) := by decide +kernel
theorem dX6_write_53 : decode cX6_write 53 = .ok (.istore 5, 2) := by decide +kernel
theorem dX6_write_55 : decode cX6_write 55 = .ok (.aload_n 0, 1) := by decide +kernel
theorem dX6_write_56 : decode cX6_write 56 = .ok (.aload_n 0, 1) := by decide +kernel
