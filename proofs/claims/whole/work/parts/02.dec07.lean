theorem dX12_findRing_12 : decode cX12_findRing 12 = .ok (.iload_n 2, 1) := by decide +kernel
theorem dX12_findRing_13 : decode cX12_findRing 13 = .ok (.bipush 8, 2) := by decide +kernel
theorem dX12_findRing_15 : decode cX12_findRing 15 = .ok (.if_icmp .ge 56, 3) := by decide +kernel
theorem dX12_findRing_18 : decode cX12_findRing 18 = .ok (.aload_n 0, 1) := by decide +kernel
theorem dX12_findRing_19 : decode cX12_findRing 19 = .ok (.getfield 93, 3) := by decide +kernel
theorem dX12_findRing_22 : decode cX12_findRing 22 = .ok (.iload_n 2, 1) := by decide +kernel
theorem dX12_findRing_23 : decode cX12_findRing 23 = .ok (.iconst 0, 1) := by decide +kernel
theorem dX12_findRing_24 : decode cX12_findRing 24 = .ok (.iastore, 1) := by decide +kernel
theorem dX12_findRing_25 : decode cX12_findRing 25 = .ok (.iconst 0, 1) := by decide +kernel
theorem dX12_findRing_26 : decode cX12_findRing 26 = .ok (.istore_n 3, 1) := by decide +kernel
theorem dX12_findRing_27 : decode cX12_findRing 27 = .ok (.iload_n 3, 1) := by decide +kernel
theorem dX12_findRing_28 : decode cX12_findRing 28 = .ok (.bipush 8, 2) := by decide +kernel
theorem dX12_findRing_30 : decode cX12_findRing 30 = .ok (.if_icmp .ge 35, 3) := by decide +kernel
theorem dX12_findRing_33 : decode cX12_findRing 33 = .ok (.aload_n 0, 1) := by decide +kernel
theorem dX12_findRing_34 : decode cX12_findRing 34 = .ok (.getfield 93, 3) := by decide +kernel
theorem dX12_findRing_37 : decode cX12_findRing 37 = .ok (.iload_n 2, 1) := by decide +kernel
theorem dX12_findRing_38 : decode cX12_findRing 38 = .ok (.dup2, 1) := by decide +kernel
theorem dX12_findRing_39 : decode cX12_findRing 39 = .ok (.iaload, 1) := by decide +kernel
theorem dX12_findRing_40 : decode cX12_findRing 40 = .ok (.aload_n 0, 1) := by decide +kernel
theorem dX12_findRing_41 : decode cX12_findRing 41 = .ok (.iload_n 2, 1) := by decide +kernel
theorem dX12_findRing_42 : decode cX12_findRing 42 = .ok (.iload_n 3, 1) := by decide +kernel
theorem dX12_findRing_43 : decode cX12_findRing 43 = .ok (.iload_n 1, 1) := by decide +kernel
theorem dX12_findRing_44 : decode cX12_findRing 44 = .ok (.invokevirtual 384, 3) := by decide +kernel
theorem dX12_findRing_47 : decode cX12_findRing 47 = .ok (.ifCond .le 9, 3) := by decide +kernel
theorem dX12_findRing_50 : decode cX12_findRing 50 = .ok (.iconst 1, 1) := by decide +kernel
theorem dX12_findRing_51 : decode cX12_findRing 51 = .ok (.iload_n 3, 1) := by decide +kernel
theorem dX12_findRing_52 : decode cX12_findRing 52 = .ok (.ishl, 1) := by decide +kernel
theorem dX12_findRing_53 : decode cX12_findRing 53 = .ok (.goto 4, 3) := by decide +kernel
theorem dX12_findRing_56 : decode cX12_findRing 56 = .ok (.iconst 0, 1) := by decide +kernel
theorem dX12_findRing_57 : decode cX12_findRing 57 = .ok (.ior, 1) := by decide +kernel
theorem dX12_findRing_58 : decode cX12_findRing 58 = .ok (.iastore, 1) := by decide +kernel
theorem dX12_findRing_59 : decode cX12_findRing 59 = .ok (.iinc 3 1, 3) := by decide +kernel
theorem dX12_findRing_62 : decode cX12_findRing 62 = .ok (.goto (-35), 3) := by decide +kernel
theorem dX12_findRing_65 : decode cX12_findRing 65 = .ok (.iinc 2 1, 3) := by decide +kernel
theorem dX12_findRing_68 : decode cX12_findRing 68 = .ok (.goto (-56), 3) := by decide +kernel
theorem dX12_findRing_71 : decode cX12_findRing 71 = .ok (.iconst 0, 1) := by decide +kernel
theorem dX12_findRing_72 : decode cX12_findRing 72 = .ok (.istore_n 2, 1) := by decide +kernel
theorem dX12_findRing_73 : decode cX12_findRing 73 = .ok (.iload_n 2, 1) := by decide +kernel
theorem dX12_findRing_74 : decode cX12_findRing 74 = .ok (.bipush 8, 2) := by decide +kernel
theorem dX12_findRing_76 : decode cX12_findRing 76 = .ok (.if_icmp .ge 14, 3) := by decide +kernel
theorem dX12_findRing_79 : decode cX12_findRing 79 = .ok (.aload_n 0, 1) := by decide +kernel
theorem dX12_findRing_80 : decode cX12_findRing 80 = .ok (.iload_n 2, 1) := by decide +kernel
theorem dX12_findRing_81 : decode cX12_findRing 81 = .ok (.invokevirtual 388, 3) := by decide +kernel
theorem dX12_findRing_84 : decode cX12_findRing 84 = .ok (.iinc 2 1, 3) := by decide +kernel
theorem dX12_findRing_87 : decode cX12_findRing 87 = .ok (.goto (-14), 3) := by decide +kernel
theorem dX12_findRing_90 : decode cX12_findRing 90 = .ok (.return_, 1) := by decide +kernel
theorem dX12_goRound_0 : decode cX12_goRound 0 = .ok (.iconst 1, 1) := by decide +kernel
theorem dX12_goRound_1 : decode cX12_goRound 1 = .ok (.istore_n 2, 1) := by decide +kernel
theorem dX12_goRound_2 : decode cX12_goRound 2 = .ok (.iconst 1, 1) := by decide +kernel
theorem dX12_goRound_3 : decode cX12_goRound 3 = .ok (.iload_n 1, 1) := by decide +kernel
theorem dX12_goRound_4 : decode cX12_goRound 4 = .ok (.ishl, 1) := by decide +kernel
theorem dX12_goRound_5 : decode cX12_goRound 5 = .ok (.istore_n 3, 1) := by decide +kernel
theorem dX12_goRound_6 : decode cX12_goRound 6 = .ok (.aload_n 0, 1) := by decide +kernel
theorem dX12_goRound_7 : decode cX12_goRound 7 = .ok (.getfield 96, 3) := by decide +kernel
theorem dX12_goRound_10 : decode cX12_goRound 10 = .ok (.iconst 0, 1) := by decide +kernel
theorem dX12_goRound_11 : decode cX12_goRound 11 = .ok (.iload_n 1, 1) := by decide +kernel
theorem dX12_goRound_12 : decode cX12_goRound 12 = .ok (.iastore, 1) := by decide +kernel
theorem dX12_goRound_13 : decode cX12_goRound 13 = .ok (.aload_n 0, 1) := by decide +kernel
theorem dX12_goRound_14 : decode cX12_goRound 14 = .ok (.getfield 96, 3) := by decide +kernel
theorem dX12_goRound_17 : decode cX12_goRound 17 = .ok (.iconst 1, 1) := by decide +kernel
theorem dX12_goRound_18 : decode cX12_goRound 18 = .ok (.iload_n 1, 1) := by decide +kernel
theorem dX12_goRound_19 : decode cX12_goRound 19 = .ok (.iastore, 1) := by decide +kernel
theorem dX12_goRound_20 : decode cX12_goRound 20 = .ok (.iload_n 2, 1) := by decide +kernel
theorem dX12_goRound_21 : decode cX12_goRound 21 = .ok (.ifCond .le 145, 3) := by decide +kernel
theorem dX12_goRound_24 : decode cX12_goRound 24 = .ok (.aload_n 0, 1) := by decide +kernel
theorem dX12_goRound_25 : decode cX12_goRound 25 = .ok (.getfield 96, 3) := by decide +kernel
theorem dX12_goRound_28 : decode cX12_goRound 28 = .ok (.iload_n 2, 1) := by decide +kernel
theorem dX12_goRound_29 : decode cX12_goRound 29 = .ok (.dup2, 1) := by decide +kernel
theorem dX12_goRound_30 : decode cX12_goRound 30 = .ok (.iaload, 1) := by decide +kernel
theorem dX12_goRound_31 : decode cX12_goRound 31 = .ok (.iconst 1, 1) := by decide +kernel
theorem dX12_goRound_32 : decode cX12_goRound 32 = .ok (.iadd, 1) := by decide +kernel
theorem dX12_goRound_33 : decode cX12_goRound 33 = .ok (.iastore, 1) := by decide +kernel
theorem dX12_goRound_34 : decode cX12_goRound 34 = .ok (.aload_n 0, 1) := by decide +kernel
theorem dX12_goRound_35 : decode cX12_goRound 35 = .ok (.getfield 96, 3) := by decide +kernel
theorem dX12_goRound_38 : decode cX12_goRound 38 = .ok (.iload_n 2, 1) := by decide +kernel
theorem dX12_goRound_39 : decode cX12_goRound 39 = .ok (.iaload, 1) := by decide +kernel
theorem dX12_goRound_40 : decode cX12_goRound 40 = .ok (.istore 4, 2) := by decide +kernel
theorem dX12_goRound_42 : decode cX12_goRound 42 = .ok (.iload 4, 2) := by decide +kernel
theorem dX12_goRound_44 : decode cX12_goRound 44 = .ok (.bipush 8, 2) := by decide +kernel
theorem dX12_goRound_46 : decode cX12_goRound 46 = .ok (.if_icmp .lt 30, 3) := by decide +kernel
theorem dX12_goRound_49 : decode cX12_goRound 49 = .ok (.iinc 2 (-1), 3) := by decide +kernel
theorem dX12_goRound_52 : decode cX12_goRound 52 = .ok (.iload_n 2, 1) := by decide +kernel
theorem dX12_goRound_53 : decode cX12_goRound 53 = .ok (.ifCond .le 18, 3) := by decide +kernel
theorem dX12_goRound_56 : decode cX12_goRound 56 = .ok (.iload_n 3, 1) := by decide +kernel
theorem dX12_goRound_57 : decode cX12_goRound 57 = .ok (.iconst 1, 1) := by decide +kernel
theorem dX12_goRound_58 : decode cX12_goRound 58 = .ok (.aload_n 0, 1) := by decide +kernel
theorem dX12_goRound_59 : decode cX12_goRound 59 = .ok (.getfield 96, 3) := by decide +kernel
theorem dX12_goRound_62 : decode cX12_goRound 62 = .ok (.iload_n 2, 1) := by decide +kernel
theorem dX12_goRound_63 : decode cX12_goRound 63 = .ok (.iaload, 1) := by decide +kernel
theorem dX12_goRound_64 : decode cX12_goRound 64 = .ok (.ishl, 1) := by decide +kernel
theorem dX12_goRound_65 : decode cX12_goRound 65 = .ok (.iconst (-1), 1) := by decide +kernel
theorem dX12_goRound_66 : decode cX12_goRound 66 = .ok (.ixor, 1) := by decide +kernel
theorem dX12_goRound_67 : decode cX12_goRound 67 = .ok (.iand, 1) := by decide +kernel
theorem dX12_goRound_68 : decode cX12_goRound 68 = .ok (.goto 4, 3) := by decide +kernel
theorem dX12_goRound_71 : decode cX12_goRound 71 = .ok (.iload_n 3, 1) := by decide +kernel
theorem dX12_goRound_72 : decode cX12_goRound 72 = .ok (.istore_n 3, 1) := by decide +kernel
theorem dX12_goRound_73 : decode cX12_goRound 73 = .ok (.goto 90, 3) := by decide +kernel
theorem dX12_goRound_76 : decode cX12_goRound 76 = .ok (.iload_n 3, 1) := by decide +kernel
theorem dX12_goRound_77 : decode cX12_goRound 77 = .ok (.iload 4, 2) := by decide +kernel
theorem dX12_goRound_79 : decode cX12_goRound 79 = .ok (.invokestatic 367, 3) := by decide +kernel
theorem dX12_goRound_82 : decode cX12_goRound 82 = .ok (.ifCond .ne 81, 3) := by decide +kernel
theorem dX12_goRound_85 : decode cX12_goRound 85 = .ok (.aload_n 0, 1) := by decide +kernel
theorem dX12_goRound_86 : decode cX12_goRound 86 = .ok (.getfield 93, 3) := by decide +kernel
theorem dX12_goRound_89 : decode cX12_goRound 89 = .ok (.aload_n 0, 1) := by decide +kernel
theorem dX12_goRound_90 : decode cX12_goRound 90 = .ok (.getfield 96, 3) := by decide +kernel
theorem dX12_goRound_93 : decode cX12_goRound 93 = .ok (.iload_n 2, 1) := by decide +kernel
theorem dX12_goRound_94 : decode cX12_goRound 94 = .ok (.iconst 1, 1) := by decide +kernel
theorem dX12_goRound_95 : decode cX12_goRound 95 = .ok (.isub, 1) := by decide +kernel
theorem dX12_goRound_96 : decode cX12_goRound 96 = .ok (.iaload, 1) := by decide +kernel
theorem dX12_goRound_97 : decode cX12_goRound 97 = .ok (.iaload, 1) := by decide +kernel
theorem dX12_goRound_98 : decode cX12_goRound 98 = .ok (.iload 4, 2) := by decide +kernel
theorem dX12_goRound_100 : decode cX12_goRound 100 = .ok (.invokestatic 367, 3) := by decide +kernel
theorem dX12_goRound_103 : decode cX12_goRound 103 = .ok (.ifCond .eq 60, 3) := by decide +kernel
theorem dX12_goRound_106 : decode cX12_goRound 106 = .ok (.iload_n 3, 1) := by decide +kernel
theorem dX12_goRound_107 : decode cX12_goRound 107 = .ok (.iconst 1, 1) := by decide +kernel
theorem dX12_goRound_108 : decode cX12_goRound 108 = .ok (.iload 4, 2) := by decide +kernel
theorem dX12_goRound_110 : decode cX12_goRound 110 = .ok (.ishl, 1) := by decide +kernel
theorem dX12_goRound_111 : decode cX12_goRound 111 = .ok (.ior, 1) := by decide +kernel
theorem dX12_goRound_112 : decode cX12_goRound 112 = .ok (.istore_n 3, 1) := by decide +kernel
theorem dX12_goRound_113 : decode cX12_goRound 113 = .ok (.aload_n 0, 1) := by decide +kernel
theorem dX12_goRound_114 : decode cX12_goRound 114 = .ok (.getfield 93, 3) := by decide +kernel
theorem dX12_goRound_117 : decode cX12_goRound 117 = .ok (.iload 4, 2) := by decide +kernel
theorem dX12_goRound_119 : decode cX12_goRound 119 = .ok (.iaload, 1) := by decide +kernel
theorem dX12_goRound_120 : decode cX12_goRound 120 = .ok (.iload_n 1, 1) := by decide +kernel
theorem dX12_goRound_121 : decode cX12_goRound 121 = .ok (.invokestatic 367, 3) := by decide +kernel
theorem dX12_goRound_124 : decode cX12_goRound 124 = .ok (.ifCond .eq 11, 3) := by decide +kernel
theorem dX12_goRound_127 : decode cX12_goRound 127 = .ok (.aload_n 0, 1) := by decide +kernel
theorem dX12_goRound_128 : decode cX12_goRound 128 = .ok (.iload_n 2, 1) := by decide +kernel
theorem dX12_goRound_129 : decode cX12_goRound 129 = .ok (.iconst 1, 1) := by decide +kernel
theorem dX12_goRound_130 : decode cX12_goRound 130 = .ok (.iadd, 1) := by decide +kernel
theorem dX12_goRound_131 : decode cX12_goRound 131 = .ok (.iload_n 3, 1) := by decide +kernel
theorem dX12_goRound_132 : decode cX12_goRound 132 = .ok (.invokevirtual 391, 3) := by decide +kernel
theorem dX12_goRound_135 : decode cX12_goRound 135 = .ok (.iload_n 2, 1) := by decide +kernel
theorem dX12_goRound_136 : decode cX12_goRound 136 = .ok (.bipush 7, 2) := by decide +kernel
theorem dX12_goRound_138 : decode cX12_goRound 138 = .ok (.if_icmp .ge 16, 3) := by decide +kernel
theorem dX12_goRound_141 : decode cX12_goRound 141 = .ok (.iinc 2 1, 3) := by decide +kernel
theorem dX12_goRound_144 : decode cX12_goRound 144 = .ok (.aload_n 0, 1) := by decide +kernel
theorem dX12_goRound_145 : decode cX12_goRound 145 = .ok (.getfield 96, 3) := by decide +kernel
theorem dX12_goRound_148 : decode cX12_goRound 148 = .ok (.iload_n 2, 1) := by decide +kernel
theorem dX12_goRound_149 : decode cX12_goRound 149 = .ok (.iload_n 1, 1) := by decide +kernel
theorem dX12_goRound_150 : decode cX12_goRound 150 = .ok (.iastore, 1) := by decide +kernel
theorem dX12_goRound_151 : decode cX12_goRound 151 = .ok (.goto 12, 3) := by decide +kernel
theorem dX12_goRound_154 : decode cX12_goRound 154 = .ok (.iload_n 3, 1) := by decide +kernel
theorem dX12_goRound_155 : decode cX12_goRound 155 = .ok (.iconst 1, 1) := by decide +kernel
theorem dX12_goRound_156 : decode cX12_goRound 156 = .ok (.iload 4, 2) := by decide +kernel
theorem dX12_goRound_158 : decode cX12_goRound 158 = .ok (.ishl, 1) := by decide +kernel
theorem dX12_goRound_159 : decode cX12_goRound 159 = .ok (.iconst (-1), 1) := by decide +kernel
theorem dX12_goRound_160 : decode cX12_goRound 160 = .ok (.ixor, 1) := by decide +kernel
theorem dX12_goRound_161 : decode cX12_goRound 161 = .ok (.iand, 1) := by decide +kernel
theorem dX12_goRound_162 : decode cX12_goRound 162 = .ok (.istore_n 3, 1) := by decide +kernel
theorem dX12_goRound_163 : decode cX12_goRound 163 = .ok (.goto (-143), 3) := by decide +kernel
theorem dX12_goRound_166 : decode cX12_goRound 166 = .ok (.return_, 1) := by decide +kernel
theorem dX12_keepRing_0 : decode cX12_keepRing 0 = .ok (.aload_n 0, 1) := by decide +kernel
theorem dX12_keepRing_1 : decode cX12_keepRing 1 = .ok (.getfield 378, 3) := by decide +kernel
theorem dX12_keepRing_4 : decode cX12_keepRing 4 = .ok (.ifCond .eq 27, 3) := by decide +kernel
theorem dX12_keepRing_7 : decode cX12_keepRing 7 = .ok (.iload_n 1, 1) := by decide +kernel
theorem dX12_keepRing_8 : decode cX12_keepRing 8 = .ok (.aload_n 0, 1) := by decide +kernel
theorem dX12_keepRing_9 : decode cX12_keepRing 9 = .ok (.getfield 378, 3) := by decide +kernel
theorem dX12_keepRing_12 : decode cX12_keepRing 12 = .ok (.if_icmp .lt 19, 3) := by decide +kernel
theorem dX12_keepRing_15 : decode cX12_keepRing 15 = .ok (.iload_n 1, 1) := by decide +kernel
theorem dX12_keepRing_16 : decode cX12_keepRing 16 = .ok (.aload_n 0, 1) := by decide +kernel
theorem dX12_keepRing_17 : decode cX12_keepRing 17 = .ok (.getfield 378, 3) := by decide +kernel
theorem dX12_keepRing_20 : decode cX12_keepRing 20 = .ok (.if_icmp .ne 46, 3) := by decide +kernel
theorem dX12_keepRing_23 : decode cX12_keepRing 23 = .ok (.iload_n 2, 1) := by decide +kernel
theorem dX12_keepRing_24 : decode cX12_keepRing 24 = .ok (.aload_n 0, 1) := by decide +kernel
theorem dX12_keepRing_25 : decode cX12_keepRing 25 = .ok (.getfield 381, 3) := by decide +kernel
theorem dX12_keepRing_28 : decode cX12_keepRing 28 = .ok (.if_icmp .ge 38, 3) := by decide +kernel
theorem dX12_keepRing_31 : decode cX12_keepRing 31 = .ok (.aload_n 0, 1) := by decide +kernel
theorem dX12_keepRing_32 : decode cX12_keepRing 32 = .ok (.iload_n 1, 1) := by decide +kernel
theorem dX12_keepRing_33 : decode cX12_keepRing 33 = .ok (.putfield 378, 3) := by decide +kernel
theorem dX12_keepRing_36 : decode cX12_keepRing 36 = .ok (.aload_n 0, 1) := by decide +kernel
theorem dX12_keepRing_37 : decode cX12_keepRing 37 = .ok (.iload_n 2, 1) := by decide +kernel
theorem dX12_keepRing_38 : decode cX12_keepRing 38 = .ok (.putfield 381, 3) := by decide +kernel
theorem dX12_keepRing_41 : decode cX12_keepRing 41 = .ok (.iconst 0, 1) := by decide +kernel
theorem dX12_keepRing_42 : decode cX12_keepRing 42 = .ok (.istore_n 3, 1) := by decide +kernel
theorem dX12_keepRing_43 : decode cX12_keepRing 43 = .ok (.iload_n 3, 1) := by decide +kernel
theorem dX12_keepRing_44 : decode cX12_keepRing 44 = .ok (.iload_n 1, 1) := by decide +kernel
theorem dX12_keepRing_45 : decode cX12_keepRing 45 = .ok (.if_icmp .ge 21, 3) := by decide +kernel
theorem dX12_keepRing_48 : decode cX12_keepRing 48 = .ok (.aload_n 0, 1) := by decide +kernel
theorem dX12_keepRing_49 : decode cX12_keepRing 49 = .ok (.getfield 99, 3) := by decide +kernel
theorem dX12_keepRing_52 : decode cX12_keepRing 52 = .ok (.iload_n 3, 1) := by decide +kernel
theorem dX12_keepRing_53 : decode cX12_keepRing 53 = .ok (.aload_n 0, 1) := by decide +kernel
theorem dX12_keepRing_54 : decode cX12_keepRing 54 = .ok (.getfield 96, 3) := by decide +kernel
theorem dX12_keepRing_57 : decode cX12_keepRing 57 = .ok (.iload_n 3, 1) := by decide +kernel
theorem dX12_keepRing_58 : decode cX12_keepRing 58 = .ok (.iaload, 1) := by decide +kernel
theorem dX12_keepRing_59 : decode cX12_keepRing 59 = .ok (.iastore, 1) := by decide +kernel
theorem dX12_keepRing_60 : decode cX12_keepRing 60 = .ok (.iinc 3 1, 3) := by decide +kernel
theorem dX12_keepRing_63 : decode cX12_keepRing 63 = .ok (.goto (-20), 3) := by decide +kernel
theorem dX12_keepRing_66 : decode cX12_keepRing 66 = .ok (.return_, 1) := by decide +kernel
theorem dX12_ring_0 : decode cX12_ring 0 = .ok (.aload_n 0, 1) := by decide +kernel
theorem dX12_ring_1 : decode cX12_ring 1 = .ok (.iconst 0, 1) := by decide +kernel
theorem dX12_ring_2 : decode cX12_ring 2 = .ok (.putfield 123, 3) := by decide +kernel
theorem dX12_ring_5 : decode cX12_ring 5 = .ok (.aload_n 0, 1) := by decide +kernel
theorem dX12_ring_6 : decode cX12_ring 6 = .ok (.iload_n 1, 1) := by decide +kernel
theorem dX12_ring_7 : decode cX12_ring 7 = .ok (.invokevirtual 149, 3) := by decide +kernel
theorem dX12_ring_10 : decode cX12_ring 10 = .ok (.ifCond .ne 5, 3) := by decide +kernel
theorem dX12_ring_13 : decode cX12_ring 13 = .ok (.iconst (-1), 1) := by decide +kernel
theorem dX12_ring_14 : decode cX12_ring 14 = .ok (.ireturn, 1) := by decide +kernel
theorem dX12_ring_15 : decode cX12_ring 15 = .ok (.aload_n 0, 1) := by decide +kernel
theorem dX12_ring_16 : decode cX12_ring 16 = .ok (.invokevirtual 169, 3) := by decide +kernel
theorem dX12_ring_19 : decode cX12_ring 19 = .ok (.aload_n 0, 1) := by decide +kernel
theorem dX12_ring_20 : decode cX12_ring 20 = .ok (.iload_n 1, 1) := by decide +kernel
theorem dX12_ring_21 : decode cX12_ring 21 = .ok (.invokevirtual 394, 3) := by decide +kernel
theorem dX12_ring_24 : decode cX12_ring 24 = .ok (.aload_n 0, 1) := by decide +kernel
theorem dX12_ring_25 : decode cX12_ring 25 = .ok (.getfield 378, 3) := by decide +kernel
theorem dX12_ring_28 : decode cX12_ring 28 = .ok (.ifCond .ne 7, 3) := by decide +kernel
theorem dX12_ring_31 : decode cX12_ring 31 = .ok (.iconst (-1), 1) := by decide +kernel
theorem dX12_ring_32 : decode cX12_ring 32 = .ok (.goto 41, 3) := by decide +kernel
theorem dX12_ring_35 : decode cX12_ring 35 = .ok (.iload_n 2, 1) := by decide +kernel
theorem dX12_ring_36 : decode cX12_ring 36 = .ok (.iconst (-1), 1) := by decide +kernel
theorem dX12_ring_37 : decode cX12_ring 37 = .ok (.if_icmp .ne 10, 3) := by decide +kernel
theorem dX12_ring_40 : decode cX12_ring 40 = .ok (.aload_n 0, 1) := by decide +kernel
theorem dX12_ring_41 : decode cX12_ring 41 = .ok (.getfield 378, 3) := by decide +kernel
theorem dX12_ring_44 : decode cX12_ring 44 = .ok (.goto 29, 3) := by decide +kernel
theorem dX12_ring_47 : decode cX12_ring 47 = .ok (.iload_n 2, 1) := by decide +kernel
theorem dX12_ring_48 : decode cX12_ring 48 = .ok (.i2l, 1) := by decide +kernel
theorem dX12_ring_49 : decode cX12_ring 49 = .ok (.lconst 0, 1) := by decide +kernel
theorem dX12_ring_50 : decode cX12_ring 50 = .ok (.aload_n 0, 1) := by decide +kernel
theorem dX12_ring_51 : decode cX12_ring 51 = .ok (.getfield 378, 3) := by decide +kernel
theorem dX12_ring_54 : decode cX12_ring 54 = .ok (.i2l, 1) := by decide +kernel
theorem dX12_ring_55 : decode cX12_ring 55 = .ok (.lconst 1, 1) := by decide +kernel
theorem dX12_ring_56 : decode cX12_ring 56 = .ok (.lsub, 1) := by decide +kernel
theorem dX12_ring_57 : decode cX12_ring 57 = .ok (.invokestatic 129, 3) := by decide +kernel
theorem dX12_ring_60 : decode cX12_ring 60 = .ok (.ifCond .eq 12, 3) := by decide +kernel
theorem dX12_ring_63 : decode cX12_ring 63 = .ok (.aload_n 0, 1) := by decide +kernel
theorem dX12_ring_64 : decode cX12_ring 64 = .ok (.getfield 99, 3) := by decide +kernel
theorem dX12_ring_67 : decode cX12_ring 67 = .ok (.iload_n 2, 1) := by decide +kernel
theorem dX12_ring_68 : decode cX12_ring 68 = .ok (.iaload, 1) := by decide +kernel
theorem dX12_ring_69 : decode cX12_ring 69 = .ok (.goto 4, 3) := by decide +kernel
theorem dX12_ring_72 : decode cX12_ring 72 = .ok (.iconst (-1), 1) := by decide +kernel
theorem dX12_ring_73 : decode cX12_ring 73 = .ok (.ireturn, 1) := by decide +kernel
theorem dX12_cancel_0 : decode cX12_cancel 0 = .ok (.aload_n 0, 1) := by decide +kernel
theorem dX12_cancel_1 : decode cX12_cancel 1 = .ok (.iconst 0, 1) := by decide +kernel
theorem dX12_cancel_2 : decode cX12_cancel 2 = .ok (.putfield 123, 3) := by decide +kernel
theorem dX12_cancel_5 : decode cX12_cancel 5 = .ok (.aload_n 0, 1) := by decide +kernel
theorem dX12_cancel_6 : decode cX12_cancel 6 = .ok (.iload_n 1, 1) := by decide +kernel
theorem dX12_cancel_7 : decode cX12_cancel 7 = .ok (.invokevirtual 149, 3) := by decide +kernel
theorem dX12_cancel_10 : decode cX12_cancel 10 = .ok (.ifCond .ne 10, 3) := by decide +kernel
theorem dX12_cancel_13 : decode cX12_cancel 13 = .ok (.aload_n 0, 1) := by decide +kernel
theorem dX12_cancel_14 : decode cX12_cancel 14 = .ok (.bipush (-2), 2) := by decide +kernel
theorem dX12_cancel_16 : decode cX12_cancel 16 = .ok (.invokevirtual 133, 3) := by decide +kernel
theorem dX12_cancel_19 : decode cX12_cancel 19 = .ok (.ireturn, 1) := by decide +kernel
theorem dX12_cancel_20 : decode cX12_cancel 20 = .ok (.aload_n 0, 1) := by decide +kernel
theorem dX12_cancel_21 : decode cX12_cancel 21 = .ok (.invokevirtual 169, 3) := by decide +kernel
theorem dX12_cancel_24 : decode cX12_cancel 24 = .ok (.aload_n 0, 1) := by decide +kernel
theorem dX12_cancel_25 : decode cX12_cancel 25 = .ok (.iload_n 1, 1) := by decide +kernel
theorem dX12_cancel_26 : decode cX12_cancel 26 = .ok (.invokevirtual 394, 3) := by decide +kernel
theorem dX12_cancel_29 : decode cX12_cancel 29 = .ok (.aload_n 0, 1) := by decide +kernel
theorem dX12_cancel_30 : decode cX12_cancel 30 = .ok (.getfield 378, 3) := by decide +kernel
theorem dX12_cancel_33 : decode cX12_cancel 33 = .ok (.ifCond .ne 10, 3) := by decide +kernel
theorem dX12_cancel_36 : decode cX12_cancel 36 = .ok (.aload_n 0, 1) := by decide +kernel
theorem dX12_cancel_37 : decode cX12_cancel 37 = .ok (.bipush (-3), 2) := by decide +kernel
theorem dX12_cancel_39 : decode cX12_cancel 39 = .ok (.invokevirtual 133, 3) := by decide +kernel
theorem dX12_cancel_42 : decode cX12_cancel 42 = .ok (.ireturn, 1) := by decide +kernel
theorem dX12_cancel_43 : decode cX12_cancel 43 = .ok (.ldc_w 397, 3) := by decide +kernel
theorem dX12_cancel_46 : decode cX12_cancel 46 = .ok (.istore_n 2, 1) := by decide +kernel
theorem dX12_cancel_47 : decode cX12_cancel 47 = .ok (.iconst 0, 1) := by decide +kernel
theorem dX12_cancel_48 : decode cX12_cancel 48 = .ok (.istore_n 3, 1) := by decide +kernel
theorem dX12_cancel_49 : decode cX12_cancel 49 = .ok (.iload_n 3, 1) := by decide +kernel
theorem dX12_cancel_50 : decode cX12_cancel 50 = .ok (.aload_n 0, 1) := by decide +kernel
theorem dX12_cancel_51 : decode cX12_cancel 51 = .ok (.getfield 378, 3) := by decide +kernel
theorem dX12_cancel_54 : decode cX12_cancel 54 = .ok (.if_icmp .ge 48, 3) := by decide +kernel
theorem dX12_cancel_57 : decode cX12_cancel 57 = .ok (.aload_n 0, 1) := by decide +kernel
theorem dX12_cancel_58 : decode cX12_cancel 58 = .ok (.aload_n 0, 1) := by decide +kernel
theorem dX12_cancel_59 : decode cX12_cancel 59 = .ok (.getfield 99, 3) := by decide +kernel
theorem dX12_cancel_62 : decode cX12_cancel 62 = .ok (.iload_n 3, 1) := by decide +kernel
theorem dX12_cancel_63 : decode cX12_cancel 63 = .ok (.iaload, 1) := by decide +kernel
theorem dX12_cancel_64 : decode cX12_cancel 64 = .ok (.aload_n 0, 1) := by decide +kernel
theorem dX12_cancel_65 : decode cX12_cancel 65 = .ok (.getfield 99, 3) := by decide +kernel
theorem dX12_cancel_68 : decode cX12_cancel 68 = .ok (.iload_n 3, 1) := by decide +kernel
theorem dX12_cancel_69 : decode cX12_cancel 69 = .ok (.iconst 1, 1) := by decide +kernel
theorem dX12_cancel_70 : decode cX12_cancel 70 = .ok (.iadd, 1) := by decide +kernel
theorem dX12_cancel_71 : decode cX12_cancel 71 = .ok (.aload_n 0, 1) := by decide +kernel
theorem dX12_cancel_72 : decode cX12_cancel 72 = .ok (.getfield 378, 3) := by decide +kernel
theorem dX12_cancel_75 : decode cX12_cancel 75 = .ok (.irem, 1) := by decide +kernel
theorem dX12_cancel_76 : decode cX12_cancel 76 = .ok (.iaload, 1) := by decide +kernel
theorem dX12_cancel_77 : decode cX12_cancel 77 = .ok (.iload_n 1, 1) := by decide +kernel
theorem dX12_cancel_78 : decode cX12_cancel 78 = .ok (.invokevirtual 384, 3) := by decide +kernel
theorem dX12_cancel_81 : decode cX12_cancel 81 = .ok (.istore 4, 2) := by decide +kernel
theorem dX12_cancel_83 : decode cX12_cancel 83 = .ok (.iload 4, 2) := by decide +kernel
theorem dX12_cancel_85 : decode cX12_cancel 85 = .ok (.iload_n 2, 1) := by decide +kernel
theorem dX12_cancel_86 : decode cX12_cancel 86 = .ok (.if_icmp .ge 8, 3) := by decide +kernel
theorem dX12_cancel_89 : decode cX12_cancel 89 = .ok (.iload 4, 2) := by decide +kernel
theorem dX12_cancel_91 : decode cX12_cancel 91 = .ok (.goto 4, 3) := by decide +kernel
theorem dX12_cancel_94 : decode cX12_cancel 94 = .ok (.iload_n 2, 1) := by decide +kernel
theorem dX12_cancel_95 : decode cX12_cancel 95 = .ok (.istore_n 2, 1) := by decide +kernel
theorem dX12_cancel_96 : decode cX12_cancel 96 = .ok (.iinc 3 1, 3) := by decide +kernel
theorem dX12_cancel_99 : decode cX12_cancel 99 = .ok (.goto (-50), 3) := by decide +kernel
theorem dX12_cancel_102 : decode cX12_cancel 102 = .ok (.iconst 0, 1) := by decide +kernel
theorem dX12_cancel_103 : decode cX12_cancel 103 = .ok (.istore_n 3, 1) := by decide +kernel
theorem dX12_cancel_104 : decode cX12_cancel 104 = .ok (.iload_n 3, 1) := by decide +kernel
theorem dX12_cancel_105 : decode cX12_cancel 105 = .ok (.aload_n 0, 1) := by decide +kernel
theorem dX12_cancel_106 : decode cX12_cancel 106 = .ok (.getfield 378, 3) := by decide +kernel
theorem dX12_cancel_109 : decode cX12_cancel 109 = .ok (.if_icmp .ge 147, 3) := by decide +kernel
theorem dX12_cancel_112 : decode cX12_cancel 112 = .ok (.iload_n 2, 1) := by decide +kernel
theorem dX12_cancel_113 : decode cX12_cancel 113 = .ok (.istore 4, 2) := by decide +kernel
theorem dX12_cancel_115 : decode cX12_cancel 115 = .ok (.iconst 0, 1) := by decide +kernel
theorem dX12_cancel_116 : decode cX12_cancel 116 = .ok (.istore 5, 2) := by decide +kernel
theorem dX12_cancel_118 : decode cX12_cancel 118 = .ok (.iload 5, 2) := by decide +kernel
theorem dX12_cancel_120 : decode cX12_cancel 120 = .ok (.aload_n 0, 1) := by decide +kernel
theorem dX12_cancel_121 : decode cX12_cancel 121 = .ok (.invokevirtual 139, 3) := by decide +kernel
theorem dX12_cancel_124 : decode cX12_cancel 124 = .ok (.if_icmp .ge 126, 3) := by decide +kernel
theorem dX12_cancel_127 : decode cX12_cancel 127 = .ok (.aload_n 0, 1) := by decide +kernel
theorem dX12_cancel_128 : decode cX12_cancel 128 = .ok (.iload 5, 2) := by decide +kernel
theorem dX12_cancel_130 : decode cX12_cancel 130 = .ok (.iload_n 1, 1) := by decide +kernel
theorem dX12_cancel_131 : decode cX12_cancel 131 = .ok (.invokevirtual 360, 3) := by decide +kernel
theorem dX12_cancel_134 : decode cX12_cancel 134 = .ok (.ifCond .eq 46, 3) := by decide +kernel
theorem dX12_cancel_137 : decode cX12_cancel 137 = .ok (.aload_n 0, 1) := by decide +kernel
theorem dX12_cancel_138 : decode cX12_cancel 138 = .ok (.iload 5, 2) := by decide +kernel
theorem dX12_cancel_140 : decode cX12_cancel 140 = .ok (.iconst 0, 1) := by decide +kernel
theorem dX12_cancel_141 : decode cX12_cancel 141 = .ok (.invokevirtual 143, 3) := by decide +kernel
theorem dX12_cancel_144 : decode cX12_cancel 144 = .ok (.aload_n 0, 1) := by decide +kernel
theorem dX12_cancel_145 : decode cX12_cancel 145 = .ok (.getfield 99, 3) := by decide +kernel
theorem dX12_cancel_148 : decode cX12_cancel 148 = .ok (.iload_n 3, 1) := by decide +kernel
theorem dX12_cancel_149 : decode cX12_cancel 149 = .ok (.iaload, 1) := by decide +kernel
theorem dX12_cancel_150 : decode cX12_cancel 150 = .ok (.if_icmp .ne 30, 3) := by decide +kernel
theorem dX12_cancel_153 : decode cX12_cancel 153 = .ok (.aload_n 0, 1) := by decide +kernel
theorem dX12_cancel_154 : decode cX12_cancel 154 = .ok (.iload 5, 2) := by decide +kernel
theorem dX12_cancel_156 : decode cX12_cancel 156 = .ok (.iconst 1, 1) := by decide +kernel
theorem dX12_cancel_157 : decode cX12_cancel 157 = .ok (.invokevirtual 143, 3) := by decide +kernel
theorem dX12_cancel_160 : decode cX12_cancel 160 = .ok (.aload_n 0, 1) := by decide +kernel
theorem dX12_cancel_161 : decode cX12_cancel 161 = .ok (.getfield 99, 3) := by decide +kernel
theorem dX12_cancel_164 : decode cX12_cancel 164 = .ok (.iload_n 3, 1) := by decide +kernel
theorem dX12_cancel_165 : decode cX12_cancel 165 = .ok (.iconst 1, 1) := by decide +kernel
theorem dX12_cancel_166 : decode cX12_cancel 166 = .ok (.iadd, 1) := by decide +kernel
theorem dX12_cancel_167 : decode cX12_cancel 167 = .ok (.aload_n 0, 1) := by decide +kernel
theorem dX12_cancel_168 : decode cX12_cancel 168 = .ok (.getfield 378, 3) := by decide +kernel
theorem dX12_cancel_171 : decode cX12_cancel 171 = .ok (.irem, 1) := by decide +kernel
theorem dX12_cancel_172 : decode cX12_cancel 172 = .ok (.iaload, 1) := by decide +kernel
theorem dX12_cancel_173 : decode cX12_cancel 173 = .ok (.if_icmp .ne 7, 3) := by decide +kernel
theorem dX12_cancel_176 : decode cX12_cancel 176 = .ok (.iconst 1, 1) := by decide +kernel
theorem dX12_cancel_177 : decode cX12_cancel 177 = .ok (.goto 4, 3) := by decide +kernel
theorem dX12_cancel_180 : decode cX12_cancel 180 = .ok (.iconst 0, 1) := by decide +kernel
theorem dX12_cancel_181 : decode cX12_cancel 181 = .ok (.istore 6, 2) := by decide +kernel
theorem dX12_cancel_183 : decode cX12_cancel 183 = .ok (.iload 6, 2) := by decide +kernel
theorem dX12_cancel_185 : decode cX12_cancel 185 = .ok (.ifCond .ne 7, 3) := by decide +kernel
theorem dX12_cancel_188 : decode cX12_cancel 188 = .ok (.iconst 0, 1) := by decide +kernel
theorem dX12_cancel_189 : decode cX12_cancel 189 = .ok (.goto 27, 3) := by decide +kernel
theorem dX12_cancel_192 : decode cX12_cancel 192 = .ok (.aload_n 0, 1) := by decide +kernel
theorem dX12_cancel_193 : decode cX12_cancel 193 = .ok (.iload 5, 2) := by decide +kernel
theorem dX12_cancel_195 : decode cX12_cancel 195 = .ok (.iconst 3, 1) := by decide +kernel
theorem dX12_cancel_196 : decode cX12_cancel 196 = .ok (.invokevirtual 143, 3) := by decide +kernel
theorem dX12_cancel_199 : decode cX12_cancel 199 = .ok (.iload 4, 2) := by decide +kernel
theorem dX12_cancel_201 : decode cX12_cancel 201 = .ok (.if_icmp .ge 13, 3) := by decide +kernel
theorem dX12_cancel_204 : decode cX12_cancel 204 = .ok (.aload_n 0, 1) := by decide +kernel
theorem dX12_cancel_205 : decode cX12_cancel 205 = .ok (.iload 5, 2) := by decide +kernel
theorem dX12_cancel_207 : decode cX12_cancel 207 = .ok (.iconst 3, 1) := by decide +kernel
theorem dX12_cancel_208 : decode cX12_cancel 208 = .ok (.invokevirtual 143, 3) := by decide +kernel
theorem dX12_cancel_211 : decode cX12_cancel 211 = .ok (.goto 5, 3) := by decide +kernel
theorem dX12_cancel_214 : decode cX12_cancel 214 = .ok (.iload 4, 2) := by decide +kernel
theorem dX12_cancel_216 : decode cX12_cancel 216 = .ok (.istore 7, 2) := by decide +kernel
theorem dX12_cancel_218 : decode cX12_cancel 218 = .ok (.aload_n 0, 1) := by decide +kernel
theorem dX12_cancel_219 : decode cX12_cancel 219 = .ok (.getfield 13, 3) := by decide +kernel
theorem dX12_cancel_222 : decode cX12_cancel 222 = .ok (.bipush 14, 2) := by decide +kernel
theorem dX12_cancel_224 : decode cX12_cancel 224 = .ok (.iconst 5, 1) := by decide +kernel
theorem dX12_cancel_225 : decode cX12_cancel 225 = .ok (.iload 5, 2) := by decide +kernel
theorem dX12_cancel_227 : decode cX12_cancel 227 = .ok (.imul, 1) := by decide +kernel
theorem dX12_cancel_228 : decode cX12_cancel 228 = .ok (.iadd, 1) := by decide +kernel
theorem dX12_cancel_229 : decode cX12_cancel 229 = .ok (.iconst 3, 1) := by decide +kernel
theorem dX12_cancel_230 : decode cX12_cancel 230 = .ok (.iadd, 1) := by decide +kernel
theorem dX12_cancel_231 : decode cX12_cancel 231 = .ok (.dup2, 1) := by decide +kernel
theorem dX12_cancel_232 : decode cX12_cancel 232 = .ok (.iaload, 1) := by decide +kernel
theorem dX12_cancel_233 : decode cX12_cancel 233 = .ok (.iload 7, 2) := by decide +kernel
theorem dX12_cancel_235 : decode cX12_cancel 235 = .ok (.isub, 1) := by decide +kernel
theorem dX12_cancel_236 : decode cX12_cancel 236 = .ok (.iastore, 1) := by decide +kernel
theorem dX12_cancel_237 : decode cX12_cancel 237 = .ok (.iload 4, 2) := by decide +kernel
theorem dX12_cancel_239 : decode cX12_cancel 239 = .ok (.iload 7, 2) := by decide +kernel
theorem dX12_cancel_241 : decode cX12_cancel 241 = .ok (.isub, 1) := by decide +kernel
theorem dX12_cancel_242 : decode cX12_cancel 242 = .ok (.istore 4, 2) := by decide +kernel
theorem dX12_cancel_244 : decode cX12_cancel 244 = .ok (.iinc 5 1, 3) := by decide +kernel
theorem dX12_cancel_247 : decode cX12_cancel 247 = .ok (.goto (-129), 3) := by decide +kernel
theorem dX12_cancel_250 : decode cX12_cancel 250 = .ok (.iinc 3 1, 3) := by decide +kernel
theorem dX12_cancel_253 : decode cX12_cancel 253 = .ok (.goto (-149), 3) := by decide +kernel
theorem dX12_cancel_256 : decode cX12_cancel 256 = .ok (.aload_n 0, 1) := by decide +kernel
theorem dX12_cancel_257 : decode cX12_cancel 257 = .ok (.invokevirtual 172, 3) := by decide +kernel
theorem dX12_cancel_260 : decode cX12_cancel 260 = .ok (.aload_n 0, 1) := by decide +kernel
theorem dX12_cancel_261 : decode cX12_cancel 261 = .ok (.iload_n 2, 1) := by decide +kernel
theorem dX12_cancel_262 : decode cX12_cancel 262 = .ok (.invokevirtual 133, 3) := by decide +kernel
theorem dX12_cancel_265 : decode cX12_cancel 265 = .ok (.ireturn, 1) := by decide +kernel
theorem dX12_isPlayed_0 : decode cX12_isPlayed 0 = .ok (.aload_n 0, 1) := by decide +kernel
theorem dX12_isPlayed_1 : decode cX12_isPlayed 1 = .ok (.iload_n 1, 1) := by decide +kernel
theorem dX12_isPlayed_2 : decode cX12_isPlayed 2 = .ok (.iconst 1, 1) := by decide +kernel
theorem dX12_isPlayed_3 : decode cX12_isPlayed 3 = .ok (.invokevirtual 143, 3) := by decide +kernel
theorem dX12_isPlayed_6 : decode cX12_isPlayed 6 = .ok (.iload_n 2, 1) := by decide +kernel
theorem dX12_isPlayed_7 : decode cX12_isPlayed 7 = .ok (.if_icmp .ne 38, 3) := by decide +kernel
theorem dX12_isPlayed_10 : decode cX12_isPlayed 10 = .ok (.aload_n 0, 1) := by decide +kernel
theorem dX12_isPlayed_11 : decode cX12_isPlayed 11 = .ok (.getfield 81, 3) := by decide +kernel
theorem dX12_isPlayed_14 : decode cX12_isPlayed 14 = .ok (.iload_n 1, 1) := by decide +kernel
theorem dX12_isPlayed_15 : decode cX12_isPlayed 15 = .ok (.baload, 1) := by decide +kernel
theorem dX12_isPlayed_16 : decode cX12_isPlayed 16 = .ok (.ifCond .ne 29, 3) := by decide +kernel
theorem dX12_isPlayed_19 : decode cX12_isPlayed 19 = .ok (.aload_n 0, 1) := by decide +kernel
theorem dX12_isPlayed_20 : decode cX12_isPlayed 20 = .ok (.getfield 84, 3) := by decide +kernel
theorem dX12_isPlayed_23 : decode cX12_isPlayed 23 = .ok (.iload_n 1, 1) := by decide +kernel
theorem dX12_isPlayed_24 : decode cX12_isPlayed 24 = .ok (.baload, 1) := by decide +kernel
theorem dX12_isPlayed_25 : decode cX12_isPlayed 25 = .ok (.ifCond .ne 20, 3) := by decide +kernel
theorem dX12_isPlayed_28 : decode cX12_isPlayed 28 = .ok (.iload_n 3, 1) := by decide +kernel
theorem dX12_isPlayed_29 : decode cX12_isPlayed 29 = .ok (.aload_n 0, 1) := by decide +kernel
theorem dX12_isPlayed_30 : decode cX12_isPlayed 30 = .ok (.iload_n 1, 1) := by decide +kernel
theorem dX12_isPlayed_31 : decode cX12_isPlayed 31 = .ok (.iconst 0, 1) := by decide +kernel
theorem dX12_isPlayed_32 : decode cX12_isPlayed 32 = .ok (.invokevirtual 143, 3) := by decide +kernel
theorem dX12_isPlayed_35 : decode cX12_isPlayed 35 = .ok (.invokestatic 367, 3) := by decide +kernel
theorem dX12_isPlayed_38 : decode cX12_isPlayed 38 = .ok (.ifCond .eq 7, 3) := by decide +kernel
theorem dX12_isPlayed_41 : decode cX12_isPlayed 41 = .ok (.iconst 1, 1) := by decide +kernel
theorem dX12_isPlayed_42 : decode cX12_isPlayed 42 = .ok (.goto 4, 3) := by decide +kernel
theorem dX12_isPlayed_45 : decode cX12_isPlayed 45 = .ok (.iconst 0, 1) := by decide +kernel
theorem dX12_isPlayed_46 : decode cX12_isPlayed 46 = .ok (.ireturn, 1) := by decide +kernel
theorem dX12_findMosts_0 : decode cX12_findMosts 0 = .ok (.iconst 0, 1) := by decide +kernel
theorem dX12_findMosts_1 : decode cX12_findMosts 1 = .ok (.istore 4, 2) := by decide +kernel
theorem dX12_findMosts_3 : decode cX12_findMosts 3 = .ok (.iload 4, 2) := by decide +kernel
theorem dX12_findMosts_5 : decode cX12_findMosts 5 = .ok (.iload_n 3, 1) := by decide +kernel
theorem dX12_findMosts_6 : decode cX12_findMosts 6 = .ok (.if_icmp .gt 26, 3) := by decide +kernel
theorem dX12_findMosts_9 : decode cX12_findMosts 9 = .ok (.aload_n 0, 1) := by decide +kernel
theorem dX12_findMosts_10 : decode cX12_findMosts 10 = .ok (.getfield 102, 3) := by decide +kernel
theorem dX12_findMosts_13 : decode cX12_findMosts 13 = .ok (.sipush 241, 3) := by decide +kernel
theorem dX12_findMosts_16 : decode cX12_findMosts 16 = .ok (.aload_n 0, 1) := by decide +kernel
theorem dX12_findMosts_17 : decode cX12_findMosts 17 = .ok (.invokevirtual 139, 3) := by decide +kernel
theorem dX12_findMosts_20 : decode cX12_findMosts 20 = .ok (.imul, 1) := by decide +kernel
theorem dX12_findMosts_21 : decode cX12_findMosts 21 = .ok (.iload 4, 2) := by decide +kernel
theorem dX12_findMosts_23 : decode cX12_findMosts 23 = .ok (.iadd, 1) := by decide +kernel
theorem dX12_findMosts_24 : decode cX12_findMosts 24 = .ok (.iconst 0, 1) := by decide +kernel
theorem dX12_findMosts_25 : decode cX12_findMosts 25 = .ok (.iastore, 1) := by decide +kernel
theorem dX12_findMosts_26 : decode cX12_findMosts 26 = .ok (.iinc 4 1, 3) := by decide +kernel
theorem dX12_findMosts_29 : decode cX12_findMosts 29 = .ok (.goto (-26), 3) := by decide +kernel
theorem dX12_findMosts_32 : decode cX12_findMosts 32 = .ok (.aload_n 0, 1) := by decide +kernel
theorem dX12_findMosts_33 : decode cX12_findMosts 33 = .ok (.invokevirtual 139, 3) := by decide +kernel
theorem dX12_findMosts_36 : decode cX12_findMosts 36 = .ok (.iconst 1, 1) := by decide +kernel
theorem dX12_findMosts_37 : decode cX12_findMosts 37 = .ok (.isub, 1) := by decide +kernel
theorem dX12_findMosts_38 : decode cX12_findMosts 38 = .ok (.istore 4, 2) := by decide +kernel
theorem dX12_findMosts_40 : decode cX12_findMosts 40 = .ok (.iload 4, 2) := by decide +kernel
theorem dX12_findMosts_42 : decode cX12_findMosts 42 = .ok (.ifCond .lt 152, 3) := by decide +kernel
theorem dX12_findMosts_45 : decode cX12_findMosts 45 = .ok (.aload_n 0, 1) := by decide +kernel
theorem dX12_findMosts_46 : decode cX12_findMosts 46 = .ok (.iload 4, 2) := by decide +kernel
theorem dX12_findMosts_48 : decode cX12_findMosts 48 = .ok (.invokevirtual 350, 3) := by decide +kernel
theorem dX12_findMosts_51 : decode cX12_findMosts 51 = .ok (.istore 5, 2) := by decide +kernel
theorem dX12_findMosts_53 : decode cX12_findMosts 53 = .ok (.aload_n 0, 1) := by decide +kernel
theorem dX12_findMosts_54 : decode cX12_findMosts 54 = .ok (.iload 4, 2) := by decide +kernel
theorem dX12_findMosts_56 : decode cX12_findMosts 56 = .ok (.iload_n 1, 1) := by decide +kernel
theorem dX12_findMosts_57 : decode cX12_findMosts 57 = .ok (.iload_n 2, 1) := by decide +kernel
theorem dX12_findMosts_58 : decode cX12_findMosts 58 = .ok (.invokevirtual 398, 3) := by decide +kernel
theorem dX12_findMosts_61 : decode cX12_findMosts 61 = .ok (.ifCond .eq 13, 3) := by decide +kernel
theorem dX12_findMosts_64 : decode cX12_findMosts 64 = .ok (.aload_n 0, 1) := by decide +kernel
theorem dX12_findMosts_65 : decode cX12_findMosts 65 = .ok (.iload 4, 2) := by decide +kernel
theorem dX12_findMosts_67 : decode cX12_findMosts 67 = .ok (.iconst 3, 1) := by decide +kernel
theorem dX12_findMosts_68 : decode cX12_findMosts 68 = .ok (.invokevirtual 143, 3) := by decide +kernel
theorem dX12_findMosts_71 : decode cX12_findMosts 71 = .ok (.goto 4, 3) := by decide +kernel
theorem dX12_findMosts_74 : decode cX12_findMosts 74 = .ok (.iconst 0, 1) := by decide +kernel
theorem dX12_findMosts_75 : decode cX12_findMosts 75 = .ok (.istore 6, 2) := by decide +kernel
theorem dX12_findMosts_77 : decode cX12_findMosts 77 = .ok (.iconst 0, 1) := by decide +kernel
theorem dX12_findMosts_78 : decode cX12_findMosts 78 = .ok (.istore 7, 2) := by decide +kernel
theorem dX12_findMosts_80 : decode cX12_findMosts 80 = .ok (.iload 7, 2) := by decide +kernel
theorem dX12_findMosts_82 : decode cX12_findMosts 82 = .ok (.iload_n 3, 1) := by decide +kernel
theorem dX12_findMosts_83 : decode cX12_findMosts 83 = .ok (.if_icmp .gt 105, 3) := by decide +kernel
theorem dX12_findMosts_86 : decode cX12_findMosts 86 = .ok (.iconst 0, 1) := by decide +kernel
theorem dX12_findMosts_87 : decode cX12_findMosts 87 = .ok (.istore 8, 2) := by decide +kernel
theorem dX12_findMosts_89 : decode cX12_findMosts 89 = .ok (.iconst 0, 1) := by decide +kernel
theorem dX12_findMosts_90 : decode cX12_findMosts 90 = .ok (.istore 9, 2) := by decide +kernel
theorem dX12_findMosts_92 : decode cX12_findMosts 92 = .ok (.iload 9, 2) := by decide +kernel
theorem dX12_findMosts_94 : decode cX12_findMosts 94 = .ok (.iload 6, 2) := by decide +kernel
theorem dX12_findMosts_96 : decode cX12_findMosts 96 = .ok (.if_icmp .gt 70, 3) := by decide +kernel
theorem dX12_findMosts_99 : decode cX12_findMosts 99 = .ok (.iload 9, 2) := by decide +kernel
theorem dX12_findMosts_101 : decode cX12_findMosts 101 = .ok (.iload 5, 2) := by decide +kernel
theorem dX12_findMosts_103 : decode cX12_findMosts 103 = .ok (.imul, 1) := by decide +kernel
theorem dX12_findMosts_104 : decode cX12_findMosts 104 = .ok (.iload 7, 2) := by decide +kernel
theorem dX12_findMosts_106 : decode cX12_findMosts 106 = .ok (.if_icmp .gt 60, 3) := by decide +kernel
theorem dX12_findMosts_109 : decode cX12_findMosts 109 = .ok (.iload 9, 2) := by decide +kernel
theorem dX12_findMosts_111 : decode cX12_findMosts 111 = .ok (.aload_n 0, 1) := by decide +kernel
theorem dX12_findMosts_112 : decode cX12_findMosts 112 = .ok (.getfield 78, 3) := by decide +kernel
theorem dX12_findMosts_115 : decode cX12_findMosts 115 = .ok (.iload 4, 2) := by decide +kernel
theorem dX12_findMosts_117 : decode cX12_findMosts 117 = .ok (.iaload, 1) := by decide +kernel
theorem dX12_findMosts_118 : decode cX12_findMosts 118 = .ok (.imul, 1) := by decide +kernel
theorem dX12_findMosts_119 : decode cX12_findMosts 119 = .ok (.aload_n 0, 1) := by decide +kernel
theorem dX12_findMosts_120 : decode cX12_findMosts 120 = .ok (.getfield 102, 3) := by decide +kernel
theorem dX12_findMosts_123 : decode cX12_findMosts 123 = .ok (.sipush 241, 3) := by decide +kernel
theorem dX12_findMosts_126 : decode cX12_findMosts 126 = .ok (.iload 4, 2) := by decide +kernel
theorem dX12_findMosts_128 : decode cX12_findMosts 128 = .ok (.iconst 1, 1) := by decide +kernel
theorem dX12_findMosts_129 : decode cX12_findMosts 129 = .ok (.iadd, 1) := by decide +kernel
theorem dX12_findMosts_130 : decode cX12_findMosts 130 = .ok (.imul, 1) := by decide +kernel
theorem dX12_findMosts_131 : decode cX12_findMosts 131 = .ok (.iload 7, 2) := by decide +kernel
theorem dX12_findMosts_133 : decode cX12_findMosts 133 = .ok (.iadd, 1) := by decide +kernel
theorem dX12_findMosts_134 : decode cX12_findMosts 134 = .ok (.iload 9, 2) := by decide +kernel
theorem dX12_findMosts_136 : decode cX12_findMosts 136 = .ok (.iload 5, 2) := by decide +kernel
theorem dX12_findMosts_138 : decode cX12_findMosts 138 = .ok (.imul, 1) := by decide +kernel
theorem dX12_findMosts_139 : decode cX12_findMosts 139 = .ok (.isub, 1) := by decide +kernel
theorem dX12_findMosts_140 : decode cX12_findMosts 140 = .ok (.iaload, 1) := by decide +kernel
theorem dX12_findMosts_141 : decode cX12_findMosts 141 = .ok (.iadd, 1) := by decide +kernel
theorem dX12_findMosts_142 : decode cX12_findMosts 142 = .ok (.istore 10, 2) := by decide +kernel
theorem dX12_findMosts_144 : decode cX12_findMosts 144 = .ok (.iload 10, 2) := by decide +kernel
theorem dX12_findMosts_146 : decode cX12_findMosts 146 = .ok (.iload 8, 2) := by decide +kernel
theorem dX12_findMosts_148 : decode cX12_findMosts 148 = .ok (.if_icmp .le 8, 3) := by decide +kernel
theorem dX12_findMosts_151 : decode cX12_findMosts 151 = .ok (.iload 10, 2) := by decide +kernel
theorem dX12_findMosts_153 : decode cX12_findMosts 153 = .ok (.goto 5, 3) := by decide +kernel
theorem dX12_findMosts_156 : decode cX12_findMosts 156 = .ok (.iload 8, 2) := by decide +kernel
theorem dX12_findMosts_158 : decode cX12_findMosts 158 = .ok (.istore 8, 2) := by decide +kernel
theorem dX12_findMosts_160 : decode cX12_findMosts 160 = .ok (.iinc 9 1, 3) := by decide +kernel
theorem dX12_findMosts_163 : decode cX12_findMosts 163 = .ok (.goto (-71), 3) := by decide +kernel
theorem dX12_findMosts_166 : decode cX12_findMosts 166 = .ok (.aload_n 0, 1) := by decide +kernel
theorem dX12_findMosts_167 : decode cX12_findMosts 167 = .ok (.getfield 102, 3) := by decide +kernel
theorem dX12_findMosts_170 : decode cX12_findMosts 170 = .ok (.sipush 241, 3) := by decide +kernel
theorem dX12_findMosts_173 : decode cX12_findMosts 173 = .ok (.iload 4, 2) := by decide +kernel
theorem dX12_findMosts_175 : decode cX12_findMosts 175 = .ok (.imul, 1) := by decide +kernel
theorem dX12_findMosts_176 : decode cX12_findMosts 176 = .ok (.iload 7, 2) := by decide +kernel
theorem dX12_findMosts_178 : decode cX12_findMosts 178 = .ok (.iadd, 1) := by decide +kernel
theorem dX12_findMosts_179 : decode cX12_findMosts 179 = .ok (.iload 8, 2) := by decide +kernel
theorem dX12_findMosts_181 : decode cX12_findMosts 181 = .ok (.iastore, 1) := by decide +kernel
theorem dX12_findMosts_182 : decode cX12_findMosts 182 = .ok (.iinc 7 1, 3) := by decide +kernel
theorem dX12_findMosts_185 : decode cX12_findMosts 185 = .ok (.goto (-105), 3) := by decide +kernel
theorem dX12_findMosts_188 : decode cX12_findMosts 188 = .ok (.iinc 4 (-1), 3) := by decide +kernel
theorem dX12_findMosts_191 : decode cX12_findMosts 191 = .ok (.goto (-151), 3) := by decide +kernel
theorem dX12_findMosts_194 : decode cX12_findMosts 194 = .ok (.return_, 1) := by decide +kernel
theorem dX12_findBest_0 : decode cX12_findBest 0 = .ok (.aload_n 0, 1) := by decide +kernel
theorem dX12_findBest_1 : decode cX12_findBest 1 = .ok (.iconst (-1), 1) := by decide +kernel
theorem dX12_findBest_2 : decode cX12_findBest 2 = .ok (.putfield 401, 3) := by decide +kernel
theorem dX12_findBest_5 : decode cX12_findBest 5 = .ok (.aload_n 0, 1) := by decide +kernel
theorem dX12_findBest_6 : decode cX12_findBest 6 = .ok (.iconst 0, 1) := by decide +kernel
theorem dX12_findBest_7 : decode cX12_findBest 7 = .ok (.putfield 404, 3) := by decide +kernel
theorem dX12_findBest_10 : decode cX12_findBest 10 = .ok (.iconst 0, 1) := by decide +kernel
theorem dX12_findBest_11 : decode cX12_findBest 11 = .ok (.istore 4, 2) := by decide +kernel
theorem dX12_findBest_13 : decode cX12_findBest 13 = .ok (.iload 4, 2) := by decide +kernel
theorem dX12_findBest_15 : decode cX12_findBest 15 = .ok (.sipush 256, 3) := by decide +kernel
theorem dX12_findBest_18 : decode cX12_findBest 18 = .ok (.if_icmp .ge 79, 3) := by decide +kernel
theorem dX12_findBest_21 : decode cX12_findBest 21 = .ok (.iload 4, 2) := by decide +kernel
theorem dX12_findBest_23 : decode cX12_findBest 23 = .ok (.invokestatic 370, 3) := by decide +kernel
theorem dX12_findBest_26 : decode cX12_findBest 26 = .ok (.iload_n 3, 1) := by decide +kernel
theorem dX12_findBest_27 : decode cX12_findBest 27 = .ok (.if_icmp .gt 64, 3) := by decide +kernel
theorem dX12_findBest_30 : decode cX12_findBest 30 = .ok (.aload_n 0, 1) := by decide +kernel
theorem dX12_findBest_31 : decode cX12_findBest 31 = .ok (.iload_n 1, 1) := by decide +kernel
theorem dX12_findBest_32 : decode cX12_findBest 32 = .ok (.iload 4, 2) := by decide +kernel
theorem dX12_findBest_34 : decode cX12_findBest 34 = .ok (.iload_n 2, 1) := by decide +kernel
theorem dX12_findBest_35 : decode cX12_findBest 35 = .ok (.invokevirtual 407, 3) := by decide +kernel
theorem dX12_findBest_38 : decode cX12_findBest 38 = .ok (.aload_n 0, 1) := by decide +kernel
theorem dX12_findBest_39 : decode cX12_findBest 39 = .ok (.getfield 102, 3) := by decide +kernel
theorem dX12_findBest_42 : decode cX12_findBest 42 = .ok (.iload_n 2, 1) := by decide +kernel
theorem dX12_findBest_43 : decode cX12_findBest 43 = .ok (.iaload, 1) := by decide +kernel
theorem dX12_findBest_44 : decode cX12_findBest 44 = .ok (.istore 5, 2) := by decide +kernel
theorem dX12_findBest_46 : decode cX12_findBest 46 = .ok (.iload 5, 2) := by decide +kernel
theorem dX12_findBest_48 : decode cX12_findBest 48 = .ok (.aload_n 0, 1) := by decide +kernel
theorem dX12_findBest_49 : decode cX12_findBest 49 = .ok (.getfield 401, 3) := by decide +kernel
theorem dX12_findBest_52 : decode cX12_findBest 52 = .ok (.if_icmp .gt 27, 3) := by decide +kernel
theorem dX12_findBest_55 : decode cX12_findBest 55 = .ok (.iload 5, 2) := by decide +kernel
theorem dX12_findBest_57 : decode cX12_findBest 57 = .ok (.aload_n 0, 1) := by decide +kernel
theorem dX12_findBest_58 : decode cX12_findBest 58 = .ok (.getfield 401, 3) := by decide +kernel
theorem dX12_findBest_61 : decode cX12_findBest 61 = .ok (.if_icmp .ne 30, 3) := by decide +kernel
theorem dX12_findBest_64 : decode cX12_findBest 64 = .ok (.iload 4, 2) := by decide +kernel
theorem dX12_findBest_66 : decode cX12_findBest 66 = .ok (.invokestatic 370, 3) := by decide +kernel
theorem dX12_findBest_69 : decode cX12_findBest 69 = .ok (.aload_n 0, 1) := by decide +kernel
theorem dX12_findBest_70 : decode cX12_findBest 70 = .ok (.getfield 404, 3) := by decide +kernel
theorem dX12_findBest_73 : decode cX12_findBest 73 = .ok (.invokestatic 370, 3) := by decide +kernel
theorem dX12_findBest_76 : decode cX12_findBest 76 = .ok (.if_icmp .ge 15, 3) := by decide +kernel
theorem dX12_findBest_79 : decode cX12_findBest 79 = .ok (.aload_n 0, 1) := by decide +kernel
theorem dX12_findBest_80 : decode cX12_findBest 80 = .ok (.iload 5, 2) := by decide +kernel
theorem dX12_findBest_82 : decode cX12_findBest 82 = .ok (.putfield 401, 3) := by decide +kernel
theorem dX12_findBest_85 : decode cX12_findBest 85 = .ok (.aload_n 0, 1) := by decide +kernel
theorem dX12_findBest_86 : decode cX12_findBest 86 = .ok (.iload 4, 2) := by decide +kernel
theorem dX12_findBest_88 : decode cX12_findBest 88 = .ok (.putfield 404, 3) := by decide +kernel
theorem dX12_findBest_91 : decode cX12_findBest 91 = .ok (.iinc 4 1, 3) := by decide +kernel
theorem dX12_findBest_94 : decode cX12_findBest 94 = .ok (.goto (-81), 3) := by decide +kernel
theorem dX12_findBest_97 : decode cX12_findBest 97 = .ok (.aload_n 0, 1) := by decide +kernel
theorem dX12_findBest_98 : decode cX12_findBest 98 = .ok (.iload_n 1, 1) := by decide +kernel
theorem dX12_findBest_99 : decode cX12_findBest 99 = .ok (.aload_n 0, 1) := by decide +kernel
theorem dX12_findBest_100 : decode cX12_findBest 100 = .ok (.getfield 404, 3) := by decide +kernel
theorem dX12_findBest_103 : decode cX12_findBest 103 = .ok (.iload_n 2, 1) := by decide +kernel
theorem dX12_findBest_104 : decode cX12_findBest 104 = .ok (.invokevirtual 407, 3) := by decide +kernel
theorem dX12_findBest_107 : decode cX12_findBest 107 = .ok (.aload_n 0, 1) := by decide +kernel
theorem dX12_findBest_108 : decode cX12_findBest 108 = .ok (.iconst 0, 1) := by decide +kernel
theorem dX12_findBest_109 : decode cX12_findBest 109 = .ok (.putfield 411, 3) := by decide +kernel
theorem dX12_findBest_112 : decode cX12_findBest 112 = .ok (.aload_n 0, 1) := by decide +kernel
theorem dX12_findBest_113 : decode cX12_findBest 113 = .ok (.getfield 102, 3) := by decide +kernel
theorem dX12_findBest_116 : decode cX12_findBest 116 = .ok (.aload_n 0, 1) := by decide +kernel
theorem dX12_findBest_117 : decode cX12_findBest 117 = .ok (.getfield 411, 3) := by decide +kernel
theorem dX12_findBest_120 : decode cX12_findBest 120 = .ok (.iaload, 1) := by decide +kernel
theorem dX12_findBest_121 : decode cX12_findBest 121 = .ok (.aload_n 0, 1) := by decide +kernel
theorem dX12_findBest_122 : decode cX12_findBest 122 = .ok (.getfield 401, 3) := by decide +kernel
theorem dX12_findBest_125 : decode cX12_findBest 125 = .ok (.if_icmp .ge 16, 3) := by decide +kernel
theorem dX12_findBest_128 : decode cX12_findBest 128 = .ok (.aload_n 0, 1) := by decide +kernel
theorem dX12_findBest_129 : decode cX12_findBest 129 = .ok (.dup, 1) := by decide +kernel
theorem dX12_findBest_130 : decode cX12_findBest 130 = .ok (.getfield 411, 3) := by decide +kernel
theorem dX12_findBest_133 : decode cX12_findBest 133 = .ok (.iconst 1, 1) := by decide +kernel
theorem dX12_findBest_134 : decode cX12_findBest 134 = .ok (.iadd, 1) := by decide +kernel
theorem dX12_findBest_135 : decode cX12_findBest 135 = .ok (.putfield 411, 3) := by decide +kernel
theorem dX12_findBest_138 : decode cX12_findBest 138 = .ok (.goto (-26), 3) := by decide +kernel
theorem dX12_findBest_141 : decode cX12_findBest 141 = .ok (.aload_n 0, 1) := by decide +kernel
theorem dX12_findBest_142 : decode cX12_findBest 142 = .ok (.getfield 411, 3) := by decide +kernel
theorem dX12_findBest_145 : decode cX12_findBest 145 = .ok (.istore 4, 2) := by decide +kernel
theorem dX12_findBest_147 : decode cX12_findBest 147 = .ok (.iconst 0, 1) := by decide +kernel
theorem dX12_findBest_148 : decode cX12_findBest 148 = .ok (.istore 5, 2) := by decide +kernel
theorem dX12_findBest_150 : decode cX12_findBest 150 = .ok (.iload 5, 2) := by decide +kernel
theorem dX12_findBest_152 : decode cX12_findBest 152 = .ok (.aload_n 0, 1) := by decide +kernel
theorem dX12_findBest_153 : decode cX12_findBest 153 = .ok (.invokevirtual 139, 3) := by decide +kernel
theorem dX12_findBest_156 : decode cX12_findBest 156 = .ok (.if_icmp .ge 109, 3) := by decide +kernel
theorem dX12_findBest_159 : decode cX12_findBest 159 = .ok (.iconst 0, 1) := by decide +kernel
theorem dX12_findBest_160 : decode cX12_findBest 160 = .ok (.istore 6, 2) := by decide +kernel
theorem dX12_findBest_162 : decode cX12_findBest 162 = .ok (.iload 6, 2) := by decide +kernel
theorem dX12_findBest_164 : decode cX12_findBest 164 = .ok (.aload_n 0, 1) := by decide +kernel
theorem dX12_findBest_165 : decode cX12_findBest 165 = .ok (.iload 5, 2) := by decide +kernel
theorem dX12_findBest_167 : decode cX12_findBest 167 = .ok (.invokevirtual 350, 3) := by decide +kernel
theorem dX12_findBest_170 : decode cX12_findBest 170 = .ok (.imul, 1) := by decide +kernel
theorem dX12_findBest_171 : decode cX12_findBest 171 = .ok (.iload 4, 2) := by decide +kernel
theorem dX12_findBest_173 : decode cX12_findBest 173 = .ok (.if_icmp .gt 57, 3) := by decide +kernel
theorem dX12_findBest_176 : decode cX12_findBest 176 = .ok (.iload 6, 2) := by decide +kernel
theorem dX12_findBest_178 : decode cX12_findBest 178 = .ok (.aload_n 0, 1) := by decide +kernel
theorem dX12_findBest_179 : decode cX12_findBest 179 = .ok (.getfield 78, 3) := by decide +kernel
theorem dX12_findBest_182 : decode cX12_findBest 182 = .ok (.iload 5, 2) := by decide +kernel
theorem dX12_findBest_184 : decode cX12_findBest 184 = .ok (.iaload, 1) := by decide +kernel
theorem dX12_findBest_185 : decode cX12_findBest 185 = .ok (.imul, 1) := by decide +kernel
theorem dX12_findBest_186 : decode cX12_findBest 186 = .ok (.aload_n 0, 1) := by decide +kernel
theorem dX12_findBest_187 : decode cX12_findBest 187 = .ok (.getfield 102, 3) := by decide +kernel
theorem dX12_findBest_190 : decode cX12_findBest 190 = .ok (.sipush 241, 3) := by decide +kernel
theorem dX12_findBest_193 : decode cX12_findBest 193 = .ok (.iload 5, 2) := by decide +kernel
theorem dX12_findBest_195 : decode cX12_findBest 195 = .ok (.iconst 1, 1) := by decide +kernel
theorem dX12_findBest_196 : decode cX12_findBest 196 = .ok (.iadd, 1) := by decide +kernel
theorem dX12_findBest_197 : decode cX12_findBest 197 = .ok (.imul, 1) := by decide +kernel
theorem dX12_findBest_198 : decode cX12_findBest 198 = .ok (.iload 4, 2) := by decide +kernel
theorem dX12_findBest_200 : decode cX12_findBest 200 = .ok (.iadd, 1) := by decide +kernel
theorem dX12_findBest_201 : decode cX12_findBest 201 = .ok (.iload 6, 2) := by decide +kernel
theorem dX12_findBest_203 : decode cX12_findBest 203 = .ok (.aload_n 0, 1) := by decide +kernel
theorem dX12_findBest_204 : decode cX12_findBest 204 = .ok (.iload 5, 2) := by decide +kernel
theorem dX12_findBest_206 : decode cX12_findBest 206 = .ok (.invokevirtual 350, 3) := by decide +kernel
theorem dX12_findBest_209 : decode cX12_findBest 209 = .ok (.imul, 1) := by decide +kernel
theorem dX12_findBest_210 : decode cX12_findBest 210 = .ok (.isub, 1) := by decide +kernel
theorem dX12_findBest_211 : decode cX12_findBest 211 = .ok (.iaload, 1) := by decide +kernel
theorem dX12_findBest_212 : decode cX12_findBest 212 = .ok (.iadd, 1) := by decide +kernel
theorem dX12_findBest_213 : decode cX12_findBest 213 = .ok (.aload_n 0, 1) := by decide +kernel
theorem dX12_findBest_214 : decode cX12_findBest 214 = .ok (.getfield 102, 3) := by decide +kernel
theorem dX12_findBest_217 : decode cX12_findBest 217 = .ok (.sipush 241, 3) := by decide +kernel
theorem dX12_findBest_220 : decode cX12_findBest 220 = .ok (.iload 5, 2) := by decide +kernel
theorem dX12_findBest_222 : decode cX12_findBest 222 = .ok (.imul, 1) := by decide +kernel
theorem dX12_findBest_223 : decode cX12_findBest 223 = .ok (.iload 4, 2) := by decide +kernel
theorem dX12_findBest_225 : decode cX12_findBest 225 = .ok (.iadd, 1) := by decide +kernel
theorem dX12_findBest_226 : decode cX12_findBest 226 = .ok (.iaload, 1) := by decide +kernel
theorem dX12_findBest_227 : decode cX12_findBest 227 = .ok (.if_icmp .eq 9, 3) := by decide +kernel
theorem dX12_findBest_230 : decode cX12_findBest 230 = .ok (.iinc 6 1, 3) := by decide +kernel
theorem dX12_findBest_233 : decode cX12_findBest 233 = .ok (.goto (-71), 3) := by decide +kernel
theorem dX12_findBest_236 : decode cX12_findBest 236 = .ok (.aload_n 0, 1) := by decide +kernel
theorem dX12_findBest_237 : decode cX12_findBest 237 = .ok (.getfield 105, 3) := by decide +kernel
theorem dX12_findBest_240 : decode cX12_findBest 240 = .ok (.iload 5, 2) := by decide +kernel
theorem dX12_findBest_242 : decode cX12_findBest 242 = .ok (.iload 6, 2) := by decide +kernel
theorem dX12_findBest_244 : decode cX12_findBest 244 = .ok (.iastore, 1) := by decide +kernel
theorem dX12_findBest_245 : decode cX12_findBest 245 = .ok (.iload 4, 2) := by decide +kernel
theorem dX12_findBest_247 : decode cX12_findBest 247 = .ok (.iload 6, 2) := by decide +kernel
theorem dX12_findBest_249 : decode cX12_findBest 249 = .ok (.aload_n 0, 1) := by decide +kernel
theorem dX12_findBest_250 : decode cX12_findBest 250 = .ok (.iload 5, 2) := by decide +kernel
theorem dX12_findBest_252 : decode cX12_findBest 252 = .ok (.invokevirtual 350, 3) := by decide +kernel
theorem dX12_findBest_255 : decode cX12_findBest 255 = .ok (.imul, 1) := by decide +kernel
theorem dX12_findBest_256 : decode cX12_findBest 256 = .ok (.isub, 1) := by decide +kernel
theorem dX12_findBest_257 : decode cX12_findBest 257 = .ok (.istore 4, 2) := by decide +kernel
theorem dX12_findBest_259 : decode cX12_findBest 259 = .ok (.iinc 5 1, 3) := by decide +kernel
theorem dX12_findBest_262 : decode cX12_findBest 262 = .ok (.goto (-112), 3) := by decide +kernel
theorem dX12_findBest_265 : decode cX12_findBest 265 = .ok (.return_, 1) := by decide +kernel
theorem dX12_isWedding_0 : decode cX12_isWedding 0 = .ok (.iload_n 0, 1) := by decide +kernel
theorem dX12_isWedding_1 : decode cX12_isWedding 1 = .ok (.invokestatic 153, 3) := by decide +kernel
theorem dX12_isWedding_4 : decode cX12_isWedding 4 = .ok (.ifCond .eq 31, 3) := by decide +kernel
theorem dX12_isWedding_7 : decode cX12_isWedding 7 = .ok (.iload_n 1, 1) := by decide +kernel
theorem dX12_isWedding_8 : decode cX12_isWedding 8 = .ok (.i2l, 1) := by decide +kernel
theorem dX12_isWedding_9 : decode cX12_isWedding 9 = .ok (.lconst 0, 1) := by decide +kernel
theorem dX12_isWedding_10 : decode cX12_isWedding 10 = .ok (.ldc2_w 414, 3) := by decide +kernel
theorem dX12_isWedding_13 : decode cX12_isWedding 13 = .ok (.invokestatic 129, 3) := by decide +kernel
theorem dX12_isWedding_16 : decode cX12_isWedding 16 = .ok (.ifCond .eq 19, 3) := by decide +kernel
theorem dX12_isWedding_19 : decode cX12_isWedding 19 = .ok (.iload_n 2, 1) := by decide +kernel
theorem dX12_isWedding_20 : decode cX12_isWedding 20 = .ok (.i2l, 1) := by decide +kernel
theorem dX12_isWedding_21 : decode cX12_isWedding 21 = .ok (.lconst 0, 1) := by decide +kernel
theorem dX12_isWedding_22 : decode cX12_isWedding 22 = .ok (.ldc2_w 416, 3) := by decide +kernel
theorem dX12_isWedding_25 : decode cX12_isWedding 25 = .ok (.invokestatic 129, 3) := by decide +kernel
theorem dX12_isWedding_28 : decode cX12_isWedding 28 = .ok (.ifCond .eq 7, 3) := by decide +kernel
theorem dX12_isWedding_31 : decode cX12_isWedding 31 = .ok (.iconst 1, 1) := by decide +kernel
theorem dX12_isWedding_32 : decode cX12_isWedding 32 = .ok (.goto 4, 3) := by decide +kernel
theorem dX12_isWedding_35 : decode cX12_isWedding 35 = .ok (.iconst 0, 1) := by decide +kernel
theorem dX12_isWedding_36 : decode cX12_isWedding 36 = .ok (.ireturn, 1) := by decide +kernel
theorem dX12_best_0 : decode cX12_best 0 = .ok (.aload_n 0, 1) := by decide +kernel
theorem dX12_best_1 : decode cX12_best 1 = .ok (.iconst 0, 1) := by decide +kernel
theorem dX12_best_2 : decode cX12_best 2 = .ok (.putfield 123, 3) := by decide +kernel
theorem dX12_best_5 : decode cX12_best 5 = .ok (.iload_n 1, 1) := by decide +kernel
theorem dX12_best_6 : decode cX12_best 6 = .ok (.iload_n 2, 1) := by decide +kernel
theorem dX12_best_7 : decode cX12_best 7 = .ok (.iload_n 3, 1) := by decide +kernel
theorem dX12_best_8 : decode cX12_best 8 = .ok (.invokestatic 418, 3) := by decide +kernel
theorem dX12_best_11 : decode cX12_best 11 = .ok (.ifCond .eq 22, 3) := by decide +kernel
theorem dX12_best_14 : decode cX12_best 14 = .ok (.iload 4, 2) := by decide +kernel
theorem dX12_best_16 : decode cX12_best 16 = .ok (.i2l, 1) := by decide +kernel
theorem dX12_best_17 : decode cX12_best 17 = .ok (.lconst 0, 1) := by decide +kernel
theorem dX12_best_18 : decode cX12_best 18 = .ok (.ldc2_w 373, 3) := by decide +kernel
theorem dX12_best_21 : decode cX12_best 21 = .ok (.aload_n 0, 1) := by decide +kernel
theorem dX12_best_22 : decode cX12_best 22 = .ok (.invokevirtual 139, 3) := by decide +kernel
theorem dX12_best_25 : decode cX12_best 25 = .ok (.i2l, 1) := by decide +kernel
theorem dX12_best_26 : decode cX12_best 26 = .ok (.ladd, 1) := by decide +kernel
theorem dX12_best_27 : decode cX12_best 27 = .ok (.invokestatic 129, 3) := by decide +kernel
theorem dX12_best_30 : decode cX12_best 30 = .ok (.ifCond .ne 5, 3) := by decide +kernel
theorem dX12_best_33 : decode cX12_best 33 = .ok (.iconst (-1), 1) := by decide +kernel
theorem dX12_best_34 : decode cX12_best 34 = .ok (.ireturn, 1) := by decide +kernel
theorem dX12_best_35 : decode cX12_best 35 = .ok (.aload_n 0, 1) := by decide +kernel
theorem dX12_best_36 : decode cX12_best 36 = .ok (.invokevirtual 169, 3) := by decide +kernel
theorem dX12_best_39 : decode cX12_best 39 = .ok (.aload_n 0, 1) := by decide +kernel
theorem dX12_best_40 : decode cX12_best 40 = .ok (.iload_n 1, 1) := by decide +kernel
theorem dX12_best_41 : decode cX12_best 41 = .ok (.iload_n 2, 1) := by decide +kernel
theorem dX12_best_42 : decode cX12_best 42 = .ok (.iload_n 3, 1) := by decide +kernel
theorem dX12_best_43 : decode cX12_best 43 = .ok (.invokevirtual 421, 3) := by decide +kernel
theorem dX12_best_46 : decode cX12_best 46 = .ok (.iload 4, 2) := by decide +kernel
theorem dX12_best_48 : decode cX12_best 48 = .ok (.ifCond .ne 10, 3) := by decide +kernel
theorem dX12_best_51 : decode cX12_best 51 = .ok (.aload_n 0, 1) := by decide +kernel
theorem dX12_best_52 : decode cX12_best 52 = .ok (.getfield 401, 3) := by decide +kernel
theorem dX12_best_55 : decode cX12_best 55 = .ok (.goto 38, 3) := by decide +kernel
theorem dX12_best_58 : decode cX12_best 58 = .ok (.iload 4, 2) := by decide +kernel
theorem dX12_best_60 : decode cX12_best 60 = .ok (.iconst 1, 1) := by decide +kernel
theorem dX12_best_61 : decode cX12_best 61 = .ok (.if_icmp .ne 10, 3) := by decide +kernel
theorem dX12_best_64 : decode cX12_best 64 = .ok (.aload_n 0, 1) := by decide +kernel
theorem dX12_best_65 : decode cX12_best 65 = .ok (.getfield 404, 3) := by decide +kernel
theorem dX12_best_68 : decode cX12_best 68 = .ok (.goto 25, 3) := by decide +kernel
theorem dX12_best_71 : decode cX12_best 71 = .ok (.iload 4, 2) := by decide +kernel
theorem dX12_best_73 : decode cX12_best 73 = .ok (.iconst 2, 1) := by decide +kernel
theorem dX12_best_74 : decode cX12_best 74 = .ok (.if_icmp .ne 10, 3) := by decide +kernel
theorem dX12_best_77 : decode cX12_best 77 = .ok (.aload_n 0, 1) := by decide +kernel
theorem dX12_best_78 : decode cX12_best 78 = .ok (.getfield 411, 3) := by decide +kernel
theorem dX12_best_81 : decode cX12_best 81 = .ok (.goto 12, 3) := by decide +kernel
theorem dX12_best_84 : decode cX12_best 84 = .ok (.aload_n 0, 1) := by decide +kernel
theorem dX12_best_85 : decode cX12_best 85 = .ok (.getfield 105, 3) := by decide +kernel
theorem dX12_best_88 : decode cX12_best 88 = .ok (.iload 4, 2) := by decide +kernel
theorem dX12_best_90 : decode cX12_best 90 = .ok (.iconst 3, 1) := by decide +kernel
theorem dX12_best_91 : decode cX12_best 91 = .ok (.isub, 1) := by decide +kernel
theorem dX12_best_92 : decode cX12_best 92 = .ok (.iaload, 1) := by decide +kernel
theorem dX12_best_93 : decode cX12_best 93 = .ok (.ireturn, 1) := by decide +kernel
theorem dX12_play_0 : decode cX12_play 0 = .ok (.aload_n 0, 1) := by decide +kernel
theorem dX12_play_1 : decode cX12_play 1 = .ok (.iconst 0, 1) := by decide +kernel
theorem dX12_play_2 : decode cX12_play 2 = .ok (.putfield 123, 3) := by decide +kernel
theorem dX12_play_5 : decode cX12_play 5 = .ok (.iload_n 1, 1) := by decide +kernel
theorem dX12_play_6 : decode cX12_play 6 = .ok (.iload_n 2, 1) := by decide +kernel
theorem dX12_play_7 : decode cX12_play 7 = .ok (.iload_n 3, 1) := by decide +kernel
theorem dX12_play_8 : decode cX12_play 8 = .ok (.invokestatic 418, 3) := by decide +kernel
theorem dX12_play_11 : decode cX12_play 11 = .ok (.ifCond .ne 9, 3) := by decide +kernel
theorem dX12_play_14 : decode cX12_play 14 = .ok (.aload_n 0, 1) := by decide +kernel
theorem dX12_play_15 : decode cX12_play 15 = .ok (.iconst (-1), 1) := by decide +kernel
theorem dX12_play_16 : decode cX12_play 16 = .ok (.invokevirtual 133, 3) := by decide +kernel
theorem dX12_play_19 : decode cX12_play 19 = .ok (.ireturn, 1) := by decide +kernel
theorem dX12_play_20 : decode cX12_play 20 = .ok (.aload_n 0, 1) := by decide +kernel
theorem dX12_play_21 : decode cX12_play 21 = .ok (.invokevirtual 169, 3) := by decide +kernel
theorem dX12_play_24 : decode cX12_play 24 = .ok (.aload_n 0, 1) := by decide +kernel
theorem dX12_play_25 : decode cX12_play 25 = .ok (.iload_n 1, 1) := by decide +kernel
theorem dX12_play_26 : decode cX12_play 26 = .ok (.iload_n 2, 1) := by decide +kernel
theorem dX12_play_27 : decode cX12_play 27 = .ok (.iload_n 3, 1) := by decide +kernel
theorem dX12_play_28 : decode cX12_play 28 = .ok (.invokevirtual 421, 3) := by decide +kernel
theorem dX12_play_31 : decode cX12_play 31 = .ok (.iconst 0, 1) := by decide +kernel
theorem dX12_play_32 : decode cX12_play 32 = .ok (.istore 4, 2) := by decide +kernel
theorem dX12_play_34 : decode cX12_play 34 = .ok (.iload 4, 2) := by decide +kernel
theorem dX12_play_36 : decode cX12_play 36 = .ok (.aload_n 0, 1) := by decide +kernel
theorem dX12_play_37 : decode cX12_play 37 = .ok (.invokevirtual 139, 3) := by decide +kernel
theorem dX12_play_40 : decode cX12_play 40 = .ok (.if_icmp .ge 33, 3) := by decide +kernel
theorem dX12_play_43 : decode cX12_play 43 = .ok (.aload_n 0, 1) := by decide +kernel
theorem dX12_play_44 : decode cX12_play 44 = .ok (.getfield 13, 3) := by decide +kernel
theorem dX12_play_47 : decode cX12_play 47 = .ok (.bipush 14, 2) := by decide +kernel
theorem dX12_play_49 : decode cX12_play 49 = .ok (.iconst 5, 1) := by decide +kernel
theorem dX12_play_50 : decode cX12_play 50 = .ok (.iload 4, 2) := by decide +kernel
theorem dX12_play_52 : decode cX12_play 52 = .ok (.imul, 1) := by decide +kernel
theorem dX12_play_53 : decode cX12_play 53 = .ok (.iadd, 1) := by decide +kernel
theorem dX12_play_54 : decode cX12_play 54 = .ok (.iconst 3, 1) := by decide +kernel
theorem dX12_play_55 : decode cX12_play 55 = .ok (.iadd, 1) := by decide +kernel
theorem dX12_play_56 : decode cX12_play 56 = .ok (.dup2, 1) := by decide +kernel
theorem dX12_play_57 : decode cX12_play 57 = .ok (.iaload, 1) := by decide +kernel
theorem dX12_play_58 : decode cX12_play 58 = .ok (.aload_n 0, 1) := by decide +kernel
theorem dX12_play_59 : decode cX12_play 59 = .ok (.getfield 105, 3) := by decide +kernel
theorem dX12_play_62 : decode cX12_play 62 = .ok (.iload 4, 2) := by decide +kernel
theorem dX12_play_64 : decode cX12_play 64 = .ok (.iaload, 1) := by decide +kernel
theorem dX12_play_65 : decode cX12_play 65 = .ok (.isub, 1) := by decide +kernel
theorem dX12_play_66 : decode cX12_play 66 = .ok (.iastore, 1) := by decide +kernel
theorem dX12_play_67 : decode cX12_play 67 = .ok (.iinc 4 1, 3) := by decide +kernel
theorem dX12_play_70 : decode cX12_play 70 = .ok (.goto (-36), 3) := by decide +kernel
theorem dX12_play_73 : decode cX12_play 73 = .ok (.aload_n 0, 1) := by decide +kernel
theorem dX12_play_74 : decode cX12_play 74 = .ok (.invokevirtual 172, 3) := by decide +kernel
theorem dX12_play_77 : decode cX12_play 77 = .ok (.aload_n 0, 1) := by decide +kernel
theorem dX12_play_78 : decode cX12_play 78 = .ok (.aload_n 0, 1) := by decide +kernel
theorem dX12_play_79 : decode cX12_play 79 = .ok (.getfield 401, 3) := by decide +kernel
theorem dX12_play_82 : decode cX12_play 82 = .ok (.invokevirtual 133, 3) := by decide +kernel
theorem dX12_play_85 : decode cX12_play 85 = .ok (.ireturn, 1) := by decide +kernel
theorem dX12_bands_0 : decode cX12_bands 0 = .ok (.aload_n 0, 1) := by decide +kernel
theorem dX12_bands_1 : decode cX12_bands 1 = .ok (.iconst 0, 1) := by decide +kernel
theorem dX12_bands_2 : decode cX12_bands 2 = .ok (.putfield 123, 3) := by decide +kernel
theorem dX12_bands_5 : decode cX12_bands 5 = .ok (.iload_n 1, 1) := by decide +kernel
theorem dX12_bands_6 : decode cX12_bands 6 = .ok (.invokestatic 153, 3) := by decide +kernel
theorem dX12_bands_9 : decode cX12_bands 9 = .ok (.ifCond .eq 13, 3) := by decide +kernel
theorem dX12_bands_12 : decode cX12_bands 12 = .ok (.iload_n 2, 1) := by decide +kernel
theorem dX12_bands_13 : decode cX12_bands 13 = .ok (.i2l, 1) := by decide +kernel
theorem dX12_bands_14 : decode cX12_bands 14 = .ok (.lconst 0, 1) := by decide +kernel
theorem dX12_bands_15 : decode cX12_bands 15 = .ok (.lconst 1, 1) := by decide +kernel
theorem dX12_bands_16 : decode cX12_bands 16 = .ok (.invokestatic 129, 3) := by decide +kernel
theorem dX12_bands_19 : decode cX12_bands 19 = .ok (.ifCond .ne 5, 3) := by decide +kernel
theorem dX12_bands_22 : decode cX12_bands 22 = .ok (.iconst (-1), 1) := by decide +kernel
theorem dX12_bands_23 : decode cX12_bands 23 = .ok (.ireturn, 1) := by decide +kernel
theorem dX12_bands_24 : decode cX12_bands 24 = .ok (.aload_n 0, 1) := by decide +kernel
theorem dX12_bands_25 : decode cX12_bands 25 = .ok (.invokevirtual 169, 3) := by decide +kernel
theorem dX12_bands_28 : decode cX12_bands 28 = .ok (.iconst 0, 1) := by decide +kernel
theorem dX12_bands_29 : decode cX12_bands 29 = .ok (.istore_n 3, 1) := by decide +kernel
theorem dX12_bands_30 : decode cX12_bands 30 = .ok (.iconst 0, 1) := by decide +kernel
theorem dX12_bands_31 : decode cX12_bands 31 = .ok (.istore 4, 2) := by decide +kernel
theorem dX12_bands_33 : decode cX12_bands 33 = .ok (.iconst 0, 1) := by decide +kernel
theorem dX12_bands_34 : decode cX12_bands 34 = .ok (.istore 5, 2) := by decide +kernel
theorem dX12_bands_36 : decode cX12_bands 36 = .ok (.iload 5, 2) := by decide +kernel
theorem dX12_bands_38 : decode cX12_bands 38 = .ok (.aload_n 0, 1) := by decide +kernel
theorem dX12_bands_39 : decode cX12_bands 39 = .ok (.invokevirtual 139, 3) := by decide +kernel
theorem dX12_bands_42 : decode cX12_bands 42 = .ok (.if_icmp .ge 81, 3) := by decide +kernel
theorem dX12_bands_45 : decode cX12_bands 45 = .ok (.aload_n 0, 1) := by decide +kernel
theorem dX12_bands_46 : decode cX12_bands 46 = .ok (.iload 5, 2) := by decide +kernel
theorem dX12_bands_48 : decode cX12_bands 48 = .ok (.iconst 1, 1) := by decide +kernel
theorem dX12_bands_49 : decode cX12_bands 49 = .ok (.invokevirtual 143, 3) := by decide +kernel
theorem dX12_bands_52 : decode cX12_bands 52 = .ok (.iload_n 1, 1) := by decide +kernel
theorem dX12_bands_53 : decode cX12_bands 53 = .ok (.if_icmp .ne 17, 3) := by decide +kernel
theorem dX12_bands_56 : decode cX12_bands 56 = .ok (.aload_n 0, 1) := by decide +kernel
theorem dX12_bands_57 : decode cX12_bands 57 = .ok (.getfield 81, 3) := by decide +kernel
theorem dX12_bands_60 : decode cX12_bands 60 = .ok (.iload 5, 2) := by decide +kernel
theorem dX12_bands_62 : decode cX12_bands 62 = .ok (.baload, 1) := by decide +kernel
theorem dX12_bands_63 : decode cX12_bands 63 = .ok (.ifCond .ne 7, 3) := by decide +kernel
theorem dX12_bands_66 : decode cX12_bands 66 = .ok (.iconst 1, 1) := by decide +kernel
theorem dX12_bands_67 : decode cX12_bands 67 = .ok (.goto 4, 3) := by decide +kernel
theorem dX12_bands_70 : decode cX12_bands 70 = .ok (.iconst 0, 1) := by decide +kernel
theorem dX12_bands_71 : decode cX12_bands 71 = .ok (.istore 6, 2) := by decide +kernel
theorem dX12_bands_73 : decode cX12_bands 73 = .ok (.iload_n 3, 1) := by decide +kernel
theorem dX12_bands_74 : decode cX12_bands 74 = .ok (.iload 6, 2) := by decide +kernel
theorem dX12_bands_76 : decode cX12_bands 76 = .ok (.ifCond .eq 10, 3) := by decide +kernel
theorem dX12_bands_79 : decode cX12_bands 79 = .ok (.iconst 1, 1) := by decide +kernel
theorem dX12_bands_80 : decode cX12_bands 80 = .ok (.iload 5, 2) := by decide +kernel
theorem dX12_bands_82 : decode cX12_bands 82 = .ok (.ishl, 1) := by decide +kernel
theorem dX12_bands_83 : decode cX12_bands 83 = .ok (.goto 4, 3) := by decide +kernel
theorem dX12_bands_86 : decode cX12_bands 86 = .ok (.iconst 0, 1) := by decide +kernel
theorem dX12_bands_87 : decode cX12_bands 87 = .ok (.ior, 1) := by decide +kernel
theorem dX12_bands_88 : decode cX12_bands 88 = .ok (.istore_n 3, 1) := by decide +kernel
theorem dX12_bands_89 : decode cX12_bands 89 = .ok (.iload 4, 2) := by decide +kernel
theorem dX12_bands_91 : decode cX12_bands 91 = .ok (.iload 6, 2) := by decide +kernel
theorem dX12_bands_93 : decode cX12_bands 93 = .ok (.ifCond .eq 20, 3) := by decide +kernel
theorem dX12_bands_96 : decode cX12_bands 96 = .ok (.aload_n 0, 1) := by decide +kernel
theorem dX12_bands_97 : decode cX12_bands 97 = .ok (.iload 5, 2) := by decide +kernel
theorem dX12_bands_99 : decode cX12_bands 99 = .ok (.iconst 3, 1) := by decide +kernel
theorem dX12_bands_100 : decode cX12_bands 100 = .ok (.invokevirtual 143, 3) := by decide +kernel
theorem dX12_bands_103 : decode cX12_bands 103 = .ok (.aload_n 0, 1) := by decide +kernel
theorem dX12_bands_104 : decode cX12_bands 104 = .ok (.iload 5, 2) := by decide +kernel
theorem dX12_bands_106 : decode cX12_bands 106 = .ok (.invokevirtual 350, 3) := by decide +kernel
theorem dX12_bands_109 : decode cX12_bands 109 = .ok (.imul, 1) := by decide +kernel
theorem dX12_bands_110 : decode cX12_bands 110 = .ok (.goto 4, 3) := by decide +kernel
theorem dX12_bands_113 : decode cX12_bands 113 = .ok (.iconst 0, 1) := by decide +kernel
theorem dX12_bands_114 : decode cX12_bands 114 = .ok (.iadd, 1) := by decide +kernel
theorem dX12_bands_115 : decode cX12_bands 115 = .ok (.istore 4, 2) := by decide +kernel
theorem dX12_bands_117 : decode cX12_bands 117 = .ok (.iinc 5 1, 3) := by decide +kernel
theorem dX12_bands_120 : decode cX12_bands 120 = .ok (.goto (-84), 3) := by decide +kernel
theorem dX12_bands_123 : decode cX12_bands 123 = .ok (.ldc_w 397, 3) := by decide +kernel
theorem dX12_bands_126 : decode cX12_bands 126 = .ok (.istore 5, 2) := by decide +kernel
theorem dX12_bands_128 : decode cX12_bands 128 = .ok (.iconst 0, 1) := by decide +kernel
theorem dX12_bands_129 : decode cX12_bands 129 = .ok (.istore 6, 2) := by decide +kernel
theorem dX12_bands_131 : decode cX12_bands 131 = .ok (.iconst 0, 1) := by decide +kernel
theorem dX12_bands_132 : decode cX12_bands 132 = .ok (.istore 7, 2) := by decide +kernel
theorem dX12_bands_134 : decode cX12_bands 134 = .ok (.iload 7, 2) := by decide +kernel
theorem dX12_bands_136 : decode cX12_bands 136 = .ok (.iload_n 3, 1) := by decide +kernel
theorem dX12_bands_137 : decode cX12_bands 137 = .ok (.if_icmp .gt 126, 3) := by decide +kernel
theorem dX12_bands_140 : decode cX12_bands 140 = .ok (.iload 7, 2) := by decide +kernel
theorem dX12_bands_142 : decode cX12_bands 142 = .ok (.iload_n 3, 1) := by decide +kernel
theorem dX12_bands_143 : decode cX12_bands 143 = .ok (.iconst (-1), 1) := by decide +kernel
theorem dX12_bands_144 : decode cX12_bands 144 = .ok (.ixor, 1) := by decide +kernel
theorem dX12_bands_145 : decode cX12_bands 145 = .ok (.iand, 1) := by decide +kernel
theorem dX12_bands_146 : decode cX12_bands 146 = .ok (.ifCond .ne 111, 3) := by decide +kernel
theorem dX12_bands_149 : decode cX12_bands 149 = .ok (.iconst 0, 1) := by decide +kernel
theorem dX12_bands_150 : decode cX12_bands 150 = .ok (.istore 8, 2) := by decide +kernel
theorem dX12_bands_152 : decode cX12_bands 152 = .ok (.iconst 0, 1) := by decide +kernel
theorem dX12_bands_153 : decode cX12_bands 153 = .ok (.istore 9, 2) := by decide +kernel
theorem dX12_bands_155 : decode cX12_bands 155 = .ok (.iload 9, 2) := by decide +kernel
theorem dX12_bands_157 : decode cX12_bands 157 = .ok (.aload_n 0, 1) := by decide +kernel
theorem dX12_bands_158 : decode cX12_bands 158 = .ok (.invokevirtual 139, 3) := by decide +kernel
theorem dX12_bands_161 : decode cX12_bands 161 = .ok (.if_icmp .ge 42, 3) := by decide +kernel
theorem dX12_bands_164 : decode cX12_bands 164 = .ok (.iload 8, 2) := by decide +kernel
theorem dX12_bands_166 : decode cX12_bands 166 = .ok (.iload 7, 2) := by decide +kernel
theorem dX12_bands_168 : decode cX12_bands 168 = .ok (.iload 9, 2) := by decide +kernel
theorem dX12_bands_170 : decode cX12_bands 170 = .ok (.invokestatic 367, 3) := by decide +kernel
theorem dX12_bands_173 : decode cX12_bands 173 = .ok (.ifCond .eq 20, 3) := by decide +kernel
theorem dX12_bands_176 : decode cX12_bands 176 = .ok (.aload_n 0, 1) := by decide +kernel
theorem dX12_bands_177 : decode cX12_bands 177 = .ok (.iload 9, 2) := by decide +kernel
theorem dX12_bands_179 : decode cX12_bands 179 = .ok (.iconst 3, 1) := by decide +kernel
theorem dX12_bands_180 : decode cX12_bands 180 = .ok (.invokevirtual 143, 3) := by decide +kernel
theorem dX12_bands_183 : decode cX12_bands 183 = .ok (.aload_n 0, 1) := by decide +kernel
theorem dX12_bands_184 : decode cX12_bands 184 = .ok (.iload 9, 2) := by decide +kernel
theorem dX12_bands_186 : decode cX12_bands 186 = .ok (.invokevirtual 350, 3) := by decide +kernel
theorem dX12_bands_189 : decode cX12_bands 189 = .ok (.imul, 1) := by decide +kernel
theorem dX12_bands_190 : decode cX12_bands 190 = .ok (.goto 4, 3) := by decide +kernel
theorem dX12_bands_193 : decode cX12_bands 193 = .ok (.iconst 0, 1) := by decide +kernel
theorem dX12_bands_194 : decode cX12_bands 194 = .ok (.iadd, 1) := by decide +kernel
theorem dX12_bands_195 : decode cX12_bands 195 = .ok (.istore 8, 2) := by decide +kernel
theorem dX12_bands_197 : decode cX12_bands 197 = .ok (.iinc 9 1, 3) := by decide +kernel
theorem dX12_bands_200 : decode cX12_bands 200 = .ok (.goto (-45), 3) := by decide +kernel
theorem dX12_bands_203 : decode cX12_bands 203 = .ok (.iload 8, 2) := by decide +kernel
theorem dX12_bands_205 : decode cX12_bands 205 = .ok (.iload 4, 2) := by decide +kernel
theorem dX12_bands_207 : decode cX12_bands 207 = .ok (.iload 8, 2) := by decide +kernel
theorem dX12_bands_209 : decode cX12_bands 209 = .ok (.isub, 1) := by decide +kernel
theorem dX12_bands_210 : decode cX12_bands 210 = .ok (.if_icmp .le 8, 3) := by decide +kernel
theorem dX12_bands_213 : decode cX12_bands 213 = .ok (.iload 8, 2) := by decide +kernel
theorem dX12_bands_215 : decode cX12_bands 215 = .ok (.goto 8, 3) := by decide +kernel
theorem dX12_bands_218 : decode cX12_bands 218 = .ok (.iload 4, 2) := by decide +kernel
theorem dX12_bands_220 : decode cX12_bands 220 = .ok (.iload 8, 2) := by decide +kernel
theorem dX12_bands_222 : decode cX12_bands 222 = .ok (.isub, 1) := by decide +kernel
theorem dX12_bands_223 : decode cX12_bands 223 = .ok (.istore 9, 2) := by decide +kernel
theorem dX12_bands_225 : decode cX12_bands 225 = .ok (.iload 9, 2) := by decide +kernel
theorem dX12_bands_227 : decode cX12_bands 227 = .ok (.iload 5, 2) := by decide +kernel
theorem dX12_bands_229 : decode cX12_bands 229 = .ok (.if_icmp .ge 8, 3) := by decide +kernel
theorem dX12_bands_232 : decode cX12_bands 232 = .ok (.iload 7, 2) := by decide +kernel
theorem dX12_bands_234 : decode cX12_bands 234 = .ok (.goto 5, 3) := by decide +kernel
theorem dX12_bands_237 : decode cX12_bands 237 = .ok (.iload 6, 2) := by decide +kernel
theorem dX12_bands_239 : decode cX12_bands 239 = .ok (.istore 6, 2) := by decide +kernel
theorem dX12_bands_241 : decode cX12_bands 241 = .ok (.iload 9, 2) := by decide +kernel
theorem dX12_bands_243 : decode cX12_bands 243 = .ok (.iload 5, 2) := by decide +kernel
theorem dX12_bands_245 : decode cX12_bands 245 = .ok (.if_icmp .ge 8, 3) := by decide +kernel
theorem dX12_bands_248 : decode cX12_bands 248 = .ok (.iload 9, 2) := by decide +kernel
theorem dX12_bands_250 : decode cX12_bands 250 = .ok (.goto 5, 3) := by decide +kernel
theorem dX12_bands_253 : decode cX12_bands 253 = .ok (.iload 5, 2) := by decide +kernel
theorem dX12_bands_255 : decode cX12_bands 255 = .ok (.istore 5, 2) := by decide +kernel
theorem dX12_bands_257 : decode cX12_bands 257 = .ok (.iinc 7 1, 3) := by decide +kernel
theorem dX12_bands_260 : decode cX12_bands 260 = .ok (.goto (-126), 3) := by decide +kernel
theorem dX12_bands_263 : decode cX12_bands 263 = .ok (.iload_n 2, 1) := by decide +kernel
theorem dX12_bands_264 : decode cX12_bands 264 = .ok (.ifCond .ne 8, 3) := by decide +kernel
theorem dX12_bands_267 : decode cX12_bands 267 = .ok (.iload 5, 2) := by decide +kernel
theorem dX12_bands_269 : decode cX12_bands 269 = .ok (.goto 5, 3) := by decide +kernel
theorem dX12_bands_272 : decode cX12_bands 272 = .ok (.iload 6, 2) := by decide +kernel
theorem dX12_bands_274 : decode cX12_bands 274 = .ok (.ireturn, 1) := by decide +kernel
theorem dX12_wedding_0 : decode cX12_wedding 0 = .ok (.aload_n 0, 1) := by decide +kernel
theorem dX12_wedding_1 : decode cX12_wedding 1 = .ok (.iconst 0, 1) := by decide +kernel
theorem dX12_wedding_2 : decode cX12_wedding 2 = .ok (.putfield 123, 3) := by decide +kernel
theorem dX12_wedding_5 : decode cX12_wedding 5 = .ok (.iload_n 1, 1) := by decide +kernel
theorem dX12_wedding_6 : decode cX12_wedding 6 = .ok (.iload_n 2, 1) := by decide +kernel
theorem dX12_wedding_7 : decode cX12_wedding 7 = .ok (.iconst 0, 1) := by decide +kernel
theorem dX12_wedding_8 : decode cX12_wedding 8 = .ok (.invokestatic 418, 3) := by decide +kernel
theorem dX12_wedding_11 : decode cX12_wedding 11 = .ok (.ifCond .ne 9, 3) := by decide +kernel
theorem dX12_wedding_14 : decode cX12_wedding 14 = .ok (.aload_n 0, 1) := by decide +kernel
theorem dX12_wedding_15 : decode cX12_wedding 15 = .ok (.iconst (-1), 1) := by decide +kernel
theorem dX12_wedding_16 : decode cX12_wedding 16 = .ok (.invokevirtual 133, 3) := by decide +kernel
theorem dX12_wedding_19 : decode cX12_wedding 19 = .ok (.ireturn, 1) := by decide +kernel
theorem dX12_wedding_20 : decode cX12_wedding 20 = .ok (.aload_n 0, 1) := by decide +kernel
theorem dX12_wedding_21 : decode cX12_wedding 21 = .ok (.getfield 13, 3) := by decide +kernel
theorem dX12_wedding_24 : decode cX12_wedding 24 = .ok (.iconst 4, 1) := by decide +kernel
theorem dX12_wedding_25 : decode cX12_wedding 25 = .ok (.iaload, 1) := by decide +kernel
theorem dX12_wedding_26 : decode cX12_wedding 26 = .ok (.istore_n 3, 1) := by decide +kernel
theorem dX12_wedding_27 : decode cX12_wedding 27 = .ok (.iload_n 3, 1) := by decide +kernel
theorem dX12_wedding_28 : decode cX12_wedding 28 = .ok (.bipush 8, 2) := by decide +kernel
theorem dX12_wedding_30 : decode cX12_wedding 30 = .ok (.if_icmp .ne 10, 3) := by decide +kernel
theorem dX12_wedding_33 : decode cX12_wedding 33 = .ok (.aload_n 0, 1) := by decide +kernel
theorem dX12_wedding_34 : decode cX12_wedding 34 = .ok (.bipush (-5), 2) := by decide +kernel
theorem dX12_wedding_36 : decode cX12_wedding 36 = .ok (.invokevirtual 133, 3) := by decide +kernel
theorem dX12_wedding_39 : decode cX12_wedding 39 = .ok (.ireturn, 1) := by decide +kernel
theorem dX12_wedding_40 : decode cX12_wedding 40 = .ok (.aload_n 0, 1) := by decide +kernel
theorem dX12_wedding_41 : decode cX12_wedding 41 = .ok (.getfield 13, 3) := by decide +kernel
theorem dX12_wedding_44 : decode cX12_wedding 44 = .ok (.bipush 94, 2) := by decide +kernel
theorem dX12_wedding_46 : decode cX12_wedding 46 = .ok (.iconst 2, 1) := by decide +kernel
theorem dX12_wedding_47 : decode cX12_wedding 47 = .ok (.iload_n 3, 1) := by decide +kernel
theorem dX12_wedding_48 : decode cX12_wedding 48 = .ok (.imul, 1) := by decide +kernel
theorem dX12_wedding_49 : decode cX12_wedding 49 = .ok (.iadd, 1) := by decide +kernel
theorem dX12_wedding_50 : decode cX12_wedding 50 = .ok (.iload_n 1, 1) := by decide +kernel
theorem dX12_wedding_51 : decode cX12_wedding 51 = .ok (.iastore, 1) := by decide +kernel
theorem dX12_wedding_52 : decode cX12_wedding 52 = .ok (.aload_n 0, 1) := by decide +kernel
theorem dX12_wedding_53 : decode cX12_wedding 53 = .ok (.getfield 13, 3) := by decide +kernel
theorem dX12_wedding_56 : decode cX12_wedding 56 = .ok (.bipush 94, 2) := by decide +kernel
theorem dX12_wedding_58 : decode cX12_wedding 58 = .ok (.iconst 2, 1) := by decide +kernel
theorem dX12_wedding_59 : decode cX12_wedding 59 = .ok (.iload_n 3, 1) := by decide +kernel
theorem dX12_wedding_60 : decode cX12_wedding 60 = .ok (.imul, 1) := by decide +kernel
theorem dX12_wedding_61 : decode cX12_wedding 61 = .ok (.iadd, 1) := by decide +kernel
theorem dX12_wedding_62 : decode cX12_wedding 62 = .ok (.iconst 1, 1) := by decide +kernel
theorem dX12_wedding_63 : decode cX12_wedding 63 = .ok (.iadd, 1) := by decide +kernel
theorem dX12_wedding_64 : decode cX12_wedding 64 = .ok (.iload_n 2, 1) := by decide +kernel
theorem dX12_wedding_65 : decode cX12_wedding 65 = .ok (.iastore, 1) := by decide +kernel
theorem dX12_wedding_66 : decode cX12_wedding 66 = .ok (.aload_n 0, 1) := by decide +kernel
theorem dX12_wedding_67 : decode cX12_wedding 67 = .ok (.getfield 13, 3) := by decide +kernel
theorem dX12_wedding_70 : decode cX12_wedding 70 = .ok (.iconst 4, 1) := by decide +kernel
theorem dX12_wedding_71 : decode cX12_wedding 71 = .ok (.dup2, 1) := by decide +kernel
theorem dX12_wedding_72 : decode cX12_wedding 72 = .ok (.iaload, 1) := by decide +kernel
theorem dX12_wedding_73 : decode cX12_wedding 73 = .ok (.iconst 1, 1) := by decide +kernel
theorem dX12_wedding_74 : decode cX12_wedding 74 = .ok (.iadd, 1) := by decide +kernel
theorem dX12_wedding_75 : decode cX12_wedding 75 = .ok (.iastore, 1) := by decide +kernel
theorem dX12_wedding_76 : decode cX12_wedding 76 = .ok (.aload_n 0, 1) := by decide +kernel
theorem dX12_wedding_77 : decode cX12_wedding 77 = .ok (.iload_n 3, 1) := by decide +kernel
theorem dX12_wedding_78 : decode cX12_wedding 78 = .ok (.iconst 1, 1) := by decide +kernel
theorem dX12_wedding_79 : decode cX12_wedding 79 = .ok (.iadd, 1) := by decide +kernel
theorem dX12_wedding_80 : decode cX12_wedding 80 = .ok (.invokevirtual 133, 3) := by decide +kernel
theorem dX12_wedding_83 : decode cX12_wedding 83 = .ok (.ireturn, 1) := by decide +kernel
theorem dX12_divorce_0 : decode cX12_divorce 0 = .ok (.aload_n 0, 1) := by decide +kernel
theorem dX12_divorce_1 : decode cX12_divorce 1 = .ok (.iconst 0, 1) := by decide +kernel
theorem dX12_divorce_2 : decode cX12_divorce 2 = .ok (.putfield 123, 3) := by decide +kernel
theorem dX12_divorce_5 : decode cX12_divorce 5 = .ok (.aload_n 0, 1) := by decide +kernel
theorem dX12_divorce_6 : decode cX12_divorce 6 = .ok (.getfield 13, 3) := by decide +kernel
theorem dX12_divorce_9 : decode cX12_divorce 9 = .ok (.iconst 4, 1) := by decide +kernel
theorem dX12_divorce_10 : decode cX12_divorce 10 = .ok (.iaload, 1) := by decide +kernel
theorem dX12_divorce_11 : decode cX12_divorce 11 = .ok (.istore_n 1, 1) := by decide +kernel
theorem dX12_divorce_12 : decode cX12_divorce 12 = .ok (.aload_n 0, 1) := by decide +kernel
theorem dX12_divorce_13 : decode cX12_divorce 13 = .ok (.getfield 13, 3) := by decide +kernel
theorem dX12_divorce_16 : decode cX12_divorce 16 = .ok (.iconst 4, 1) := by decide +kernel
theorem dX12_divorce_17 : decode cX12_divorce 17 = .ok (.iconst 0, 1) := by decide +kernel
theorem dX12_divorce_18 : decode cX12_divorce 18 = .ok (.iastore, 1) := by decide +kernel
theorem dX12_divorce_19 : decode cX12_divorce 19 = .ok (.iload_n 1, 1) := by decide +kernel
theorem dX12_divorce_20 : decode cX12_divorce 20 = .ok (.ireturn, 1) := by decide +kernel
theorem dX12_free_0 : decode cX12_free 0 = .ok (.aload_n 0, 1) := by decide +kernel
theorem dX12_free_1 : decode cX12_free 1 = .ok (.iconst 0, 1) := by decide +kernel
theorem dX12_free_2 : decode cX12_free 2 = .ok (.putfield 123, 3) := by decide +kernel
theorem dX12_free_5 : decode cX12_free 5 = .ok (.iload_n 1, 1) := by decide +kernel
theorem dX12_free_6 : decode cX12_free 6 = .ok (.invokestatic 153, 3) := by decide +kernel
theorem dX12_free_9 : decode cX12_free 9 = .ok (.ifCond .ne 5, 3) := by decide +kernel
theorem dX12_free_12 : decode cX12_free 12 = .ok (.iconst (-1), 1) := by decide +kernel
theorem dX12_free_13 : decode cX12_free 13 = .ok (.ireturn, 1) := by decide +kernel
theorem dX12_free_14 : decode cX12_free 14 = .ok (.aload_n 0, 1) := by decide +kernel
theorem dX12_free_15 : decode cX12_free 15 = .ok (.invokevirtual 169, 3) := by decide +kernel
theorem dX12_free_18 : decode cX12_free 18 = .ok (.iconst 0, 1) := by decide +kernel
theorem dX12_free_19 : decode cX12_free 19 = .ok (.istore_n 2, 1) := by decide +kernel
theorem dX12_free_20 : decode cX12_free 20 = .ok (.iconst 0, 1) := by decide +kernel
theorem dX12_free_21 : decode cX12_free 21 = .ok (.istore_n 3, 1) := by decide +kernel
theorem dX12_free_22 : decode cX12_free 22 = .ok (.iload_n 3, 1) := by decide +kernel
theorem dX12_free_23 : decode cX12_free 23 = .ok (.aload_n 0, 1) := by decide +kernel
theorem dX12_free_24 : decode cX12_free 24 = .ok (.invokevirtual 139, 3) := by decide +kernel
theorem dX12_free_27 : decode cX12_free 27 = .ok (.if_icmp .ge 53, 3) := by decide +kernel
theorem dX12_free_30 : decode cX12_free 30 = .ok (.aload_n 0, 1) := by decide +kernel
theorem dX12_free_31 : decode cX12_free 31 = .ok (.getfield 108, 3) := by decide +kernel
theorem dX12_free_34 : decode cX12_free 34 = .ok (.iload_n 3, 1) := by decide +kernel
theorem dX12_free_35 : decode cX12_free 35 = .ok (.aload_n 0, 1) := by decide +kernel
theorem dX12_free_36 : decode cX12_free 36 = .ok (.iload_n 3, 1) := by decide +kernel
theorem dX12_free_37 : decode cX12_free 37 = .ok (.iconst 0, 1) := by decide +kernel
theorem dX12_free_38 : decode cX12_free 38 = .ok (.invokevirtual 143, 3) := by decide +kernel
theorem dX12_free_41 : decode cX12_free 41 = .ok (.iload_n 1, 1) := by decide +kernel
theorem dX12_free_42 : decode cX12_free 42 = .ok (.if_icmp .ne 21, 3) := by decide +kernel
theorem dX12_free_45 : decode cX12_free 45 = .ok (.aload_n 0, 1) := by decide +kernel
theorem dX12_free_46 : decode cX12_free 46 = .ok (.getfield 81, 3) := by decide +kernel
theorem dX12_free_49 : decode cX12_free 49 = .ok (.iload_n 3, 1) := by decide +kernel
theorem dX12_free_50 : decode cX12_free 50 = .ok (.baload, 1) := by decide +kernel
theorem dX12_free_51 : decode cX12_free 51 = .ok (.ifCond .ne 12, 3) := by decide +kernel
theorem dX12_free_54 : decode cX12_free 54 = .ok (.aload_n 0, 1) := by decide +kernel
theorem dX12_free_55 : decode cX12_free 55 = .ok (.iload_n 3, 1) := by decide +kernel
theorem dX12_free_56 : decode cX12_free 56 = .ok (.iconst 3, 1) := by decide +kernel
theorem dX12_free_57 : decode cX12_free 57 = .ok (.invokevirtual 143, 3) := by decide +kernel
theorem dX12_free_60 : decode cX12_free 60 = .ok (.goto 4, 3) := by decide +kernel
theorem dX12_free_63 : decode cX12_free 63 = .ok (.iconst 0, 1) := by decide +kernel
theorem dX12_free_64 : decode cX12_free 64 = .ok (.iastore, 1) := by decide +kernel
theorem dX12_free_65 : decode cX12_free 65 = .ok (.iload_n 2, 1) := by decide +kernel
theorem dX12_free_66 : decode cX12_free 66 = .ok (.aload_n 0, 1) := by decide +kernel
theorem dX12_free_67 : decode cX12_free 67 = .ok (.getfield 108, 3) := by decide +kernel
theorem dX12_free_70 : decode cX12_free 70 = .ok (.iload_n 3, 1) := by decide +kernel
theorem dX12_free_71 : decode cX12_free 71 = .ok (.iaload, 1) := by decide +kernel
theorem dX12_free_72 : decode cX12_free 72 = .ok (.iadd, 1) := by decide +kernel
theorem dX12_free_73 : decode cX12_free 73 = .ok (.istore_n 2, 1) := by decide +kernel
theorem dX12_free_74 : decode cX12_free 74 = .ok (.iinc 3 1, 3) := by decide +kernel
theorem dX12_free_77 : decode cX12_free 77 = .ok (.goto (-55), 3) := by decide +kernel
theorem dX12_free_80 : decode cX12_free 80 = .ok (.iload_n 2, 1) := by decide +kernel
theorem dX12_free_81 : decode cX12_free 81 = .ok (.ifCond .ne 5, 3) := by decide +kernel
theorem dX12_free_84 : decode cX12_free 84 = .ok (.iconst (-1), 1) := by decide +kernel
theorem dX12_free_85 : decode cX12_free 85 = .ok (.ireturn, 1) := by decide +kernel
theorem dX12_free_86 : decode cX12_free 86 = .ok (.iconst 0, 1) := by decide +kernel
theorem dX12_free_87 : decode cX12_free 87 = .ok (.istore_n 3, 1) := by decide +kernel
theorem dX12_free_88 : decode cX12_free 88 = .ok (.iload_n 3, 1) := by decide +kernel
theorem dX12_free_89 : decode cX12_free 89 = .ok (.aload_n 0, 1) := by decide +kernel
theorem dX12_free_90 : decode cX12_free 90 = .ok (.getfield 13, 3) := by decide +kernel
theorem dX12_free_93 : decode cX12_free 93 = .ok (.iconst 4, 1) := by decide +kernel
theorem dX12_free_94 : decode cX12_free 94 = .ok (.iaload, 1) := by decide +kernel
theorem dX12_free_95 : decode cX12_free 95 = .ok (.if_icmp .ge 163, 3) := by decide +kernel
theorem dX12_free_98 : decode cX12_free 98 = .ok (.aload_n 0, 1) := by decide +kernel
theorem dX12_free_99 : decode cX12_free 99 = .ok (.getfield 13, 3) := by decide +kernel
theorem dX12_free_102 : decode cX12_free 102 = .ok (.bipush 94, 2) := by decide +kernel
theorem dX12_free_104 : decode cX12_free 104 = .ok (.iconst 2, 1) := by decide +kernel
theorem dX12_free_105 : decode cX12_free 105 = .ok (.iload_n 3, 1) := by decide +kernel
theorem dX12_free_106 : decode cX12_free 106 = .ok (.imul, 1) := by decide +kernel
theorem dX12_free_107 : decode cX12_free 107 = .ok (.iadd, 1) := by decide +kernel
theorem dX12_free_108 : decode cX12_free 108 = .ok (.iconst 1, 1) := by decide +kernel
theorem dX12_free_109 : decode cX12_free 109 = .ok (.iadd, 1) := by decide +kernel
theorem dX12_free_110 : decode cX12_free 110 = .ok (.iaload, 1) := by decide +kernel
theorem dX12_free_111 : decode cX12_free 111 = .ok (.istore 4, 2) := by decide +kernel
theorem dX12_free_113 : decode cX12_free 113 = .ok (.iconst 0, 1) := by decide +kernel
theorem dX12_free_114 : decode cX12_free 114 = .ok (.istore 5, 2) := by decide +kernel
theorem dX12_free_116 : decode cX12_free 116 = .ok (.iload 5, 2) := by decide +kernel
theorem dX12_free_118 : decode cX12_free 118 = .ok (.aload_n 0, 1) := by decide +kernel
theorem dX12_free_119 : decode cX12_free 119 = .ok (.invokevirtual 139, 3) := by decide +kernel
theorem dX12_free_122 : decode cX12_free 122 = .ok (.if_icmp .ge 124, 3) := by decide +kernel
theorem dX12_free_125 : decode cX12_free 125 = .ok (.aload_n 0, 1) := by decide +kernel
theorem dX12_free_126 : decode cX12_free 126 = .ok (.iload 5, 2) := by decide +kernel
theorem dX12_free_128 : decode cX12_free 128 = .ok (.iconst 1, 1) := by decide +kernel
theorem dX12_free_129 : decode cX12_free 129 = .ok (.invokevirtual 143, 3) := by decide +kernel
theorem dX12_free_132 : decode cX12_free 132 = .ok (.aload_n 0, 1) := by decide +kernel
theorem dX12_free_133 : decode cX12_free 133 = .ok (.getfield 13, 3) := by decide +kernel
theorem dX12_free_136 : decode cX12_free 136 = .ok (.bipush 94, 2) := by decide +kernel
theorem dX12_free_138 : decode cX12_free 138 = .ok (.iconst 2, 1) := by decide +kernel
theorem dX12_free_139 : decode cX12_free 139 = .ok (.iload_n 3, 1) := by decide +kernel
theorem dX12_free_140 : decode cX12_free 140 = .ok (.imul, 1) := by decide +kernel
theorem dX12_free_141 : decode cX12_free 141 = .ok (.iadd, 1) := by decide +kernel
theorem dX12_free_142 : decode cX12_free 142 = .ok (.iaload, 1) := by decide +kernel
theorem dX12_free_143 : decode cX12_free 143 = .ok (.if_icmp .ne 17, 3) := by decide +kernel
theorem dX12_free_146 : decode cX12_free 146 = .ok (.aload_n 0, 1) := by decide +kernel
theorem dX12_free_147 : decode cX12_free 147 = .ok (.getfield 84, 3) := by decide +kernel
theorem dX12_free_150 : decode cX12_free 150 = .ok (.iload 5, 2) := by decide +kernel
theorem dX12_free_152 : decode cX12_free 152 = .ok (.baload, 1) := by decide +kernel
theorem dX12_free_153 : decode cX12_free 153 = .ok (.ifCond .ne 7, 3) := by decide +kernel
theorem dX12_free_156 : decode cX12_free 156 = .ok (.iconst 1, 1) := by decide +kernel
theorem dX12_free_157 : decode cX12_free 157 = .ok (.goto 4, 3) := by decide +kernel
theorem dX12_free_160 : decode cX12_free 160 = .ok (.iconst 0, 1) := by decide +kernel
theorem dX12_free_161 : decode cX12_free 161 = .ok (.istore 6, 2) := by decide +kernel
theorem dX12_free_163 : decode cX12_free 163 = .ok (.iload 4, 2) := by decide +kernel
theorem dX12_free_165 : decode cX12_free 165 = .ok (.aload_n 0, 1) := by decide +kernel
theorem dX12_free_166 : decode cX12_free 166 = .ok (.iload 5, 2) := by decide +kernel
theorem dX12_free_168 : decode cX12_free 168 = .ok (.invokevirtual 350, 3) := by decide +kernel
theorem dX12_free_171 : decode cX12_free 171 = .ok (.idiv, 1) := by decide +kernel
theorem dX12_free_172 : decode cX12_free 172 = .ok (.istore 7, 2) := by decide +kernel
theorem dX12_free_174 : decode cX12_free 174 = .ok (.iload 6, 2) := by decide +kernel
theorem dX12_free_176 : decode cX12_free 176 = .ok (.ifCond .ne 7, 3) := by decide +kernel
theorem dX12_free_179 : decode cX12_free 179 = .ok (.iconst 0, 1) := by decide +kernel
theorem dX12_free_180 : decode cX12_free 180 = .ok (.goto 27, 3) := by decide +kernel
theorem dX12_free_183 : decode cX12_free 183 = .ok (.iload 7, 2) := by decide +kernel
theorem dX12_free_185 : decode cX12_free 185 = .ok (.aload_n 0, 1) := by decide +kernel
theorem dX12_free_186 : decode cX12_free 186 = .ok (.getfield 108, 3) := by decide +kernel
theorem dX12_free_189 : decode cX12_free 189 = .ok (.iload 5, 2) := by decide +kernel
theorem dX12_free_191 : decode cX12_free 191 = .ok (.iaload, 1) := by decide +kernel
theorem dX12_free_192 : decode cX12_free 192 = .ok (.if_icmp .ge 8, 3) := by decide +kernel
theorem dX12_free_195 : decode cX12_free 195 = .ok (.iload 7, 2) := by decide +kernel
theorem dX12_free_197 : decode cX12_free 197 = .ok (.goto 10, 3) := by decide +kernel
theorem dX12_free_200 : decode cX12_free 200 = .ok (.aload_n 0, 1) := by decide +kernel
theorem dX12_free_201 : decode cX12_free 201 = .ok (.getfield 108, 3) := by decide +kernel
theorem dX12_free_204 : decode cX12_free 204 = .ok (.iload 5, 2) := by decide +kernel
theorem dX12_free_206 : decode cX12_free 206 = .ok (.iaload, 1) := by decide +kernel
theorem dX12_free_207 : decode cX12_free 207 = .ok (.istore 8, 2) := by decide +kernel
theorem dX12_free_209 : decode cX12_free 209 = .ok (.aload_n 0, 1) := by decide +kernel
theorem dX12_free_210 : decode cX12_free 210 = .ok (.getfield 108, 3) := by decide +kernel
theorem dX12_free_213 : decode cX12_free 213 = .ok (.iload 5, 2) := by decide +kernel
theorem dX12_free_215 : decode cX12_free 215 = .ok (.dup2, 1) := by decide +kernel
theorem dX12_free_216 : decode cX12_free 216 = .ok (.iaload, 1) := by decide +kernel
theorem dX12_free_217 : decode cX12_free 217 = .ok (.iload 8, 2) := by decide +kernel
theorem dX12_free_219 : decode cX12_free 219 = .ok (.isub, 1) := by decide +kernel
theorem dX12_free_220 : decode cX12_free 220 = .ok (.iastore, 1) := by decide +kernel
theorem dX12_free_221 : decode cX12_free 221 = .ok (.iload_n 2, 1) := by decide +kernel
theorem dX12_free_222 : decode cX12_free 222 = .ok (.iload 8, 2) := by decide +kernel
theorem dX12_free_224 : decode cX12_free 224 = .ok (.isub, 1) := by decide +kernel
theorem dX12_free_225 : decode cX12_free 225 = .ok (.istore_n 2, 1) := by decide +kernel
theorem dX12_free_226 : decode cX12_free 226 = .ok (.iload 4, 2) := by decide +kernel
theorem dX12_free_228 : decode cX12_free 228 = .ok (.iload 8, 2) := by decide +kernel
theorem dX12_free_230 : decode cX12_free 230 = .ok (.aload_n 0, 1) := by decide +kernel
theorem dX12_free_231 : decode cX12_free 231 = .ok (.iload 5, 2) := by decide +kernel
theorem dX12_free_233 : decode cX12_free 233 = .ok (.invokevirtual 350, 3) := by decide +kernel
theorem dX12_free_236 : decode cX12_free 236 = .ok (.imul, 1) := by decide +kernel
theorem dX12_free_237 : decode cX12_free 237 = .ok (.isub, 1) := by decide +kernel
theorem dX12_free_238 : decode cX12_free 238 = .ok (.istore 4, 2) := by decide +kernel
theorem dX12_free_240 : decode cX12_free 240 = .ok (.iinc 5 1, 3) := by decide +kernel
theorem dX12_free_243 : decode cX12_free 243 = .ok (.goto (-127), 3) := by decide +kernel
theorem dX12_free_246 : decode cX12_free 246 = .ok (.iload_n 2, 1) := by decide +kernel
theorem dX12_free_247 : decode cX12_free 247 = .ok (.ifCond .ne 5, 3) := by decide +kernel
theorem dX12_free_250 : decode cX12_free 250 = .ok (.iload_n 3, 1) := by decide +kernel
theorem dX12_free_251 : decode cX12_free 251 = .ok (.ireturn, 1) := by decide +kernel
theorem dX12_free_252 : decode cX12_free 252 = .ok (.iinc 3 1, 3) := by decide +kernel
theorem dX12_free_255 : decode cX12_free 255 = .ok (.goto (-167), 3) := by decide +kernel
theorem dX12_free_258 : decode cX12_free 258 = .ok (.bipush 100, 2) := by decide +kernel
theorem dX12_free_260 : decode cX12_free 260 = .ok (.ireturn, 1) := by decide +kernel
theorem dX12_dance_0 : decode cX12_dance 0 = .ok (.aload_n 0, 1) := by decide +kernel
theorem dX12_dance_1 : decode cX12_dance 1 = .ok (.iconst 0, 1) := by decide +kernel
theorem dX12_dance_2 : decode cX12_dance 2 = .ok (.putfield 123, 3) := by decide +kernel
theorem dX12_dance_5 : decode cX12_dance 5 = .ok (.iload_n 1, 1) := by decide +kernel
theorem dX12_dance_6 : decode cX12_dance 6 = .ok (.invokestatic 153, 3) := by decide +kernel
theorem dX12_dance_9 : decode cX12_dance 9 = .ok (.ifCond .ne 9, 3) := by decide +kernel
theorem dX12_dance_12 : decode cX12_dance 12 = .ok (.aload_n 0, 1) := by decide +kernel
theorem dX12_dance_13 : decode cX12_dance 13 = .ok (.iconst (-1), 1) := by decide +kernel
theorem dX12_dance_14 : decode cX12_dance 14 = .ok (.invokevirtual 133, 3) := by decide +kernel
theorem dX12_dance_17 : decode cX12_dance 17 = .ok (.ireturn, 1) := by decide +kernel
theorem dX12_dance_18 : decode cX12_dance 18 = .ok (.aload_n 0, 1) := by decide +kernel
theorem dX12_dance_19 : decode cX12_dance 19 = .ok (.iload_n 2, 1) := by decide +kernel
theorem dX12_dance_20 : decode cX12_dance 20 = .ok (.invokevirtual 149, 3) := by decide +kernel
theorem dX12_dance_23 : decode cX12_dance 23 = .ok (.ifCond .ne 10, 3) := by decide +kernel
theorem dX12_dance_26 : decode cX12_dance 26 = .ok (.aload_n 0, 1) := by decide +kernel
theorem dX12_dance_27 : decode cX12_dance 27 = .ok (.bipush (-2), 2) := by decide +kernel
theorem dX12_dance_29 : decode cX12_dance 29 = .ok (.invokevirtual 133, 3) := by decide +kernel
theorem dX12_dance_32 : decode cX12_dance 32 = .ok (.ireturn, 1) := by decide +kernel
theorem dX12_dance_33 : decode cX12_dance 33 = .ok (.aload_n 0, 1) := by decide +kernel
theorem dX12_dance_34 : decode cX12_dance 34 = .ok (.getfield 13, 3) := by decide +kernel
theorem dX12_dance_37 : decode cX12_dance 37 = .ok (.iconst 5, 1) := by decide +kernel
theorem dX12_dance_38 : decode cX12_dance 38 = .ok (.iaload, 1) := by decide +kernel
theorem dX12_dance_39 : decode cX12_dance 39 = .ok (.istore_n 3, 1) := by decide +kernel
theorem dX12_dance_40 : decode cX12_dance 40 = .ok (.iload_n 3, 1) := by decide +kernel
theorem dX12_dance_41 : decode cX12_dance 41 = .ok (.bipush 10, 2) := by decide +kernel
theorem dX12_dance_43 : decode cX12_dance 43 = .ok (.if_icmp .ne 10, 3) := by decide +kernel
theorem dX12_dance_46 : decode cX12_dance 46 = .ok (.aload_n 0, 1) := by decide +kernel
theorem dX12_dance_47 : decode cX12_dance 47 = .ok (.bipush (-5), 2) := by decide +kernel
theorem dX12_dance_49 : decode cX12_dance 49 = .ok (.invokevirtual 133, 3) := by decide +kernel
theorem dX12_dance_52 : decode cX12_dance 52 = .ok (.ireturn, 1) := by decide +kernel
theorem dX12_dance_53 : decode cX12_dance 53 = .ok (.aload_n 0, 1) := by decide +kernel
theorem dX12_dance_54 : decode cX12_dance 54 = .ok (.getfield 13, 3) := by decide +kernel
theorem dX12_dance_57 : decode cX12_dance 57 = .ok (.bipush 110, 2) := by decide +kernel
theorem dX12_dance_59 : decode cX12_dance 59 = .ok (.iconst 2, 1) := by decide +kernel
theorem dX12_dance_60 : decode cX12_dance 60 = .ok (.iload_n 3, 1) := by decide +kernel
theorem dX12_dance_61 : decode cX12_dance 61 = .ok (.imul, 1) := by decide +kernel
theorem dX12_dance_62 : decode cX12_dance 62 = .ok (.iadd, 1) := by decide +kernel
theorem dX12_dance_63 : decode cX12_dance 63 = .ok (.iload_n 1, 1) := by decide +kernel
theorem dX12_dance_64 : decode cX12_dance 64 = .ok (.iastore, 1) := by decide +kernel
theorem dX12_dance_65 : decode cX12_dance 65 = .ok (.aload_n 0, 1) := by decide +kernel
theorem dX12_dance_66 : decode cX12_dance 66 = .ok (.getfield 13, 3) := by decide +kernel
theorem dX12_dance_69 : decode cX12_dance 69 = .ok (.bipush 110, 2) := by decide +kernel
theorem dX12_dance_71 : decode cX12_dance 71 = .ok (.iconst 2, 1) := by decide +kernel
theorem dX12_dance_72 : decode cX12_dance 72 = .ok (.iload_n 3, 1) := by decide +kernel
theorem dX12_dance_73 : decode cX12_dance 73 = .ok (.imul, 1) := by decide +kernel
theorem dX12_dance_74 : decode cX12_dance 74 = .ok (.iadd, 1) := by decide +kernel
theorem dX12_dance_75 : decode cX12_dance 75 = .ok (.iconst 1, 1) := by decide +kernel
theorem dX12_dance_76 : decode cX12_dance 76 = .ok (.iadd, 1) := by decide +kernel
theorem dX12_dance_77 : decode cX12_dance 77 = .ok (.iload_n 2, 1) := by decide +kernel
theorem dX12_dance_78 : decode cX12_dance 78 = .ok (.iastore, 1) := by decide +kernel
theorem dX12_dance_79 : decode cX12_dance 79 = .ok (.aload_n 0, 1) := by decide +kernel
theorem dX12_dance_80 : decode cX12_dance 80 = .ok (.getfield 13, 3) := by decide +kernel
theorem dX12_dance_83 : decode cX12_dance 83 = .ok (.iconst 5, 1) := by decide +kernel
theorem dX12_dance_84 : decode cX12_dance 84 = .ok (.dup2, 1) := by decide +kernel
theorem dX12_dance_85 : decode cX12_dance 85 = .ok (.iaload, 1) := by decide +kernel
theorem dX12_dance_86 : decode cX12_dance 86 = .ok (.iconst 1, 1) := by decide +kernel
theorem dX12_dance_87 : decode cX12_dance 87 = .ok (.iadd, 1) := by decide +kernel
theorem dX12_dance_88 : decode cX12_dance 88 = .ok (.iastore, 1) := by decide +kernel
theorem dX12_dance_89 : decode cX12_dance 89 = .ok (.aload_n 0, 1) := by decide +kernel
theorem dX12_dance_90 : decode cX12_dance 90 = .ok (.iload_n 3, 1) := by decide +kernel
theorem dX12_dance_91 : decode cX12_dance 91 = .ok (.invokevirtual 133, 3) := by decide +kernel
theorem dX12_dance_94 : decode cX12_dance 94 = .ok (.ireturn, 1) := by decide +kernel
theorem dX12_isDance_0 : decode cX12_isDance 0 = .ok (.iload_n 1, 1) := by decide +kernel
