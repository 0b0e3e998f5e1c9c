theorem dX11_best_33 : decode cX11_best 33 = .ok (.iconst 2, 1) := by decide +kernel
theorem dX11_best_34 : decode cX11_best 34 = .ok (.if_icmp .le 20, 3) := by decide +kernel
theorem dX11_best_37 : decode cX11_best 37 = .ok (.aload_n 0, 1) := by decide +kernel
theorem dX11_best_38 : decode cX11_best 38 = .ok (.getfield 10, 3) := by decide +kernel
theorem dX11_best_41 : decode cX11_best 41 = .ok (.getfield 124, 3) := by decide +kernel
theorem dX11_best_44 : decode cX11_best 44 = .ok (.iload 5, 2) := by decide +kernel
theorem dX11_best_46 : decode cX11_best 46 = .ok (.invokevirtual 137, 3) := by decide +kernel
theorem dX11_best_49 : decode cX11_best 49 = .ok (.ifCond .ne 5, 3) := by decide +kernel
theorem dX11_best_52 : decode cX11_best 52 = .ok (.iconst (-1), 1) := by decide +kernel
theorem dX11_best_53 : decode cX11_best 53 = .ok (.ireturn, 1) := by decide +kernel
theorem dX11_best_54 : decode cX11_best 54 = .ok (.aload_n 0, 1) := by decide +kernel
theorem dX11_best_55 : decode cX11_best 55 = .ok (.getfield 64, 3) := by decide +kernel
theorem dX11_best_58 : decode cX11_best 58 = .ok (.iload_n 1, 1) := by decide +kernel
theorem dX11_best_59 : decode cX11_best 59 = .ok (.iload_n 2, 1) := by decide +kernel
theorem dX11_best_60 : decode cX11_best 60 = .ok (.iload_n 3, 1) := by decide +kernel
theorem dX11_best_61 : decode cX11_best 61 = .ok (.invokevirtual 235, 3) := by decide +kernel
theorem dX11_best_64 : decode cX11_best 64 = .ok (.iload 4, 2) := by decide +kernel
theorem dX11_best_66 : decode cX11_best 66 = .ok (.ifCond .ne 11, 3) := by decide +kernel
theorem dX11_best_69 : decode cX11_best 69 = .ok (.aload_n 0, 1) := by decide +kernel
theorem dX11_best_70 : decode cX11_best 70 = .ok (.getfield 64, 3) := by decide +kernel
theorem dX11_best_73 : decode cX11_best 73 = .ok (.getfield 238, 3) := by decide +kernel
theorem dX11_best_76 : decode cX11_best 76 = .ok (.ireturn, 1) := by decide +kernel
theorem dX11_best_77 : decode cX11_best 77 = .ok (.iload 4, 2) := by decide +kernel
theorem dX11_best_79 : decode cX11_best 79 = .ok (.iconst 1, 1) := by decide +kernel
theorem dX11_best_80 : decode cX11_best 80 = .ok (.if_icmp .ne 11, 3) := by decide +kernel
theorem dX11_best_83 : decode cX11_best 83 = .ok (.aload_n 0, 1) := by decide +kernel
theorem dX11_best_84 : decode cX11_best 84 = .ok (.getfield 64, 3) := by decide +kernel
theorem dX11_best_87 : decode cX11_best 87 = .ok (.getfield 241, 3) := by decide +kernel
theorem dX11_best_90 : decode cX11_best 90 = .ok (.ireturn, 1) := by decide +kernel
theorem dX11_best_91 : decode cX11_best 91 = .ok (.iload 4, 2) := by decide +kernel
theorem dX11_best_93 : decode cX11_best 93 = .ok (.iconst 2, 1) := by decide +kernel
theorem dX11_best_94 : decode cX11_best 94 = .ok (.if_icmp .ne 13, 3) := by decide +kernel
theorem dX11_best_97 : decode cX11_best 97 = .ok (.aload_n 0, 1) := by decide +kernel
theorem dX11_best_98 : decode cX11_best 98 = .ok (.getfield 64, 3) := by decide +kernel
theorem dX11_best_101 : decode cX11_best 101 = .ok (.getfield 244, 3) := by decide +kernel
theorem dX11_best_104 : decode cX11_best 104 = .ok (.goto 13, 3) := by decide +kernel
theorem dX11_best_107 : decode cX11_best 107 = .ok (.aload_n 0, 1) := by decide +kernel
theorem dX11_best_108 : decode cX11_best 108 = .ok (.getfield 64, 3) := by decide +kernel
theorem dX11_best_111 : decode cX11_best 111 = .ok (.getfield 247, 3) := by decide +kernel
theorem dX11_best_114 : decode cX11_best 114 = .ok (.iload 5, 2) := by decide +kernel
theorem dX11_best_116 : decode cX11_best 116 = .ok (.iaload, 1) := by decide +kernel
theorem dX11_best_117 : decode cX11_best 117 = .ok (.ireturn, 1) := by decide +kernel
theorem dX11_play_0 : decode cX11_play 0 = .ok (.iload_n 1, 1) := by decide +kernel
theorem dX11_play_1 : decode cX11_play 1 = .ok (.iload_n 2, 1) := by decide +kernel
theorem dX11_play_2 : decode cX11_play 2 = .ok (.invokestatic 231, 3) := by decide +kernel
theorem dX11_play_5 : decode cX11_play 5 = .ok (.ifCond .eq 13, 3) := by decide +kernel
theorem dX11_play_8 : decode cX11_play 8 = .ok (.iload_n 3, 1) := by decide +kernel
theorem dX11_play_9 : decode cX11_play 9 = .ok (.ifCond .lt 9, 3) := by decide +kernel
theorem dX11_play_12 : decode cX11_play 12 = .ok (.iload_n 3, 1) := by decide +kernel
theorem dX11_play_13 : decode cX11_play 13 = .ok (.bipush 8, 2) := by decide +kernel
theorem dX11_play_15 : decode cX11_play 15 = .ok (.if_icmp .le 9, 3) := by decide +kernel
theorem dX11_play_18 : decode cX11_play 18 = .ok (.aload_n 0, 1) := by decide +kernel
theorem dX11_play_19 : decode cX11_play 19 = .ok (.iconst (-1), 1) := by decide +kernel
theorem dX11_play_20 : decode cX11_play 20 = .ok (.invokevirtual 103, 3) := by decide +kernel
theorem dX11_play_23 : decode cX11_play 23 = .ok (.ireturn, 1) := by decide +kernel
theorem dX11_play_24 : decode cX11_play 24 = .ok (.aload_n 0, 1) := by decide +kernel
theorem dX11_play_25 : decode cX11_play 25 = .ok (.getfield 64, 3) := by decide +kernel
theorem dX11_play_28 : decode cX11_play 28 = .ok (.iload_n 1, 1) := by decide +kernel
theorem dX11_play_29 : decode cX11_play 29 = .ok (.iload_n 2, 1) := by decide +kernel
theorem dX11_play_30 : decode cX11_play 30 = .ok (.iload_n 3, 1) := by decide +kernel
theorem dX11_play_31 : decode cX11_play 31 = .ok (.invokevirtual 235, 3) := by decide +kernel
theorem dX11_play_34 : decode cX11_play 34 = .ok (.aload_n 0, 1) := by decide +kernel
theorem dX11_play_35 : decode cX11_play 35 = .ok (.getfield 64, 3) := by decide +kernel
theorem dX11_play_38 : decode cX11_play 38 = .ok (.invokevirtual 248, 3) := by decide +kernel
theorem dX11_play_41 : decode cX11_play 41 = .ok (.aload_n 0, 1) := by decide +kernel
theorem dX11_play_42 : decode cX11_play 42 = .ok (.aload_n 0, 1) := by decide +kernel
theorem dX11_play_43 : decode cX11_play 43 = .ok (.getfield 64, 3) := by decide +kernel
theorem dX11_play_46 : decode cX11_play 46 = .ok (.getfield 238, 3) := by decide +kernel
theorem dX11_play_49 : decode cX11_play 49 = .ok (.invokevirtual 110, 3) := by decide +kernel
theorem dX11_play_52 : decode cX11_play 52 = .ok (.ireturn, 1) := by decide +kernel
theorem dX11_bands_0 : decode cX11_bands 0 = .ok (.iload_n 1, 1) := by decide +kernel
theorem dX11_bands_1 : decode cX11_bands 1 = .ok (.invokestatic 163, 3) := by decide +kernel
theorem dX11_bands_4 : decode cX11_bands 4 = .ok (.ifCond .eq 12, 3) := by decide +kernel
theorem dX11_bands_7 : decode cX11_bands 7 = .ok (.iload_n 2, 1) := by decide +kernel
theorem dX11_bands_8 : decode cX11_bands 8 = .ok (.ifCond .lt 8, 3) := by decide +kernel
theorem dX11_bands_11 : decode cX11_bands 11 = .ok (.iload_n 2, 1) := by decide +kernel
theorem dX11_bands_12 : decode cX11_bands 12 = .ok (.iconst 1, 1) := by decide +kernel
theorem dX11_bands_13 : decode cX11_bands 13 = .ok (.if_icmp .le 5, 3) := by decide +kernel
theorem dX11_bands_16 : decode cX11_bands 16 = .ok (.iconst (-1), 1) := by decide +kernel
theorem dX11_bands_17 : decode cX11_bands 17 = .ok (.ireturn, 1) := by decide +kernel
theorem dX11_bands_18 : decode cX11_bands 18 = .ok (.aload_n 0, 1) := by decide +kernel
theorem dX11_bands_19 : decode cX11_bands 19 = .ok (.getfield 71, 3) := by decide +kernel
theorem dX11_bands_22 : decode cX11_bands 22 = .ok (.iload_n 1, 1) := by decide +kernel
theorem dX11_bands_23 : decode cX11_bands 23 = .ok (.invokevirtual 251, 3) := by decide +kernel
theorem dX11_bands_26 : decode cX11_bands 26 = .ok (.iload_n 2, 1) := by decide +kernel
theorem dX11_bands_27 : decode cX11_bands 27 = .ok (.ifCond .ne 13, 3) := by decide +kernel
theorem dX11_bands_30 : decode cX11_bands 30 = .ok (.aload_n 0, 1) := by decide +kernel
theorem dX11_bands_31 : decode cX11_bands 31 = .ok (.getfield 71, 3) := by decide +kernel
theorem dX11_bands_34 : decode cX11_bands 34 = .ok (.getfield 253, 3) := by decide +kernel
theorem dX11_bands_37 : decode cX11_bands 37 = .ok (.goto 10, 3) := by decide +kernel
theorem dX11_bands_40 : decode cX11_bands 40 = .ok (.aload_n 0, 1) := by decide +kernel
theorem dX11_bands_41 : decode cX11_bands 41 = .ok (.getfield 71, 3) := by decide +kernel
theorem dX11_bands_44 : decode cX11_bands 44 = .ok (.getfield 254, 3) := by decide +kernel
theorem dX11_bands_47 : decode cX11_bands 47 = .ok (.ireturn, 1) := by decide +kernel
theorem dX11_wedding_0 : decode cX11_wedding 0 = .ok (.iload_n 1, 1) := by decide +kernel
theorem dX11_wedding_1 : decode cX11_wedding 1 = .ok (.iload_n 2, 1) := by decide +kernel
theorem dX11_wedding_2 : decode cX11_wedding 2 = .ok (.invokestatic 231, 3) := by decide +kernel
theorem dX11_wedding_5 : decode cX11_wedding 5 = .ok (.ifCond .ne 9, 3) := by decide +kernel
theorem dX11_wedding_8 : decode cX11_wedding 8 = .ok (.aload_n 0, 1) := by decide +kernel
theorem dX11_wedding_9 : decode cX11_wedding 9 = .ok (.iconst (-1), 1) := by decide +kernel
theorem dX11_wedding_10 : decode cX11_wedding 10 = .ok (.invokevirtual 103, 3) := by decide +kernel
theorem dX11_wedding_13 : decode cX11_wedding 13 = .ok (.ireturn, 1) := by decide +kernel
theorem dX11_wedding_14 : decode cX11_wedding 14 = .ok (.aload_n 0, 1) := by decide +kernel
theorem dX11_wedding_15 : decode cX11_wedding 15 = .ok (.getfield 10, 3) := by decide +kernel
theorem dX11_wedding_18 : decode cX11_wedding 18 = .ok (.iload_n 1, 1) := by decide +kernel
theorem dX11_wedding_19 : decode cX11_wedding 19 = .ok (.iload_n 2, 1) := by decide +kernel
theorem dX11_wedding_20 : decode cX11_wedding 20 = .ok (.invokevirtual 257, 3) := by decide +kernel
theorem dX11_wedding_23 : decode cX11_wedding 23 = .ok (.ifCond .eq 17, 3) := by decide +kernel
theorem dX11_wedding_26 : decode cX11_wedding 26 = .ok (.aload_n 0, 1) := by decide +kernel
theorem dX11_wedding_27 : decode cX11_wedding 27 = .ok (.aload_n 0, 1) := by decide +kernel
theorem dX11_wedding_28 : decode cX11_wedding 28 = .ok (.getfield 10, 3) := by decide +kernel
theorem dX11_wedding_31 : decode cX11_wedding 31 = .ok (.getfield 260, 3) := by decide +kernel
theorem dX11_wedding_34 : decode cX11_wedding 34 = .ok (.invokevirtual 110, 3) := by decide +kernel
theorem dX11_wedding_37 : decode cX11_wedding 37 = .ok (.goto 9, 3) := by decide +kernel
theorem dX11_wedding_40 : decode cX11_wedding 40 = .ok (.aload_n 0, 1) := by decide +kernel
theorem dX11_wedding_41 : decode cX11_wedding 41 = .ok (.bipush (-5), 2) := by decide +kernel
theorem dX11_wedding_43 : decode cX11_wedding 43 = .ok (.invokevirtual 103, 3) := by decide +kernel
theorem dX11_wedding_46 : decode cX11_wedding 46 = .ok (.ireturn, 1) := by decide +kernel
theorem dX11_divorce_0 : decode cX11_divorce 0 = .ok (.aload_n 0, 1) := by decide +kernel
theorem dX11_divorce_1 : decode cX11_divorce 1 = .ok (.getfield 10, 3) := by decide +kernel
theorem dX11_divorce_4 : decode cX11_divorce 4 = .ok (.getfield 260, 3) := by decide +kernel
theorem dX11_divorce_7 : decode cX11_divorce 7 = .ok (.istore_n 1, 1) := by decide +kernel
theorem dX11_divorce_8 : decode cX11_divorce 8 = .ok (.aload_n 0, 1) := by decide +kernel
theorem dX11_divorce_9 : decode cX11_divorce 9 = .ok (.getfield 10, 3) := by decide +kernel
theorem dX11_divorce_12 : decode cX11_divorce 12 = .ok (.iconst 0, 1) := by decide +kernel
theorem dX11_divorce_13 : decode cX11_divorce 13 = .ok (.putfield 260, 3) := by decide +kernel
theorem dX11_divorce_16 : decode cX11_divorce 16 = .ok (.iload_n 1, 1) := by decide +kernel
theorem dX11_divorce_17 : decode cX11_divorce 17 = .ok (.ireturn, 1) := by decide +kernel
theorem dX11_free_0 : decode cX11_free 0 = .ok (.iload_n 1, 1) := by decide +kernel
theorem dX11_free_1 : decode cX11_free 1 = .ok (.invokestatic 163, 3) := by decide +kernel
theorem dX11_free_4 : decode cX11_free 4 = .ok (.ifCond .eq 14, 3) := by decide +kernel
theorem dX11_free_7 : decode cX11_free 7 = .ok (.aload_n 0, 1) := by decide +kernel
theorem dX11_free_8 : decode cX11_free 8 = .ok (.getfield 64, 3) := by decide +kernel
theorem dX11_free_11 : decode cX11_free 11 = .ok (.iload_n 1, 1) := by decide +kernel
theorem dX11_free_12 : decode cX11_free 12 = .ok (.invokevirtual 263, 3) := by decide +kernel
theorem dX11_free_15 : decode cX11_free 15 = .ok (.goto 4, 3) := by decide +kernel
theorem dX11_free_18 : decode cX11_free 18 = .ok (.iconst (-1), 1) := by decide +kernel
theorem dX11_free_19 : decode cX11_free 19 = .ok (.ireturn, 1) := by decide +kernel
theorem dX11_dance_0 : decode cX11_dance 0 = .ok (.iload_n 1, 1) := by decide +kernel
theorem dX11_dance_1 : decode cX11_dance 1 = .ok (.invokestatic 163, 3) := by decide +kernel
theorem dX11_dance_4 : decode cX11_dance 4 = .ok (.ifCond .ne 9, 3) := by decide +kernel
theorem dX11_dance_7 : decode cX11_dance 7 = .ok (.aload_n 0, 1) := by decide +kernel
theorem dX11_dance_8 : decode cX11_dance 8 = .ok (.iconst (-1), 1) := by decide +kernel
theorem dX11_dance_9 : decode cX11_dance 9 = .ok (.invokevirtual 103, 3) := by decide +kernel
theorem dX11_dance_12 : decode cX11_dance 12 = .ok (.ireturn, 1) := by decide +kernel
theorem dX11_dance_13 : decode cX11_dance 13 = .ok (.aload_n 0, 1) := by decide +kernel
theorem dX11_dance_14 : decode cX11_dance 14 = .ok (.getfield 10, 3) := by decide +kernel
theorem dX11_dance_17 : decode cX11_dance 17 = .ok (.iload_n 2, 1) := by decide +kernel
theorem dX11_dance_18 : decode cX11_dance 18 = .ok (.invokevirtual 113, 3) := by decide +kernel
theorem dX11_dance_21 : decode cX11_dance 21 = .ok (.ifCond .ne 10, 3) := by decide +kernel
theorem dX11_dance_24 : decode cX11_dance 24 = .ok (.aload_n 0, 1) := by decide +kernel
theorem dX11_dance_25 : decode cX11_dance 25 = .ok (.bipush (-2), 2) := by decide +kernel
theorem dX11_dance_27 : decode cX11_dance 27 = .ok (.invokevirtual 103, 3) := by decide +kernel
theorem dX11_dance_30 : decode cX11_dance 30 = .ok (.ireturn, 1) := by decide +kernel
theorem dX11_dance_31 : decode cX11_dance 31 = .ok (.aload_n 0, 1) := by decide +kernel
theorem dX11_dance_32 : decode cX11_dance 32 = .ok (.getfield 10, 3) := by decide +kernel
theorem dX11_dance_35 : decode cX11_dance 35 = .ok (.iload_n 1, 1) := by decide +kernel
theorem dX11_dance_36 : decode cX11_dance 36 = .ok (.iload_n 2, 1) := by decide +kernel
theorem dX11_dance_37 : decode cX11_dance 37 = .ok (.invokevirtual 266, 3) := by decide +kernel
theorem dX11_dance_40 : decode cX11_dance 40 = .ok (.istore_n 3, 1) := by decide +kernel
theorem dX11_dance_41 : decode cX11_dance 41 = .ok (.iload_n 3, 1) := by decide +kernel
theorem dX11_dance_42 : decode cX11_dance 42 = .ok (.iconst (-1), 1) := by decide +kernel
theorem dX11_dance_43 : decode cX11_dance 43 = .ok (.if_icmp .ne 12, 3) := by decide +kernel
theorem dX11_dance_46 : decode cX11_dance 46 = .ok (.aload_n 0, 1) := by decide +kernel
theorem dX11_dance_47 : decode cX11_dance 47 = .ok (.bipush (-5), 2) := by decide +kernel
theorem dX11_dance_49 : decode cX11_dance 49 = .ok (.invokevirtual 103, 3) := by decide +kernel
theorem dX11_dance_52 : decode cX11_dance 52 = .ok (.goto 8, 3) := by decide +kernel
theorem dX11_dance_55 : decode cX11_dance 55 = .ok (.aload_n 0, 1) := by decide +kernel
theorem dX11_dance_56 : decode cX11_dance 56 = .ok (.iload_n 3, 1) := by decide +kernel
theorem dX11_dance_57 : decode cX11_dance 57 = .ok (.invokevirtual 110, 3) := by decide +kernel
theorem dX11_dance_60 : decode cX11_dance 60 = .ok (.ireturn, 1) := by decide +kernel
theorem dX11_ahead_0 : decode cX11_ahead 0 = .ok (.iload_n 1, 1) := by decide +kernel
theorem dX11_ahead_1 : decode cX11_ahead 1 = .ok (.iload_n 2, 1) := by decide +kernel
theorem dX11_ahead_2 : decode cX11_ahead 2 = .ok (.if_icmp .ne 9, 3) := by decide +kernel
theorem dX11_ahead_5 : decode cX11_ahead 5 = .ok (.aload_n 0, 1) := by decide +kernel
theorem dX11_ahead_6 : decode cX11_ahead 6 = .ok (.iconst (-1), 1) := by decide +kernel
theorem dX11_ahead_7 : decode cX11_ahead 7 = .ok (.invokevirtual 103, 3) := by decide +kernel
theorem dX11_ahead_10 : decode cX11_ahead 10 = .ok (.ireturn, 1) := by decide +kernel
theorem dX11_ahead_11 : decode cX11_ahead 11 = .ok (.aload_n 0, 1) := by decide +kernel
theorem dX11_ahead_12 : decode cX11_ahead 12 = .ok (.getfield 10, 3) := by decide +kernel
theorem dX11_ahead_15 : decode cX11_ahead 15 = .ok (.iload_n 1, 1) := by decide +kernel
theorem dX11_ahead_16 : decode cX11_ahead 16 = .ok (.invokevirtual 269, 3) := by decide +kernel
theorem dX11_ahead_19 : decode cX11_ahead 19 = .ok (.ifCond .eq 14, 3) := by decide +kernel
theorem dX11_ahead_22 : decode cX11_ahead 22 = .ok (.aload_n 0, 1) := by decide +kernel
theorem dX11_ahead_23 : decode cX11_ahead 23 = .ok (.getfield 10, 3) := by decide +kernel
theorem dX11_ahead_26 : decode cX11_ahead 26 = .ok (.iload_n 2, 1) := by decide +kernel
theorem dX11_ahead_27 : decode cX11_ahead 27 = .ok (.invokevirtual 269, 3) := by decide +kernel
theorem dX11_ahead_30 : decode cX11_ahead 30 = .ok (.ifCond .ne 10, 3) := by decide +kernel
theorem dX11_ahead_33 : decode cX11_ahead 33 = .ok (.aload_n 0, 1) := by decide +kernel
theorem dX11_ahead_34 : decode cX11_ahead 34 = .ok (.bipush (-2), 2) := by decide +kernel
theorem dX11_ahead_36 : decode cX11_ahead 36 = .ok (.invokevirtual 103, 3) := by decide +kernel
theorem dX11_ahead_39 : decode cX11_ahead 39 = .ok (.ireturn, 1) := by decide +kernel
theorem dX11_ahead_40 : decode cX11_ahead 40 = .ok (.aload_n 0, 1) := by decide +kernel
theorem dX11_ahead_41 : decode cX11_ahead 41 = .ok (.getfield 10, 3) := by decide +kernel
theorem dX11_ahead_44 : decode cX11_ahead 44 = .ok (.iload_n 1, 1) := by decide +kernel
theorem dX11_ahead_45 : decode cX11_ahead 45 = .ok (.iload_n 2, 1) := by decide +kernel
theorem dX11_ahead_46 : decode cX11_ahead 46 = .ok (.invokevirtual 272, 3) := by decide +kernel
theorem dX11_ahead_49 : decode cX11_ahead 49 = .ok (.ifCond .eq 17, 3) := by decide +kernel
theorem dX11_ahead_52 : decode cX11_ahead 52 = .ok (.aload_n 0, 1) := by decide +kernel
theorem dX11_ahead_53 : decode cX11_ahead 53 = .ok (.aload_n 0, 1) := by decide +kernel
theorem dX11_ahead_54 : decode cX11_ahead 54 = .ok (.getfield 10, 3) := by decide +kernel
theorem dX11_ahead_57 : decode cX11_ahead 57 = .ok (.getfield 275, 3) := by decide +kernel
theorem dX11_ahead_60 : decode cX11_ahead 60 = .ok (.invokevirtual 110, 3) := by decide +kernel
theorem dX11_ahead_63 : decode cX11_ahead 63 = .ok (.goto 9, 3) := by decide +kernel
theorem dX11_ahead_66 : decode cX11_ahead 66 = .ok (.aload_n 0, 1) := by decide +kernel
theorem dX11_ahead_67 : decode cX11_ahead 67 = .ok (.bipush (-5), 2) := by decide +kernel
theorem dX11_ahead_69 : decode cX11_ahead 69 = .ok (.invokevirtual 103, 3) := by decide +kernel
theorem dX11_ahead_72 : decode cX11_ahead 72 = .ok (.ireturn, 1) := by decide +kernel
theorem dX11_forget_0 : decode cX11_forget 0 = .ok (.aload_n 0, 1) := by decide +kernel
theorem dX11_forget_1 : decode cX11_forget 1 = .ok (.getfield 10, 3) := by decide +kernel
theorem dX11_forget_4 : decode cX11_forget 4 = .ok (.getfield 278, 3) := by decide +kernel
theorem dX11_forget_7 : decode cX11_forget 7 = .ok (.istore_n 1, 1) := by decide +kernel
theorem dX11_forget_8 : decode cX11_forget 8 = .ok (.aload_n 0, 1) := by decide +kernel
theorem dX11_forget_9 : decode cX11_forget 9 = .ok (.getfield 10, 3) := by decide +kernel
theorem dX11_forget_12 : decode cX11_forget 12 = .ok (.iconst 0, 1) := by decide +kernel
theorem dX11_forget_13 : decode cX11_forget 13 = .ok (.putfield 278, 3) := by decide +kernel
theorem dX11_forget_16 : decode cX11_forget 16 = .ok (.aload_n 0, 1) := by decide +kernel
theorem dX11_forget_17 : decode cX11_forget 17 = .ok (.getfield 10, 3) := by decide +kernel
theorem dX11_forget_20 : decode cX11_forget 20 = .ok (.iconst 0, 1) := by decide +kernel
theorem dX11_forget_21 : decode cX11_forget 21 = .ok (.putfield 275, 3) := by decide +kernel
theorem dX11_forget_24 : decode cX11_forget 24 = .ok (.iload_n 1, 1) := by decide +kernel
theorem dX11_forget_25 : decode cX11_forget 25 = .ok (.ireturn, 1) := by decide +kernel
theorem dX11_orders_0 : decode cX11_orders 0 = .ok (.aload_n 0, 1) := by decide +kernel
theorem dX11_orders_1 : decode cX11_orders 1 = .ok (.getfield 10, 3) := by decide +kernel
theorem dX11_orders_4 : decode cX11_orders 4 = .ok (.iload_n 1, 1) := by decide +kernel
theorem dX11_orders_5 : decode cX11_orders 5 = .ok (.invokevirtual 113, 3) := by decide +kernel
theorem dX11_orders_8 : decode cX11_orders 8 = .ok (.ifCond .eq 15, 3) := by decide +kernel
theorem dX11_orders_11 : decode cX11_orders 11 = .ok (.iload_n 2, 1) := by decide +kernel
theorem dX11_orders_12 : decode cX11_orders 12 = .ok (.iconst (-1), 1) := by decide +kernel
theorem dX11_orders_13 : decode cX11_orders 13 = .ok (.if_icmp .eq 12, 3) := by decide +kernel
theorem dX11_orders_16 : decode cX11_orders 16 = .ok (.iload_n 2, 1) := by decide +kernel
theorem dX11_orders_17 : decode cX11_orders 17 = .ok (.invokestatic 163, 3) := by decide +kernel
theorem dX11_orders_20 : decode cX11_orders 20 = .ok (.ifCond .ne 5, 3) := by decide +kernel
theorem dX11_orders_23 : decode cX11_orders 23 = .ok (.iconst (-1), 1) := by decide +kernel
theorem dX11_orders_24 : decode cX11_orders 24 = .ok (.ireturn, 1) := by decide +kernel
theorem dX11_orders_25 : decode cX11_orders 25 = .ok (.aload_n 0, 1) := by decide +kernel
theorem dX11_orders_26 : decode cX11_orders 26 = .ok (.getfield 78, 3) := by decide +kernel
theorem dX11_orders_29 : decode cX11_orders 29 = .ok (.iload_n 1, 1) := by decide +kernel
theorem dX11_orders_30 : decode cX11_orders 30 = .ok (.invokevirtual 281, 3) := by decide +kernel
theorem dX11_orders_33 : decode cX11_orders 33 = .ok (.iload_n 2, 1) := by decide +kernel
theorem dX11_orders_34 : decode cX11_orders 34 = .ok (.iconst (-1), 1) := by decide +kernel
theorem dX11_orders_35 : decode cX11_orders 35 = .ok (.if_icmp .ne 13, 3) := by decide +kernel
theorem dX11_orders_38 : decode cX11_orders 38 = .ok (.aload_n 0, 1) := by decide +kernel
theorem dX11_orders_39 : decode cX11_orders 39 = .ok (.getfield 78, 3) := by decide +kernel
theorem dX11_orders_42 : decode cX11_orders 42 = .ok (.invokevirtual 282, 3) := by decide +kernel
theorem dX11_orders_45 : decode cX11_orders 45 = .ok (.goto 11, 3) := by decide +kernel
theorem dX11_orders_48 : decode cX11_orders 48 = .ok (.aload_n 0, 1) := by decide +kernel
theorem dX11_orders_49 : decode cX11_orders 49 = .ok (.getfield 78, 3) := by decide +kernel
theorem dX11_orders_52 : decode cX11_orders 52 = .ok (.iload_n 2, 1) := by decide +kernel
theorem dX11_orders_53 : decode cX11_orders 53 = .ok (.invokevirtual 284, 3) := by decide +kernel
theorem dX11_orders_56 : decode cX11_orders 56 = .ok (.ireturn, 1) := by decide +kernel
theorem dX11_can_0 : decode cX11_can 0 = .ok (.aload_n 0, 1) := by decide +kernel
theorem dX11_can_1 : decode cX11_can 1 = .ok (.getfield 10, 3) := by decide +kernel
theorem dX11_can_4 : decode cX11_can 4 = .ok (.iload_n 1, 1) := by decide +kernel
theorem dX11_can_5 : decode cX11_can 5 = .ok (.invokevirtual 113, 3) := by decide +kernel
theorem dX11_can_8 : decode cX11_can 8 = .ok (.ifCond .ne 5, 3) := by decide +kernel
theorem dX11_can_11 : decode cX11_can 11 = .ok (.iconst (-1), 1) := by decide +kernel
theorem dX11_can_12 : decode cX11_can 12 = .ok (.ireturn, 1) := by decide +kernel
theorem dX11_can_13 : decode cX11_can 13 = .ok (.aload_n 0, 1) := by decide +kernel
theorem dX11_can_14 : decode cX11_can 14 = .ok (.getfield 78, 3) := by decide +kernel
theorem dX11_can_17 : decode cX11_can 17 = .ok (.iload_n 1, 1) := by decide +kernel
theorem dX11_can_18 : decode cX11_can 18 = .ok (.invokevirtual 281, 3) := by decide +kernel
theorem dX11_can_21 : decode cX11_can 21 = .ok (.iconst 0, 1) := by decide +kernel
theorem dX11_can_22 : decode cX11_can 22 = .ok (.istore_n 2, 1) := by decide +kernel
theorem dX11_can_23 : decode cX11_can 23 = .ok (.iconst 0, 1) := by decide +kernel
theorem dX11_can_24 : decode cX11_can 24 = .ok (.istore_n 3, 1) := by decide +kernel
theorem dX11_can_25 : decode cX11_can 25 = .ok (.iload_n 3, 1) := by decide +kernel
theorem dX11_can_26 : decode cX11_can 26 = .ok (.bipush 8, 2) := by decide +kernel
theorem dX11_can_28 : decode cX11_can 28 = .ok (.if_icmp .ge 26, 3) := by decide +kernel
theorem dX11_can_31 : decode cX11_can 31 = .ok (.aload_n 0, 1) := by decide +kernel
theorem dX11_can_32 : decode cX11_can 32 = .ok (.getfield 78, 3) := by decide +kernel
theorem dX11_can_35 : decode cX11_can 35 = .ok (.iload_n 3, 1) := by decide +kernel
theorem dX11_can_36 : decode cX11_can 36 = .ok (.invokevirtual 284, 3) := by decide +kernel
theorem dX11_can_39 : decode cX11_can 39 = .ok (.ifCond .le 9, 3) := by decide +kernel
theorem dX11_can_42 : decode cX11_can 42 = .ok (.iload_n 2, 1) := by decide +kernel
theorem dX11_can_43 : decode cX11_can 43 = .ok (.iconst 1, 1) := by decide +kernel
theorem dX11_can_44 : decode cX11_can 44 = .ok (.iload_n 3, 1) := by decide +kernel
theorem dX11_can_45 : decode cX11_can 45 = .ok (.ishl, 1) := by decide +kernel
theorem dX11_can_46 : decode cX11_can 46 = .ok (.ior, 1) := by decide +kernel
theorem dX11_can_47 : decode cX11_can 47 = .ok (.istore_n 2, 1) := by decide +kernel
theorem dX11_can_48 : decode cX11_can 48 = .ok (.iinc 3 1, 3) := by decide +kernel
theorem dX11_can_51 : decode cX11_can 51 = .ok (.goto (-26), 3) := by decide +kernel
theorem dX11_can_54 : decode cX11_can 54 = .ok (.iload_n 2, 1) := by decide +kernel
theorem dX11_can_55 : decode cX11_can 55 = .ok (.ireturn, 1) := by decide +kernel
theorem dX11_evenings_0 : decode cX11_evenings 0 = .ok (.iload_n 1, 1) := by decide +kernel
theorem dX11_evenings_1 : decode cX11_evenings 1 = .ok (.ifCond .lt 21, 3) := by decide +kernel
theorem dX11_evenings_4 : decode cX11_evenings 4 = .ok (.iload_n 1, 1) := by decide +kernel
theorem dX11_evenings_5 : decode cX11_evenings 5 = .ok (.ldc_w 287, 3) := by decide +kernel
theorem dX11_evenings_8 : decode cX11_evenings 8 = .ok (.if_icmp .gt 14, 3) := by decide +kernel
theorem dX11_evenings_11 : decode cX11_evenings 11 = .ok (.iload_n 2, 1) := by decide +kernel
theorem dX11_evenings_12 : decode cX11_evenings 12 = .ok (.iconst 1, 1) := by decide +kernel
theorem dX11_evenings_13 : decode cX11_evenings 13 = .ok (.if_icmp .lt 9, 3) := by decide +kernel
theorem dX11_evenings_16 : decode cX11_evenings 16 = .ok (.iload_n 2, 1) := by decide +kernel
theorem dX11_evenings_17 : decode cX11_evenings 17 = .ok (.bipush 20, 2) := by decide +kernel
theorem dX11_evenings_19 : decode cX11_evenings 19 = .ok (.if_icmp .le 9, 3) := by decide +kernel
theorem dX11_evenings_22 : decode cX11_evenings 22 = .ok (.aload_n 0, 1) := by decide +kernel
theorem dX11_evenings_23 : decode cX11_evenings 23 = .ok (.iconst (-1), 1) := by decide +kernel
theorem dX11_evenings_24 : decode cX11_evenings 24 = .ok (.invokevirtual 103, 3) := by decide +kernel
theorem dX11_evenings_27 : decode cX11_evenings 27 = .ok (.ireturn, 1) := by decide +kernel
theorem dX11_evenings_28 : decode cX11_evenings 28 = .ok (.aload_n 0, 1) := by decide +kernel
theorem dX11_evenings_29 : decode cX11_evenings 29 = .ok (.aload_n 0, 1) := by decide +kernel
theorem dX11_evenings_30 : decode cX11_evenings 30 = .ok (.getfield 85, 3) := by decide +kernel
theorem dX11_evenings_33 : decode cX11_evenings 33 = .ok (.iload_n 1, 1) := by decide +kernel
theorem dX11_evenings_34 : decode cX11_evenings 34 = .ok (.iload_n 2, 1) := by decide +kernel
theorem dX11_evenings_35 : decode cX11_evenings 35 = .ok (.invokevirtual 288, 3) := by decide +kernel
theorem dX11_evenings_38 : decode cX11_evenings 38 = .ok (.invokevirtual 110, 3) := by decide +kernel
theorem dX11_evenings_41 : decode cX11_evenings 41 = .ok (.ireturn, 1) := by decide +kernel
theorem dX11_owed_0 : decode cX11_owed 0 = .ok (.aload_n 0, 1) := by decide +kernel
theorem dX11_owed_1 : decode cX11_owed 1 = .ok (.getfield 85, 3) := by decide +kernel
theorem dX11_owed_4 : decode cX11_owed 4 = .ok (.getfield 290, 3) := by decide +kernel
theorem dX11_owed_7 : decode cX11_owed 7 = .ok (.ifCond .eq 19, 3) := by decide +kernel
theorem dX11_owed_10 : decode cX11_owed 10 = .ok (.iload_n 1, 1) := by decide +kernel
theorem dX11_owed_11 : decode cX11_owed 11 = .ok (.invokestatic 163, 3) := by decide +kernel
theorem dX11_owed_14 : decode cX11_owed 14 = .ok (.ifCond .eq 12, 3) := by decide +kernel
theorem dX11_owed_17 : decode cX11_owed 17 = .ok (.iload_n 2, 1) := by decide +kernel
theorem dX11_owed_18 : decode cX11_owed 18 = .ok (.ifCond .lt 8, 3) := by decide +kernel
theorem dX11_owed_21 : decode cX11_owed 21 = .ok (.iload_n 2, 1) := by decide +kernel
theorem dX11_owed_22 : decode cX11_owed 22 = .ok (.iconst 1, 1) := by decide +kernel
theorem dX11_owed_23 : decode cX11_owed 23 = .ok (.if_icmp .le 5, 3) := by decide +kernel
theorem dX11_owed_26 : decode cX11_owed 26 = .ok (.iconst (-1), 1) := by decide +kernel
theorem dX11_owed_27 : decode cX11_owed 27 = .ok (.ireturn, 1) := by decide +kernel
theorem dX11_owed_28 : decode cX11_owed 28 = .ok (.iload_n 2, 1) := by decide +kernel
theorem dX11_owed_29 : decode cX11_owed 29 = .ok (.ifCond .ne 15, 3) := by decide +kernel
theorem dX11_owed_32 : decode cX11_owed 32 = .ok (.aload_n 0, 1) := by decide +kernel
theorem dX11_owed_33 : decode cX11_owed 33 = .ok (.getfield 85, 3) := by decide +kernel
theorem dX11_owed_36 : decode cX11_owed 36 = .ok (.getfield 294, 3) := by decide +kernel
theorem dX11_owed_39 : decode cX11_owed 39 = .ok (.iload_n 1, 1) := by decide +kernel
theorem dX11_owed_40 : decode cX11_owed 40 = .ok (.iaload, 1) := by decide +kernel
theorem dX11_owed_41 : decode cX11_owed 41 = .ok (.goto 15, 3) := by decide +kernel
theorem dX11_owed_44 : decode cX11_owed 44 = .ok (.aload_n 0, 1) := by decide +kernel
theorem dX11_owed_45 : decode cX11_owed 45 = .ok (.getfield 85, 3) := by decide +kernel
theorem dX11_owed_48 : decode cX11_owed 48 = .ok (.getfield 297, 3) := by decide +kernel
theorem dX11_owed_51 : decode cX11_owed 51 = .ok (.iload_n 1, 1) := by decide +kernel
theorem dX11_owed_52 : decode cX11_owed 52 = .ok (.iaload, 1) := by decide +kernel
theorem dX11_owed_53 : decode cX11_owed 53 = .ok (.invokestatic 300, 3) := by decide +kernel
theorem dX11_owed_56 : decode cX11_owed 56 = .ok (.ireturn, 1) := by decide +kernel
theorem dX11_image_0 : decode cX11_image 0 = .ok (.iload_n 1, 1) := by decide +kernel
theorem dX11_image_1 : decode cX11_image 1 = .ok (.ifCond .lt 8, 3) := by decide +kernel
theorem dX11_image_4 : decode cX11_image 4 = .ok (.iload_n 1, 1) := by decide +kernel
theorem dX11_image_5 : decode cX11_image 5 = .ok (.iconst 2, 1) := by decide +kernel
theorem dX11_image_6 : decode cX11_image 6 = .ok (.if_icmp .lt 9, 3) := by decide +kernel
theorem dX11_image_9 : decode cX11_image 9 = .ok (.aload_n 0, 1) := by decide +kernel
theorem dX11_image_10 : decode cX11_image 10 = .ok (.iconst (-1), 1) := by decide +kernel
theorem dX11_image_11 : decode cX11_image 11 = .ok (.invokevirtual 103, 3) := by decide +kernel
theorem dX11_image_14 : decode cX11_image 14 = .ok (.ireturn, 1) := by decide +kernel
theorem dX11_image_15 : decode cX11_image 15 = .ok (.aload_n 0, 1) := by decide +kernel
theorem dX11_image_16 : decode cX11_image 16 = .ok (.getfield 16, 3) := by decide +kernel
theorem dX11_image_19 : decode cX11_image 19 = .ok (.iload_n 1, 1) := by decide +kernel
theorem dX11_image_20 : decode cX11_image 20 = .ok (.aaload, 1) := by decide +kernel
theorem dX11_image_21 : decode cX11_image 21 = .ok (.astore_n 2, 1) := by decide +kernel
theorem dX11_image_22 : decode cX11_image 22 = .ok (.aload_n 2, 1) := by decide +kernel
theorem dX11_image_23 : decode cX11_image 23 = .ok (.ifnonnull 18, 3) := by decide +kernel
theorem dX11_image_26 : decode cX11_image 26 = .ok (.new 7, 3) := by decide +kernel
theorem dX11_image_29 : decode cX11_image 29 = .ok (.dup, 1) := by decide +kernel
theorem dX11_image_30 : decode cX11_image 30 = .ok (.invokespecial 9, 3) := by decide +kernel
theorem dX11_image_33 : decode cX11_image 33 = .ok (.astore_n 2, 1) := by decide +kernel
theorem dX11_image_34 : decode cX11_image 34 = .ok (.aload_n 0, 1) := by decide +kernel
theorem dX11_image_35 : decode cX11_image 35 = .ok (.getfield 16, 3) := by decide +kernel
theorem dX11_image_38 : decode cX11_image 38 = .ok (.iload_n 1, 1) := by decide +kernel
theorem dX11_image_39 : decode cX11_image 39 = .ok (.aload_n 2, 1) := by decide +kernel
theorem dX11_image_40 : decode cX11_image 40 = .ok (.aastore, 1) := by decide +kernel
theorem dX11_image_41 : decode cX11_image 41 = .ok (.aload_n 2, 1) := by decide +kernel
theorem dX11_image_42 : decode cX11_image 42 = .ok (.aload_n 0, 1) := by decide +kernel
theorem dX11_image_43 : decode cX11_image 43 = .ok (.getfield 10, 3) := by decide +kernel
theorem dX11_image_46 : decode cX11_image 46 = .ok (.invokevirtual 305, 3) := by decide +kernel
theorem dX11_image_49 : decode cX11_image 49 = .ok (.aload_n 0, 1) := by decide +kernel
theorem dX11_image_50 : decode cX11_image 50 = .ok (.iconst 0, 1) := by decide +kernel
theorem dX11_image_51 : decode cX11_image 51 = .ok (.invokevirtual 110, 3) := by decide +kernel
theorem dX11_image_54 : decode cX11_image 54 = .ok (.ireturn, 1) := by decide +kernel
theorem dX11_back_0 : decode cX11_back 0 = .ok (.iload_n 1, 1) := by decide +kernel
theorem dX11_back_1 : decode cX11_back 1 = .ok (.ifCond .lt 8, 3) := by decide +kernel
theorem dX11_back_4 : decode cX11_back 4 = .ok (.iload_n 1, 1) := by decide +kernel
theorem dX11_back_5 : decode cX11_back 5 = .ok (.iconst 2, 1) := by decide +kernel
theorem dX11_back_6 : decode cX11_back 6 = .ok (.if_icmp .lt 9, 3) := by decide +kernel
theorem dX11_back_9 : decode cX11_back 9 = .ok (.aload_n 0, 1) := by decide +kernel
theorem dX11_back_10 : decode cX11_back 10 = .ok (.iconst (-1), 1) := by decide +kernel
theorem dX11_back_11 : decode cX11_back 11 = .ok (.invokevirtual 103, 3) := by decide +kernel
theorem dX11_back_14 : decode cX11_back 14 = .ok (.ireturn, 1) := by decide +kernel
theorem dX11_back_15 : decode cX11_back 15 = .ok (.aload_n 0, 1) := by decide +kernel
theorem dX11_back_16 : decode cX11_back 16 = .ok (.getfield 16, 3) := by decide +kernel
theorem dX11_back_19 : decode cX11_back 19 = .ok (.iload_n 1, 1) := by decide +kernel
theorem dX11_back_20 : decode cX11_back 20 = .ok (.aaload, 1) := by decide +kernel
theorem dX11_back_21 : decode cX11_back 21 = .ok (.astore_n 2, 1) := by decide +kernel
theorem dX11_back_22 : decode cX11_back 22 = .ok (.aload_n 2, 1) := by decide +kernel
theorem dX11_back_23 : decode cX11_back 23 = .ok (.ifnonnull 10, 3) := by decide +kernel
theorem dX11_back_26 : decode cX11_back 26 = .ok (.aload_n 0, 1) := by decide +kernel
theorem dX11_back_27 : decode cX11_back 27 = .ok (.bipush (-2), 2) := by decide +kernel
theorem dX11_back_29 : decode cX11_back 29 = .ok (.invokevirtual 103, 3) := by decide +kernel
theorem dX11_back_32 : decode cX11_back 32 = .ok (.ireturn, 1) := by decide +kernel
theorem dX11_back_33 : decode cX11_back 33 = .ok (.aload_n 0, 1) := by decide +kernel
theorem dX11_back_34 : decode cX11_back 34 = .ok (.getfield 10, 3) := by decide +kernel
theorem dX11_back_37 : decode cX11_back 37 = .ok (.aload_n 2, 1) := by decide +kernel
theorem dX11_back_38 : decode cX11_back 38 = .ok (.invokevirtual 305, 3) := by decide +kernel
theorem dX11_back_41 : decode cX11_back 41 = .ok (.aload_n 0, 1) := by decide +kernel
theorem dX11_back_42 : decode cX11_back 42 = .ok (.iconst 0, 1) := by decide +kernel
theorem dX11_back_43 : decode cX11_back 43 = .ok (.invokevirtual 110, 3) := by decide +kernel
theorem dX11_back_46 : decode cX11_back 46 = .ok (.ireturn, 1) := by decide +kernel
theorem dX11_count_0 : decode cX11_count 0 = .ok (.iload_n 1, 1) := by decide +kernel
theorem dX11_count_1 : decode cX11_count 1 = .ok (.tableswitch 161 0 14 #[75, 83, 94, 105, 113, 121, 129, 137, 161, 161, 161, 161, 161, 145, 153], 75) := by decide +kernel
theorem dX11_count_76 : decode cX11_count 76 = .ok (.aload_n 0, 1) := by decide +kernel
theorem dX11_count_77 : decode cX11_count 77 = .ok (.getfield 10, 3) := by decide +kernel
theorem dX11_count_80 : decode cX11_count 80 = .ok (.getfield 308, 3) := by decide +kernel
theorem dX11_count_83 : decode cX11_count 83 = .ok (.ireturn, 1) := by decide +kernel
theorem dX11_count_84 : decode cX11_count 84 = .ok (.aload_n 0, 1) := by decide +kernel
theorem dX11_count_85 : decode cX11_count 85 = .ok (.getfield 10, 3) := by decide +kernel
theorem dX11_count_88 : decode cX11_count 88 = .ok (.getfield 124, 3) := by decide +kernel
theorem dX11_count_91 : decode cX11_count 91 = .ok (.getfield 311, 3) := by decide +kernel
theorem dX11_count_94 : decode cX11_count 94 = .ok (.ireturn, 1) := by decide +kernel
theorem dX11_count_95 : decode cX11_count 95 = .ok (.aload_n 0, 1) := by decide +kernel
theorem dX11_count_96 : decode cX11_count 96 = .ok (.getfield 10, 3) := by decide +kernel
theorem dX11_count_99 : decode cX11_count 99 = .ok (.getfield 124, 3) := by decide +kernel
theorem dX11_count_102 : decode cX11_count 102 = .ok (.invokevirtual 312, 3) := by decide +kernel
theorem dX11_count_105 : decode cX11_count 105 = .ok (.ireturn, 1) := by decide +kernel
theorem dX11_count_106 : decode cX11_count 106 = .ok (.aload_n 0, 1) := by decide +kernel
theorem dX11_count_107 : decode cX11_count 107 = .ok (.getfield 10, 3) := by decide +kernel
theorem dX11_count_110 : decode cX11_count 110 = .ok (.getfield 182, 3) := by decide +kernel
theorem dX11_count_113 : decode cX11_count 113 = .ok (.ireturn, 1) := by decide +kernel
theorem dX11_count_114 : decode cX11_count 114 = .ok (.aload_n 0, 1) := by decide +kernel
theorem dX11_count_115 : decode cX11_count 115 = .ok (.getfield 10, 3) := by decide +kernel
theorem dX11_count_118 : decode cX11_count 118 = .ok (.getfield 260, 3) := by decide +kernel
theorem dX11_count_121 : decode cX11_count 121 = .ok (.ireturn, 1) := by decide +kernel
theorem dX11_count_122 : decode cX11_count 122 = .ok (.aload_n 0, 1) := by decide +kernel
theorem dX11_count_123 : decode cX11_count 123 = .ok (.getfield 10, 3) := by decide +kernel
theorem dX11_count_126 : decode cX11_count 126 = .ok (.getfield 278, 3) := by decide +kernel
theorem dX11_count_129 : decode cX11_count 129 = .ok (.ireturn, 1) := by decide +kernel
theorem dX11_count_130 : decode cX11_count 130 = .ok (.aload_n 0, 1) := by decide +kernel
theorem dX11_count_131 : decode cX11_count 131 = .ok (.getfield 10, 3) := by decide +kernel
theorem dX11_count_134 : decode cX11_count 134 = .ok (.getfield 275, 3) := by decide +kernel
theorem dX11_count_137 : decode cX11_count 137 = .ok (.ireturn, 1) := by decide +kernel
theorem dX11_count_138 : decode cX11_count 138 = .ok (.aload_n 0, 1) := by decide +kernel
theorem dX11_count_139 : decode cX11_count 139 = .ok (.getfield 23, 3) := by decide +kernel
theorem dX11_count_142 : decode cX11_count 142 = .ok (.getfield 176, 3) := by decide +kernel
theorem dX11_count_145 : decode cX11_count 145 = .ok (.ireturn, 1) := by decide +kernel
theorem dX11_count_146 : decode cX11_count 146 = .ok (.aload_n 0, 1) := by decide +kernel
theorem dX11_count_147 : decode cX11_count 147 = .ok (.getfield 10, 3) := by decide +kernel
theorem dX11_count_150 : decode cX11_count 150 = .ok (.getfield 199, 3) := by decide +kernel
theorem dX11_count_153 : decode cX11_count 153 = .ok (.ireturn, 1) := by decide +kernel
theorem dX11_count_154 : decode cX11_count 154 = .ok (.aload_n 0, 1) := by decide +kernel
theorem dX11_count_155 : decode cX11_count 155 = .ok (.getfield 10, 3) := by decide +kernel
theorem dX11_count_158 : decode cX11_count 158 = .ok (.getfield 128, 3) := by decide +kernel
theorem dX11_count_161 : decode cX11_count 161 = .ok (.ireturn, 1) := by decide +kernel
theorem dX11_count_162 : decode cX11_count 162 = .ok (.aload_n 0, 1) := by decide +kernel
theorem dX11_count_163 : decode cX11_count 163 = .ok (.iload_n 1, 1) := by decide +kernel
theorem dX11_count_164 : decode cX11_count 164 = .ok (.bipush 8, 2) := by decide +kernel
theorem dX11_count_166 : decode cX11_count 166 = .ok (.isub, 1) := by decide +kernel
theorem dX11_count_167 : decode cX11_count 167 = .ok (.invokevirtual 315, 3) := by decide +kernel
theorem dX11_count_170 : decode cX11_count 170 = .ok (.ireturn, 1) := by decide +kernel
theorem dX11_status_0 : decode cX11_status 0 = .ok (.aload_n 0, 1) := by decide +kernel
theorem dX11_status_1 : decode cX11_status 1 = .ok (.getfield 100, 3) := by decide +kernel
theorem dX11_status_4 : decode cX11_status 4 = .ok (.ireturn, 1) := by decide +kernel
theorem dX11_refuse_0 : decode cX11_refuse 0 = .ok (.aload_n 0, 1) := by decide +kernel
theorem dX11_refuse_1 : decode cX11_refuse 1 = .ok (.iload_n 1, 1) := by decide +kernel
theorem dX11_refuse_2 : decode cX11_refuse 2 = .ok (.putfield 100, 3) := by decide +kernel
theorem dX11_refuse_5 : decode cX11_refuse 5 = .ok (.iload_n 1, 1) := by decide +kernel
theorem dX11_refuse_6 : decode cX11_refuse 6 = .ok (.bipush (-5), 2) := by decide +kernel
theorem dX11_refuse_8 : decode cX11_refuse 8 = .ok (.if_icmp .le 9, 3) := by decide +kernel
theorem dX11_refuse_11 : decode cX11_refuse 11 = .ok (.iconst (-1), 1) := by decide +kernel
theorem dX11_refuse_12 : decode cX11_refuse 12 = .ok (.iload_n 1, 1) := by decide +kernel
theorem dX11_refuse_13 : decode cX11_refuse 13 = .ok (.isub, 1) := by decide +kernel
theorem dX11_refuse_14 : decode cX11_refuse 14 = .ok (.goto 7, 3) := by decide +kernel
theorem dX11_refuse_17 : decode cX11_refuse 17 = .ok (.bipush (-2), 2) := by decide +kernel
theorem dX11_refuse_19 : decode cX11_refuse 19 = .ok (.iload_n 1, 1) := by decide +kernel
theorem dX11_refuse_20 : decode cX11_refuse 20 = .ok (.isub, 1) := by decide +kernel
theorem dX11_refuse_21 : decode cX11_refuse 21 = .ok (.istore_n 2, 1) := by decide +kernel
theorem dX11_refuse_22 : decode cX11_refuse 22 = .ok (.iload_n 2, 1) := by decide +kernel
theorem dX11_refuse_23 : decode cX11_refuse 23 = .ok (.ifCond .lt 18, 3) := by decide +kernel
theorem dX11_refuse_26 : decode cX11_refuse 26 = .ok (.iload_n 2, 1) := by decide +kernel
theorem dX11_refuse_27 : decode cX11_refuse 27 = .ok (.iconst 5, 1) := by decide +kernel
theorem dX11_refuse_28 : decode cX11_refuse 28 = .ok (.if_icmp .ge 13, 3) := by decide +kernel
theorem dX11_refuse_31 : decode cX11_refuse 31 = .ok (.aload_n 0, 1) := by decide +kernel
theorem dX11_refuse_32 : decode cX11_refuse 32 = .ok (.getfield 89, 3) := by decide +kernel
theorem dX11_refuse_35 : decode cX11_refuse 35 = .ok (.iload_n 2, 1) := by decide +kernel
theorem dX11_refuse_36 : decode cX11_refuse 36 = .ok (.dup2, 1) := by decide +kernel
theorem dX11_refuse_37 : decode cX11_refuse 37 = .ok (.iaload, 1) := by decide +kernel
theorem dX11_refuse_38 : decode cX11_refuse 38 = .ok (.iconst 1, 1) := by decide +kernel
theorem dX11_refuse_39 : decode cX11_refuse 39 = .ok (.iadd, 1) := by decide +kernel
theorem dX11_refuse_40 : decode cX11_refuse 40 = .ok (.iastore, 1) := by decide +kernel
theorem dX11_refuse_41 : decode cX11_refuse 41 = .ok (.iload_n 1, 1) := by decide +kernel
theorem dX11_refuse_42 : decode cX11_refuse 42 = .ok (.ireturn, 1) := by decide +kernel
theorem dX11_refused_0 : decode cX11_refused 0 = .ok (.iload_n 1, 1) := by decide +kernel
theorem dX11_refused_1 : decode cX11_refused 1 = .ok (.ifCond .lt 17, 3) := by decide +kernel
theorem dX11_refused_4 : decode cX11_refused 4 = .ok (.iload_n 1, 1) := by decide +kernel
theorem dX11_refused_5 : decode cX11_refused 5 = .ok (.iconst 5, 1) := by decide +kernel
theorem dX11_refused_6 : decode cX11_refused 6 = .ok (.if_icmp .ge 12, 3) := by decide +kernel
theorem dX11_refused_9 : decode cX11_refused 9 = .ok (.aload_n 0, 1) := by decide +kernel
theorem dX11_refused_10 : decode cX11_refused 10 = .ok (.getfield 89, 3) := by decide +kernel
theorem dX11_refused_13 : decode cX11_refused 13 = .ok (.iload_n 1, 1) := by decide +kernel
theorem dX11_refused_14 : decode cX11_refused 14 = .ok (.iaload, 1) := by decide +kernel
theorem dX11_refused_15 : decode cX11_refused 15 = .ok (.goto 4, 3) := by decide +kernel
theorem dX11_refused_18 : decode cX11_refused 18 = .ok (.iconst (-1), 1) := by decide +kernel
theorem dX11_refused_19 : decode cX11_refused 19 = .ok (.ireturn, 1) := by decide +kernel
theorem dX11_done_0 : decode cX11_done 0 = .ok (.aload_n 0, 1) := by decide +kernel
theorem dX11_done_1 : decode cX11_done 1 = .ok (.iconst 0, 1) := by decide +kernel
theorem dX11_done_2 : decode cX11_done 2 = .ok (.putfield 100, 3) := by decide +kernel
theorem dX11_done_5 : decode cX11_done 5 = .ok (.iload_n 1, 1) := by decide +kernel
theorem dX11_done_6 : decode cX11_done 6 = .ok (.ireturn, 1) := by decide +kernel
theorem dX11_comes_0 : decode cX11_comes 0 = .ok (.iload_n 1, 1) := by decide +kernel
theorem dX11_comes_1 : decode cX11_comes 1 = .ok (.iconst 3, 1) := by decide +kernel
theorem dX11_comes_2 : decode cX11_comes 2 = .ok (.iadd, 1) := by decide +kernel
theorem dX11_comes_3 : decode cX11_comes 3 = .ok (.aload_n 0, 1) := by decide +kernel
theorem dX11_comes_4 : decode cX11_comes 4 = .ok (.getfield 23, 3) := by decide +kernel
theorem dX11_comes_7 : decode cX11_comes 7 = .ok (.getfield 176, 3) := by decide +kernel
theorem dX11_comes_10 : decode cX11_comes 10 = .ok (.if_icmp .lt 5, 3) := by decide +kernel
theorem dX11_comes_13 : decode cX11_comes 13 = .ok (.iconst 0, 1) := by decide +kernel
theorem dX11_comes_14 : decode cX11_comes 14 = .ok (.ireturn, 1) := by decide +kernel
theorem dX11_comes_15 : decode cX11_comes 15 = .ok (.aload_n 0, 1) := by decide +kernel
theorem dX11_comes_16 : decode cX11_comes 16 = .ok (.getfield 23, 3) := by decide +kernel
theorem dX11_comes_19 : decode cX11_comes 19 = .ok (.iload_n 1, 1) := by decide +kernel
theorem dX11_comes_20 : decode cX11_comes 20 = .ok (.invokevirtual 318, 3) := by decide +kernel
theorem dX11_comes_23 : decode cX11_comes 23 = .ok (.istore_n 2, 1) := by decide +kernel
theorem dX11_comes_24 : decode cX11_comes 24 = .ok (.aload_n 0, 1) := by decide +kernel
theorem dX11_comes_25 : decode cX11_comes 25 = .ok (.getfield 23, 3) := by decide +kernel
theorem dX11_comes_28 : decode cX11_comes 28 = .ok (.iload_n 1, 1) := by decide +kernel
theorem dX11_comes_29 : decode cX11_comes 29 = .ok (.iconst 1, 1) := by decide +kernel
theorem dX11_comes_30 : decode cX11_comes 30 = .ok (.iadd, 1) := by decide +kernel
theorem dX11_comes_31 : decode cX11_comes 31 = .ok (.invokevirtual 318, 3) := by decide +kernel
theorem dX11_comes_34 : decode cX11_comes 34 = .ok (.istore_n 3, 1) := by decide +kernel
theorem dX11_comes_35 : decode cX11_comes 35 = .ok (.aload_n 0, 1) := by decide +kernel
theorem dX11_comes_36 : decode cX11_comes 36 = .ok (.getfield 23, 3) := by decide +kernel
theorem dX11_comes_39 : decode cX11_comes 39 = .ok (.iload_n 1, 1) := by decide +kernel
theorem dX11_comes_40 : decode cX11_comes 40 = .ok (.iconst 2, 1) := by decide +kernel
theorem dX11_comes_41 : decode cX11_comes 41 = .ok (.iadd, 1) := by decide +kernel
theorem dX11_comes_42 : decode cX11_comes 42 = .ok (.invokevirtual 318, 3) := by decide +kernel
theorem dX11_comes_45 : decode cX11_comes 45 = .ok (.istore 4, 2) := by decide +kernel
theorem dX11_comes_47 : decode cX11_comes 47 = .ok (.aload_n 0, 1) := by decide +kernel
theorem dX11_comes_48 : decode cX11_comes 48 = .ok (.getfield 23, 3) := by decide +kernel
theorem dX11_comes_51 : decode cX11_comes 51 = .ok (.iload_n 1, 1) := by decide +kernel
theorem dX11_comes_52 : decode cX11_comes 52 = .ok (.iconst 3, 1) := by decide +kernel
theorem dX11_comes_53 : decode cX11_comes 53 = .ok (.iadd, 1) := by decide +kernel
theorem dX11_comes_54 : decode cX11_comes 54 = .ok (.invokevirtual 318, 3) := by decide +kernel
theorem dX11_comes_57 : decode cX11_comes 57 = .ok (.istore 5, 2) := by decide +kernel
theorem dX11_comes_59 : decode cX11_comes 59 = .ok (.iload_n 2, 1) := by decide +kernel
theorem dX11_comes_60 : decode cX11_comes 60 = .ok (.iload_n 3, 1) := by decide +kernel
theorem dX11_comes_61 : decode cX11_comes 61 = .ok (.iload 5, 2) := by decide +kernel
theorem dX11_comes_63 : decode cX11_comes 63 = .ok (.invokestatic 120, 3) := by decide +kernel
theorem dX11_comes_66 : decode cX11_comes 66 = .ok (.ifCond .eq 15, 3) := by decide +kernel
theorem dX11_comes_69 : decode cX11_comes 69 = .ok (.aload_n 0, 1) := by decide +kernel
theorem dX11_comes_70 : decode cX11_comes 70 = .ok (.getfield 10, 3) := by decide +kernel
theorem dX11_comes_73 : decode cX11_comes 73 = .ok (.iload 4, 2) := by decide +kernel
theorem dX11_comes_75 : decode cX11_comes 75 = .ok (.invokevirtual 113, 3) := by decide +kernel
theorem dX11_comes_78 : decode cX11_comes 78 = .ok (.ifCond .ne 5, 3) := by decide +kernel
theorem dX11_comes_81 : decode cX11_comes 81 = .ok (.iconst 0, 1) := by decide +kernel
theorem dX11_comes_82 : decode cX11_comes 82 = .ok (.ireturn, 1) := by decide +kernel
theorem dX11_comes_83 : decode cX11_comes 83 = .ok (.aload_n 0, 1) := by decide +kernel
theorem dX11_comes_84 : decode cX11_comes 84 = .ok (.getfield 10, 3) := by decide +kernel
theorem dX11_comes_87 : decode cX11_comes 87 = .ok (.getfield 124, 3) := by decide +kernel
theorem dX11_comes_90 : decode cX11_comes 90 = .ok (.iload_n 2, 1) := by decide +kernel
theorem dX11_comes_91 : decode cX11_comes 91 = .ok (.iload_n 3, 1) := by decide +kernel
theorem dX11_comes_92 : decode cX11_comes 92 = .ok (.iload 4, 2) := by decide +kernel
theorem dX11_comes_94 : decode cX11_comes 94 = .ok (.iload 5, 2) := by decide +kernel
theorem dX11_comes_96 : decode cX11_comes 96 = .ok (.aload_n 0, 1) := by decide +kernel
theorem dX11_comes_97 : decode cX11_comes 97 = .ok (.getfield 10, 3) := by decide +kernel
theorem dX11_comes_100 : decode cX11_comes 100 = .ok (.getfield 128, 3) := by decide +kernel
theorem dX11_comes_103 : decode cX11_comes 103 = .ok (.invokevirtual 131, 3) := by decide +kernel
theorem dX11_comes_106 : decode cX11_comes 106 = .ok (.iconst (-1), 1) := by decide +kernel
theorem dX11_comes_107 : decode cX11_comes 107 = .ok (.if_icmp .eq 7, 3) := by decide +kernel
theorem dX11_comes_110 : decode cX11_comes 110 = .ok (.iconst 1, 1) := by decide +kernel
theorem dX11_comes_111 : decode cX11_comes 111 = .ok (.goto 4, 3) := by decide +kernel
theorem dX11_comes_114 : decode cX11_comes 114 = .ok (.iconst 0, 1) := by decide +kernel
theorem dX11_comes_115 : decode cX11_comes 115 = .ok (.ireturn, 1) := by decide +kernel
theorem dX11_isDancer_0 : decode cX11_isDancer 0 = .ok (.iload_n 0, 1) := by decide +kernel
theorem dX11_isDancer_1 : decode cX11_isDancer 1 = .ok (.ifCond .lt 13, 3) := by decide +kernel
theorem dX11_isDancer_4 : decode cX11_isDancer 4 = .ok (.iload_n 0, 1) := by decide +kernel
theorem dX11_isDancer_5 : decode cX11_isDancer 5 = .ok (.bipush 8, 2) := by decide +kernel
theorem dX11_isDancer_7 : decode cX11_isDancer 7 = .ok (.if_icmp .ge 7, 3) := by decide +kernel
theorem dX11_isDancer_10 : decode cX11_isDancer 10 = .ok (.iconst 1, 1) := by decide +kernel
theorem dX11_isDancer_11 : decode cX11_isDancer 11 = .ok (.goto 4, 3) := by decide +kernel
theorem dX11_isDancer_14 : decode cX11_isDancer 14 = .ok (.iconst 0, 1) := by decide +kernel
theorem dX11_isDancer_15 : decode cX11_isDancer 15 = .ok (.ireturn, 1) := by decide +kernel
theorem dX11_canOwe_0 : decode cX11_canOwe 0 = .ok (.iload_n 0, 1) := by decide +kernel
theorem dX11_canOwe_1 : decode cX11_canOwe 1 = .ok (.invokestatic 163, 3) := by decide +kernel
theorem dX11_canOwe_4 : decode cX11_canOwe 4 = .ok (.ifCond .eq 30, 3) := by decide +kernel
theorem dX11_canOwe_7 : decode cX11_canOwe 7 = .ok (.iload_n 1, 1) := by decide +kernel
theorem dX11_canOwe_8 : decode cX11_canOwe 8 = .ok (.invokestatic 163, 3) := by decide +kernel
theorem dX11_canOwe_11 : decode cX11_canOwe 11 = .ok (.ifCond .eq 23, 3) := by decide +kernel
theorem dX11_canOwe_14 : decode cX11_canOwe 14 = .ok (.iload_n 0, 1) := by decide +kernel
theorem dX11_canOwe_15 : decode cX11_canOwe 15 = .ok (.iload_n 1, 1) := by decide +kernel
theorem dX11_canOwe_16 : decode cX11_canOwe 16 = .ok (.if_icmp .eq 18, 3) := by decide +kernel
theorem dX11_canOwe_19 : decode cX11_canOwe 19 = .ok (.iload_n 2, 1) := by decide +kernel
theorem dX11_canOwe_20 : decode cX11_canOwe 20 = .ok (.iconst 1, 1) := by decide +kernel
theorem dX11_canOwe_21 : decode cX11_canOwe 21 = .ok (.if_icmp .lt 13, 3) := by decide +kernel
theorem dX11_canOwe_24 : decode cX11_canOwe 24 = .ok (.iload_n 2, 1) := by decide +kernel
theorem dX11_canOwe_25 : decode cX11_canOwe 25 = .ok (.bipush 9, 2) := by decide +kernel
theorem dX11_canOwe_27 : decode cX11_canOwe 27 = .ok (.if_icmp .gt 7, 3) := by decide +kernel
theorem dX11_canOwe_30 : decode cX11_canOwe 30 = .ok (.iconst 1, 1) := by decide +kernel
theorem dX11_canOwe_31 : decode cX11_canOwe 31 = .ok (.goto 4, 3) := by decide +kernel
theorem dX11_canOwe_34 : decode cX11_canOwe 34 = .ok (.iconst 0, 1) := by decide +kernel
theorem dX11_canOwe_35 : decode cX11_canOwe 35 = .ok (.ireturn, 1) := by decide +kernel
theorem dX11_isWedding_0 : decode cX11_isWedding 0 = .ok (.iload_n 0, 1) := by decide +kernel
theorem dX11_isWedding_1 : decode cX11_isWedding 1 = .ok (.invokestatic 163, 3) := by decide +kernel
theorem dX11_isWedding_4 : decode cX11_isWedding 4 = .ok (.ifCond .eq 18, 3) := by decide +kernel
theorem dX11_isWedding_7 : decode cX11_isWedding 7 = .ok (.iload_n 1, 1) := by decide +kernel
theorem dX11_isWedding_8 : decode cX11_isWedding 8 = .ok (.ifCond .lt 14, 3) := by decide +kernel
theorem dX11_isWedding_11 : decode cX11_isWedding 11 = .ok (.iload_n 1, 1) := by decide +kernel
theorem dX11_isWedding_12 : decode cX11_isWedding 12 = .ok (.sipush 240, 3) := by decide +kernel
theorem dX11_isWedding_15 : decode cX11_isWedding 15 = .ok (.if_icmp .gt 7, 3) := by decide +kernel
theorem dX11_isWedding_18 : decode cX11_isWedding 18 = .ok (.iconst 1, 1) := by decide +kernel
theorem dX11_isWedding_19 : decode cX11_isWedding 19 = .ok (.goto 4, 3) := by decide +kernel
theorem dX11_isWedding_22 : decode cX11_isWedding 22 = .ok (.iconst 0, 1) := by decide +kernel
theorem dX11_isWedding_23 : decode cX11_isWedding 23 = .ok (.ireturn, 1) := by decide +kernel
theorem dX12_init_0 : decode cX12_init 0 = .ok (.aload_n 0, 1) := by decide +kernel
theorem dX12_init_1 : decode cX12_init 1 = .ok (.invokespecial 1, 3) := by decide +kernel
theorem dX12_init_4 : decode cX12_init 4 = .ok (.aload_n 0, 1) := by decide +kernel
theorem dX12_init_5 : decode cX12_init 5 = .ok (.bipush 7, 2) := by decide +kernel
theorem dX12_init_7 : decode cX12_init 7 = .ok (.newarray .int, 2) := by decide +kernel
theorem dX12_init_9 : decode cX12_init 9 = .ok (.putfield 7, 3) := by decide +kernel
theorem dX12_init_12 : decode cX12_init 12 = .ok (.aload_n 0, 1) := by decide +kernel
theorem dX12_init_13 : decode cX12_init 13 = .ok (.sipush 5560, 3) := by decide +kernel
theorem dX12_init_16 : decode cX12_init 16 = .ok (.newarray .int, 2) := by decide +kernel
theorem dX12_init_18 : decode cX12_init 18 = .ok (.putfield 13, 3) := by decide +kernel
theorem dX12_init_21 : decode cX12_init 21 = .ok (.aload_n 0, 1) := by decide +kernel
theorem dX12_init_22 : decode cX12_init 22 = .ok (.sipush 11120, 3) := by decide +kernel
theorem dX12_init_25 : decode cX12_init 25 = .ok (.newarray .int, 2) := by decide +kernel
theorem dX12_init_27 : decode cX12_init 27 = .ok (.putfield 16, 3) := by decide +kernel
theorem dX12_init_30 : decode cX12_init 30 = .ok (.aload_n 0, 1) := by decide +kernel
theorem dX12_init_31 : decode cX12_init 31 = .ok (.iconst 2, 1) := by decide +kernel
theorem dX12_init_32 : decode cX12_init 32 = .ok (.newarray .boolean, 2) := by decide +kernel
theorem dX12_init_34 : decode cX12_init 34 = .ok (.putfield 19, 3) := by decide +kernel
theorem dX12_init_37 : decode cX12_init 37 = .ok (.aload_n 0, 1) := by decide +kernel
theorem dX12_init_38 : decode cX12_init 38 = .ok (.sipush 400, 3) := by decide +kernel
theorem dX12_init_41 : decode cX12_init 41 = .ok (.newarray .int, 2) := by decide +kernel
theorem dX12_init_43 : decode cX12_init 43 = .ok (.putfield 23, 3) := by decide +kernel
theorem dX12_init_46 : decode cX12_init 46 = .ok (.aload_n 0, 1) := by decide +kernel
theorem dX12_init_47 : decode cX12_init 47 = .ok (.iconst (-1), 1) := by decide +kernel
theorem dX12_init_48 : decode cX12_init 48 = .ok (.putfield 26, 3) := by decide +kernel
theorem dX12_init_51 : decode cX12_init 51 = .ok (.aload_n 0, 1) := by decide +kernel
theorem dX12_init_52 : decode cX12_init 52 = .ok (.bipush 96, 2) := by decide +kernel
theorem dX12_init_54 : decode cX12_init 54 = .ok (.newarray .int, 2) := by decide +kernel
theorem dX12_init_56 : decode cX12_init 56 = .ok (.putfield 30, 3) := by decide +kernel
theorem dX12_init_59 : decode cX12_init 59 = .ok (.aload_n 0, 1) := by decide +kernel
theorem dX12_init_60 : decode cX12_init 60 = .ok (.sipush 400, 3) := by decide +kernel
theorem dX12_init_63 : decode cX12_init 63 = .ok (.newarray .int, 2) := by decide +kernel
theorem dX12_init_65 : decode cX12_init 65 = .ok (.putfield 33, 3) := by decide +kernel
theorem dX12_init_68 : decode cX12_init 68 = .ok (.aload_n 0, 1) := by decide +kernel
theorem dX12_init_69 : decode cX12_init 69 = .ok (.sipush 400, 3) := by decide +kernel
theorem dX12_init_72 : decode cX12_init 72 = .ok (.newarray .int, 2) := by decide +kernel
theorem dX12_init_74 : decode cX12_init 74 = .ok (.putfield 36, 3) := by decide +kernel
theorem dX12_init_77 : decode cX12_init 77 = .ok (.aload_n 0, 1) := by decide +kernel
theorem dX12_init_78 : decode cX12_init 78 = .ok (.sipush 400, 3) := by decide +kernel
theorem dX12_init_81 : decode cX12_init 81 = .ok (.newarray .int, 2) := by decide +kernel
theorem dX12_init_83 : decode cX12_init 83 = .ok (.putfield 39, 3) := by decide +kernel
theorem dX12_init_86 : decode cX12_init 86 = .ok (.aload_n 0, 1) := by decide +kernel
theorem dX12_init_87 : decode cX12_init 87 = .ok (.sipush 400, 3) := by decide +kernel
theorem dX12_init_90 : decode cX12_init 90 = .ok (.newarray .int, 2) := by decide +kernel
theorem dX12_init_92 : decode cX12_init 92 = .ok (.putfield 42, 3) := by decide +kernel
theorem dX12_init_95 : decode cX12_init 95 = .ok (.aload_n 0, 1) := by decide +kernel
theorem dX12_init_96 : decode cX12_init 96 = .ok (.bipush 7, 2) := by decide +kernel
theorem dX12_init_98 : decode cX12_init 98 = .ok (.newarray .long, 2) := by decide +kernel
theorem dX12_init_100 : decode cX12_init 100 = .ok (.dup, 1) := by decide +kernel
theorem dX12_init_101 : decode cX12_init 101 = .ok (.iconst 0, 1) := by decide +kernel
theorem dX12_init_102 : decode cX12_init 102 = .ok (.ldc2_w 45, 3) := by decide +kernel
theorem dX12_init_105 : decode cX12_init 105 = .ok (.lastore, 1) := by decide +kernel
theorem dX12_init_106 : decode cX12_init 106 = .ok (.dup, 1) := by decide +kernel
theorem dX12_init_107 : decode cX12_init 107 = .ok (.iconst 1, 1) := by decide +kernel
theorem dX12_init_108 : decode cX12_init 108 = .ok (.ldc2_w 47, 3) := by decide +kernel
theorem dX12_init_111 : decode cX12_init 111 = .ok (.lastore, 1) := by decide +kernel
theorem dX12_init_112 : decode cX12_init 112 = .ok (.dup, 1) := by decide +kernel
theorem dX12_init_113 : decode cX12_init 113 = .ok (.iconst 2, 1) := by decide +kernel
theorem dX12_init_114 : decode cX12_init 114 = .ok (.ldc2_w 49, 3) := by decide +kernel
theorem dX12_init_117 : decode cX12_init 117 = .ok (.lastore, 1) := by decide +kernel
theorem dX12_init_118 : decode cX12_init 118 = .ok (.dup, 1) := by decide +kernel
theorem dX12_init_119 : decode cX12_init 119 = .ok (.iconst 3, 1) := by decide +kernel
theorem dX12_init_120 : decode cX12_init 120 = .ok (.ldc2_w 51, 3) := by decide +kernel
theorem dX12_init_123 : decode cX12_init 123 = .ok (.lastore, 1) := by decide +kernel
theorem dX12_init_124 : decode cX12_init 124 = .ok (.dup, 1) := by decide +kernel
theorem dX12_init_125 : decode cX12_init 125 = .ok (.iconst 4, 1) := by decide +kernel
theorem dX12_init_126 : decode cX12_init 126 = .ok (.ldc2_w 53, 3) := by decide +kernel
theorem dX12_init_129 : decode cX12_init 129 = .ok (.lastore, 1) := by decide +kernel
theorem dX12_init_130 : decode cX12_init 130 = .ok (.dup, 1) := by decide +kernel
theorem dX12_init_131 : decode cX12_init 131 = .ok (.iconst 5, 1) := by decide +kernel
theorem dX12_init_132 : decode cX12_init 132 = .ok (.ldc2_w 55, 3) := by decide +kernel
theorem dX12_init_135 : decode cX12_init 135 = .ok (.lastore, 1) := by decide +kernel
theorem dX12_init_136 : decode cX12_init 136 = .ok (.dup, 1) := by decide +kernel
theorem dX12_init_137 : decode cX12_init 137 = .ok (.bipush 6, 2) := by decide +kernel
theorem dX12_init_139 : decode cX12_init 139 = .ok (.ldc2_w 57, 3) := by decide +kernel
theorem dX12_init_142 : decode cX12_init 142 = .ok (.lastore, 1) := by decide +kernel
theorem dX12_init_143 : decode cX12_init 143 = .ok (.putfield 59, 3) := by decide +kernel
theorem dX12_init_146 : decode cX12_init 146 = .ok (.aload_n 0, 1) := by decide +kernel
theorem dX12_init_147 : decode cX12_init 147 = .ok (.iconst 3, 1) := by decide +kernel
theorem dX12_init_148 : decode cX12_init 148 = .ok (.newarray .long, 2) := by decide +kernel
theorem dX12_init_150 : decode cX12_init 150 = .ok (.dup, 1) := by decide +kernel
theorem dX12_init_151 : decode cX12_init 151 = .ok (.iconst 0, 1) := by decide +kernel
theorem dX12_init_152 : decode cX12_init 152 = .ok (.ldc2_w 63, 3) := by decide +kernel
theorem dX12_init_155 : decode cX12_init 155 = .ok (.lastore, 1) := by decide +kernel
theorem dX12_init_156 : decode cX12_init 156 = .ok (.dup, 1) := by decide +kernel
theorem dX12_init_157 : decode cX12_init 157 = .ok (.iconst 1, 1) := by decide +kernel
theorem dX12_init_158 : decode cX12_init 158 = .ok (.ldc2_w 65, 3) := by decide +kernel
theorem dX12_init_161 : decode cX12_init 161 = .ok (.lastore, 1) := by decide +kernel
theorem dX12_init_162 : decode cX12_init 162 = .ok (.dup, 1) := by decide +kernel
theorem dX12_init_163 : decode cX12_init 163 = .ok (.iconst 2, 1) := by decide +kernel
theorem dX12_init_164 : decode cX12_init 164 = .ok (.ldc2_w 67, 3) := by decide +kernel
theorem dX12_init_167 : decode cX12_init 167 = .ok (.lastore, 1) := by decide +kernel
theorem dX12_init_168 : decode cX12_init 168 = .ok (.putfield 69, 3) := by decide +kernel
theorem dX12_init_171 : decode cX12_init 171 = .ok (.aload_n 0, 1) := by decide +kernel
theorem dX12_init_172 : decode cX12_init 172 = .ok (.bipush 13, 2) := by decide +kernel
theorem dX12_init_174 : decode cX12_init 174 = .ok (.newarray .long, 2) := by decide +kernel
theorem dX12_init_176 : decode cX12_init 176 = .ok (.putfield 72, 3) := by decide +kernel
theorem dX12_init_179 : decode cX12_init 179 = .ok (.aload_n 0, 1) := by decide +kernel
theorem dX12_init_180 : decode cX12_init 180 = .ok (.sipush 400, 3) := by decide +kernel
theorem dX12_init_183 : decode cX12_init 183 = .ok (.newarray .long, 2) := by decide +kernel
theorem dX12_init_185 : decode cX12_init 185 = .ok (.putfield 75, 3) := by decide +kernel
theorem dX12_init_188 : decode cX12_init 188 = .ok (.aload_n 0, 1) := by decide +kernel
theorem dX12_init_189 : decode cX12_init 189 = .ok (.bipush 16, 2) := by decide +kernel
theorem dX12_init_191 : decode cX12_init 191 = .ok (.newarray .int, 2) := by decide +kernel
theorem dX12_init_193 : decode cX12_init 193 = .ok (.putfield 78, 3) := by decide +kernel
theorem dX12_init_196 : decode cX12_init 196 = .ok (.aload_n 0, 1) := by decide +kernel
theorem dX12_init_197 : decode cX12_init 197 = .ok (.bipush 16, 2) := by decide +kernel
theorem dX12_init_199 : decode cX12_init 199 = .ok (.newarray .boolean, 2) := by decide +kernel
theorem dX12_init_201 : decode cX12_init 201 = .ok (.putfield 81, 3) := by decide +kernel
theorem dX12_init_204 : decode cX12_init 204 = .ok (.aload_n 0, 1) := by decide +kernel
theorem dX12_init_205 : decode cX12_init 205 = .ok (.bipush 16, 2) := by decide +kernel
theorem dX12_init_207 : decode cX12_init 207 = .ok (.newarray .boolean, 2) := by decide +kernel
theorem dX12_init_209 : decode cX12_init 209 = .ok (.putfield 84, 3) := by decide +kernel
theorem dX12_init_212 : decode cX12_init 212 = .ok (.aload_n 0, 1) := by decide +kernel
theorem dX12_init_213 : decode cX12_init 213 = .ok (.sipush 256, 3) := by decide +kernel
theorem dX12_init_216 : decode cX12_init 216 = .ok (.newarray .int, 2) := by decide +kernel
theorem dX12_init_218 : decode cX12_init 218 = .ok (.putfield 87, 3) := by decide +kernel
theorem dX12_init_221 : decode cX12_init 221 = .ok (.aload_n 0, 1) := by decide +kernel
theorem dX12_init_222 : decode cX12_init 222 = .ok (.sipush 256, 3) := by decide +kernel
theorem dX12_init_225 : decode cX12_init 225 = .ok (.newarray .int, 2) := by decide +kernel
theorem dX12_init_227 : decode cX12_init 227 = .ok (.putfield 90, 3) := by decide +kernel
theorem dX12_init_230 : decode cX12_init 230 = .ok (.aload_n 0, 1) := by decide +kernel
theorem dX12_init_231 : decode cX12_init 231 = .ok (.bipush 8, 2) := by decide +kernel
theorem dX12_init_233 : decode cX12_init 233 = .ok (.newarray .int, 2) := by decide +kernel
theorem dX12_init_235 : decode cX12_init 235 = .ok (.putfield 93, 3) := by decide +kernel
theorem dX12_init_238 : decode cX12_init 238 = .ok (.aload_n 0, 1) := by decide +kernel
theorem dX12_init_239 : decode cX12_init 239 = .ok (.bipush 9, 2) := by decide +kernel
theorem dX12_init_241 : decode cX12_init 241 = .ok (.newarray .int, 2) := by decide +kernel
theorem dX12_init_243 : decode cX12_init 243 = .ok (.putfield 96, 3) := by decide +kernel
theorem dX12_init_246 : decode cX12_init 246 = .ok (.aload_n 0, 1) := by decide +kernel
theorem dX12_init_247 : decode cX12_init 247 = .ok (.bipush 8, 2) := by decide +kernel
theorem dX12_init_249 : decode cX12_init 249 = .ok (.newarray .int, 2) := by decide +kernel
theorem dX12_init_251 : decode cX12_init 251 = .ok (.putfield 99, 3) := by decide +kernel
theorem dX12_init_254 : decode cX12_init 254 = .ok (.aload_n 0, 1) := by decide +kernel
theorem dX12_init_255 : decode cX12_init 255 = .ok (.sipush 4097, 3) := by decide +kernel
theorem dX12_init_258 : decode cX12_init 258 = .ok (.newarray .int, 2) := by decide +kernel
theorem dX12_init_260 : decode cX12_init 260 = .ok (.putfield 102, 3) := by decide +kernel
theorem dX12_init_263 : decode cX12_init 263 = .ok (.aload_n 0, 1) := by decide +kernel
theorem dX12_init_264 : decode cX12_init 264 = .ok (.bipush 16, 2) := by decide +kernel
theorem dX12_init_266 : decode cX12_init 266 = .ok (.newarray .int, 2) := by decide +kernel
theorem dX12_init_268 : decode cX12_init 268 = .ok (.putfield 105, 3) := by decide +kernel
theorem dX12_init_271 : decode cX12_init 271 = .ok (.aload_n 0, 1) := by decide +kernel
theorem dX12_init_272 : decode cX12_init 272 = .ok (.bipush 16, 2) := by decide +kernel
theorem dX12_init_274 : decode cX12_init 274 = .ok (.newarray .int, 2) := by decide +kernel
theorem dX12_init_276 : decode cX12_init 276 = .ok (.putfield 108, 3) := by decide +kernel
theorem dX12_init_279 : decode cX12_init 279 = .ok (.aload_n 0, 1) := by decide +kernel
theorem dX12_init_280 : decode cX12_init 280 = .ok (.bipush 10, 2) := by decide +kernel
theorem dX12_init_282 : decode cX12_init 282 = .ok (.newarray .int, 2) := by decide +kernel
theorem dX12_init_284 : decode cX12_init 284 = .ok (.putfield 111, 3) := by decide +kernel
theorem dX12_init_287 : decode cX12_init 287 = .ok (.aload_n 0, 1) := by decide +kernel
theorem dX12_init_288 : decode cX12_init 288 = .ok (.sipush 1024, 3) := by decide +kernel
theorem dX12_init_291 : decode cX12_init 291 = .ok (.newarray .int, 2) := by decide +kernel
theorem dX12_init_293 : decode cX12_init 293 = .ok (.putfield 114, 3) := by decide +kernel
theorem dX12_init_296 : decode cX12_init 296 = .ok (.aload_n 0, 1) := by decide +kernel
theorem dX12_init_297 : decode cX12_init 297 = .ok (.bipush 16, 2) := by decide +kernel
theorem dX12_init_299 : decode cX12_init 299 = .ok (.newarray .int, 2) := by decide +kernel
theorem dX12_init_301 : decode cX12_init 301 = .ok (.putfield 117, 3) := by decide +kernel
theorem dX12_init_304 : decode cX12_init 304 = .ok (.aload_n 0, 1) := by decide +kernel
theorem dX12_init_305 : decode cX12_init 305 = .ok (.bipush 16, 2) := by decide +kernel
theorem dX12_init_307 : decode cX12_init 307 = .ok (.newarray .int, 2) := by decide +kernel
theorem dX12_init_309 : decode cX12_init 309 = .ok (.putfield 120, 3) := by decide +kernel
theorem dX12_init_312 : decode cX12_init 312 = .ok (.aload_n 0, 1) := by decide +kernel
theorem dX12_init_313 : decode cX12_init 313 = .ok (.getfield 13, 3) := by decide +kernel
theorem dX12_init_316 : decode cX12_init 316 = .ok (.iconst 3, 1) := by decide +kernel
theorem dX12_init_317 : decode cX12_init 317 = .ok (.iconst (-1), 1) := by decide +kernel
theorem dX12_init_318 : decode cX12_init 318 = .ok (.iastore, 1) := by decide +kernel
theorem dX12_init_319 : decode cX12_init 319 = .ok (.return_, 1) := by decide +kernel
theorem dX12_in_0 : decode cX12_in 0 = .ok (.lload_n 0, 1) := by decide +kernel
theorem dX12_in_1 : decode cX12_in 1 = .ok (.lload_n 2, 1) := by decide +kernel
theorem dX12_in_2 : decode cX12_in 2 = .ok (.lcmp, 1) := by decide +kernel
theorem dX12_in_3 : decode cX12_in 3 = .ok (.ifCond .lt 14, 3) := by decide +kernel
theorem dX12_in_6 : decode cX12_in 6 = .ok (.lload_n 0, 1) := by decide +kernel
theorem dX12_in_7 : decode cX12_in 7 = .ok (.lload 4, 2) := by decide +kernel
theorem dX12_in_9 : decode cX12_in 9 = .ok (.lcmp, 1) := by decide +kernel
theorem dX12_in_10 : decode cX12_in 10 = .ok (.ifCond .gt 7, 3) := by decide +kernel
theorem dX12_in_13 : decode cX12_in 13 = .ok (.iconst 1, 1) := by decide +kernel
theorem dX12_in_14 : decode cX12_in 14 = .ok (.goto 4, 3) := by decide +kernel
theorem dX12_in_17 : decode cX12_in 17 = .ok (.iconst 0, 1) := by decide +kernel
theorem dX12_in_18 : decode cX12_in 18 = .ok (.ireturn, 1) := by decide +kernel
theorem dX12_is_0 : decode cX12_is 0 = .ok (.iload_n 0, 1) := by decide +kernel
theorem dX12_is_1 : decode cX12_is 1 = .ok (.iload_n 1, 1) := by decide +kernel
theorem dX12_is_2 : decode cX12_is 2 = .ok (.ishr, 1) := by decide +kernel
theorem dX12_is_3 : decode cX12_is 3 = .ok (.iconst 1, 1) := by decide +kernel
theorem dX12_is_4 : decode cX12_is 4 = .ok (.iand, 1) := by decide +kernel
theorem dX12_is_5 : decode cX12_is 5 = .ok (.iconst 1, 1) := by decide +kernel
theorem dX12_is_6 : decode cX12_is 6 = .ok (.if_icmp .ne 7, 3) := by decide +kernel
theorem dX12_is_9 : decode cX12_is 9 = .ok (.iconst 1, 1) := by decide +kernel
theorem dX12_is_10 : decode cX12_is 10 = .ok (.goto 4, 3) := by decide +kernel
theorem dX12_is_13 : decode cX12_is 13 = .ok (.iconst 0, 1) := by decide +kernel
theorem dX12_is_14 : decode cX12_is 14 = .ok (.ireturn, 1) := by decide +kernel
theorem dX12_bits_0 : decode cX12_bits 0 = .ok (.iconst 0, 1) := by decide +kernel
theorem dX12_bits_1 : decode cX12_bits 1 = .ok (.istore_n 1, 1) := by decide +kernel
theorem dX12_bits_2 : decode cX12_bits 2 = .ok (.iconst 0, 1) := by decide +kernel
theorem dX12_bits_3 : decode cX12_bits 3 = .ok (.istore_n 2, 1) := by decide +kernel
theorem dX12_bits_4 : decode cX12_bits 4 = .ok (.iload_n 2, 1) := by decide +kernel
theorem dX12_bits_5 : decode cX12_bits 5 = .ok (.bipush 16, 2) := by decide +kernel
theorem dX12_bits_7 : decode cX12_bits 7 = .ok (.if_icmp .ge 17, 3) := by decide +kernel
theorem dX12_bits_10 : decode cX12_bits 10 = .ok (.iload_n 1, 1) := by decide +kernel
theorem dX12_bits_11 : decode cX12_bits 11 = .ok (.iload_n 0, 1) := by decide +kernel
theorem dX12_bits_12 : decode cX12_bits 12 = .ok (.iload_n 2, 1) := by decide +kernel
theorem dX12_bits_13 : decode cX12_bits 13 = .ok (.ishr, 1) := by decide +kernel
theorem dX12_bits_14 : decode cX12_bits 14 = .ok (.iconst 1, 1) := by decide +kernel
theorem dX12_bits_15 : decode cX12_bits 15 = .ok (.iand, 1) := by decide +kernel
theorem dX12_bits_16 : decode cX12_bits 16 = .ok (.iadd, 1) := by decide +kernel
theorem dX12_bits_17 : decode cX12_bits 17 = .ok (.istore_n 1, 1) := by decide +kernel
theorem dX12_bits_18 : decode cX12_bits 18 = .ok (.iinc 2 1, 3) := by decide +kernel
theorem dX12_bits_21 : decode cX12_bits 21 = .ok (.goto (-17), 3) := by decide +kernel
theorem dX12_bits_24 : decode cX12_bits 24 = .ok (.iload_n 1, 1) := by decide +kernel
theorem dX12_bits_25 : decode cX12_bits 25 = .ok (.ireturn, 1) := by decide +kernel
theorem dX12_tell_0 : decode cX12_tell 0 = .ok (.aload_n 0, 1) := by decide +kernel
theorem dX12_tell_1 : decode cX12_tell 1 = .ok (.iload_n 1, 1) := by decide +kernel
theorem dX12_tell_2 : decode cX12_tell 2 = .ok (.ifCond .ge 7, 3) := by decide +kernel
theorem dX12_tell_5 : decode cX12_tell 5 = .ok (.iload_n 1, 1) := by decide +kernel
theorem dX12_tell_6 : decode cX12_tell 6 = .ok (.goto 4, 3) := by decide +kernel
theorem dX12_tell_9 : decode cX12_tell 9 = .ok (.iconst 0, 1) := by decide +kernel
theorem dX12_tell_10 : decode cX12_tell 10 = .ok (.putfield 126, 3) := by decide +kernel
theorem dX12_tell_13 : decode cX12_tell 13 = .ok (.iload_n 1, 1) := by decide +kernel
theorem dX12_tell_14 : decode cX12_tell 14 = .ok (.ifCond .ge 14, 3) := by decide +kernel
theorem dX12_tell_17 : decode cX12_tell 17 = .ok (.aload_n 0, 1) := by decide +kernel
theorem dX12_tell_18 : decode cX12_tell 18 = .ok (.getfield 7, 3) := by decide +kernel
theorem dX12_tell_21 : decode cX12_tell 21 = .ok (.iload_n 1, 1) := by decide +kernel
theorem dX12_tell_22 : decode cX12_tell 22 = .ok (.ineg, 1) := by decide +kernel
theorem dX12_tell_23 : decode cX12_tell 23 = .ok (.dup2, 1) := by decide +kernel
theorem dX12_tell_24 : decode cX12_tell 24 = .ok (.iaload, 1) := by decide +kernel
theorem dX12_tell_25 : decode cX12_tell 25 = .ok (.iconst 1, 1) := by decide +kernel
theorem dX12_tell_26 : decode cX12_tell 26 = .ok (.iadd, 1) := by decide +kernel
theorem dX12_tell_27 : decode cX12_tell 27 = .ok (.iastore, 1) := by decide +kernel
theorem dX12_tell_28 : decode cX12_tell 28 = .ok (.iload_n 1, 1) := by decide +kernel
theorem dX12_tell_29 : decode cX12_tell 29 = .ok (.ireturn, 1) := by decide +kernel
theorem dX12_change_0 : decode cX12_change 0 = .ok (.aload_n 0, 1) := by decide +kernel
theorem dX12_change_1 : decode cX12_change 1 = .ok (.getfield 13, 3) := by decide +kernel
theorem dX12_change_4 : decode cX12_change 4 = .ok (.iload_n 1, 1) := by decide +kernel
theorem dX12_change_5 : decode cX12_change 5 = .ok (.iaload, 1) := by decide +kernel
theorem dX12_change_6 : decode cX12_change 6 = .ok (.istore_n 3, 1) := by decide +kernel
theorem dX12_change_7 : decode cX12_change 7 = .ok (.aload_n 0, 1) := by decide +kernel
theorem dX12_change_8 : decode cX12_change 8 = .ok (.getfield 13, 3) := by decide +kernel
theorem dX12_change_11 : decode cX12_change 11 = .ok (.iload_n 1, 1) := by decide +kernel
theorem dX12_change_12 : decode cX12_change 12 = .ok (.iload_n 2, 1) := by decide +kernel
theorem dX12_change_13 : decode cX12_change 13 = .ok (.iastore, 1) := by decide +kernel
theorem dX12_change_14 : decode cX12_change 14 = .ok (.aload_n 0, 1) := by decide +kernel
theorem dX12_change_15 : decode cX12_change 15 = .ok (.iconst 0, 1) := by decide +kernel
theorem dX12_change_16 : decode cX12_change 16 = .ok (.putfield 126, 3) := by decide +kernel
theorem dX12_change_19 : decode cX12_change 19 = .ok (.iload_n 3, 1) := by decide +kernel
theorem dX12_change_20 : decode cX12_change 20 = .ok (.ireturn, 1) := by decide +kernel
theorem dX12_image_0 : decode cX12_image 0 = .ok (.aload_n 0, 1) := by decide +kernel
theorem dX12_image_1 : decode cX12_image 1 = .ok (.iconst 0, 1) := by decide +kernel
theorem dX12_image_2 : decode cX12_image 2 = .ok (.putfield 123, 3) := by decide +kernel
theorem dX12_image_5 : decode cX12_image 5 = .ok (.iload_n 1, 1) := by decide +kernel
theorem dX12_image_6 : decode cX12_image 6 = .ok (.i2l, 1) := by decide +kernel
theorem dX12_image_7 : decode cX12_image 7 = .ok (.lconst 0, 1) := by decide +kernel
theorem dX12_image_8 : decode cX12_image 8 = .ok (.lconst 1, 1) := by decide +kernel
theorem dX12_image_9 : decode cX12_image 9 = .ok (.invokestatic 129, 3) := by decide +kernel
theorem dX12_image_12 : decode cX12_image 12 = .ok (.ifCond .ne 9, 3) := by decide +kernel
theorem dX12_image_15 : decode cX12_image 15 = .ok (.aload_n 0, 1) := by decide +kernel
theorem dX12_image_16 : decode cX12_image 16 = .ok (.iconst (-1), 1) := by decide +kernel
theorem dX12_image_17 : decode cX12_image 17 = .ok (.invokevirtual 133, 3) := by decide +kernel
theorem dX12_image_20 : decode cX12_image 20 = .ok (.ireturn, 1) := by decide +kernel
theorem dX12_image_21 : decode cX12_image 21 = .ok (.iconst 0, 1) := by decide +kernel
theorem dX12_image_22 : decode cX12_image 22 = .ok (.istore_n 2, 1) := by decide +kernel
theorem dX12_image_23 : decode cX12_image 23 = .ok (.iload_n 2, 1) := by decide +kernel
theorem dX12_image_24 : decode cX12_image 24 = .ok (.sipush 5560, 3) := by decide +kernel
theorem dX12_image_27 : decode cX12_image 27 = .ok (.if_icmp .ge 27, 3) := by decide +kernel
theorem dX12_image_30 : decode cX12_image 30 = .ok (.aload_n 0, 1) := by decide +kernel
theorem dX12_image_31 : decode cX12_image 31 = .ok (.getfield 16, 3) := by decide +kernel
theorem dX12_image_34 : decode cX12_image 34 = .ok (.sipush 5560, 3) := by decide +kernel
theorem dX12_image_37 : decode cX12_image 37 = .ok (.iload_n 1, 1) := by decide +kernel
theorem dX12_image_38 : decode cX12_image 38 = .ok (.imul, 1) := by decide +kernel
theorem dX12_image_39 : decode cX12_image 39 = .ok (.iload_n 2, 1) := by decide +kernel
theorem dX12_image_40 : decode cX12_image 40 = .ok (.iadd, 1) := by decide +kernel
theorem dX12_image_41 : decode cX12_image 41 = .ok (.aload_n 0, 1) := by decide +kernel
theorem dX12_image_42 : decode cX12_image 42 = .ok (.getfield 13, 3) := by decide +kernel
theorem dX12_image_45 : decode cX12_image 45 = .ok (.iload_n 2, 1) := by decide +kernel
theorem dX12_image_46 : decode cX12_image 46 = .ok (.iaload, 1) := by decide +kernel
theorem dX12_image_47 : decode cX12_image 47 = .ok (.iastore, 1) := by decide +kernel
theorem dX12_image_48 : decode cX12_image 48 = .ok (.iinc 2 1, 3) := by decide +kernel
theorem dX12_image_51 : decode cX12_image 51 = .ok (.goto (-28), 3) := by decide +kernel
theorem dX12_image_54 : decode cX12_image 54 = .ok (.aload_n 0, 1) := by decide +kernel
theorem dX12_image_55 : decode cX12_image 55 = .ok (.getfield 19, 3) := by decide +kernel
theorem dX12_image_58 : decode cX12_image 58 = .ok (.iload_n 1, 1) := by decide +kernel
theorem dX12_image_59 : decode cX12_image 59 = .ok (.iconst 1, 1) := by decide +kernel
theorem dX12_image_60 : decode cX12_image 60 = .ok (.bastore, 1) := by decide +kernel
theorem dX12_image_61 : decode cX12_image 61 = .ok (.aload_n 0, 1) := by decide +kernel
theorem dX12_image_62 : decode cX12_image 62 = .ok (.iconst 0, 1) := by decide +kernel
theorem dX12_image_63 : decode cX12_image 63 = .ok (.invokevirtual 133, 3) := by decide +kernel
theorem dX12_image_66 : decode cX12_image 66 = .ok (.ireturn, 1) := by decide +kernel
theorem dX12_back_0 : decode cX12_back 0 = .ok (.aload_n 0, 1) := by decide +kernel
theorem dX12_back_1 : decode cX12_back 1 = .ok (.iconst 0, 1) := by decide +kernel
theorem dX12_back_2 : decode cX12_back 2 = .ok (.putfield 123, 3) := by decide +kernel
theorem dX12_back_5 : decode cX12_back 5 = .ok (.iload_n 1, 1) := by decide +kernel
theorem dX12_back_6 : decode cX12_back 6 = .ok (.i2l, 1) := by decide +kernel
theorem dX12_back_7 : decode cX12_back 7 = .ok (.lconst 0, 1) := by decide +kernel
theorem dX12_back_8 : decode cX12_back 8 = .ok (.lconst 1, 1) := by decide +kernel
theorem dX12_back_9 : decode cX12_back 9 = .ok (.invokestatic 129, 3) := by decide +kernel
theorem dX12_back_12 : decode cX12_back 12 = .ok (.ifCond .ne 9, 3) := by decide +kernel
theorem dX12_back_15 : decode cX12_back 15 = .ok (.aload_n 0, 1) := by decide +kernel
theorem dX12_back_16 : decode cX12_back 16 = .ok (.iconst (-1), 1) := by decide +kernel
theorem dX12_back_17 : decode cX12_back 17 = .ok (.invokevirtual 133, 3) := by decide +kernel
theorem dX12_back_20 : decode cX12_back 20 = .ok (.ireturn, 1) := by decide +kernel
theorem dX12_back_21 : decode cX12_back 21 = .ok (.aload_n 0, 1) := by decide +kernel
theorem dX12_back_22 : decode cX12_back 22 = .ok (.getfield 19, 3) := by decide +kernel
theorem dX12_back_25 : decode cX12_back 25 = .ok (.iload_n 1, 1) := by decide +kernel
theorem dX12_back_26 : decode cX12_back 26 = .ok (.baload, 1) := by decide +kernel
theorem dX12_back_27 : decode cX12_back 27 = .ok (.ifCond .ne 10, 3) := by decide +kernel
theorem dX12_back_30 : decode cX12_back 30 = .ok (.aload_n 0, 1) := by decide +kernel
theorem dX12_back_31 : decode cX12_back 31 = .ok (.bipush (-2), 2) := by decide +kernel
theorem dX12_back_33 : decode cX12_back 33 = .ok (.invokevirtual 133, 3) := by decide +kernel
theorem dX12_back_36 : decode cX12_back 36 = .ok (.ireturn, 1) := by decide +kernel
theorem dX12_back_37 : decode cX12_back 37 = .ok (.iconst 0, 1) := by decide +kernel
theorem dX12_back_38 : decode cX12_back 38 = .ok (.istore_n 2, 1) := by decide +kernel
theorem dX12_back_39 : decode cX12_back 39 = .ok (.iload_n 2, 1) := by decide +kernel
theorem dX12_back_40 : decode cX12_back 40 = .ok (.sipush 5560, 3) := by decide +kernel
theorem dX12_back_43 : decode cX12_back 43 = .ok (.if_icmp .ge 27, 3) := by decide +kernel
theorem dX12_back_46 : decode cX12_back 46 = .ok (.aload_n 0, 1) := by decide +kernel
theorem dX12_back_47 : decode cX12_back 47 = .ok (.getfield 13, 3) := by decide +kernel
theorem dX12_back_50 : decode cX12_back 50 = .ok (.iload_n 2, 1) := by decide +kernel
theorem dX12_back_51 : decode cX12_back 51 = .ok (.aload_n 0, 1) := by decide +kernel
theorem dX12_back_52 : decode cX12_back 52 = .ok (.getfield 16, 3) := by decide +kernel
theorem dX12_back_55 : decode cX12_back 55 = .ok (.sipush 5560, 3) := by decide +kernel
theorem dX12_back_58 : decode cX12_back 58 = .ok (.iload_n 1, 1) := by decide +kernel
theorem dX12_back_59 : decode cX12_back 59 = .ok (.imul, 1) := by decide +kernel
theorem dX12_back_60 : decode cX12_back 60 = .ok (.iload_n 2, 1) := by decide +kernel
theorem dX12_back_61 : decode cX12_back 61 = .ok (.iadd, 1) := by decide +kernel
theorem dX12_back_62 : decode cX12_back 62 = .ok (.iaload, 1) := by decide +kernel
theorem dX12_back_63 : decode cX12_back 63 = .ok (.iastore, 1) := by decide +kernel
theorem dX12_back_64 : decode cX12_back 64 = .ok (.iinc 2 1, 3) := by decide +kernel
theorem dX12_back_67 : decode cX12_back 67 = .ok (.goto (-28), 3) := by decide +kernel
theorem dX12_back_70 : decode cX12_back 70 = .ok (.aload_n 0, 1) := by decide +kernel
theorem dX12_back_71 : decode cX12_back 71 = .ok (.iconst 0, 1) := by decide +kernel
theorem dX12_back_72 : decode cX12_back 72 = .ok (.invokevirtual 133, 3) := by decide +kernel
theorem dX12_back_75 : decode cX12_back 75 = .ok (.ireturn, 1) := by decide +kernel
theorem dX12_isDancer_0 : decode cX12_isDancer 0 = .ok (.iload_n 0, 1) := by decide +kernel
theorem dX12_isDancer_1 : decode cX12_isDancer 1 = .ok (.i2l, 1) := by decide +kernel
theorem dX12_isDancer_2 : decode cX12_isDancer 2 = .ok (.lconst 0, 1) := by decide +kernel
theorem dX12_isDancer_3 : decode cX12_isDancer 3 = .ok (.ldc2_w 137, 3) := by decide +kernel
theorem dX12_isDancer_6 : decode cX12_isDancer 6 = .ok (.invokestatic 129, 3) := by decide +kernel
theorem dX12_isDancer_9 : decode cX12_isDancer 9 = .ok (.ireturn, 1) := by decide +kernel
theorem dX12_isTune_0 : decode cX12_isTune 0 = .ok (.iload_n 1, 1) := by decide +kernel
theorem dX12_isTune_1 : decode cX12_isTune 1 = .ok (.i2l, 1) := by decide +kernel
theorem dX12_isTune_2 : decode cX12_isTune 2 = .ok (.lconst 0, 1) := by decide +kernel
theorem dX12_isTune_3 : decode cX12_isTune 3 = .ok (.aload_n 0, 1) := by decide +kernel
theorem dX12_isTune_4 : decode cX12_isTune 4 = .ok (.getfield 13, 3) := by decide +kernel
theorem dX12_isTune_7 : decode cX12_isTune 7 = .ok (.iconst 0, 1) := by decide +kernel
theorem dX12_isTune_8 : decode cX12_isTune 8 = .ok (.iaload, 1) := by decide +kernel
theorem dX12_isTune_9 : decode cX12_isTune 9 = .ok (.i2l, 1) := by decide +kernel
theorem dX12_isTune_10 : decode cX12_isTune 10 = .ok (.lconst 1, 1) := by decide +kernel
theorem dX12_isTune_11 : decode cX12_isTune 11 = .ok (.lsub, 1) := by decide +kernel
theorem dX12_isTune_12 : decode cX12_isTune 12 = .ok (.invokestatic 129, 3) := by decide +kernel
theorem dX12_isTune_15 : decode cX12_isTune 15 = .ok (.ireturn, 1) := by decide +kernel
theorem dX12_debts_0 : decode cX12_debts 0 = .ok (.aload_n 0, 1) := by decide +kernel
theorem dX12_debts_1 : decode cX12_debts 1 = .ok (.getfield 13, 3) := by decide +kernel
theorem dX12_debts_4 : decode cX12_debts 4 = .ok (.iconst 1, 1) := by decide +kernel
theorem dX12_debts_5 : decode cX12_debts 5 = .ok (.iaload, 1) := by decide +kernel
theorem dX12_debts_6 : decode cX12_debts 6 = .ok (.ireturn, 1) := by decide +kernel
theorem dX12_isDebt_0 : decode cX12_isDebt 0 = .ok (.iload_n 1, 1) := by decide +kernel
theorem dX12_isDebt_1 : decode cX12_isDebt 1 = .ok (.i2l, 1) := by decide +kernel
theorem dX12_isDebt_2 : decode cX12_isDebt 2 = .ok (.lconst 0, 1) := by decide +kernel
theorem dX12_isDebt_3 : decode cX12_isDebt 3 = .ok (.aload_n 0, 1) := by decide +kernel
theorem dX12_isDebt_4 : decode cX12_isDebt 4 = .ok (.invokevirtual 139, 3) := by decide +kernel
theorem dX12_isDebt_7 : decode cX12_isDebt 7 = .ok (.i2l, 1) := by decide +kernel
theorem dX12_isDebt_8 : decode cX12_isDebt 8 = .ok (.lconst 1, 1) := by decide +kernel
theorem dX12_isDebt_9 : decode cX12_isDebt 9 = .ok (.lsub, 1) := by decide +kernel
theorem dX12_isDebt_10 : decode cX12_isDebt 10 = .ok (.invokestatic 129, 3) := by decide +kernel
theorem dX12_isDebt_13 : decode cX12_isDebt 13 = .ok (.ireturn, 1) := by decide +kernel
theorem dX12_ofDebt_0 : decode cX12_ofDebt 0 = .ok (.aload_n 0, 1) := by decide +kernel
theorem dX12_ofDebt_1 : decode cX12_ofDebt 1 = .ok (.getfield 13, 3) := by decide +kernel
theorem dX12_ofDebt_4 : decode cX12_ofDebt 4 = .ok (.bipush 14, 2) := by decide +kernel
theorem dX12_ofDebt_6 : decode cX12_ofDebt 6 = .ok (.iconst 5, 1) := by decide +kernel
theorem dX12_ofDebt_7 : decode cX12_ofDebt 7 = .ok (.iload_n 1, 1) := by decide +kernel
theorem dX12_ofDebt_8 : decode cX12_ofDebt 8 = .ok (.imul, 1) := by decide +kernel
theorem dX12_ofDebt_9 : decode cX12_ofDebt 9 = .ok (.iadd, 1) := by decide +kernel
theorem dX12_ofDebt_10 : decode cX12_ofDebt 10 = .ok (.iload_n 2, 1) := by decide +kernel
theorem dX12_ofDebt_11 : decode cX12_ofDebt 11 = .ok (.iadd, 1) := by decide +kernel
theorem dX12_ofDebt_12 : decode cX12_ofDebt 12 = .ok (.iaload, 1) := by decide +kernel
theorem dX12_ofDebt_13 : decode cX12_ofDebt 13 = .ok (.ireturn, 1) := by decide +kernel
theorem dX12_lengthOf_0 : decode cX12_lengthOf 0 = .ok (.aload_n 0, 1) := by decide +kernel
theorem dX12_lengthOf_1 : decode cX12_lengthOf 1 = .ok (.getfield 13, 3) := by decide +kernel
theorem dX12_lengthOf_4 : decode cX12_lengthOf 4 = .ok (.bipush 8, 2) := by decide +kernel
theorem dX12_lengthOf_6 : decode cX12_lengthOf 6 = .ok (.aload_n 0, 1) := by decide +kernel
theorem dX12_lengthOf_7 : decode cX12_lengthOf 7 = .ok (.iload_n 1, 1) := by decide +kernel
theorem dX12_lengthOf_8 : decode cX12_lengthOf 8 = .ok (.iconst 2, 1) := by decide +kernel
theorem dX12_lengthOf_9 : decode cX12_lengthOf 9 = .ok (.invokevirtual 143, 3) := by decide +kernel
theorem dX12_lengthOf_12 : decode cX12_lengthOf 12 = .ok (.iadd, 1) := by decide +kernel
theorem dX12_lengthOf_13 : decode cX12_lengthOf 13 = .ok (.iaload, 1) := by decide +kernel
theorem dX12_lengthOf_14 : decode cX12_lengthOf 14 = .ok (.ireturn, 1) := by decide +kernel
theorem dX12_tune_0 : decode cX12_tune 0 = .ok (.aload_n 0, 1) := by decide +kernel
theorem dX12_tune_1 : decode cX12_tune 1 = .ok (.iconst 0, 1) := by decide +kernel
theorem dX12_tune_2 : decode cX12_tune 2 = .ok (.putfield 123, 3) := by decide +kernel
theorem dX12_tune_5 : decode cX12_tune 5 = .ok (.iload_n 1, 1) := by decide +kernel
theorem dX12_tune_6 : decode cX12_tune 6 = .ok (.i2l, 1) := by decide +kernel
theorem dX12_tune_7 : decode cX12_tune 7 = .ok (.lconst 1, 1) := by decide +kernel
theorem dX12_tune_8 : decode cX12_tune 8 = .ok (.ldc2_w 147, 3) := by decide +kernel
theorem dX12_tune_11 : decode cX12_tune 11 = .ok (.invokestatic 129, 3) := by decide +kernel
theorem dX12_tune_14 : decode cX12_tune 14 = .ok (.ifCond .ne 9, 3) := by decide +kernel
theorem dX12_tune_17 : decode cX12_tune 17 = .ok (.aload_n 0, 1) := by decide +kernel
theorem dX12_tune_18 : decode cX12_tune 18 = .ok (.iconst (-1), 1) := by decide +kernel
theorem dX12_tune_19 : decode cX12_tune 19 = .ok (.invokevirtual 133, 3) := by decide +kernel
theorem dX12_tune_22 : decode cX12_tune 22 = .ok (.ireturn, 1) := by decide +kernel
theorem dX12_tune_23 : decode cX12_tune 23 = .ok (.aload_n 0, 1) := by decide +kernel
theorem dX12_tune_24 : decode cX12_tune 24 = .ok (.getfield 13, 3) := by decide +kernel
theorem dX12_tune_27 : decode cX12_tune 27 = .ok (.iconst 0, 1) := by decide +kernel
theorem dX12_tune_28 : decode cX12_tune 28 = .ok (.iaload, 1) := by decide +kernel
theorem dX12_tune_29 : decode cX12_tune 29 = .ok (.istore_n 2, 1) := by decide +kernel
theorem dX12_tune_30 : decode cX12_tune 30 = .ok (.iload_n 2, 1) := by decide +kernel
theorem dX12_tune_31 : decode cX12_tune 31 = .ok (.bipush 6, 2) := by decide +kernel
theorem dX12_tune_33 : decode cX12_tune 33 = .ok (.if_icmp .ne 10, 3) := by decide +kernel
theorem dX12_tune_36 : decode cX12_tune 36 = .ok (.aload_n 0, 1) := by decide +kernel
theorem dX12_tune_37 : decode cX12_tune 37 = .ok (.bipush (-5), 2) := by decide +kernel
theorem dX12_tune_39 : decode cX12_tune 39 = .ok (.invokevirtual 133, 3) := by decide +kernel
theorem dX12_tune_42 : decode cX12_tune 42 = .ok (.ireturn, 1) := by decide +kernel
theorem dX12_tune_43 : decode cX12_tune 43 = .ok (.aload_n 0, 1) := by decide +kernel
theorem dX12_tune_44 : decode cX12_tune 44 = .ok (.getfield 13, 3) := by decide +kernel
theorem dX12_tune_47 : decode cX12_tune 47 = .ok (.bipush 8, 2) := by decide +kernel
theorem dX12_tune_49 : decode cX12_tune 49 = .ok (.iload_n 2, 1) := by decide +kernel
theorem dX12_tune_50 : decode cX12_tune 50 = .ok (.iadd, 1) := by decide +kernel
theorem dX12_tune_51 : decode cX12_tune 51 = .ok (.iload_n 1, 1) := by decide +kernel
theorem dX12_tune_52 : decode cX12_tune 52 = .ok (.iastore, 1) := by decide +kernel
theorem dX12_tune_53 : decode cX12_tune 53 = .ok (.aload_n 0, 1) := by decide +kernel
theorem dX12_tune_54 : decode cX12_tune 54 = .ok (.getfield 13, 3) := by decide +kernel
theorem dX12_tune_57 : decode cX12_tune 57 = .ok (.iconst 0, 1) := by decide +kernel
theorem dX12_tune_58 : decode cX12_tune 58 = .ok (.dup2, 1) := by decide +kernel
theorem dX12_tune_59 : decode cX12_tune 59 = .ok (.iaload, 1) := by decide +kernel
theorem dX12_tune_60 : decode cX12_tune 60 = .ok (.iconst 1, 1) := by decide +kernel
theorem dX12_tune_61 : decode cX12_tune 61 = .ok (.iadd, 1) := by decide +kernel
theorem dX12_tune_62 : decode cX12_tune 62 = .ok (.iastore, 1) := by decide +kernel
theorem dX12_tune_63 : decode cX12_tune 63 = .ok (.aload_n 0, 1) := by decide +kernel
theorem dX12_tune_64 : decode cX12_tune 64 = .ok (.iload_n 2, 1) := by decide +kernel
theorem dX12_tune_65 : decode cX12_tune 65 = .ok (.invokevirtual 133, 3) := by decide +kernel
theorem dX12_tune_68 : decode cX12_tune 68 = .ok (.ireturn, 1) := by decide +kernel
theorem dX12_length_0 : decode cX12_length 0 = .ok (.aload_n 0, 1) := by decide +kernel
theorem dX12_length_1 : decode cX12_length 1 = .ok (.iconst 0, 1) := by decide +kernel
theorem dX12_length_2 : decode cX12_length 2 = .ok (.putfield 123, 3) := by decide +kernel
theorem dX12_length_5 : decode cX12_length 5 = .ok (.aload_n 0, 1) := by decide +kernel
theorem dX12_length_6 : decode cX12_length 6 = .ok (.iload_n 1, 1) := by decide +kernel
theorem dX12_length_7 : decode cX12_length 7 = .ok (.invokevirtual 149, 3) := by decide +kernel
theorem dX12_length_10 : decode cX12_length 10 = .ok (.ifCond .eq 15, 3) := by decide +kernel
theorem dX12_length_13 : decode cX12_length 13 = .ok (.aload_n 0, 1) := by decide +kernel
theorem dX12_length_14 : decode cX12_length 14 = .ok (.getfield 13, 3) := by decide +kernel
theorem dX12_length_17 : decode cX12_length 17 = .ok (.bipush 8, 2) := by decide +kernel
theorem dX12_length_19 : decode cX12_length 19 = .ok (.iload_n 1, 1) := by decide +kernel
theorem dX12_length_20 : decode cX12_length 20 = .ok (.iadd, 1) := by decide +kernel
theorem dX12_length_21 : decode cX12_length 21 = .ok (.iaload, 1) := by decide +kernel
theorem dX12_length_22 : decode cX12_length 22 = .ok (.goto 4, 3) := by decide +kernel
theorem dX12_length_25 : decode cX12_length 25 = .ok (.iconst (-1), 1) := by decide +kernel
theorem dX12_length_26 : decode cX12_length 26 = .ok (.ireturn, 1) := by decide +kernel
theorem dX12_canOwe_0 : decode cX12_canOwe 0 = .ok (.iload_n 0, 1) := by decide +kernel
theorem dX12_canOwe_1 : decode cX12_canOwe 1 = .ok (.invokestatic 153, 3) := by decide +kernel
theorem dX12_canOwe_4 : decode cX12_canOwe 4 = .ok (.ifCond .eq 31, 3) := by decide +kernel
theorem dX12_canOwe_7 : decode cX12_canOwe 7 = .ok (.iload_n 1, 1) := by decide +kernel
theorem dX12_canOwe_8 : decode cX12_canOwe 8 = .ok (.invokestatic 153, 3) := by decide +kernel
theorem dX12_canOwe_11 : decode cX12_canOwe 11 = .ok (.ifCond .eq 24, 3) := by decide +kernel
theorem dX12_canOwe_14 : decode cX12_canOwe 14 = .ok (.iload_n 0, 1) := by decide +kernel
theorem dX12_canOwe_15 : decode cX12_canOwe 15 = .ok (.iload_n 1, 1) := by decide +kernel
theorem dX12_canOwe_16 : decode cX12_canOwe 16 = .ok (.if_icmp .eq 19, 3) := by decide +kernel
theorem dX12_canOwe_19 : decode cX12_canOwe 19 = .ok (.iload_n 2, 1) := by decide +kernel
theorem dX12_canOwe_20 : decode cX12_canOwe 20 = .ok (.i2l, 1) := by decide +kernel
theorem dX12_canOwe_21 : decode cX12_canOwe 21 = .ok (.lconst 1, 1) := by decide +kernel
theorem dX12_canOwe_22 : decode cX12_canOwe 22 = .ok (.ldc2_w 156, 3) := by decide +kernel
theorem dX12_canOwe_25 : decode cX12_canOwe 25 = .ok (.invokestatic 129, 3) := by decide +kernel
theorem dX12_canOwe_28 : decode cX12_canOwe 28 = .ok (.ifCond .eq 7, 3) := by decide +kernel
theorem dX12_canOwe_31 : decode cX12_canOwe 31 = .ok (.iconst 1, 1) := by decide +kernel
theorem dX12_canOwe_32 : decode cX12_canOwe 32 = .ok (.goto 4, 3) := by decide +kernel
theorem dX12_canOwe_35 : decode cX12_canOwe 35 = .ok (.iconst 0, 1) := by decide +kernel
theorem dX12_canOwe_36 : decode cX12_canOwe 36 = .ok (.ireturn, 1) := by decide +kernel
theorem dX12_addDebt_0 : decode cX12_addDebt 0 = .ok (.bipush 14, 2) := by decide +kernel
theorem dX12_addDebt_2 : decode cX12_addDebt 2 = .ok (.iconst 5, 1) := by decide +kernel
theorem dX12_addDebt_3 : decode cX12_addDebt 3 = .ok (.aload_n 0, 1) := by decide +kernel
theorem dX12_addDebt_4 : decode cX12_addDebt 4 = .ok (.invokevirtual 139, 3) := by decide +kernel
theorem dX12_addDebt_7 : decode cX12_addDebt 7 = .ok (.imul, 1) := by decide +kernel
theorem dX12_addDebt_8 : decode cX12_addDebt 8 = .ok (.iadd, 1) := by decide +kernel
theorem dX12_addDebt_9 : decode cX12_addDebt 9 = .ok (.istore 5, 2) := by decide +kernel
theorem dX12_addDebt_11 : decode cX12_addDebt 11 = .ok (.aload_n 0, 1) := by decide +kernel
theorem dX12_addDebt_12 : decode cX12_addDebt 12 = .ok (.getfield 13, 3) := by decide +kernel
theorem dX12_addDebt_15 : decode cX12_addDebt 15 = .ok (.iload 5, 2) := by decide +kernel
theorem dX12_addDebt_17 : decode cX12_addDebt 17 = .ok (.iload_n 1, 1) := by decide +kernel
theorem dX12_addDebt_18 : decode cX12_addDebt 18 = .ok (.iastore, 1) := by decide +kernel
theorem dX12_addDebt_19 : decode cX12_addDebt 19 = .ok (.aload_n 0, 1) := by decide +kernel
theorem dX12_addDebt_20 : decode cX12_addDebt 20 = .ok (.getfield 13, 3) := by decide +kernel
theorem dX12_addDebt_23 : decode cX12_addDebt 23 = .ok (.iload 5, 2) := by decide +kernel
theorem dX12_addDebt_25 : decode cX12_addDebt 25 = .ok (.iconst 1, 1) := by decide +kernel
theorem dX12_addDebt_26 : decode cX12_addDebt 26 = .ok (.iadd, 1) := by decide +kernel
theorem dX12_addDebt_27 : decode cX12_addDebt 27 = .ok (.iload_n 2, 1) := by decide +kernel
theorem dX12_addDebt_28 : decode cX12_addDebt 28 = .ok (.iastore, 1) := by decide +kernel
theorem dX12_addDebt_29 : decode cX12_addDebt 29 = .ok (.aload_n 0, 1) := by decide +kernel
theorem dX12_addDebt_30 : decode cX12_addDebt 30 = .ok (.getfield 13, 3) := by decide +kernel
theorem dX12_addDebt_33 : decode cX12_addDebt 33 = .ok (.iload 5, 2) := by decide +kernel
theorem dX12_addDebt_35 : decode cX12_addDebt 35 = .ok (.iconst 2, 1) := by decide +kernel
theorem dX12_addDebt_36 : decode cX12_addDebt 36 = .ok (.iadd, 1) := by decide +kernel
theorem dX12_addDebt_37 : decode cX12_addDebt 37 = .ok (.iload_n 3, 1) := by decide +kernel
theorem dX12_addDebt_38 : decode cX12_addDebt 38 = .ok (.iastore, 1) := by decide +kernel
theorem dX12_addDebt_39 : decode cX12_addDebt 39 = .ok (.aload_n 0, 1) := by decide +kernel
theorem dX12_addDebt_40 : decode cX12_addDebt 40 = .ok (.getfield 13, 3) := by decide +kernel
theorem dX12_addDebt_43 : decode cX12_addDebt 43 = .ok (.iload 5, 2) := by decide +kernel
theorem dX12_addDebt_45 : decode cX12_addDebt 45 = .ok (.iconst 3, 1) := by decide +kernel
theorem dX12_addDebt_46 : decode cX12_addDebt 46 = .ok (.iadd, 1) := by decide +kernel
theorem dX12_addDebt_47 : decode cX12_addDebt 47 = .ok (.iload 4, 2) := by decide +kernel
theorem dX12_addDebt_49 : decode cX12_addDebt 49 = .ok (.iastore, 1) := by decide +kernel
theorem dX12_addDebt_50 : decode cX12_addDebt 50 = .ok (.aload_n 0, 1) := by decide +kernel
theorem dX12_addDebt_51 : decode cX12_addDebt 51 = .ok (.getfield 13, 3) := by decide +kernel
theorem dX12_addDebt_54 : decode cX12_addDebt 54 = .ok (.iload 5, 2) := by decide +kernel
theorem dX12_addDebt_56 : decode cX12_addDebt 56 = .ok (.iconst 4, 1) := by decide +kernel
theorem dX12_addDebt_57 : decode cX12_addDebt 57 = .ok (.iadd, 1) := by decide +kernel
theorem dX12_addDebt_58 : decode cX12_addDebt 58 = .ok (.aload_n 0, 1) := by decide +kernel
theorem dX12_addDebt_59 : decode cX12_addDebt 59 = .ok (.getfield 13, 3) := by decide +kernel
theorem dX12_addDebt_62 : decode cX12_addDebt 62 = .ok (.bipush 7, 2) := by decide +kernel
theorem dX12_addDebt_64 : decode cX12_addDebt 64 = .ok (.iaload, 1) := by decide +kernel
theorem dX12_addDebt_65 : decode cX12_addDebt 65 = .ok (.iastore, 1) := by decide +kernel
theorem dX12_addDebt_66 : decode cX12_addDebt 66 = .ok (.aload_n 0, 1) := by decide +kernel
theorem dX12_addDebt_67 : decode cX12_addDebt 67 = .ok (.getfield 13, 3) := by decide +kernel
theorem dX12_addDebt_70 : decode cX12_addDebt 70 = .ok (.iconst 1, 1) := by decide +kernel
theorem dX12_addDebt_71 : decode cX12_addDebt 71 = .ok (.dup2, 1) := by decide +kernel
theorem dX12_addDebt_72 : decode cX12_addDebt 72 = .ok (.iaload, 1) := by decide +kernel
theorem dX12_addDebt_73 : decode cX12_addDebt 73 = .ok (.iconst 1, 1) := by decide +kernel
theorem dX12_addDebt_74 : decode cX12_addDebt 74 = .ok (.iadd, 1) := by decide +kernel
theorem dX12_addDebt_75 : decode cX12_addDebt 75 = .ok (.iastore, 1) := by decide +kernel
theorem dX12_addDebt_76 : decode cX12_addDebt 76 = .ok (.return_, 1) := by decide +kernel
theorem dX12_owe_0 : decode cX12_owe 0 = .ok (.aload_n 0, 1) := by decide +kernel
theorem dX12_owe_1 : decode cX12_owe 1 = .ok (.iconst 0, 1) := by decide +kernel
theorem dX12_owe_2 : decode cX12_owe 2 = .ok (.putfield 123, 3) := by decide +kernel
theorem dX12_owe_5 : decode cX12_owe 5 = .ok (.iload_n 1, 1) := by decide +kernel
theorem dX12_owe_6 : decode cX12_owe 6 = .ok (.iload_n 2, 1) := by decide +kernel
theorem dX12_owe_7 : decode cX12_owe 7 = .ok (.iload 4, 2) := by decide +kernel
theorem dX12_owe_9 : decode cX12_owe 9 = .ok (.invokestatic 158, 3) := by decide +kernel
theorem dX12_owe_12 : decode cX12_owe 12 = .ok (.ifCond .ne 9, 3) := by decide +kernel
theorem dX12_owe_15 : decode cX12_owe 15 = .ok (.aload_n 0, 1) := by decide +kernel
theorem dX12_owe_16 : decode cX12_owe 16 = .ok (.iconst (-1), 1) := by decide +kernel
theorem dX12_owe_17 : decode cX12_owe 17 = .ok (.invokevirtual 133, 3) := by decide +kernel
theorem dX12_owe_20 : decode cX12_owe 20 = .ok (.ireturn, 1) := by decide +kernel
theorem dX12_owe_21 : decode cX12_owe 21 = .ok (.aload_n 0, 1) := by decide +kernel
theorem dX12_owe_22 : decode cX12_owe 22 = .ok (.iload_n 3, 1) := by decide +kernel
theorem dX12_owe_23 : decode cX12_owe 23 = .ok (.invokevirtual 149, 3) := by decide +kernel
theorem dX12_owe_26 : decode cX12_owe 26 = .ok (.ifCond .ne 10, 3) := by decide +kernel
theorem dX12_owe_29 : decode cX12_owe 29 = .ok (.aload_n 0, 1) := by decide +kernel
theorem dX12_owe_30 : decode cX12_owe 30 = .ok (.bipush (-2), 2) := by decide +kernel
theorem dX12_owe_32 : decode cX12_owe 32 = .ok (.invokevirtual 133, 3) := by decide +kernel
theorem dX12_owe_35 : decode cX12_owe 35 = .ok (.ireturn, 1) := by decide +kernel
theorem dX12_owe_36 : decode cX12_owe 36 = .ok (.aload_n 0, 1) := by decide +kernel
theorem dX12_owe_37 : decode cX12_owe 37 = .ok (.invokevirtual 139, 3) := by decide +kernel
theorem dX12_owe_40 : decode cX12_owe 40 = .ok (.bipush 16, 2) := by decide +kernel
theorem dX12_owe_42 : decode cX12_owe 42 = .ok (.if_icmp .ne 10, 3) := by decide +kernel
theorem dX12_owe_45 : decode cX12_owe 45 = .ok (.aload_n 0, 1) := by decide +kernel
theorem dX12_owe_46 : decode cX12_owe 46 = .ok (.bipush (-5), 2) := by decide +kernel
theorem dX12_owe_48 : decode cX12_owe 48 = .ok (.invokevirtual 133, 3) := by decide +kernel
theorem dX12_owe_51 : decode cX12_owe 51 = .ok (.ireturn, 1) := by decide +kernel
theorem dX12_owe_52 : decode cX12_owe 52 = .ok (.aload_n 0, 1) := by decide +kernel
theorem dX12_owe_53 : decode cX12_owe 53 = .ok (.iload_n 1, 1) := by decide +kernel
theorem dX12_owe_54 : decode cX12_owe 54 = .ok (.iload_n 2, 1) := by decide +kernel
theorem dX12_owe_55 : decode cX12_owe 55 = .ok (.iload_n 3, 1) := by decide +kernel
theorem dX12_owe_56 : decode cX12_owe 56 = .ok (.iload 4, 2) := by decide +kernel
theorem dX12_owe_58 : decode cX12_owe 58 = .ok (.invokevirtual 162, 3) := by decide +kernel
theorem dX12_owe_61 : decode cX12_owe 61 = .ok (.aload_n 0, 1) := by decide +kernel
theorem dX12_owe_62 : decode cX12_owe 62 = .ok (.aload_n 0, 1) := by decide +kernel
theorem dX12_owe_63 : decode cX12_owe 63 = .ok (.invokevirtual 139, 3) := by decide +kernel
theorem dX12_owe_66 : decode cX12_owe 66 = .ok (.iconst 1, 1) := by decide +kernel
theorem dX12_owe_67 : decode cX12_owe 67 = .ok (.isub, 1) := by decide +kernel
theorem dX12_owe_68 : decode cX12_owe 68 = .ok (.invokevirtual 133, 3) := by decide +kernel
theorem dX12_owe_71 : decode cX12_owe 71 = .ok (.ireturn, 1) := by decide +kernel
theorem dX12_sweep_0 : decode cX12_sweep 0 = .ok (.iconst 0, 1) := by decide +kernel
theorem dX12_sweep_1 : decode cX12_sweep 1 = .ok (.istore_n 1, 1) := by decide +kernel
theorem dX12_sweep_2 : decode cX12_sweep 2 = .ok (.iconst 0, 1) := by decide +kernel
theorem dX12_sweep_3 : decode cX12_sweep 3 = .ok (.istore_n 2, 1) := by decide +kernel
theorem dX12_sweep_4 : decode cX12_sweep 4 = .ok (.iload_n 2, 1) := by decide +kernel
theorem dX12_sweep_5 : decode cX12_sweep 5 = .ok (.aload_n 0, 1) := by decide +kernel
theorem dX12_sweep_6 : decode cX12_sweep 6 = .ok (.invokevirtual 139, 3) := by decide +kernel
theorem dX12_sweep_9 : decode cX12_sweep 9 = .ok (.if_icmp .ge 53, 3) := by decide +kernel
theorem dX12_sweep_12 : decode cX12_sweep 12 = .ok (.aload_n 0, 1) := by decide +kernel
theorem dX12_sweep_13 : decode cX12_sweep 13 = .ok (.iload_n 2, 1) := by decide +kernel
theorem dX12_sweep_14 : decode cX12_sweep 14 = .ok (.iconst 3, 1) := by decide +kernel
theorem dX12_sweep_15 : decode cX12_sweep 15 = .ok (.invokevirtual 143, 3) := by decide +kernel
theorem dX12_sweep_18 : decode cX12_sweep 18 = .ok (.ifCond .le 38, 3) := by decide +kernel
theorem dX12_sweep_21 : decode cX12_sweep 21 = .ok (.iconst 0, 1) := by decide +kernel
theorem dX12_sweep_22 : decode cX12_sweep 22 = .ok (.istore_n 3, 1) := by decide +kernel
theorem dX12_sweep_23 : decode cX12_sweep 23 = .ok (.iload_n 3, 1) := by decide +kernel
theorem dX12_sweep_24 : decode cX12_sweep 24 = .ok (.iconst 5, 1) := by decide +kernel
theorem dX12_sweep_25 : decode cX12_sweep 25 = .ok (.if_icmp .ge 28, 3) := by decide +kernel
theorem dX12_sweep_28 : decode cX12_sweep 28 = .ok (.aload_n 0, 1) := by decide +kernel
theorem dX12_sweep_29 : decode cX12_sweep 29 = .ok (.getfield 13, 3) := by decide +kernel
theorem dX12_sweep_32 : decode cX12_sweep 32 = .ok (.bipush 14, 2) := by decide +kernel
theorem dX12_sweep_34 : decode cX12_sweep 34 = .ok (.iconst 5, 1) := by decide +kernel
theorem dX12_sweep_35 : decode cX12_sweep 35 = .ok (.iload_n 1, 1) := by decide +kernel
theorem dX12_sweep_36 : decode cX12_sweep 36 = .ok (.imul, 1) := by decide +kernel
theorem dX12_sweep_37 : decode cX12_sweep 37 = .ok (.iadd, 1) := by decide +kernel
theorem dX12_sweep_38 : decode cX12_sweep 38 = .ok (.iload_n 3, 1) := by decide +kernel
theorem dX12_sweep_39 : decode cX12_sweep 39 = .ok (.iadd, 1) := by decide +kernel
theorem dX12_sweep_40 : decode cX12_sweep 40 = .ok (.aload_n 0, 1) := by decide +kernel
theorem dX12_sweep_41 : decode cX12_sweep 41 = .ok (.iload_n 2, 1) := by decide +kernel
theorem dX12_sweep_42 : decode cX12_sweep 42 = .ok (.iload_n 3, 1) := by decide +kernel
theorem dX12_sweep_43 : decode cX12_sweep 43 = .ok (.invokevirtual 143, 3) := by decide +kernel
theorem dX12_sweep_46 : decode cX12_sweep 46 = .ok (.iastore, 1) := by decide +kernel
theorem dX12_sweep_47 : decode cX12_sweep 47 = .ok (.iinc 3 1, 3) := by decide +kernel
theorem dX12_sweep_50 : decode cX12_sweep 50 = .ok (.goto (-27), 3) := by decide +kernel
theorem dX12_sweep_53 : decode cX12_sweep 53 = .ok (.iinc 1 1, 3) := by decide +kernel
theorem dX12_sweep_56 : decode cX12_sweep 56 = .ok (.iinc 2 1, 3) := by decide +kernel
theorem dX12_sweep_59 : decode cX12_sweep 59 = .ok (.goto (-55), 3) := by decide +kernel
theorem dX12_sweep_62 : decode cX12_sweep 62 = .ok (.aload_n 0, 1) := by decide +kernel
theorem dX12_sweep_63 : decode cX12_sweep 63 = .ok (.getfield 13, 3) := by decide +kernel
theorem dX12_sweep_66 : decode cX12_sweep 66 = .ok (.iconst 1, 1) := by decide +kernel
theorem dX12_sweep_67 : decode cX12_sweep 67 = .ok (.iload_n 1, 1) := by decide +kernel
theorem dX12_sweep_68 : decode cX12_sweep 68 = .ok (.iastore, 1) := by decide +kernel
theorem dX12_sweep_69 : decode cX12_sweep 69 = .ok (.return_, 1) := by decide +kernel
theorem dX12_of_0 : decode cX12_of 0 = .ok (.aload_n 0, 1) := by decide +kernel
