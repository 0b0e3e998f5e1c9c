theorem dX6_write_57 : decode cX6_write 57 = .ok (.getfield 29, 3) := by decide +kernel
theorem dX6_write_60 : decode cX6_write 60 = .ok (.getfield 49, 3) := by decide +kernel
theorem dX6_write_63 : decode cX6_write 63 = .ok (.invokevirtual 52, 3) := by decide +kernel
theorem dX6_write_66 : decode cX6_write 66 = .ok (.istore 6, 2) := by decide +kernel
theorem dX6_write_68 : decode cX6_write 68 = .ok (.aload_n 0, 1) := by decide +kernel
theorem dX6_write_69 : decode cX6_write 69 = .ok (.iload 5, 2) := by decide +kernel
theorem dX6_write_71 : decode cX6_write 71 = .ok (.iload 6, 2) := by decide +kernel
theorem dX6_write_73 : decode cX6_write 73 = .ok (.invokevirtual 56, 3) := by decide +kernel
theorem dX6_write_76 : decode cX6_write 76 = .ok (.ifCond .eq 6, 3) := by decide +kernel
theorem dX6_write_79 : decode cX6_write 79 = .ok (.iinc 3 1, 3) := by decide +kernel
theorem dX6_write_82 : decode cX6_write 82 = .ok (.iinc 4 1, 3) := by decide +kernel
theorem dX6_write_85 : decode cX6_write 85 = .ok (.goto (-47), 3) := by decide +kernel
theorem dX6_write_88 : decode cX6_write 88 = .ok (.aload_n 0, 1) := by decide +kernel
theorem dX6_write_89 : decode cX6_write 89 = .ok (.invokevirtual 60, 3) := by decide +kernel
theorem dX6_write_92 : decode cX6_write 92 = .ok (.aload_n 0, 1) := by decide +kernel
theorem dX6_write_93 : decode cX6_write 93 = .ok (.iconst 1, 1) := by decide +kernel
theorem dX6_write_94 : decode cX6_write 94 = .ok (.putfield 21, 3) := by decide +kernel
theorem dX6_write_97 : decode cX6_write 97 = .ok (.iload_n 3, 1) := by decide +kernel
theorem dX6_write_98 : decode cX6_write 98 = .ok (.ireturn, 1) := by decide +kernel
theorem dX6_draw_0 : decode cX6_draw 0 = .ok (.aload_n 0, 1) := by decide +kernel
theorem dX6_draw_1 : decode cX6_draw 1 = .ok (.aload_n 0, 1) := by decide +kernel
theorem dX6_draw_2 : decode cX6_draw 2 = .ok (.getfield 25, 3) := by decide +kernel
theorem dX6_draw_5 : decode cX6_draw 5 = .ok (.sipush 1103, 3) := by decide +kernel
theorem dX6_draw_8 : decode cX6_draw 8 = .ok (.imul, 1) := by decide +kernel
theorem dX6_draw_9 : decode cX6_draw 9 = .ok (.sipush 12345, 3) := by decide +kernel
theorem dX6_draw_12 : decode cX6_draw 12 = .ok (.iadd, 1) := by decide +kernel
theorem dX6_draw_13 : decode cX6_draw 13 = .ok (.ldc 63, 2) := by decide +kernel
theorem dX6_draw_15 : decode cX6_draw 15 = .ok (.irem, 1) := by decide +kernel
theorem dX6_draw_16 : decode cX6_draw 16 = .ok (.putfield 25, 3) := by decide +kernel
theorem dX6_draw_19 : decode cX6_draw 19 = .ok (.iload_n 1, 1) := by decide +kernel
theorem dX6_draw_20 : decode cX6_draw 20 = .ok (.ifCond .le 12, 3) := by decide +kernel
theorem dX6_draw_23 : decode cX6_draw 23 = .ok (.aload_n 0, 1) := by decide +kernel
theorem dX6_draw_24 : decode cX6_draw 24 = .ok (.getfield 25, 3) := by decide +kernel
theorem dX6_draw_27 : decode cX6_draw 27 = .ok (.iload_n 1, 1) := by decide +kernel
theorem dX6_draw_28 : decode cX6_draw 28 = .ok (.irem, 1) := by decide +kernel
theorem dX6_draw_29 : decode cX6_draw 29 = .ok (.goto 4, 3) := by decide +kernel
theorem dX6_draw_32 : decode cX6_draw 32 = .ok (.iconst 0, 1) := by decide +kernel
theorem dX6_draw_33 : decode cX6_draw 33 = .ok (.ireturn, 1) := by decide +kernel
theorem dX6_takesOver_0 : decode cX6_takesOver 0 = .ok (.iconst 0, 1) := by decide +kernel
theorem dX6_takesOver_1 : decode cX6_takesOver 1 = .ok (.istore_n 3, 1) := by decide +kernel
theorem dX6_takesOver_2 : decode cX6_takesOver 2 = .ok (.iload_n 3, 1) := by decide +kernel
theorem dX6_takesOver_3 : decode cX6_takesOver 3 = .ok (.aload_n 0, 1) := by decide +kernel
theorem dX6_takesOver_4 : decode cX6_takesOver 4 = .ok (.getfield 39, 3) := by decide +kernel
theorem dX6_takesOver_7 : decode cX6_takesOver 7 = .ok (.getfield 64, 3) := by decide +kernel
theorem dX6_takesOver_10 : decode cX6_takesOver 10 = .ok (.if_icmp .ge 60, 3) := by decide +kernel
theorem dX6_takesOver_13 : decode cX6_takesOver 13 = .ok (.iload_n 3, 1) := by decide +kernel
theorem dX6_takesOver_14 : decode cX6_takesOver 14 = .ok (.bipush 16, 2) := by decide +kernel
theorem dX6_takesOver_16 : decode cX6_takesOver 16 = .ok (.if_icmp .ge 54, 3) := by decide +kernel
theorem dX6_takesOver_19 : decode cX6_takesOver 19 = .ok (.aload_n 0, 1) := by decide +kernel
theorem dX6_takesOver_20 : decode cX6_takesOver 20 = .ok (.getfield 39, 3) := by decide +kernel
theorem dX6_takesOver_23 : decode cX6_takesOver 23 = .ok (.getfield 67, 3) := by decide +kernel
theorem dX6_takesOver_26 : decode cX6_takesOver 26 = .ok (.iload_n 3, 1) := by decide +kernel
theorem dX6_takesOver_27 : decode cX6_takesOver 27 = .ok (.iaload, 1) := by decide +kernel
theorem dX6_takesOver_28 : decode cX6_takesOver 28 = .ok (.iload_n 2, 1) := by decide +kernel
theorem dX6_takesOver_29 : decode cX6_takesOver 29 = .ok (.if_icmp .ne 35, 3) := by decide +kernel
theorem dX6_takesOver_32 : decode cX6_takesOver 32 = .ok (.aload_n 0, 1) := by decide +kernel
theorem dX6_takesOver_33 : decode cX6_takesOver 33 = .ok (.getfield 9, 3) := by decide +kernel
theorem dX6_takesOver_36 : decode cX6_takesOver 36 = .ok (.iload_n 3, 1) := by decide +kernel
theorem dX6_takesOver_37 : decode cX6_takesOver 37 = .ok (.iaload, 1) := by decide +kernel
theorem dX6_takesOver_38 : decode cX6_takesOver 38 = .ok (.iload_n 1, 1) := by decide +kernel
theorem dX6_takesOver_39 : decode cX6_takesOver 39 = .ok (.if_icmp .eq 25, 3) := by decide +kernel
theorem dX6_takesOver_42 : decode cX6_takesOver 42 = .ok (.aload_n 0, 1) := by decide +kernel
theorem dX6_takesOver_43 : decode cX6_takesOver 43 = .ok (.getfield 39, 3) := by decide +kernel
theorem dX6_takesOver_46 : decode cX6_takesOver 46 = .ok (.getfield 69, 3) := by decide +kernel
theorem dX6_takesOver_49 : decode cX6_takesOver 49 = .ok (.iload_n 3, 1) := by decide +kernel
theorem dX6_takesOver_50 : decode cX6_takesOver 50 = .ok (.iaload, 1) := by decide +kernel
theorem dX6_takesOver_51 : decode cX6_takesOver 51 = .ok (.iload_n 1, 1) := by decide +kernel
theorem dX6_takesOver_52 : decode cX6_takesOver 52 = .ok (.if_icmp .eq 12, 3) := by decide +kernel
theorem dX6_takesOver_55 : decode cX6_takesOver 55 = .ok (.aload_n 0, 1) := by decide +kernel
theorem dX6_takesOver_56 : decode cX6_takesOver 56 = .ok (.getfield 9, 3) := by decide +kernel
theorem dX6_takesOver_59 : decode cX6_takesOver 59 = .ok (.iload_n 3, 1) := by decide +kernel
theorem dX6_takesOver_60 : decode cX6_takesOver 60 = .ok (.iload_n 1, 1) := by decide +kernel
theorem dX6_takesOver_61 : decode cX6_takesOver 61 = .ok (.iastore, 1) := by decide +kernel
theorem dX6_takesOver_62 : decode cX6_takesOver 62 = .ok (.iconst 1, 1) := by decide +kernel
theorem dX6_takesOver_63 : decode cX6_takesOver 63 = .ok (.ireturn, 1) := by decide +kernel
theorem dX6_takesOver_64 : decode cX6_takesOver 64 = .ok (.iinc 3 1, 3) := by decide +kernel
theorem dX6_takesOver_67 : decode cX6_takesOver 67 = .ok (.goto (-65), 3) := by decide +kernel
theorem dX6_takesOver_70 : decode cX6_takesOver 70 = .ok (.iconst 0, 1) := by decide +kernel
theorem dX6_takesOver_71 : decode cX6_takesOver 71 = .ok (.ireturn, 1) := by decide +kernel
theorem dX6_addUp_0 : decode cX6_addUp 0 = .ok (.aload_n 0, 1) := by decide +kernel
theorem dX6_addUp_1 : decode cX6_addUp 1 = .ok (.getfield 15, 3) := by decide +kernel
theorem dX6_addUp_4 : decode cX6_addUp 4 = .ok (.iconst 0, 1) := by decide +kernel
theorem dX6_addUp_5 : decode cX6_addUp 5 = .ok (.invokestatic 70, 3) := by decide +kernel
theorem dX6_addUp_8 : decode cX6_addUp 8 = .ok (.aload_n 0, 1) := by decide +kernel
theorem dX6_addUp_9 : decode cX6_addUp 9 = .ok (.getfield 18, 3) := by decide +kernel
theorem dX6_addUp_12 : decode cX6_addUp 12 = .ok (.iconst 0, 1) := by decide +kernel
theorem dX6_addUp_13 : decode cX6_addUp 13 = .ok (.invokestatic 70, 3) := by decide +kernel
theorem dX6_addUp_16 : decode cX6_addUp 16 = .ok (.iconst 0, 1) := by decide +kernel
theorem dX6_addUp_17 : decode cX6_addUp 17 = .ok (.istore_n 1, 1) := by decide +kernel
theorem dX6_addUp_18 : decode cX6_addUp 18 = .ok (.iload_n 1, 1) := by decide +kernel
theorem dX6_addUp_19 : decode cX6_addUp 19 = .ok (.aload_n 0, 1) := by decide +kernel
theorem dX6_addUp_20 : decode cX6_addUp 20 = .ok (.getfield 39, 3) := by decide +kernel
theorem dX6_addUp_23 : decode cX6_addUp 23 = .ok (.getfield 64, 3) := by decide +kernel
theorem dX6_addUp_26 : decode cX6_addUp 26 = .ok (.if_icmp .ge 67, 3) := by decide +kernel
theorem dX6_addUp_29 : decode cX6_addUp 29 = .ok (.iload_n 1, 1) := by decide +kernel
theorem dX6_addUp_30 : decode cX6_addUp 30 = .ok (.bipush 16, 2) := by decide +kernel
theorem dX6_addUp_32 : decode cX6_addUp 32 = .ok (.if_icmp .ge 61, 3) := by decide +kernel
theorem dX6_addUp_35 : decode cX6_addUp 35 = .ok (.aload_n 0, 1) := by decide +kernel
theorem dX6_addUp_36 : decode cX6_addUp 36 = .ok (.getfield 9, 3) := by decide +kernel
theorem dX6_addUp_39 : decode cX6_addUp 39 = .ok (.iload_n 1, 1) := by decide +kernel
theorem dX6_addUp_40 : decode cX6_addUp 40 = .ok (.iaload, 1) := by decide +kernel
theorem dX6_addUp_41 : decode cX6_addUp 41 = .ok (.istore_n 2, 1) := by decide +kernel
theorem dX6_addUp_42 : decode cX6_addUp 42 = .ok (.iload_n 2, 1) := by decide +kernel
theorem dX6_addUp_43 : decode cX6_addUp 43 = .ok (.invokestatic 76, 3) := by decide +kernel
theorem dX6_addUp_46 : decode cX6_addUp 46 = .ok (.ifCond .eq 41, 3) := by decide +kernel
theorem dX6_addUp_49 : decode cX6_addUp 49 = .ok (.aload_n 0, 1) := by decide +kernel
theorem dX6_addUp_50 : decode cX6_addUp 50 = .ok (.getfield 15, 3) := by decide +kernel
theorem dX6_addUp_53 : decode cX6_addUp 53 = .ok (.iload_n 2, 1) := by decide +kernel
theorem dX6_addUp_54 : decode cX6_addUp 54 = .ok (.dup2, 1) := by decide +kernel
theorem dX6_addUp_55 : decode cX6_addUp 55 = .ok (.iaload, 1) := by decide +kernel
theorem dX6_addUp_56 : decode cX6_addUp 56 = .ok (.aload_n 0, 1) := by decide +kernel
theorem dX6_addUp_57 : decode cX6_addUp 57 = .ok (.getfield 39, 3) := by decide +kernel
theorem dX6_addUp_60 : decode cX6_addUp 60 = .ok (.getfield 80, 3) := by decide +kernel
theorem dX6_addUp_63 : decode cX6_addUp 63 = .ok (.iload_n 1, 1) := by decide +kernel
theorem dX6_addUp_64 : decode cX6_addUp 64 = .ok (.iaload, 1) := by decide +kernel
theorem dX6_addUp_65 : decode cX6_addUp 65 = .ok (.iadd, 1) := by decide +kernel
theorem dX6_addUp_66 : decode cX6_addUp 66 = .ok (.iastore, 1) := by decide +kernel
theorem dX6_addUp_67 : decode cX6_addUp 67 = .ok (.aload_n 0, 1) := by decide +kernel
theorem dX6_addUp_68 : decode cX6_addUp 68 = .ok (.getfield 18, 3) := by decide +kernel
theorem dX6_addUp_71 : decode cX6_addUp 71 = .ok (.iload_n 2, 1) := by decide +kernel
theorem dX6_addUp_72 : decode cX6_addUp 72 = .ok (.dup2, 1) := by decide +kernel
theorem dX6_addUp_73 : decode cX6_addUp 73 = .ok (.iaload, 1) := by decide +kernel
theorem dX6_addUp_74 : decode cX6_addUp 74 = .ok (.iconst 1, 1) := by decide +kernel
theorem dX6_addUp_75 : decode cX6_addUp 75 = .ok (.aload_n 0, 1) := by decide +kernel
theorem dX6_addUp_76 : decode cX6_addUp 76 = .ok (.getfield 39, 3) := by decide +kernel
theorem dX6_addUp_79 : decode cX6_addUp 79 = .ok (.getfield 69, 3) := by decide +kernel
theorem dX6_addUp_82 : decode cX6_addUp 82 = .ok (.iload_n 1, 1) := by decide +kernel
theorem dX6_addUp_83 : decode cX6_addUp 83 = .ok (.iaload, 1) := by decide +kernel
theorem dX6_addUp_84 : decode cX6_addUp 84 = .ok (.ishl, 1) := by decide +kernel
theorem dX6_addUp_85 : decode cX6_addUp 85 = .ok (.ior, 1) := by decide +kernel
theorem dX6_addUp_86 : decode cX6_addUp 86 = .ok (.iastore, 1) := by decide +kernel
theorem dX6_addUp_87 : decode cX6_addUp 87 = .ok (.iinc 1 1, 3) := by decide +kernel
theorem dX6_addUp_90 : decode cX6_addUp 90 = .ok (.goto (-72), 3) := by decide +kernel
theorem dX6_addUp_93 : decode cX6_addUp 93 = .ok (.return_, 1) := by decide +kernel
theorem dX7_init_0 : decode cX7_init 0 = .ok (.aload_n 0, 1) := by decide +kernel
theorem dX7_init_1 : decode cX7_init 1 = .ok (.invokespecial 3, 3) := by decide +kernel
theorem dX7_init_4 : decode cX7_init 4 = .ok (.aload_n 0, 1) := by decide +kernel
theorem dX7_init_5 : decode cX7_init 5 = .ok (.sipush 800, 3) := by decide +kernel
theorem dX7_init_8 : decode cX7_init 8 = .ok (.newarray .int, 2) := by decide +kernel
theorem dX7_init_10 : decode cX7_init 10 = .ok (.putfield 11, 3) := by decide +kernel
theorem dX7_init_13 : decode cX7_init 13 = .ok (.aload_n 0, 1) := by decide +kernel
theorem dX7_init_14 : decode cX7_init 14 = .ok (.iconst 0, 1) := by decide +kernel
theorem dX7_init_15 : decode cX7_init 15 = .ok (.putfield 15, 3) := by decide +kernel
theorem dX7_init_18 : decode cX7_init 18 = .ok (.aload_n 0, 1) := by decide +kernel
theorem dX7_init_19 : decode cX7_init 19 = .ok (.iconst 0, 1) := by decide +kernel
theorem dX7_init_20 : decode cX7_init 20 = .ok (.putfield 19, 3) := by decide +kernel
theorem dX7_init_23 : decode cX7_init 23 = .ok (.aload_n 0, 1) := by decide +kernel
theorem dX7_init_24 : decode cX7_init 24 = .ok (.iconst 0, 1) := by decide +kernel
theorem dX7_init_25 : decode cX7_init 25 = .ok (.putfield 22, 3) := by decide +kernel
theorem dX7_init_28 : decode cX7_init 28 = .ok (.aload_n 0, 1) := by decide +kernel
theorem dX7_init_29 : decode cX7_init 29 = .ok (.iconst 0, 1) := by decide +kernel
theorem dX7_init_30 : decode cX7_init 30 = .ok (.putfield 25, 3) := by decide +kernel
theorem dX7_init_33 : decode cX7_init 33 = .ok (.aload_n 0, 1) := by decide +kernel
theorem dX7_init_34 : decode cX7_init 34 = .ok (.iconst 0, 1) := by decide +kernel
theorem dX7_init_35 : decode cX7_init 35 = .ok (.putfield 28, 3) := by decide +kernel
theorem dX7_init_38 : decode cX7_init 38 = .ok (.aload_n 0, 1) := by decide +kernel
theorem dX7_init_39 : decode cX7_init 39 = .ok (.iconst 0, 1) := by decide +kernel
theorem dX7_init_40 : decode cX7_init 40 = .ok (.putfield 31, 3) := by decide +kernel
theorem dX7_init_43 : decode cX7_init 43 = .ok (.aload_n 0, 1) := by decide +kernel
theorem dX7_init_44 : decode cX7_init 44 = .ok (.iconst 0, 1) := by decide +kernel
theorem dX7_init_45 : decode cX7_init 45 = .ok (.putfield 34, 3) := by decide +kernel
theorem dX7_init_48 : decode cX7_init 48 = .ok (.aload_n 0, 1) := by decide +kernel
theorem dX7_init_49 : decode cX7_init 49 = .ok (.aload_n 1, 1) := by decide +kernel
theorem dX7_init_50 : decode cX7_init 50 = .ok (.putfield 37, 3) := by decide +kernel
theorem dX7_init_53 : decode cX7_init 53 = .ok (.return_, 1) := by decide +kernel
theorem dX7_read_0 : decode cX7_read 0 = .ok (.aload_n 0, 1) := by decide +kernel
theorem dX7_read_1 : decode cX7_read 1 = .ok (.iconst 0, 1) := by decide +kernel
theorem dX7_read_2 : decode cX7_read 2 = .ok (.putfield 15, 3) := by decide +kernel
theorem dX7_read_5 : decode cX7_read 5 = .ok (.aload_n 0, 1) := by decide +kernel
theorem dX7_read_6 : decode cX7_read 6 = .ok (.iconst 0, 1) := by decide +kernel
theorem dX7_read_7 : decode cX7_read 7 = .ok (.putfield 19, 3) := by decide +kernel
theorem dX7_read_10 : decode cX7_read 10 = .ok (.aload_n 0, 1) := by decide +kernel
theorem dX7_read_11 : decode cX7_read 11 = .ok (.iconst 0, 1) := by decide +kernel
theorem dX7_read_12 : decode cX7_read 12 = .ok (.putfield 22, 3) := by decide +kernel
theorem dX7_read_15 : decode cX7_read 15 = .ok (.aload_n 0, 1) := by decide +kernel
theorem dX7_read_16 : decode cX7_read 16 = .ok (.iconst 0, 1) := by decide +kernel
theorem dX7_read_17 : decode cX7_read 17 = .ok (.putfield 34, 3) := by decide +kernel
theorem dX7_read_20 : decode cX7_read 20 = .ok (.aload_n 0, 1) := by decide +kernel
theorem dX7_read_21 : decode cX7_read 21 = .ok (.invokevirtual 41, 3) := by decide +kernel
theorem dX7_read_24 : decode cX7_read 24 = .ok (.aload_n 0, 1) := by decide +kernel
theorem dX7_read_25 : decode cX7_read 25 = .ok (.invokevirtual 44, 3) := by decide +kernel
theorem dX7_read_28 : decode cX7_read 28 = .ok (.istore_n 1, 1) := by decide +kernel
theorem dX7_read_29 : decode cX7_read 29 = .ok (.iconst 0, 1) := by decide +kernel
theorem dX7_read_30 : decode cX7_read 30 = .ok (.istore_n 2, 1) := by decide +kernel
theorem dX7_read_31 : decode cX7_read 31 = .ok (.iload_n 2, 1) := by decide +kernel
theorem dX7_read_32 : decode cX7_read 32 = .ok (.bipush 12, 2) := by decide +kernel
theorem dX7_read_34 : decode cX7_read 34 = .ok (.if_icmp .ge 31, 3) := by decide +kernel
theorem dX7_read_37 : decode cX7_read 37 = .ok (.iload_n 1, 1) := by decide +kernel
theorem dX7_read_38 : decode cX7_read 38 = .ok (.ifCond .eq 27, 3) := by decide +kernel
theorem dX7_read_41 : decode cX7_read 41 = .ok (.aload_n 0, 1) := by decide +kernel
theorem dX7_read_42 : decode cX7_read 42 = .ok (.bipush 59, 2) := by decide +kernel
theorem dX7_read_44 : decode cX7_read 44 = .ok (.invokevirtual 48, 3) := by decide +kernel
theorem dX7_read_47 : decode cX7_read 47 = .ok (.ifCond .eq 18, 3) := by decide +kernel
theorem dX7_read_50 : decode cX7_read 50 = .ok (.aload_n 0, 1) := by decide +kernel
theorem dX7_read_51 : decode cX7_read 51 = .ok (.invokevirtual 41, 3) := by decide +kernel
theorem dX7_read_54 : decode cX7_read 54 = .ok (.aload_n 0, 1) := by decide +kernel
theorem dX7_read_55 : decode cX7_read 55 = .ok (.invokevirtual 44, 3) := by decide +kernel
theorem dX7_read_58 : decode cX7_read 58 = .ok (.istore_n 1, 1) := by decide +kernel
theorem dX7_read_59 : decode cX7_read 59 = .ok (.iinc 2 1, 3) := by decide +kernel
theorem dX7_read_62 : decode cX7_read 62 = .ok (.goto (-31), 3) := by decide +kernel
theorem dX7_read_65 : decode cX7_read 65 = .ok (.iload_n 1, 1) := by decide +kernel
theorem dX7_read_66 : decode cX7_read 66 = .ok (.ifCond .eq 24, 3) := by decide +kernel
theorem dX7_read_69 : decode cX7_read 69 = .ok (.aload_n 0, 1) := by decide +kernel
theorem dX7_read_70 : decode cX7_read 70 = .ok (.getfield 25, 3) := by decide +kernel
theorem dX7_read_73 : decode cX7_read 73 = .ok (.ifCond .ne 17, 3) := by decide +kernel
theorem dX7_read_76 : decode cX7_read 76 = .ok (.aload_n 0, 1) := by decide +kernel
theorem dX7_read_77 : decode cX7_read 77 = .ok (.getfield 11, 3) := by decide +kernel
theorem dX7_read_80 : decode cX7_read 80 = .ok (.aload_n 0, 1) := by decide +kernel
theorem dX7_read_81 : decode cX7_read 81 = .ok (.getfield 15, 3) := by decide +kernel
theorem dX7_read_84 : decode cX7_read 84 = .ok (.invokestatic 52, 3) := by decide +kernel
theorem dX7_read_87 : decode cX7_read 87 = .ok (.goto 4, 3) := by decide +kernel
theorem dX7_read_90 : decode cX7_read 90 = .ok (.aconst_null, 1) := by decide +kernel
theorem dX7_read_91 : decode cX7_read 91 = .ok (.areturn, 1) := by decide +kernel
theorem dX7_readClause_0 : decode cX7_readClause 0 = .ok (.aload_n 0, 1) := by decide +kernel
theorem dX7_readClause_1 : decode cX7_readClause 1 = .ok (.invokevirtual 58, 3) := by decide +kernel
theorem dX7_readClause_4 : decode cX7_readClause 4 = .ok (.istore_n 1, 1) := by decide +kernel
theorem dX7_readClause_5 : decode cX7_readClause 5 = .ok (.iload_n 1, 1) := by decide +kernel
theorem dX7_readClause_6 : decode cX7_readClause 6 = .ok (.iconst (-1), 1) := by decide +kernel
theorem dX7_readClause_7 : decode cX7_readClause 7 = .ok (.if_icmp .eq 12, 3) := by decide +kernel
theorem dX7_readClause_10 : decode cX7_readClause 10 = .ok (.aload_n 0, 1) := by decide +kernel
theorem dX7_readClause_11 : decode cX7_readClause 11 = .ok (.getfield 22, 3) := by decide +kernel
theorem dX7_readClause_14 : decode cX7_readClause 14 = .ok (.bipush 12, 2) := by decide +kernel
theorem dX7_readClause_16 : decode cX7_readClause 16 = .ok (.if_icmp .lt 5, 3) := by decide +kernel
theorem dX7_readClause_19 : decode cX7_readClause 19 = .ok (.iconst 0, 1) := by decide +kernel
theorem dX7_readClause_20 : decode cX7_readClause 20 = .ok (.ireturn, 1) := by decide +kernel
theorem dX7_readClause_21 : decode cX7_readClause 21 = .ok (.aload_n 0, 1) := by decide +kernel
theorem dX7_readClause_22 : decode cX7_readClause 22 = .ok (.dup, 1) := by decide +kernel
theorem dX7_readClause_23 : decode cX7_readClause 23 = .ok (.getfield 22, 3) := by decide +kernel
theorem dX7_readClause_26 : decode cX7_readClause 26 = .ok (.iconst 1, 1) := by decide +kernel
theorem dX7_readClause_27 : decode cX7_readClause 27 = .ok (.iadd, 1) := by decide +kernel
theorem dX7_readClause_28 : decode cX7_readClause 28 = .ok (.putfield 22, 3) := by decide +kernel
theorem dX7_readClause_31 : decode cX7_readClause 31 = .ok (.aload_n 0, 1) := by decide +kernel
theorem dX7_readClause_32 : decode cX7_readClause 32 = .ok (.iload_n 1, 1) := by decide +kernel
theorem dX7_readClause_33 : decode cX7_readClause 33 = .ok (.iconst 0, 1) := by decide +kernel
theorem dX7_readClause_34 : decode cX7_readClause 34 = .ok (.invokevirtual 62, 3) := by decide +kernel
theorem dX7_readClause_37 : decode cX7_readClause 37 = .ok (.istore_n 2, 1) := by decide +kernel
theorem dX7_readClause_38 : decode cX7_readClause 38 = .ok (.aload_n 0, 1) := by decide +kernel
theorem dX7_readClause_39 : decode cX7_readClause 39 = .ok (.invokevirtual 41, 3) := by decide +kernel
theorem dX7_readClause_42 : decode cX7_readClause 42 = .ok (.iload_n 1, 1) := by decide +kernel
theorem dX7_readClause_43 : decode cX7_readClause 43 = .ok (.iconst 1, 1) := by decide +kernel
theorem dX7_readClause_44 : decode cX7_readClause 44 = .ok (.if_icmp .ne 13, 3) := by decide +kernel
theorem dX7_readClause_47 : decode cX7_readClause 47 = .ok (.aload_n 0, 1) := by decide +kernel
theorem dX7_readClause_48 : decode cX7_readClause 48 = .ok (.iconst 0, 1) := by decide +kernel
theorem dX7_readClause_49 : decode cX7_readClause 49 = .ok (.invokevirtual 66, 3) := by decide +kernel
theorem dX7_readClause_52 : decode cX7_readClause 52 = .ok (.ifCond .ne 5, 3) := by decide +kernel
theorem dX7_readClause_55 : decode cX7_readClause 55 = .ok (.iconst 0, 1) := by decide +kernel
theorem dX7_readClause_56 : decode cX7_readClause 56 = .ok (.ireturn, 1) := by decide +kernel
theorem dX7_readClause_57 : decode cX7_readClause 57 = .ok (.aload_n 0, 1) := by decide +kernel
theorem dX7_readClause_58 : decode cX7_readClause 58 = .ok (.ldc 70, 2) := by decide +kernel
theorem dX7_readClause_60 : decode cX7_readClause 60 = .ok (.invokevirtual 72, 3) := by decide +kernel
theorem dX7_readClause_63 : decode cX7_readClause 63 = .ok (.ifCond .eq 17, 3) := by decide +kernel
theorem dX7_readClause_66 : decode cX7_readClause 66 = .ok (.aload_n 0, 1) := by decide +kernel
theorem dX7_readClause_67 : decode cX7_readClause 67 = .ok (.invokevirtual 41, 3) := by decide +kernel
theorem dX7_readClause_70 : decode cX7_readClause 70 = .ok (.aload_n 0, 1) := by decide +kernel
theorem dX7_readClause_71 : decode cX7_readClause 71 = .ok (.iconst 0, 1) := by decide +kernel
theorem dX7_readClause_72 : decode cX7_readClause 72 = .ok (.invokevirtual 76, 3) := by decide +kernel
theorem dX7_readClause_75 : decode cX7_readClause 75 = .ok (.ifCond .ne 12, 3) := by decide +kernel
theorem dX7_readClause_78 : decode cX7_readClause 78 = .ok (.iconst 0, 1) := by decide +kernel
theorem dX7_readClause_79 : decode cX7_readClause 79 = .ok (.ireturn, 1) := by decide +kernel
theorem dX7_readClause_80 : decode cX7_readClause 80 = .ok (.aload_n 0, 1) := by decide +kernel
theorem dX7_readClause_81 : decode cX7_readClause 81 = .ok (.iconst 4, 1) := by decide +kernel
theorem dX7_readClause_82 : decode cX7_readClause 82 = .ok (.iconst 1, 1) := by decide +kernel
theorem dX7_readClause_83 : decode cX7_readClause 83 = .ok (.invokevirtual 62, 3) := by decide +kernel
theorem dX7_readClause_86 : decode cX7_readClause 86 = .ok (.pop, 1) := by decide +kernel
theorem dX7_readClause_87 : decode cX7_readClause 87 = .ok (.aload_n 0, 1) := by decide +kernel
theorem dX7_readClause_88 : decode cX7_readClause 88 = .ok (.iload_n 2, 1) := by decide +kernel
theorem dX7_readClause_89 : decode cX7_readClause 89 = .ok (.invokevirtual 79, 3) := by decide +kernel
theorem dX7_readClause_92 : decode cX7_readClause 92 = .ok (.iconst 1, 1) := by decide +kernel
theorem dX7_readClause_93 : decode cX7_readClause 93 = .ok (.ireturn, 1) := by decide +kernel
theorem dX7_clauseKind_0 : decode cX7_clauseKind 0 = .ok (.aload_n 0, 1) := by decide +kernel
theorem dX7_clauseKind_1 : decode cX7_clauseKind 1 = .ok (.ldc 83, 2) := by decide +kernel
theorem dX7_clauseKind_3 : decode cX7_clauseKind 3 = .ok (.invokevirtual 72, 3) := by decide +kernel
theorem dX7_clauseKind_6 : decode cX7_clauseKind 6 = .ok (.ifCond .eq 5, 3) := by decide +kernel
theorem dX7_clauseKind_9 : decode cX7_clauseKind 9 = .ok (.iconst 1, 1) := by decide +kernel
theorem dX7_clauseKind_10 : decode cX7_clauseKind 10 = .ok (.ireturn, 1) := by decide +kernel
theorem dX7_clauseKind_11 : decode cX7_clauseKind 11 = .ok (.aload_n 0, 1) := by decide +kernel
theorem dX7_clauseKind_12 : decode cX7_clauseKind 12 = .ok (.ldc 85, 2) := by decide +kernel
theorem dX7_clauseKind_14 : decode cX7_clauseKind 14 = .ok (.invokevirtual 72, 3) := by decide +kernel
theorem dX7_clauseKind_17 : decode cX7_clauseKind 17 = .ok (.ifCond .eq 5, 3) := by decide +kernel
theorem dX7_clauseKind_20 : decode cX7_clauseKind 20 = .ok (.iconst 2, 1) := by decide +kernel
theorem dX7_clauseKind_21 : decode cX7_clauseKind 21 = .ok (.ireturn, 1) := by decide +kernel
theorem dX7_clauseKind_22 : decode cX7_clauseKind 22 = .ok (.aload_n 0, 1) := by decide +kernel
theorem dX7_clauseKind_23 : decode cX7_clauseKind 23 = .ok (.ldc 87, 2) := by decide +kernel
theorem dX7_clauseKind_25 : decode cX7_clauseKind 25 = .ok (.invokevirtual 72, 3) := by decide +kernel
theorem dX7_clauseKind_28 : decode cX7_clauseKind 28 = .ok (.ifCond .eq 7, 3) := by decide +kernel
theorem dX7_clauseKind_31 : decode cX7_clauseKind 31 = .ok (.iconst 3, 1) := by decide +kernel
theorem dX7_clauseKind_32 : decode cX7_clauseKind 32 = .ok (.goto 4, 3) := by decide +kernel
theorem dX7_clauseKind_35 : decode cX7_clauseKind 35 = .ok (.iconst (-1), 1) := by decide +kernel
theorem dX7_clauseKind_36 : decode cX7_clauseKind 36 = .ok (.ireturn, 1) := by decide +kernel
theorem dX7_readTest_0 : decode cX7_readTest 0 = .ok (.aload_n 0, 1) := by decide +kernel
theorem dX7_readTest_1 : decode cX7_readTest 1 = .ok (.iload_n 1, 1) := by decide +kernel
theorem dX7_readTest_2 : decode cX7_readTest 2 = .ok (.invokevirtual 89, 3) := by decide +kernel
theorem dX7_readTest_5 : decode cX7_readTest 5 = .ok (.istore_n 2, 1) := by decide +kernel
theorem dX7_readTest_6 : decode cX7_readTest 6 = .ok (.iconst 0, 1) := by decide +kernel
theorem dX7_readTest_7 : decode cX7_readTest 7 = .ok (.istore_n 3, 1) := by decide +kernel
theorem dX7_readTest_8 : decode cX7_readTest 8 = .ok (.iload_n 3, 1) := by decide +kernel
theorem dX7_readTest_9 : decode cX7_readTest 9 = .ok (.sipush 400, 3) := by decide +kernel
theorem dX7_readTest_12 : decode cX7_readTest 12 = .ok (.if_icmp .ge 47, 3) := by decide +kernel
theorem dX7_readTest_15 : decode cX7_readTest 15 = .ok (.iload_n 2, 1) := by decide +kernel
theorem dX7_readTest_16 : decode cX7_readTest 16 = .ok (.ifCond .eq 43, 3) := by decide +kernel
theorem dX7_readTest_19 : decode cX7_readTest 19 = .ok (.aload_n 0, 1) := by decide +kernel
theorem dX7_readTest_20 : decode cX7_readTest 20 = .ok (.ldc 92, 2) := by decide +kernel
theorem dX7_readTest_22 : decode cX7_readTest 22 = .ok (.invokevirtual 72, 3) := by decide +kernel
theorem dX7_readTest_25 : decode cX7_readTest 25 = .ok (.ifCond .eq 34, 3) := by decide +kernel
theorem dX7_readTest_28 : decode cX7_readTest 28 = .ok (.aload_n 0, 1) := by decide +kernel
theorem dX7_readTest_29 : decode cX7_readTest 29 = .ok (.bipush 14, 2) := by decide +kernel
theorem dX7_readTest_31 : decode cX7_readTest 31 = .ok (.iconst 0, 1) := by decide +kernel
theorem dX7_readTest_32 : decode cX7_readTest 32 = .ok (.invokevirtual 62, 3) := by decide +kernel
theorem dX7_readTest_35 : decode cX7_readTest 35 = .ok (.istore 4, 2) := by decide +kernel
theorem dX7_readTest_37 : decode cX7_readTest 37 = .ok (.aload_n 0, 1) := by decide +kernel
theorem dX7_readTest_38 : decode cX7_readTest 38 = .ok (.invokevirtual 41, 3) := by decide +kernel
theorem dX7_readTest_41 : decode cX7_readTest 41 = .ok (.aload_n 0, 1) := by decide +kernel
theorem dX7_readTest_42 : decode cX7_readTest 42 = .ok (.iload_n 1, 1) := by decide +kernel
theorem dX7_readTest_43 : decode cX7_readTest 43 = .ok (.invokevirtual 89, 3) := by decide +kernel
theorem dX7_readTest_46 : decode cX7_readTest 46 = .ok (.istore_n 2, 1) := by decide +kernel
theorem dX7_readTest_47 : decode cX7_readTest 47 = .ok (.aload_n 0, 1) := by decide +kernel
theorem dX7_readTest_48 : decode cX7_readTest 48 = .ok (.iload 4, 2) := by decide +kernel
theorem dX7_readTest_50 : decode cX7_readTest 50 = .ok (.invokevirtual 79, 3) := by decide +kernel
theorem dX7_readTest_53 : decode cX7_readTest 53 = .ok (.iinc 3 1, 3) := by decide +kernel
theorem dX7_readTest_56 : decode cX7_readTest 56 = .ok (.goto (-48), 3) := by decide +kernel
theorem dX7_readTest_59 : decode cX7_readTest 59 = .ok (.iload_n 2, 1) := by decide +kernel
theorem dX7_readTest_60 : decode cX7_readTest 60 = .ok (.ireturn, 1) := by decide +kernel
theorem dX7_readBoth_0 : decode cX7_readBoth 0 = .ok (.aload_n 0, 1) := by decide +kernel
theorem dX7_readBoth_1 : decode cX7_readBoth 1 = .ok (.iload_n 1, 1) := by decide +kernel
theorem dX7_readBoth_2 : decode cX7_readBoth 2 = .ok (.invokevirtual 94, 3) := by decide +kernel
theorem dX7_readBoth_5 : decode cX7_readBoth 5 = .ok (.istore_n 2, 1) := by decide +kernel
theorem dX7_readBoth_6 : decode cX7_readBoth 6 = .ok (.iconst 0, 1) := by decide +kernel
theorem dX7_readBoth_7 : decode cX7_readBoth 7 = .ok (.istore_n 3, 1) := by decide +kernel
theorem dX7_readBoth_8 : decode cX7_readBoth 8 = .ok (.iload_n 3, 1) := by decide +kernel
theorem dX7_readBoth_9 : decode cX7_readBoth 9 = .ok (.sipush 400, 3) := by decide +kernel
theorem dX7_readBoth_12 : decode cX7_readBoth 12 = .ok (.if_icmp .ge 47, 3) := by decide +kernel
theorem dX7_readBoth_15 : decode cX7_readBoth 15 = .ok (.iload_n 2, 1) := by decide +kernel
theorem dX7_readBoth_16 : decode cX7_readBoth 16 = .ok (.ifCond .eq 43, 3) := by decide +kernel
theorem dX7_readBoth_19 : decode cX7_readBoth 19 = .ok (.aload_n 0, 1) := by decide +kernel
theorem dX7_readBoth_20 : decode cX7_readBoth 20 = .ok (.ldc 97, 2) := by decide +kernel
theorem dX7_readBoth_22 : decode cX7_readBoth 22 = .ok (.invokevirtual 72, 3) := by decide +kernel
theorem dX7_readBoth_25 : decode cX7_readBoth 25 = .ok (.ifCond .eq 34, 3) := by decide +kernel
theorem dX7_readBoth_28 : decode cX7_readBoth 28 = .ok (.aload_n 0, 1) := by decide +kernel
theorem dX7_readBoth_29 : decode cX7_readBoth 29 = .ok (.bipush 15, 2) := by decide +kernel
theorem dX7_readBoth_31 : decode cX7_readBoth 31 = .ok (.iconst 0, 1) := by decide +kernel
theorem dX7_readBoth_32 : decode cX7_readBoth 32 = .ok (.invokevirtual 62, 3) := by decide +kernel
theorem dX7_readBoth_35 : decode cX7_readBoth 35 = .ok (.istore 4, 2) := by decide +kernel
theorem dX7_readBoth_37 : decode cX7_readBoth 37 = .ok (.aload_n 0, 1) := by decide +kernel
theorem dX7_readBoth_38 : decode cX7_readBoth 38 = .ok (.invokevirtual 41, 3) := by decide +kernel
theorem dX7_readBoth_41 : decode cX7_readBoth 41 = .ok (.aload_n 0, 1) := by decide +kernel
theorem dX7_readBoth_42 : decode cX7_readBoth 42 = .ok (.iload_n 1, 1) := by decide +kernel
theorem dX7_readBoth_43 : decode cX7_readBoth 43 = .ok (.invokevirtual 94, 3) := by decide +kernel
theorem dX7_readBoth_46 : decode cX7_readBoth 46 = .ok (.istore_n 2, 1) := by decide +kernel
theorem dX7_readBoth_47 : decode cX7_readBoth 47 = .ok (.aload_n 0, 1) := by decide +kernel
theorem dX7_readBoth_48 : decode cX7_readBoth 48 = .ok (.iload 4, 2) := by decide +kernel
theorem dX7_readBoth_50 : decode cX7_readBoth 50 = .ok (.invokevirtual 79, 3) := by decide +kernel
theorem dX7_readBoth_53 : decode cX7_readBoth 53 = .ok (.iinc 3 1, 3) := by decide +kernel
theorem dX7_readBoth_56 : decode cX7_readBoth 56 = .ok (.goto (-48), 3) := by decide +kernel
theorem dX7_readBoth_59 : decode cX7_readBoth 59 = .ok (.iload_n 2, 1) := by decide +kernel
theorem dX7_readBoth_60 : decode cX7_readBoth 60 = .ok (.ireturn, 1) := by decide +kernel
theorem dX7_readPlain_0 : decode cX7_readPlain 0 = .ok (.iconst 0, 1) := by decide +kernel
theorem dX7_readPlain_1 : decode cX7_readPlain 1 = .ok (.istore_n 2, 1) := by decide +kernel
theorem dX7_readPlain_2 : decode cX7_readPlain 2 = .ok (.iconst 0, 1) := by decide +kernel
theorem dX7_readPlain_3 : decode cX7_readPlain 3 = .ok (.istore_n 3, 1) := by decide +kernel
theorem dX7_readPlain_4 : decode cX7_readPlain 4 = .ok (.iload_n 3, 1) := by decide +kernel
theorem dX7_readPlain_5 : decode cX7_readPlain 5 = .ok (.sipush 400, 3) := by decide +kernel
theorem dX7_readPlain_8 : decode cX7_readPlain 8 = .ok (.if_icmp .ge 32, 3) := by decide +kernel
theorem dX7_readPlain_11 : decode cX7_readPlain 11 = .ok (.aload_n 0, 1) := by decide +kernel
theorem dX7_readPlain_12 : decode cX7_readPlain 12 = .ok (.ldc 99, 2) := by decide +kernel
theorem dX7_readPlain_14 : decode cX7_readPlain 14 = .ok (.invokevirtual 72, 3) := by decide +kernel
theorem dX7_readPlain_17 : decode cX7_readPlain 17 = .ok (.ifCond .eq 23, 3) := by decide +kernel
theorem dX7_readPlain_20 : decode cX7_readPlain 20 = .ok (.iload_n 2, 1) := by decide +kernel
theorem dX7_readPlain_21 : decode cX7_readPlain 21 = .ok (.ifCond .ne 7, 3) := by decide +kernel
theorem dX7_readPlain_24 : decode cX7_readPlain 24 = .ok (.iconst 1, 1) := by decide +kernel
theorem dX7_readPlain_25 : decode cX7_readPlain 25 = .ok (.goto 4, 3) := by decide +kernel
theorem dX7_readPlain_28 : decode cX7_readPlain 28 = .ok (.iconst 0, 1) := by decide +kernel
theorem dX7_readPlain_29 : decode cX7_readPlain 29 = .ok (.istore_n 2, 1) := by decide +kernel
theorem dX7_readPlain_30 : decode cX7_readPlain 30 = .ok (.aload_n 0, 1) := by decide +kernel
theorem dX7_readPlain_31 : decode cX7_readPlain 31 = .ok (.invokevirtual 41, 3) := by decide +kernel
theorem dX7_readPlain_34 : decode cX7_readPlain 34 = .ok (.iinc 3 1, 3) := by decide +kernel
theorem dX7_readPlain_37 : decode cX7_readPlain 37 = .ok (.goto (-33), 3) := by decide +kernel
theorem dX7_readPlain_40 : decode cX7_readPlain 40 = .ok (.aload_n 0, 1) := by decide +kernel
theorem dX7_readPlain_41 : decode cX7_readPlain 41 = .ok (.bipush 40, 2) := by decide +kernel
theorem dX7_readPlain_43 : decode cX7_readPlain 43 = .ok (.invokevirtual 48, 3) := by decide +kernel
theorem dX7_readPlain_46 : decode cX7_readPlain 46 = .ok (.ifCond .eq 13, 3) := by decide +kernel
theorem dX7_readPlain_49 : decode cX7_readPlain 49 = .ok (.aload_n 0, 1) := by decide +kernel
theorem dX7_readPlain_50 : decode cX7_readPlain 50 = .ok (.iload_n 1, 1) := by decide +kernel
theorem dX7_readPlain_51 : decode cX7_readPlain 51 = .ok (.bipush 41, 2) := by decide +kernel
theorem dX7_readPlain_53 : decode cX7_readPlain 53 = .ok (.invokevirtual 101, 3) := by decide +kernel
theorem dX7_readPlain_56 : decode cX7_readPlain 56 = .ok (.goto 8, 3) := by decide +kernel
theorem dX7_readPlain_59 : decode cX7_readPlain 59 = .ok (.aload_n 0, 1) := by decide +kernel
theorem dX7_readPlain_60 : decode cX7_readPlain 60 = .ok (.iload_n 1, 1) := by decide +kernel
theorem dX7_readPlain_61 : decode cX7_readPlain 61 = .ok (.invokevirtual 105, 3) := by decide +kernel
theorem dX7_readPlain_64 : decode cX7_readPlain 64 = .ok (.istore_n 3, 1) := by decide +kernel
theorem dX7_readPlain_65 : decode cX7_readPlain 65 = .ok (.iload_n 2, 1) := by decide +kernel
theorem dX7_readPlain_66 : decode cX7_readPlain 66 = .ok (.ifCond .eq 11, 3) := by decide +kernel
theorem dX7_readPlain_69 : decode cX7_readPlain 69 = .ok (.aload_n 0, 1) := by decide +kernel
theorem dX7_readPlain_70 : decode cX7_readPlain 70 = .ok (.bipush 13, 2) := by decide +kernel
theorem dX7_readPlain_72 : decode cX7_readPlain 72 = .ok (.iconst 0, 1) := by decide +kernel
theorem dX7_readPlain_73 : decode cX7_readPlain 73 = .ok (.invokevirtual 62, 3) := by decide +kernel
theorem dX7_readPlain_76 : decode cX7_readPlain 76 = .ok (.pop, 1) := by decide +kernel
theorem dX7_readPlain_77 : decode cX7_readPlain 77 = .ok (.iload_n 3, 1) := by decide +kernel
theorem dX7_readPlain_78 : decode cX7_readPlain 78 = .ok (.ireturn, 1) := by decide +kernel
theorem dX7_readComparison_0 : decode cX7_readComparison 0 = .ok (.aload_n 0, 1) := by decide +kernel
theorem dX7_readComparison_1 : decode cX7_readComparison 1 = .ok (.iload_n 1, 1) := by decide +kernel
theorem dX7_readComparison_2 : decode cX7_readComparison 2 = .ok (.invokevirtual 66, 3) := by decide +kernel
theorem dX7_readComparison_5 : decode cX7_readComparison 5 = .ok (.ifCond .ne 5, 3) := by decide +kernel
theorem dX7_readComparison_8 : decode cX7_readComparison 8 = .ok (.iconst 0, 1) := by decide +kernel
theorem dX7_readComparison_9 : decode cX7_readComparison 9 = .ok (.ireturn, 1) := by decide +kernel
theorem dX7_readComparison_10 : decode cX7_readComparison 10 = .ok (.aload_n 0, 1) := by decide +kernel
theorem dX7_readComparison_11 : decode cX7_readComparison 11 = .ok (.bipush 60, 2) := by decide +kernel
theorem dX7_readComparison_13 : decode cX7_readComparison 13 = .ok (.invokevirtual 48, 3) := by decide +kernel
theorem dX7_readComparison_16 : decode cX7_readComparison 16 = .ok (.ifCond .eq 8, 3) := by decide +kernel
theorem dX7_readComparison_19 : decode cX7_readComparison 19 = .ok (.bipush 10, 2) := by decide +kernel
theorem dX7_readComparison_21 : decode cX7_readComparison 21 = .ok (.goto 32, 3) := by decide +kernel
theorem dX7_readComparison_24 : decode cX7_readComparison 24 = .ok (.aload_n 0, 1) := by decide +kernel
theorem dX7_readComparison_25 : decode cX7_readComparison 25 = .ok (.bipush 62, 2) := by decide +kernel
theorem dX7_readComparison_27 : decode cX7_readComparison 27 = .ok (.invokevirtual 48, 3) := by decide +kernel
theorem dX7_readComparison_30 : decode cX7_readComparison 30 = .ok (.ifCond .eq 8, 3) := by decide +kernel
theorem dX7_readComparison_33 : decode cX7_readComparison 33 = .ok (.bipush 11, 2) := by decide +kernel
theorem dX7_readComparison_35 : decode cX7_readComparison 35 = .ok (.goto 18, 3) := by decide +kernel
theorem dX7_readComparison_38 : decode cX7_readComparison 38 = .ok (.aload_n 0, 1) := by decide +kernel
theorem dX7_readComparison_39 : decode cX7_readComparison 39 = .ok (.bipush 61, 2) := by decide +kernel
theorem dX7_readComparison_41 : decode cX7_readComparison 41 = .ok (.invokevirtual 48, 3) := by decide +kernel
theorem dX7_readComparison_44 : decode cX7_readComparison 44 = .ok (.ifCond .eq 8, 3) := by decide +kernel
theorem dX7_readComparison_47 : decode cX7_readComparison 47 = .ok (.bipush 12, 2) := by decide +kernel
theorem dX7_readComparison_49 : decode cX7_readComparison 49 = .ok (.goto 4, 3) := by decide +kernel
theorem dX7_readComparison_52 : decode cX7_readComparison 52 = .ok (.iconst (-1), 1) := by decide +kernel
theorem dX7_readComparison_53 : decode cX7_readComparison 53 = .ok (.istore_n 2, 1) := by decide +kernel
theorem dX7_readComparison_54 : decode cX7_readComparison 54 = .ok (.iload_n 2, 1) := by decide +kernel
theorem dX7_readComparison_55 : decode cX7_readComparison 55 = .ok (.iconst (-1), 1) := by decide +kernel
theorem dX7_readComparison_56 : decode cX7_readComparison 56 = .ok (.if_icmp .ne 5, 3) := by decide +kernel
theorem dX7_readComparison_59 : decode cX7_readComparison 59 = .ok (.iconst 0, 1) := by decide +kernel
theorem dX7_readComparison_60 : decode cX7_readComparison 60 = .ok (.ireturn, 1) := by decide +kernel
theorem dX7_readComparison_61 : decode cX7_readComparison 61 = .ok (.aload_n 0, 1) := by decide +kernel
theorem dX7_readComparison_62 : decode cX7_readComparison 62 = .ok (.invokevirtual 41, 3) := by decide +kernel
theorem dX7_readComparison_65 : decode cX7_readComparison 65 = .ok (.aload_n 0, 1) := by decide +kernel
theorem dX7_readComparison_66 : decode cX7_readComparison 66 = .ok (.iload_n 1, 1) := by decide +kernel
theorem dX7_readComparison_67 : decode cX7_readComparison 67 = .ok (.invokevirtual 66, 3) := by decide +kernel
theorem dX7_readComparison_70 : decode cX7_readComparison 70 = .ok (.istore_n 3, 1) := by decide +kernel
theorem dX7_readComparison_71 : decode cX7_readComparison 71 = .ok (.aload_n 0, 1) := by decide +kernel
theorem dX7_readComparison_72 : decode cX7_readComparison 72 = .ok (.iload_n 2, 1) := by decide +kernel
theorem dX7_readComparison_73 : decode cX7_readComparison 73 = .ok (.iconst 0, 1) := by decide +kernel
theorem dX7_readComparison_74 : decode cX7_readComparison 74 = .ok (.invokevirtual 62, 3) := by decide +kernel
theorem dX7_readComparison_77 : decode cX7_readComparison 77 = .ok (.pop, 1) := by decide +kernel
theorem dX7_readComparison_78 : decode cX7_readComparison 78 = .ok (.iload_n 3, 1) := by decide +kernel
theorem dX7_readComparison_79 : decode cX7_readComparison 79 = .ok (.ireturn, 1) := by decide +kernel
theorem dX7_readSum_0 : decode cX7_readSum 0 = .ok (.aload_n 0, 1) := by decide +kernel
theorem dX7_readSum_1 : decode cX7_readSum 1 = .ok (.iload_n 1, 1) := by decide +kernel
theorem dX7_readSum_2 : decode cX7_readSum 2 = .ok (.invokevirtual 108, 3) := by decide +kernel
theorem dX7_readSum_5 : decode cX7_readSum 5 = .ok (.istore_n 2, 1) := by decide +kernel
theorem dX7_readSum_6 : decode cX7_readSum 6 = .ok (.iconst 0, 1) := by decide +kernel
theorem dX7_readSum_7 : decode cX7_readSum 7 = .ok (.istore_n 3, 1) := by decide +kernel
theorem dX7_readSum_8 : decode cX7_readSum 8 = .ok (.iload_n 3, 1) := by decide +kernel
theorem dX7_readSum_9 : decode cX7_readSum 9 = .ok (.sipush 400, 3) := by decide +kernel
theorem dX7_readSum_12 : decode cX7_readSum 12 = .ok (.if_icmp .ge 67, 3) := by decide +kernel
theorem dX7_readSum_15 : decode cX7_readSum 15 = .ok (.iload_n 2, 1) := by decide +kernel
theorem dX7_readSum_16 : decode cX7_readSum 16 = .ok (.ifCond .eq 63, 3) := by decide +kernel
theorem dX7_readSum_19 : decode cX7_readSum 19 = .ok (.aload_n 0, 1) := by decide +kernel
theorem dX7_readSum_20 : decode cX7_readSum 20 = .ok (.bipush 43, 2) := by decide +kernel
theorem dX7_readSum_22 : decode cX7_readSum 22 = .ok (.invokevirtual 48, 3) := by decide +kernel
theorem dX7_readSum_25 : decode cX7_readSum 25 = .ok (.ifCond .ne 12, 3) := by decide +kernel
theorem dX7_readSum_28 : decode cX7_readSum 28 = .ok (.aload_n 0, 1) := by decide +kernel
theorem dX7_readSum_29 : decode cX7_readSum 29 = .ok (.bipush 45, 2) := by decide +kernel
theorem dX7_readSum_31 : decode cX7_readSum 31 = .ok (.invokevirtual 48, 3) := by decide +kernel
theorem dX7_readSum_34 : decode cX7_readSum 34 = .ok (.ifCond .eq 45, 3) := by decide +kernel
theorem dX7_readSum_37 : decode cX7_readSum 37 = .ok (.aload_n 0, 1) := by decide +kernel
theorem dX7_readSum_38 : decode cX7_readSum 38 = .ok (.bipush 43, 2) := by decide +kernel
theorem dX7_readSum_40 : decode cX7_readSum 40 = .ok (.invokevirtual 48, 3) := by decide +kernel
theorem dX7_readSum_43 : decode cX7_readSum 43 = .ok (.ifCond .eq 8, 3) := by decide +kernel
theorem dX7_readSum_46 : decode cX7_readSum 46 = .ok (.bipush 6, 2) := by decide +kernel
theorem dX7_readSum_48 : decode cX7_readSum 48 = .ok (.goto 5, 3) := by decide +kernel
theorem dX7_readSum_51 : decode cX7_readSum 51 = .ok (.bipush 7, 2) := by decide +kernel
theorem dX7_readSum_53 : decode cX7_readSum 53 = .ok (.istore 4, 2) := by decide +kernel
theorem dX7_readSum_55 : decode cX7_readSum 55 = .ok (.aload_n 0, 1) := by decide +kernel
theorem dX7_readSum_56 : decode cX7_readSum 56 = .ok (.invokevirtual 41, 3) := by decide +kernel
theorem dX7_readSum_59 : decode cX7_readSum 59 = .ok (.aload_n 0, 1) := by decide +kernel
theorem dX7_readSum_60 : decode cX7_readSum 60 = .ok (.iload_n 1, 1) := by decide +kernel
theorem dX7_readSum_61 : decode cX7_readSum 61 = .ok (.invokevirtual 108, 3) := by decide +kernel
theorem dX7_readSum_64 : decode cX7_readSum 64 = .ok (.istore_n 2, 1) := by decide +kernel
theorem dX7_readSum_65 : decode cX7_readSum 65 = .ok (.aload_n 0, 1) := by decide +kernel
theorem dX7_readSum_66 : decode cX7_readSum 66 = .ok (.iload 4, 2) := by decide +kernel
theorem dX7_readSum_68 : decode cX7_readSum 68 = .ok (.iconst 0, 1) := by decide +kernel
theorem dX7_readSum_69 : decode cX7_readSum 69 = .ok (.invokevirtual 62, 3) := by decide +kernel
theorem dX7_readSum_72 : decode cX7_readSum 72 = .ok (.pop, 1) := by decide +kernel
theorem dX7_readSum_73 : decode cX7_readSum 73 = .ok (.iinc 3 1, 3) := by decide +kernel
theorem dX7_readSum_76 : decode cX7_readSum 76 = .ok (.goto (-68), 3) := by decide +kernel
theorem dX7_readSum_79 : decode cX7_readSum 79 = .ok (.iload_n 2, 1) := by decide +kernel
theorem dX7_readSum_80 : decode cX7_readSum 80 = .ok (.ireturn, 1) := by decide +kernel
theorem dX7_readTerm_0 : decode cX7_readTerm 0 = .ok (.aload_n 0, 1) := by decide +kernel
theorem dX7_readTerm_1 : decode cX7_readTerm 1 = .ok (.iload_n 1, 1) := by decide +kernel
theorem dX7_readTerm_2 : decode cX7_readTerm 2 = .ok (.invokevirtual 111, 3) := by decide +kernel
theorem dX7_readTerm_5 : decode cX7_readTerm 5 = .ok (.istore_n 2, 1) := by decide +kernel
theorem dX7_readTerm_6 : decode cX7_readTerm 6 = .ok (.iconst 0, 1) := by decide +kernel
theorem dX7_readTerm_7 : decode cX7_readTerm 7 = .ok (.istore_n 3, 1) := by decide +kernel
theorem dX7_readTerm_8 : decode cX7_readTerm 8 = .ok (.iload_n 3, 1) := by decide +kernel
theorem dX7_readTerm_9 : decode cX7_readTerm 9 = .ok (.sipush 400, 3) := by decide +kernel
theorem dX7_readTerm_12 : decode cX7_readTerm 12 = .ok (.if_icmp .ge 67, 3) := by decide +kernel
theorem dX7_readTerm_15 : decode cX7_readTerm 15 = .ok (.iload_n 2, 1) := by decide +kernel
theorem dX7_readTerm_16 : decode cX7_readTerm 16 = .ok (.ifCond .eq 63, 3) := by decide +kernel
theorem dX7_readTerm_19 : decode cX7_readTerm 19 = .ok (.aload_n 0, 1) := by decide +kernel
theorem dX7_readTerm_20 : decode cX7_readTerm 20 = .ok (.bipush 42, 2) := by decide +kernel
theorem dX7_readTerm_22 : decode cX7_readTerm 22 = .ok (.invokevirtual 48, 3) := by decide +kernel
theorem dX7_readTerm_25 : decode cX7_readTerm 25 = .ok (.ifCond .ne 12, 3) := by decide +kernel
theorem dX7_readTerm_28 : decode cX7_readTerm 28 = .ok (.aload_n 0, 1) := by decide +kernel
theorem dX7_readTerm_29 : decode cX7_readTerm 29 = .ok (.bipush 47, 2) := by decide +kernel
theorem dX7_readTerm_31 : decode cX7_readTerm 31 = .ok (.invokevirtual 48, 3) := by decide +kernel
theorem dX7_readTerm_34 : decode cX7_readTerm 34 = .ok (.ifCond .eq 45, 3) := by decide +kernel
theorem dX7_readTerm_37 : decode cX7_readTerm 37 = .ok (.aload_n 0, 1) := by decide +kernel
theorem dX7_readTerm_38 : decode cX7_readTerm 38 = .ok (.bipush 42, 2) := by decide +kernel
theorem dX7_readTerm_40 : decode cX7_readTerm 40 = .ok (.invokevirtual 48, 3) := by decide +kernel
theorem dX7_readTerm_43 : decode cX7_readTerm 43 = .ok (.ifCond .eq 8, 3) := by decide +kernel
theorem dX7_readTerm_46 : decode cX7_readTerm 46 = .ok (.bipush 8, 2) := by decide +kernel
theorem dX7_readTerm_48 : decode cX7_readTerm 48 = .ok (.goto 5, 3) := by decide +kernel
theorem dX7_readTerm_51 : decode cX7_readTerm 51 = .ok (.bipush 9, 2) := by decide +kernel
theorem dX7_readTerm_53 : decode cX7_readTerm 53 = .ok (.istore 4, 2) := by decide +kernel
theorem dX7_readTerm_55 : decode cX7_readTerm 55 = .ok (.aload_n 0, 1) := by decide +kernel
theorem dX7_readTerm_56 : decode cX7_readTerm 56 = .ok (.invokevirtual 41, 3) := by decide +kernel
theorem dX7_readTerm_59 : decode cX7_readTerm 59 = .ok (.aload_n 0, 1) := by decide +kernel
theorem dX7_readTerm_60 : decode cX7_readTerm 60 = .ok (.iload_n 1, 1) := by decide +kernel
theorem dX7_readTerm_61 : decode cX7_readTerm 61 = .ok (.invokevirtual 111, 3) := by decide +kernel
theorem dX7_readTerm_64 : decode cX7_readTerm 64 = .ok (.istore_n 2, 1) := by decide +kernel
theorem dX7_readTerm_65 : decode cX7_readTerm 65 = .ok (.aload_n 0, 1) := by decide +kernel
theorem dX7_readTerm_66 : decode cX7_readTerm 66 = .ok (.iload 4, 2) := by decide +kernel
theorem dX7_readTerm_68 : decode cX7_readTerm 68 = .ok (.iconst 0, 1) := by decide +kernel
theorem dX7_readTerm_69 : decode cX7_readTerm 69 = .ok (.invokevirtual 62, 3) := by decide +kernel
theorem dX7_readTerm_72 : decode cX7_readTerm 72 = .ok (.pop, 1) := by decide +kernel
theorem dX7_readTerm_73 : decode cX7_readTerm 73 = .ok (.iinc 3 1, 3) := by decide +kernel
theorem dX7_readTerm_76 : decode cX7_readTerm 76 = .ok (.goto (-68), 3) := by decide +kernel
theorem dX7_readTerm_79 : decode cX7_readTerm 79 = .ok (.iload_n 2, 1) := by decide +kernel
theorem dX7_readTerm_80 : decode cX7_readTerm 80 = .ok (.ireturn, 1) := by decide +kernel
theorem dX7_readPart_0 : decode cX7_readPart 0 = .ok (.aload_n 0, 1) := by decide +kernel
theorem dX7_readPart_1 : decode cX7_readPart 1 = .ok (.bipush 91, 2) := by decide +kernel
theorem dX7_readPart_3 : decode cX7_readPart 3 = .ok (.invokevirtual 48, 3) := by decide +kernel
theorem dX7_readPart_6 : decode cX7_readPart 6 = .ok (.ifCond .eq 11, 3) := by decide +kernel
theorem dX7_readPart_9 : decode cX7_readPart 9 = .ok (.aload_n 0, 1) := by decide +kernel
theorem dX7_readPart_10 : decode cX7_readPart 10 = .ok (.iload_n 1, 1) := by decide +kernel
theorem dX7_readPart_11 : decode cX7_readPart 11 = .ok (.bipush 93, 2) := by decide +kernel
theorem dX7_readPart_13 : decode cX7_readPart 13 = .ok (.invokevirtual 101, 3) := by decide +kernel
theorem dX7_readPart_16 : decode cX7_readPart 16 = .ok (.ireturn, 1) := by decide +kernel
theorem dX7_readPart_17 : decode cX7_readPart 17 = .ok (.aload_n 0, 1) := by decide +kernel
theorem dX7_readPart_18 : decode cX7_readPart 18 = .ok (.getfield 25, 3) := by decide +kernel
theorem dX7_readPart_21 : decode cX7_readPart 21 = .ok (.iconst 2, 1) := by decide +kernel
theorem dX7_readPart_22 : decode cX7_readPart 22 = .ok (.if_icmp .ne 17, 3) := by decide +kernel
theorem dX7_readPart_25 : decode cX7_readPart 25 = .ok (.aload_n 0, 1) := by decide +kernel
theorem dX7_readPart_26 : decode cX7_readPart 26 = .ok (.getfield 28, 3) := by decide +kernel
theorem dX7_readPart_29 : decode cX7_readPart 29 = .ok (.sipush 1000, 3) := by decide +kernel
theorem dX7_readPart_32 : decode cX7_readPart 32 = .ok (.if_icmp .gt 7, 3) := by decide +kernel
theorem dX7_readPart_35 : decode cX7_readPart 35 = .ok (.iconst 1, 1) := by decide +kernel
theorem dX7_readPart_36 : decode cX7_readPart 36 = .ok (.goto 4, 3) := by decide +kernel
theorem dX7_readPart_39 : decode cX7_readPart 39 = .ok (.iconst 0, 1) := by decide +kernel
theorem dX7_readPart_40 : decode cX7_readPart 40 = .ok (.istore_n 2, 1) := by decide +kernel
theorem dX7_readPart_41 : decode cX7_readPart 41 = .ok (.iload_n 2, 1) := by decide +kernel
theorem dX7_readPart_42 : decode cX7_readPart 42 = .ok (.ifCond .eq 7, 3) := by decide +kernel
theorem dX7_readPart_45 : decode cX7_readPart 45 = .ok (.iconst (-1), 1) := by decide +kernel
theorem dX7_readPart_46 : decode cX7_readPart 46 = .ok (.goto 7, 3) := by decide +kernel
theorem dX7_readPart_49 : decode cX7_readPart 49 = .ok (.aload_n 0, 1) := by decide +kernel
theorem dX7_readPart_50 : decode cX7_readPart 50 = .ok (.invokevirtual 114, 3) := by decide +kernel
theorem dX7_readPart_53 : decode cX7_readPart 53 = .ok (.istore_n 3, 1) := by decide +kernel
theorem dX7_readPart_54 : decode cX7_readPart 54 = .ok (.iload_n 2, 1) := by decide +kernel
theorem dX7_readPart_55 : decode cX7_readPart 55 = .ok (.ifCond .ne 8, 3) := by decide +kernel
theorem dX7_readPart_58 : decode cX7_readPart 58 = .ok (.iload_n 3, 1) := by decide +kernel
theorem dX7_readPart_59 : decode cX7_readPart 59 = .ok (.iconst (-1), 1) := by decide +kernel
theorem dX7_readPart_60 : decode cX7_readPart 60 = .ok (.if_icmp .eq 12, 3) := by decide +kernel
theorem dX7_readPart_63 : decode cX7_readPart 63 = .ok (.aload_n 0, 1) := by decide +kernel
theorem dX7_readPart_64 : decode cX7_readPart 64 = .ok (.getfield 19, 3) := by decide +kernel
theorem dX7_readPart_67 : decode cX7_readPart 67 = .ok (.bipush 50, 2) := by decide +kernel
theorem dX7_readPart_69 : decode cX7_readPart 69 = .ok (.if_icmp .lt 5, 3) := by decide +kernel
theorem dX7_readPart_72 : decode cX7_readPart 72 = .ok (.iconst 0, 1) := by decide +kernel
theorem dX7_readPart_73 : decode cX7_readPart 73 = .ok (.ireturn, 1) := by decide +kernel
theorem dX7_readPart_74 : decode cX7_readPart 74 = .ok (.aload_n 0, 1) := by decide +kernel
theorem dX7_readPart_75 : decode cX7_readPart 75 = .ok (.dup, 1) := by decide +kernel
theorem dX7_readPart_76 : decode cX7_readPart 76 = .ok (.getfield 19, 3) := by decide +kernel
theorem dX7_readPart_79 : decode cX7_readPart 79 = .ok (.iconst 1, 1) := by decide +kernel
theorem dX7_readPart_80 : decode cX7_readPart 80 = .ok (.iadd, 1) := by decide +kernel
theorem dX7_readPart_81 : decode cX7_readPart 81 = .ok (.putfield 19, 3) := by decide +kernel
theorem dX7_readPart_84 : decode cX7_readPart 84 = .ok (.iload_n 2, 1) := by decide +kernel
theorem dX7_readPart_85 : decode cX7_readPart 85 = .ok (.ifCond .eq 16, 3) := by decide +kernel
theorem dX7_readPart_88 : decode cX7_readPart 88 = .ok (.aload_n 0, 1) := by decide +kernel
theorem dX7_readPart_89 : decode cX7_readPart 89 = .ok (.iconst 4, 1) := by decide +kernel
theorem dX7_readPart_90 : decode cX7_readPart 90 = .ok (.aload_n 0, 1) := by decide +kernel
theorem dX7_readPart_91 : decode cX7_readPart 91 = .ok (.getfield 28, 3) := by decide +kernel
theorem dX7_readPart_94 : decode cX7_readPart 94 = .ok (.invokevirtual 62, 3) := by decide +kernel
theorem dX7_readPart_97 : decode cX7_readPart 97 = .ok (.pop, 1) := by decide +kernel
theorem dX7_readPart_98 : decode cX7_readPart 98 = .ok (.goto 10, 3) := by decide +kernel
theorem dX7_readPart_101 : decode cX7_readPart 101 = .ok (.aload_n 0, 1) := by decide +kernel
theorem dX7_readPart_102 : decode cX7_readPart 102 = .ok (.iconst 5, 1) := by decide +kernel
theorem dX7_readPart_103 : decode cX7_readPart 103 = .ok (.iload_n 3, 1) := by decide +kernel
theorem dX7_readPart_104 : decode cX7_readPart 104 = .ok (.invokevirtual 62, 3) := by decide +kernel
theorem dX7_readPart_107 : decode cX7_readPart 107 = .ok (.pop, 1) := by decide +kernel
theorem dX7_readPart_108 : decode cX7_readPart 108 = .ok (.aload_n 0, 1) := by decide +kernel
theorem dX7_readPart_109 : decode cX7_readPart 109 = .ok (.invokevirtual 41, 3) := by decide +kernel
theorem dX7_readPart_112 : decode cX7_readPart 112 = .ok (.iconst 1, 1) := by decide +kernel
theorem dX7_readPart_113 : decode cX7_readPart 113 = .ok (.ireturn, 1) := by decide +kernel
theorem dX7_readInBrackets_0 : decode cX7_readInBrackets 0 = .ok (.iload_n 1, 1) := by decide +kernel
theorem dX7_readInBrackets_1 : decode cX7_readInBrackets 1 = .ok (.bipush 8, 2) := by decide +kernel
theorem dX7_readInBrackets_3 : decode cX7_readInBrackets 3 = .ok (.if_icmp .lt 5, 3) := by decide +kernel
theorem dX7_readInBrackets_6 : decode cX7_readInBrackets 6 = .ok (.iconst 0, 1) := by decide +kernel
theorem dX7_readInBrackets_7 : decode cX7_readInBrackets 7 = .ok (.ireturn, 1) := by decide +kernel
theorem dX7_readInBrackets_8 : decode cX7_readInBrackets 8 = .ok (.aload_n 0, 1) := by decide +kernel
theorem dX7_readInBrackets_9 : decode cX7_readInBrackets 9 = .ok (.invokevirtual 41, 3) := by decide +kernel
theorem dX7_readInBrackets_12 : decode cX7_readInBrackets 12 = .ok (.iload_n 2, 1) := by decide +kernel
theorem dX7_readInBrackets_13 : decode cX7_readInBrackets 13 = .ok (.bipush 41, 2) := by decide +kernel
theorem dX7_readInBrackets_15 : decode cX7_readInBrackets 15 = .ok (.if_icmp .ne 13, 3) := by decide +kernel
theorem dX7_readInBrackets_18 : decode cX7_readInBrackets 18 = .ok (.aload_n 0, 1) := by decide +kernel
theorem dX7_readInBrackets_19 : decode cX7_readInBrackets 19 = .ok (.iload_n 1, 1) := by decide +kernel
theorem dX7_readInBrackets_20 : decode cX7_readInBrackets 20 = .ok (.iconst 1, 1) := by decide +kernel
theorem dX7_readInBrackets_21 : decode cX7_readInBrackets 21 = .ok (.iadd, 1) := by decide +kernel
theorem dX7_readInBrackets_22 : decode cX7_readInBrackets 22 = .ok (.invokevirtual 76, 3) := by decide +kernel
theorem dX7_readInBrackets_25 : decode cX7_readInBrackets 25 = .ok (.goto 10, 3) := by decide +kernel
theorem dX7_readInBrackets_28 : decode cX7_readInBrackets 28 = .ok (.aload_n 0, 1) := by decide +kernel
theorem dX7_readInBrackets_29 : decode cX7_readInBrackets 29 = .ok (.iload_n 1, 1) := by decide +kernel
theorem dX7_readInBrackets_30 : decode cX7_readInBrackets 30 = .ok (.iconst 1, 1) := by decide +kernel
theorem dX7_readInBrackets_31 : decode cX7_readInBrackets 31 = .ok (.iadd, 1) := by decide +kernel
theorem dX7_readInBrackets_32 : decode cX7_readInBrackets 32 = .ok (.invokevirtual 66, 3) := by decide +kernel
theorem dX7_readInBrackets_35 : decode cX7_readInBrackets 35 = .ok (.istore_n 3, 1) := by decide +kernel
theorem dX7_readInBrackets_36 : decode cX7_readInBrackets 36 = .ok (.iload_n 3, 1) := by decide +kernel
theorem dX7_readInBrackets_37 : decode cX7_readInBrackets 37 = .ok (.ifCond .eq 11, 3) := by decide +kernel
theorem dX7_readInBrackets_40 : decode cX7_readInBrackets 40 = .ok (.aload_n 0, 1) := by decide +kernel
theorem dX7_readInBrackets_41 : decode cX7_readInBrackets 41 = .ok (.iload_n 2, 1) := by decide +kernel
theorem dX7_readInBrackets_42 : decode cX7_readInBrackets 42 = .ok (.invokevirtual 48, 3) := by decide +kernel
theorem dX7_readInBrackets_45 : decode cX7_readInBrackets 45 = .ok (.ifCond .ne 5, 3) := by decide +kernel
theorem dX7_readInBrackets_48 : decode cX7_readInBrackets 48 = .ok (.iconst 0, 1) := by decide +kernel
theorem dX7_readInBrackets_49 : decode cX7_readInBrackets 49 = .ok (.ireturn, 1) := by decide +kernel
theorem dX7_readInBrackets_50 : decode cX7_readInBrackets 50 = .ok (.aload_n 0, 1) := by decide +kernel
theorem dX7_readInBrackets_51 : decode cX7_readInBrackets 51 = .ok (.invokevirtual 41, 3) := by decide +kernel
theorem dX7_readInBrackets_54 : decode cX7_readInBrackets 54 = .ok (.iconst 1, 1) := by decide +kernel
theorem dX7_readInBrackets_55 : decode cX7_readInBrackets 55 = .ok (.ireturn, 1) := by decide +kernel
theorem dX7_wordHere_0 : decode cX7_wordHere 0 = .ok (.aload_n 0, 1) := by decide +kernel
theorem dX7_wordHere_1 : decode cX7_wordHere 1 = .ok (.ldc 117, 2) := by decide +kernel
theorem dX7_wordHere_3 : decode cX7_wordHere 3 = .ok (.invokevirtual 72, 3) := by decide +kernel
theorem dX7_wordHere_6 : decode cX7_wordHere 6 = .ok (.ifCond .eq 5, 3) := by decide +kernel
theorem dX7_wordHere_9 : decode cX7_wordHere 9 = .ok (.iconst 0, 1) := by decide +kernel
theorem dX7_wordHere_10 : decode cX7_wordHere 10 = .ok (.ireturn, 1) := by decide +kernel
theorem dX7_wordHere_11 : decode cX7_wordHere 11 = .ok (.aload_n 0, 1) := by decide +kernel
theorem dX7_wordHere_12 : decode cX7_wordHere 12 = .ok (.ldc 119, 2) := by decide +kernel
theorem dX7_wordHere_14 : decode cX7_wordHere 14 = .ok (.invokevirtual 72, 3) := by decide +kernel
theorem dX7_wordHere_17 : decode cX7_wordHere 17 = .ok (.ifCond .eq 5, 3) := by decide +kernel
theorem dX7_wordHere_20 : decode cX7_wordHere 20 = .ok (.iconst 1, 1) := by decide +kernel
theorem dX7_wordHere_21 : decode cX7_wordHere 21 = .ok (.ireturn, 1) := by decide +kernel
theorem dX7_wordHere_22 : decode cX7_wordHere 22 = .ok (.aload_n 0, 1) := by decide +kernel
theorem dX7_wordHere_23 : decode cX7_wordHere 23 = .ok (.ldc 121, 2) := by decide +kernel
theorem dX7_wordHere_25 : decode cX7_wordHere 25 = .ok (.invokevirtual 72, 3) := by decide +kernel
theorem dX7_wordHere_28 : decode cX7_wordHere 28 = .ok (.ifCond .eq 5, 3) := by decide +kernel
theorem dX7_wordHere_31 : decode cX7_wordHere 31 = .ok (.iconst 2, 1) := by decide +kernel
theorem dX7_wordHere_32 : decode cX7_wordHere 32 = .ok (.ireturn, 1) := by decide +kernel
theorem dX7_wordHere_33 : decode cX7_wordHere 33 = .ok (.aload_n 0, 1) := by decide +kernel
theorem dX7_wordHere_34 : decode cX7_wordHere 34 = .ok (.ldc 123, 2) := by decide +kernel
theorem dX7_wordHere_36 : decode cX7_wordHere 36 = .ok (.invokevirtual 72, 3) := by decide +kernel
theorem dX7_wordHere_39 : decode cX7_wordHere 39 = .ok (.ifCond .eq 5, 3) := by decide +kernel
theorem dX7_wordHere_42 : decode cX7_wordHere 42 = .ok (.iconst 3, 1) := by decide +kernel
theorem dX7_wordHere_43 : decode cX7_wordHere 43 = .ok (.ireturn, 1) := by decide +kernel
theorem dX7_wordHere_44 : decode cX7_wordHere 44 = .ok (.aload_n 0, 1) := by decide +kernel
theorem dX7_wordHere_45 : decode cX7_wordHere 45 = .ok (.ldc 125, 2) := by decide +kernel
theorem dX7_wordHere_47 : decode cX7_wordHere 47 = .ok (.invokevirtual 72, 3) := by decide +kernel
theorem dX7_wordHere_50 : decode cX7_wordHere 50 = .ok (.ifCond .eq 5, 3) := by decide +kernel
theorem dX7_wordHere_53 : decode cX7_wordHere 53 = .ok (.iconst 4, 1) := by decide +kernel
theorem dX7_wordHere_54 : decode cX7_wordHere 54 = .ok (.ireturn, 1) := by decide +kernel
theorem dX7_wordHere_55 : decode cX7_wordHere 55 = .ok (.aload_n 0, 1) := by decide +kernel
theorem dX7_wordHere_56 : decode cX7_wordHere 56 = .ok (.ldc 127, 2) := by decide +kernel
theorem dX7_wordHere_58 : decode cX7_wordHere 58 = .ok (.invokevirtual 72, 3) := by decide +kernel
theorem dX7_wordHere_61 : decode cX7_wordHere 61 = .ok (.ifCond .eq 5, 3) := by decide +kernel
theorem dX7_wordHere_64 : decode cX7_wordHere 64 = .ok (.iconst 5, 1) := by decide +kernel
theorem dX7_wordHere_65 : decode cX7_wordHere 65 = .ok (.ireturn, 1) := by decide +kernel
theorem dX7_wordHere_66 : decode cX7_wordHere 66 = .ok (.aload_n 0, 1) := by decide +kernel
theorem dX7_wordHere_67 : decode cX7_wordHere 67 = .ok (.ldc 129, 2) := by decide +kernel
theorem dX7_wordHere_69 : decode cX7_wordHere 69 = .ok (.invokevirtual 72, 3) := by decide +kernel
theorem dX7_wordHere_72 : decode cX7_wordHere 72 = .ok (.ifCond .eq 8, 3) := by decide +kernel
theorem dX7_wordHere_75 : decode cX7_wordHere 75 = .ok (.bipush 6, 2) := by decide +kernel
theorem dX7_wordHere_77 : decode cX7_wordHere 77 = .ok (.goto 4, 3) := by decide +kernel
theorem dX7_wordHere_80 : decode cX7_wordHere 80 = .ok (.iconst (-1), 1) := by decide +kernel
theorem dX7_wordHere_81 : decode cX7_wordHere 81 = .ok (.ireturn, 1) := by decide +kernel
theorem dX7_step_0 : decode cX7_step 0 = .ok (.aload_n 0, 1) := by decide +kernel
theorem dX7_step_1 : decode cX7_step 1 = .ok (.aload_n 0, 1) := by decide +kernel
theorem dX7_step_2 : decode cX7_step 2 = .ok (.getfield 34, 3) := by decide +kernel
theorem dX7_step_5 : decode cX7_step 5 = .ok (.putfield 31, 3) := by decide +kernel
theorem dX7_step_8 : decode cX7_step 8 = .ok (.aload_n 0, 1) := by decide +kernel
theorem dX7_step_9 : decode cX7_step 9 = .ok (.getfield 31, 3) := by decide +kernel
theorem dX7_step_12 : decode cX7_step 12 = .ok (.sipush 400, 3) := by decide +kernel
theorem dX7_step_15 : decode cX7_step 15 = .ok (.if_icmp .ge 32, 3) := by decide +kernel
theorem dX7_step_18 : decode cX7_step 18 = .ok (.aload_n 0, 1) := by decide +kernel
theorem dX7_step_19 : decode cX7_step 19 = .ok (.getfield 37, 3) := by decide +kernel
theorem dX7_step_22 : decode cX7_step 22 = .ok (.aload_n 0, 1) := by decide +kernel
theorem dX7_step_23 : decode cX7_step 23 = .ok (.getfield 31, 3) := by decide +kernel
theorem dX7_step_26 : decode cX7_step 26 = .ok (.invokevirtual 131, 3) := by decide +kernel
theorem dX7_step_29 : decode cX7_step 29 = .ok (.bipush 32, 2) := by decide +kernel
theorem dX7_step_31 : decode cX7_step 31 = .ok (.if_icmp .ne 16, 3) := by decide +kernel
theorem dX7_step_34 : decode cX7_step 34 = .ok (.aload_n 0, 1) := by decide +kernel
theorem dX7_step_35 : decode cX7_step 35 = .ok (.dup, 1) := by decide +kernel
theorem dX7_step_36 : decode cX7_step 36 = .ok (.getfield 31, 3) := by decide +kernel
theorem dX7_step_39 : decode cX7_step 39 = .ok (.iconst 1, 1) := by decide +kernel
theorem dX7_step_40 : decode cX7_step 40 = .ok (.iadd, 1) := by decide +kernel
theorem dX7_step_41 : decode cX7_step 41 = .ok (.putfield 31, 3) := by decide +kernel
theorem dX7_step_44 : decode cX7_step 44 = .ok (.goto (-36), 3) := by decide +kernel
theorem dX7_step_47 : decode cX7_step 47 = .ok (.aload_n 0, 1) := by decide +kernel
theorem dX7_step_48 : decode cX7_step 48 = .ok (.aload_n 0, 1) := by decide +kernel
theorem dX7_step_49 : decode cX7_step 49 = .ok (.getfield 31, 3) := by decide +kernel
theorem dX7_step_52 : decode cX7_step 52 = .ok (.putfield 34, 3) := by decide +kernel
theorem dX7_step_55 : decode cX7_step 55 = .ok (.aload_n 0, 1) := by decide +kernel
theorem dX7_step_56 : decode cX7_step 56 = .ok (.iconst 0, 1) := by decide +kernel
theorem dX7_step_57 : decode cX7_step 57 = .ok (.putfield 28, 3) := by decide +kernel
theorem dX7_step_60 : decode cX7_step 60 = .ok (.aload_n 0, 1) := by decide +kernel
theorem dX7_step_61 : decode cX7_step 61 = .ok (.getfield 31, 3) := by decide +kernel
theorem dX7_step_64 : decode cX7_step 64 = .ok (.aload_n 0, 1) := by decide +kernel
theorem dX7_step_65 : decode cX7_step 65 = .ok (.getfield 37, 3) := by decide +kernel
theorem dX7_step_68 : decode cX7_step 68 = .ok (.getfield 137, 3) := by decide +kernel
theorem dX7_step_71 : decode cX7_step 71 = .ok (.if_icmp .lt 11, 3) := by decide +kernel
theorem dX7_step_74 : decode cX7_step 74 = .ok (.aload_n 0, 1) := by decide +kernel
theorem dX7_step_75 : decode cX7_step 75 = .ok (.iconst 0, 1) := by decide +kernel
theorem dX7_step_76 : decode cX7_step 76 = .ok (.putfield 25, 3) := by decide +kernel
theorem dX7_step_79 : decode cX7_step 79 = .ok (.goto 150, 3) := by decide +kernel
theorem dX7_step_82 : decode cX7_step 82 = .ok (.aload_n 0, 1) := by decide +kernel
theorem dX7_step_83 : decode cX7_step 83 = .ok (.aload_n 0, 1) := by decide +kernel
theorem dX7_step_84 : decode cX7_step 84 = .ok (.getfield 34, 3) := by decide +kernel
theorem dX7_step_87 : decode cX7_step 87 = .ok (.invokevirtual 138, 3) := by decide +kernel
theorem dX7_step_90 : decode cX7_step 90 = .ok (.ifCond .eq 42, 3) := by decide +kernel
theorem dX7_step_93 : decode cX7_step 93 = .ok (.aload_n 0, 1) := by decide +kernel
theorem dX7_step_94 : decode cX7_step 94 = .ok (.iconst 1, 1) := by decide +kernel
theorem dX7_step_95 : decode cX7_step 95 = .ok (.putfield 25, 3) := by decide +kernel
theorem dX7_step_98 : decode cX7_step 98 = .ok (.aload_n 0, 1) := by decide +kernel
theorem dX7_step_99 : decode cX7_step 99 = .ok (.getfield 34, 3) := by decide +kernel
theorem dX7_step_102 : decode cX7_step 102 = .ok (.sipush 400, 3) := by decide +kernel
theorem dX7_step_105 : decode cX7_step 105 = .ok (.if_icmp .ge 124, 3) := by decide +kernel
theorem dX7_step_108 : decode cX7_step 108 = .ok (.aload_n 0, 1) := by decide +kernel
theorem dX7_step_109 : decode cX7_step 109 = .ok (.aload_n 0, 1) := by decide +kernel
theorem dX7_step_110 : decode cX7_step 110 = .ok (.getfield 34, 3) := by decide +kernel
theorem dX7_step_113 : decode cX7_step 113 = .ok (.invokevirtual 138, 3) := by decide +kernel
theorem dX7_step_116 : decode cX7_step 116 = .ok (.ifCond .eq 113, 3) := by decide +kernel
theorem dX7_step_119 : decode cX7_step 119 = .ok (.aload_n 0, 1) := by decide +kernel
theorem dX7_step_120 : decode cX7_step 120 = .ok (.dup, 1) := by decide +kernel
theorem dX7_step_121 : decode cX7_step 121 = .ok (.getfield 34, 3) := by decide +kernel
theorem dX7_step_124 : decode cX7_step 124 = .ok (.iconst 1, 1) := by decide +kernel
theorem dX7_step_125 : decode cX7_step 125 = .ok (.iadd, 1) := by decide +kernel
theorem dX7_step_126 : decode cX7_step 126 = .ok (.putfield 34, 3) := by decide +kernel
theorem dX7_step_129 : decode cX7_step 129 = .ok (.goto (-31), 3) := by decide +kernel
theorem dX7_step_132 : decode cX7_step 132 = .ok (.aload_n 0, 1) := by decide +kernel
theorem dX7_step_133 : decode cX7_step 133 = .ok (.aload_n 0, 1) := by decide +kernel
theorem dX7_step_134 : decode cX7_step 134 = .ok (.getfield 34, 3) := by decide +kernel
theorem dX7_step_137 : decode cX7_step 137 = .ok (.invokevirtual 141, 3) := by decide +kernel
theorem dX7_step_140 : decode cX7_step 140 = .ok (.ifCond .eq 74, 3) := by decide +kernel
theorem dX7_step_143 : decode cX7_step 143 = .ok (.aload_n 0, 1) := by decide +kernel
theorem dX7_step_144 : decode cX7_step 144 = .ok (.iconst 2, 1) := by decide +kernel
theorem dX7_step_145 : decode cX7_step 145 = .ok (.putfield 25, 3) := by decide +kernel
theorem dX7_step_148 : decode cX7_step 148 = .ok (.aload_n 0, 1) := by decide +kernel
theorem dX7_step_149 : decode cX7_step 149 = .ok (.getfield 34, 3) := by decide +kernel
theorem dX7_step_152 : decode cX7_step 152 = .ok (.sipush 400, 3) := by decide +kernel
theorem dX7_step_155 : decode cX7_step 155 = .ok (.if_icmp .ge 74, 3) := by decide +kernel
theorem dX7_step_158 : decode cX7_step 158 = .ok (.aload_n 0, 1) := by decide +kernel
theorem dX7_step_159 : decode cX7_step 159 = .ok (.aload_n 0, 1) := by decide +kernel
theorem dX7_step_160 : decode cX7_step 160 = .ok (.getfield 34, 3) := by decide +kernel
theorem dX7_step_163 : decode cX7_step 163 = .ok (.invokevirtual 141, 3) := by decide +kernel
theorem dX7_step_166 : decode cX7_step 166 = .ok (.ifCond .eq 63, 3) := by decide +kernel
theorem dX7_step_169 : decode cX7_step 169 = .ok (.aload_n 0, 1) := by decide +kernel
theorem dX7_step_170 : decode cX7_step 170 = .ok (.aload_n 0, 1) := by decide +kernel
theorem dX7_step_171 : decode cX7_step 171 = .ok (.getfield 28, 3) := by decide +kernel
theorem dX7_step_174 : decode cX7_step 174 = .ok (.bipush 10, 2) := by decide +kernel
theorem dX7_step_176 : decode cX7_step 176 = .ok (.imul, 1) := by decide +kernel
theorem dX7_step_177 : decode cX7_step 177 = .ok (.aload_n 0, 1) := by decide +kernel
theorem dX7_step_178 : decode cX7_step 178 = .ok (.getfield 37, 3) := by decide +kernel
theorem dX7_step_181 : decode cX7_step 181 = .ok (.aload_n 0, 1) := by decide +kernel
theorem dX7_step_182 : decode cX7_step 182 = .ok (.getfield 34, 3) := by decide +kernel
theorem dX7_step_185 : decode cX7_step 185 = .ok (.invokevirtual 131, 3) := by decide +kernel
theorem dX7_step_188 : decode cX7_step 188 = .ok (.iadd, 1) := by decide +kernel
theorem dX7_step_189 : decode cX7_step 189 = .ok (.bipush 48, 2) := by decide +kernel
theorem dX7_step_191 : decode cX7_step 191 = .ok (.isub, 1) := by decide +kernel
theorem dX7_step_192 : decode cX7_step 192 = .ok (.sipush 1001, 3) := by decide +kernel
theorem dX7_step_195 : decode cX7_step 195 = .ok (.invokestatic 144, 3) := by decide +kernel
theorem dX7_step_198 : decode cX7_step 198 = .ok (.putfield 28, 3) := by decide +kernel
theorem dX7_step_201 : decode cX7_step 201 = .ok (.aload_n 0, 1) := by decide +kernel
theorem dX7_step_202 : decode cX7_step 202 = .ok (.dup, 1) := by decide +kernel
theorem dX7_step_203 : decode cX7_step 203 = .ok (.getfield 34, 3) := by decide +kernel
theorem dX7_step_206 : decode cX7_step 206 = .ok (.iconst 1, 1) := by decide +kernel
theorem dX7_step_207 : decode cX7_step 207 = .ok (.iadd, 1) := by decide +kernel
theorem dX7_step_208 : decode cX7_step 208 = .ok (.putfield 34, 3) := by decide +kernel
theorem dX7_step_211 : decode cX7_step 211 = .ok (.goto (-63), 3) := by decide +kernel
theorem dX7_step_214 : decode cX7_step 214 = .ok (.aload_n 0, 1) := by decide +kernel
theorem dX7_step_215 : decode cX7_step 215 = .ok (.iconst 3, 1) := by decide +kernel
theorem dX7_step_216 : decode cX7_step 216 = .ok (.putfield 25, 3) := by decide +kernel
theorem dX7_step_219 : decode cX7_step 219 = .ok (.aload_n 0, 1) := by decide +kernel
theorem dX7_step_220 : decode cX7_step 220 = .ok (.dup, 1) := by decide +kernel
theorem dX7_step_221 : decode cX7_step 221 = .ok (.getfield 34, 3) := by decide +kernel
theorem dX7_step_224 : decode cX7_step 224 = .ok (.iconst 1, 1) := by decide +kernel
theorem dX7_step_225 : decode cX7_step 225 = .ok (.iadd, 1) := by decide +kernel
theorem dX7_step_226 : decode cX7_step 226 = .ok (.putfield 34, 3) := by decide +kernel
theorem dX7_step_229 : decode cX7_step 229 = .ok (.return_, 1) := by decide +kernel
theorem dX7_isLetter_0 : decode cX7_isLetter 0 = .ok (.aload_n 0, 1) := by decide +kernel
theorem dX7_isLetter_1 : decode cX7_isLetter 1 = .ok (.getfield 37, 3) := by decide +kernel
theorem dX7_isLetter_4 : decode cX7_isLetter 4 = .ok (.iload_n 1, 1) := by decide +kernel
theorem dX7_isLetter_5 : decode cX7_isLetter 5 = .ok (.invokevirtual 131, 3) := by decide +kernel
theorem dX7_isLetter_8 : decode cX7_isLetter 8 = .ok (.istore_n 2, 1) := by decide +kernel
theorem dX7_isLetter_9 : decode cX7_isLetter 9 = .ok (.iload_n 2, 1) := by decide +kernel
theorem dX7_isLetter_10 : decode cX7_isLetter 10 = .ok (.bipush 97, 2) := by decide +kernel
theorem dX7_isLetter_12 : decode cX7_isLetter 12 = .ok (.if_icmp .lt 13, 3) := by decide +kernel
theorem dX7_isLetter_15 : decode cX7_isLetter 15 = .ok (.iload_n 2, 1) := by decide +kernel
theorem dX7_isLetter_16 : decode cX7_isLetter 16 = .ok (.bipush 122, 2) := by decide +kernel
theorem dX7_isLetter_18 : decode cX7_isLetter 18 = .ok (.if_icmp .gt 7, 3) := by decide +kernel
theorem dX7_isLetter_21 : decode cX7_isLetter 21 = .ok (.iconst 1, 1) := by decide +kernel
theorem dX7_isLetter_22 : decode cX7_isLetter 22 = .ok (.goto 4, 3) := by decide +kernel
theorem dX7_isLetter_25 : decode cX7_isLetter 25 = .ok (.iconst 0, 1) := by decide +kernel
theorem dX7_isLetter_26 : decode cX7_isLetter 26 = .ok (.ireturn, 1) := by decide +kernel
theorem dX7_isDigit_0 : decode cX7_isDigit 0 = .ok (.aload_n 0, 1) := by decide +kernel
theorem dX7_isDigit_1 : decode cX7_isDigit 1 = .ok (.getfield 37, 3) := by decide +kernel
theorem dX7_isDigit_4 : decode cX7_isDigit 4 = .ok (.iload_n 1, 1) := by decide +kernel
theorem dX7_isDigit_5 : decode cX7_isDigit 5 = .ok (.invokevirtual 131, 3) := by decide +kernel
theorem dX7_isDigit_8 : decode cX7_isDigit 8 = .ok (.istore_n 2, 1) := by decide +kernel
theorem dX7_isDigit_9 : decode cX7_isDigit 9 = .ok (.iload_n 2, 1) := by decide +kernel
theorem dX7_isDigit_10 : decode cX7_isDigit 10 = .ok (.bipush 48, 2) := by decide +kernel
theorem dX7_isDigit_12 : decode cX7_isDigit 12 = .ok (.if_icmp .lt 13, 3) := by decide +kernel
theorem dX7_isDigit_15 : decode cX7_isDigit 15 = .ok (.iload_n 2, 1) := by decide +kernel
theorem dX7_isDigit_16 : decode cX7_isDigit 16 = .ok (.bipush 57, 2) := by decide +kernel
theorem dX7_isDigit_18 : decode cX7_isDigit 18 = .ok (.if_icmp .gt 7, 3) := by decide +kernel
theorem dX7_isDigit_21 : decode cX7_isDigit 21 = .ok (.iconst 1, 1) := by decide +kernel
theorem dX7_isDigit_22 : decode cX7_isDigit 22 = .ok (.goto 4, 3) := by decide +kernel
theorem dX7_isDigit_25 : decode cX7_isDigit 25 = .ok (.iconst 0, 1) := by decide +kernel
theorem dX7_isDigit_26 : decode cX7_isDigit 26 = .ok (.ireturn, 1) := by decide +kernel
theorem dX7_sees_0 : decode cX7_sees 0 = .ok (.aload_n 0, 1) := by decide +kernel
theorem dX7_sees_1 : decode cX7_sees 1 = .ok (.getfield 25, 3) := by decide +kernel
theorem dX7_sees_4 : decode cX7_sees 4 = .ok (.iconst 1, 1) := by decide +kernel
theorem dX7_sees_5 : decode cX7_sees 5 = .ok (.if_icmp .ne 19, 3) := by decide +kernel
theorem dX7_sees_8 : decode cX7_sees 8 = .ok (.aload_n 0, 1) := by decide +kernel
theorem dX7_sees_9 : decode cX7_sees 9 = .ok (.getfield 34, 3) := by decide +kernel
theorem dX7_sees_12 : decode cX7_sees 12 = .ok (.aload_n 0, 1) := by decide +kernel
theorem dX7_sees_13 : decode cX7_sees 13 = .ok (.getfield 31, 3) := by decide +kernel
theorem dX7_sees_16 : decode cX7_sees 16 = .ok (.isub, 1) := by decide +kernel
theorem dX7_sees_17 : decode cX7_sees 17 = .ok (.aload_n 1, 1) := by decide +kernel
theorem dX7_sees_18 : decode cX7_sees 18 = .ok (.invokevirtual 149, 3) := by decide +kernel
theorem dX7_sees_21 : decode cX7_sees 21 = .ok (.if_icmp .eq 5, 3) := by decide +kernel
theorem dX7_sees_24 : decode cX7_sees 24 = .ok (.iconst 0, 1) := by decide +kernel
theorem dX7_sees_25 : decode cX7_sees 25 = .ok (.ireturn, 1) := by decide +kernel
theorem dX7_sees_26 : decode cX7_sees 26 = .ok (.iconst 0, 1) := by decide +kernel
theorem dX7_sees_27 : decode cX7_sees 27 = .ok (.istore_n 2, 1) := by decide +kernel
theorem dX7_sees_28 : decode cX7_sees 28 = .ok (.iload_n 2, 1) := by decide +kernel
theorem dX7_sees_29 : decode cX7_sees 29 = .ok (.aload_n 1, 1) := by decide +kernel
theorem dX7_sees_30 : decode cX7_sees 30 = .ok (.invokevirtual 149, 3) := by decide +kernel
theorem dX7_sees_33 : decode cX7_sees 33 = .ok (.if_icmp .ge 32, 3) := by decide +kernel
theorem dX7_sees_36 : decode cX7_sees 36 = .ok (.aload_n 0, 1) := by decide +kernel
theorem dX7_sees_37 : decode cX7_sees 37 = .ok (.getfield 37, 3) := by decide +kernel
theorem dX7_sees_40 : decode cX7_sees 40 = .ok (.aload_n 0, 1) := by decide +kernel
theorem dX7_sees_41 : decode cX7_sees 41 = .ok (.getfield 31, 3) := by decide +kernel
theorem dX7_sees_44 : decode cX7_sees 44 = .ok (.iload_n 2, 1) := by decide +kernel
theorem dX7_sees_45 : decode cX7_sees 45 = .ok (.iadd, 1) := by decide +kernel
theorem dX7_sees_46 : decode cX7_sees 46 = .ok (.invokevirtual 131, 3) := by decide +kernel
theorem dX7_sees_49 : decode cX7_sees 49 = .ok (.aload_n 1, 1) := by decide +kernel
theorem dX7_sees_50 : decode cX7_sees 50 = .ok (.iload_n 2, 1) := by decide +kernel
theorem dX7_sees_51 : decode cX7_sees 51 = .ok (.invokevirtual 153, 3) := by decide +kernel
theorem dX7_sees_54 : decode cX7_sees 54 = .ok (.if_icmp .eq 5, 3) := by decide +kernel
theorem dX7_sees_57 : decode cX7_sees 57 = .ok (.iconst 0, 1) := by decide +kernel
theorem dX7_sees_58 : decode cX7_sees 58 = .ok (.ireturn, 1) := by decide +kernel
theorem dX7_sees_59 : decode cX7_sees 59 = .ok (.iinc 2 1, 3) := by decide +kernel
theorem dX7_sees_62 : decode cX7_sees 62 = .ok (.goto (-34), 3) := by decide +kernel
theorem dX7_sees_65 : decode cX7_sees 65 = .ok (.iconst 1, 1) := by decide +kernel
theorem dX7_sees_66 : decode cX7_sees 66 = .ok (.ireturn, 1) := by decide +kernel
theorem dX7_seesSign_0 : decode cX7_seesSign 0 = .ok (.aload_n 0, 1) := by decide +kernel
theorem dX7_seesSign_1 : decode cX7_seesSign 1 = .ok (.getfield 25, 3) := by decide +kernel
theorem dX7_seesSign_4 : decode cX7_seesSign 4 = .ok (.iconst 3, 1) := by decide +kernel
theorem dX7_seesSign_5 : decode cX7_seesSign 5 = .ok (.if_icmp .ne 22, 3) := by decide +kernel
theorem dX7_seesSign_8 : decode cX7_seesSign 8 = .ok (.aload_n 0, 1) := by decide +kernel
theorem dX7_seesSign_9 : decode cX7_seesSign 9 = .ok (.getfield 37, 3) := by decide +kernel
theorem dX7_seesSign_12 : decode cX7_seesSign 12 = .ok (.aload_n 0, 1) := by decide +kernel
theorem dX7_seesSign_13 : decode cX7_seesSign 13 = .ok (.getfield 31, 3) := by decide +kernel
theorem dX7_seesSign_16 : decode cX7_seesSign 16 = .ok (.invokevirtual 131, 3) := by decide +kernel
theorem dX7_seesSign_19 : decode cX7_seesSign 19 = .ok (.iload_n 1, 1) := by decide +kernel
theorem dX7_seesSign_20 : decode cX7_seesSign 20 = .ok (.if_icmp .ne 7, 3) := by decide +kernel
theorem dX7_seesSign_23 : decode cX7_seesSign 23 = .ok (.iconst 1, 1) := by decide +kernel
theorem dX7_seesSign_24 : decode cX7_seesSign 24 = .ok (.goto 4, 3) := by decide +kernel
theorem dX7_seesSign_27 : decode cX7_seesSign 27 = .ok (.iconst 0, 1) := by decide +kernel
theorem dX7_seesSign_28 : decode cX7_seesSign 28 = .ok (.ireturn, 1) := by decide +kernel
theorem dX7_put_0 : decode cX7_put 0 = .ok (.aload_n 0, 1) := by decide +kernel
theorem dX7_put_1 : decode cX7_put 1 = .ok (.getfield 15, 3) := by decide +kernel
theorem dX7_put_4 : decode cX7_put 4 = .ok (.istore_n 3, 1) := by decide +kernel
theorem dX7_put_5 : decode cX7_put 5 = .ok (.aload_n 0, 1) := by decide +kernel
theorem dX7_put_6 : decode cX7_put 6 = .ok (.getfield 15, 3) := by decide +kernel
theorem dX7_put_9 : decode cX7_put 9 = .ok (.iconst 1, 1) := by decide +kernel
theorem dX7_put_10 : decode cX7_put 10 = .ok (.iadd, 1) := by decide +kernel
theorem dX7_put_11 : decode cX7_put 11 = .ok (.sipush 800, 3) := by decide +kernel
theorem dX7_put_14 : decode cX7_put 14 = .ok (.if_icmp .ge 35, 3) := by decide +kernel
theorem dX7_put_17 : decode cX7_put 17 = .ok (.aload_n 0, 1) := by decide +kernel
theorem dX7_put_18 : decode cX7_put 18 = .ok (.getfield 11, 3) := by decide +kernel
theorem dX7_put_21 : decode cX7_put 21 = .ok (.aload_n 0, 1) := by decide +kernel
theorem dX7_put_22 : decode cX7_put 22 = .ok (.getfield 15, 3) := by decide +kernel
theorem dX7_put_25 : decode cX7_put 25 = .ok (.iload_n 1, 1) := by decide +kernel
theorem dX7_put_26 : decode cX7_put 26 = .ok (.iastore, 1) := by decide +kernel
theorem dX7_put_27 : decode cX7_put 27 = .ok (.aload_n 0, 1) := by decide +kernel
theorem dX7_put_28 : decode cX7_put 28 = .ok (.getfield 11, 3) := by decide +kernel
theorem dX7_put_31 : decode cX7_put 31 = .ok (.aload_n 0, 1) := by decide +kernel
theorem dX7_put_32 : decode cX7_put 32 = .ok (.getfield 15, 3) := by decide +kernel
theorem dX7_put_35 : decode cX7_put 35 = .ok (.iconst 1, 1) := by decide +kernel
theorem dX7_put_36 : decode cX7_put 36 = .ok (.iadd, 1) := by decide +kernel
theorem dX7_put_37 : decode cX7_put 37 = .ok (.iload_n 2, 1) := by decide +kernel
theorem dX7_put_38 : decode cX7_put 38 = .ok (.iastore, 1) := by decide +kernel
theorem dX7_put_39 : decode cX7_put 39 = .ok (.aload_n 0, 1) := by decide +kernel
theorem dX7_put_40 : decode cX7_put 40 = .ok (.dup, 1) := by decide +kernel
theorem dX7_put_41 : decode cX7_put 41 = .ok (.getfield 15, 3) := by decide +kernel
theorem dX7_put_44 : decode cX7_put 44 = .ok (.iconst 2, 1) := by decide +kernel
theorem dX7_put_45 : decode cX7_put 45 = .ok (.iadd, 1) := by decide +kernel
theorem dX7_put_46 : decode cX7_put 46 = .ok (.putfield 15, 3) := by decide +kernel
theorem dX7_put_49 : decode cX7_put 49 = .ok (.iload_n 3, 1) := by decide +kernel
theorem dX7_put_50 : decode cX7_put 50 = .ok (.ireturn, 1) := by decide +kernel
theorem dX7_leadHere_0 : decode cX7_leadHere 0 = .ok (.iload_n 1, 1) := by decide +kernel
theorem dX7_leadHere_1 : decode cX7_leadHere 1 = .ok (.ifCond .lt 24, 3) := by decide +kernel
theorem dX7_leadHere_4 : decode cX7_leadHere 4 = .ok (.iload_n 1, 1) := by decide +kernel
theorem dX7_leadHere_5 : decode cX7_leadHere 5 = .ok (.iconst 1, 1) := by decide +kernel
theorem dX7_leadHere_6 : decode cX7_leadHere 6 = .ok (.iadd, 1) := by decide +kernel
theorem dX7_leadHere_7 : decode cX7_leadHere 7 = .ok (.sipush 800, 3) := by decide +kernel
theorem dX7_leadHere_10 : decode cX7_leadHere 10 = .ok (.if_icmp .ge 15, 3) := by decide +kernel
theorem dX7_leadHere_13 : decode cX7_leadHere 13 = .ok (.aload_n 0, 1) := by decide +kernel
theorem dX7_leadHere_14 : decode cX7_leadHere 14 = .ok (.getfield 11, 3) := by decide +kernel
theorem dX7_leadHere_17 : decode cX7_leadHere 17 = .ok (.iload_n 1, 1) := by decide +kernel
theorem dX7_leadHere_18 : decode cX7_leadHere 18 = .ok (.iconst 1, 1) := by decide +kernel
theorem dX7_leadHere_19 : decode cX7_leadHere 19 = .ok (.iadd, 1) := by decide +kernel
theorem dX7_leadHere_20 : decode cX7_leadHere 20 = .ok (.aload_n 0, 1) := by decide +kernel
theorem dX7_leadHere_21 : decode cX7_leadHere 21 = .ok (.getfield 15, 3) := by decide +kernel
theorem dX7_leadHere_24 : decode cX7_leadHere 24 = .ok (.iastore, 1) := by decide +kernel
theorem dX7_leadHere_25 : decode cX7_leadHere 25 = .ok (.return_, 1) := by decide +kernel
theorem dX8_init_0 : decode cX8_init 0 = .ok (.aload_n 0, 1) := by decide +kernel
theorem dX8_init_1 : decode cX8_init 1 = .ok (.invokespecial 3, 3) := by decide +kernel
theorem dX8_init_4 : decode cX8_init 4 = .ok (.aload_n 0, 1) := by decide +kernel
theorem dX8_init_5 : decode cX8_init 5 = .ok (.bipush 8, 2) := by decide +kernel
theorem dX8_init_7 : decode cX8_init 7 = .ok (.newarray .int, 2) := by decide +kernel
theorem dX8_init_9 : decode cX8_init 9 = .ok (.putfield 9, 3) := by decide +kernel
theorem dX8_init_12 : decode cX8_init 12 = .ok (.aload_n 0, 1) := by decide +kernel
theorem dX8_init_13 : decode cX8_init 13 = .ok (.bipush 8, 2) := by decide +kernel
theorem dX8_init_15 : decode cX8_init 15 = .ok (.newarray .int, 2) := by decide +kernel
theorem dX8_init_17 : decode cX8_init 17 = .ok (.putfield 15, 3) := by decide +kernel
theorem dX8_init_20 : decode cX8_init 20 = .ok (.aload_n 0, 1) := by decide +kernel
theorem dX8_init_21 : decode cX8_init 21 = .ok (.iconst 0, 1) := by decide +kernel
theorem dX8_init_22 : decode cX8_init 22 = .ok (.putfield 18, 3) := by decide +kernel
theorem dX8_init_25 : decode cX8_init 25 = .ok (.aload_n 0, 1) := by decide +kernel
theorem dX8_init_26 : decode cX8_init 26 = .ok (.iconst (-1), 1) := by decide +kernel
theorem dX8_init_27 : decode cX8_init 27 = .ok (.putfield 22, 3) := by decide +kernel
theorem dX8_init_30 : decode cX8_init 30 = .ok (.aload_n 0, 1) := by decide +kernel
theorem dX8_init_31 : decode cX8_init 31 = .ok (.aload_n 1, 1) := by decide +kernel
theorem dX8_init_32 : decode cX8_init 32 = .ok (.getfield 25, 3) := by decide +kernel
theorem dX8_init_35 : decode cX8_init 35 = .ok (.putfield 31, 3) := by decide +kernel
theorem dX8_init_38 : decode cX8_init 38 = .ok (.aload_n 0, 1) := by decide +kernel
theorem dX8_init_39 : decode cX8_init 39 = .ok (.aload_n 2, 1) := by decide +kernel
theorem dX8_init_40 : decode cX8_init 40 = .ok (.putfield 32, 3) := by decide +kernel
theorem dX8_init_43 : decode cX8_init 43 = .ok (.return_, 1) := by decide +kernel
theorem dX8_find_0 : decode cX8_find 0 = .ok (.aload_n 0, 1) := by decide +kernel
theorem dX8_find_1 : decode cX8_find 1 = .ok (.iload_n 1, 1) := by decide +kernel
theorem dX8_find_2 : decode cX8_find 2 = .ok (.putfield 22, 3) := by decide +kernel
theorem dX8_find_5 : decode cX8_find 5 = .ok (.aload_n 0, 1) := by decide +kernel
theorem dX8_find_6 : decode cX8_find 6 = .ok (.getfield 32, 3) := by decide +kernel
theorem dX8_find_9 : decode cX8_find 9 = .ok (.invokevirtual 36, 3) := by decide +kernel
theorem dX8_find_12 : decode cX8_find 12 = .ok (.aload_n 0, 1) := by decide +kernel
theorem dX8_find_13 : decode cX8_find 13 = .ok (.getfield 9, 3) := by decide +kernel
theorem dX8_find_16 : decode cX8_find 16 = .ok (.iconst 0, 1) := by decide +kernel
theorem dX8_find_17 : decode cX8_find 17 = .ok (.invokestatic 41, 3) := by decide +kernel
theorem dX8_find_20 : decode cX8_find 20 = .ok (.iconst 0, 1) := by decide +kernel
theorem dX8_find_21 : decode cX8_find 21 = .ok (.istore_n 2, 1) := by decide +kernel
theorem dX8_find_22 : decode cX8_find 22 = .ok (.iconst 0, 1) := by decide +kernel
theorem dX8_find_23 : decode cX8_find 23 = .ok (.istore_n 3, 1) := by decide +kernel
theorem dX8_find_24 : decode cX8_find 24 = .ok (.iconst 0, 1) := by decide +kernel
theorem dX8_find_25 : decode cX8_find 25 = .ok (.istore 4, 2) := by decide +kernel
theorem dX8_find_27 : decode cX8_find 27 = .ok (.iload 4, 2) := by decide +kernel
theorem dX8_find_29 : decode cX8_find 29 = .ok (.aload_n 0, 1) := by decide +kernel
theorem dX8_find_30 : decode cX8_find 30 = .ok (.getfield 31, 3) := by decide +kernel
theorem dX8_find_33 : decode cX8_find 33 = .ok (.getfield 47, 3) := by decide +kernel
theorem dX8_find_36 : decode cX8_find 36 = .ok (.if_icmp .ge 89, 3) := by decide +kernel
theorem dX8_find_39 : decode cX8_find 39 = .ok (.iload 4, 2) := by decide +kernel
theorem dX8_find_41 : decode cX8_find 41 = .ok (.bipush 16, 2) := by decide +kernel
theorem dX8_find_43 : decode cX8_find 43 = .ok (.if_icmp .ge 82, 3) := by decide +kernel
theorem dX8_find_46 : decode cX8_find 46 = .ok (.aload_n 0, 1) := by decide +kernel
theorem dX8_find_47 : decode cX8_find 47 = .ok (.getfield 31, 3) := by decide +kernel
theorem dX8_find_50 : decode cX8_find 50 = .ok (.getfield 50, 3) := by decide +kernel
theorem dX8_find_53 : decode cX8_find 53 = .ok (.iload 4, 2) := by decide +kernel
theorem dX8_find_55 : decode cX8_find 55 = .ok (.iaload, 1) := by decide +kernel
theorem dX8_find_56 : decode cX8_find 56 = .ok (.istore 5, 2) := by decide +kernel
theorem dX8_find_58 : decode cX8_find 58 = .ok (.aload_n 0, 1) := by decide +kernel
theorem dX8_find_59 : decode cX8_find 59 = .ok (.iload 4, 2) := by decide +kernel
theorem dX8_find_61 : decode cX8_find 61 = .ok (.invokevirtual 53, 3) := by decide +kernel
theorem dX8_find_64 : decode cX8_find 64 = .ok (.ifCond .eq 55, 3) := by decide +kernel
theorem dX8_find_67 : decode cX8_find 67 = .ok (.iload 5, 2) := by decide +kernel
theorem dX8_find_69 : decode cX8_find 69 = .ok (.invokestatic 57, 3) := by decide +kernel
theorem dX8_find_72 : decode cX8_find 72 = .ok (.ifCond .eq 47, 3) := by decide +kernel
theorem dX8_find_75 : decode cX8_find 75 = .ok (.aload_n 0, 1) := by decide +kernel
theorem dX8_find_76 : decode cX8_find 76 = .ok (.getfield 9, 3) := by decide +kernel
theorem dX8_find_79 : decode cX8_find 79 = .ok (.iload 5, 2) := by decide +kernel
theorem dX8_find_81 : decode cX8_find 81 = .ok (.dup2, 1) := by decide +kernel
theorem dX8_find_82 : decode cX8_find 82 = .ok (.iaload, 1) := by decide +kernel
theorem dX8_find_83 : decode cX8_find 83 = .ok (.iconst 1, 1) := by decide +kernel
theorem dX8_find_84 : decode cX8_find 84 = .ok (.aload_n 0, 1) := by decide +kernel
theorem dX8_find_85 : decode cX8_find 85 = .ok (.getfield 31, 3) := by decide +kernel
theorem dX8_find_88 : decode cX8_find 88 = .ok (.getfield 60, 3) := by decide +kernel
theorem dX8_find_91 : decode cX8_find 91 = .ok (.iload 4, 2) := by decide +kernel
theorem dX8_find_93 : decode cX8_find 93 = .ok (.iaload, 1) := by decide +kernel
theorem dX8_find_94 : decode cX8_find 94 = .ok (.ishl, 1) := by decide +kernel
theorem dX8_find_95 : decode cX8_find 95 = .ok (.ior, 1) := by decide +kernel
theorem dX8_find_96 : decode cX8_find 96 = .ok (.iastore, 1) := by decide +kernel
theorem dX8_find_97 : decode cX8_find 97 = .ok (.iload_n 2, 1) := by decide +kernel
theorem dX8_find_98 : decode cX8_find 98 = .ok (.iconst 1, 1) := by decide +kernel
theorem dX8_find_99 : decode cX8_find 99 = .ok (.iload 5, 2) := by decide +kernel
theorem dX8_find_101 : decode cX8_find 101 = .ok (.ishl, 1) := by decide +kernel
theorem dX8_find_102 : decode cX8_find 102 = .ok (.ior, 1) := by decide +kernel
theorem dX8_find_103 : decode cX8_find 103 = .ok (.istore_n 2, 1) := by decide +kernel
theorem dX8_find_104 : decode cX8_find 104 = .ok (.iload_n 3, 1) := by decide +kernel
theorem dX8_find_105 : decode cX8_find 105 = .ok (.iconst 1, 1) := by decide +kernel
theorem dX8_find_106 : decode cX8_find 106 = .ok (.aload_n 0, 1) := by decide +kernel
theorem dX8_find_107 : decode cX8_find 107 = .ok (.getfield 31, 3) := by decide +kernel
theorem dX8_find_110 : decode cX8_find 110 = .ok (.getfield 60, 3) := by decide +kernel
theorem dX8_find_113 : decode cX8_find 113 = .ok (.iload 4, 2) := by decide +kernel
theorem dX8_find_115 : decode cX8_find 115 = .ok (.iaload, 1) := by decide +kernel
theorem dX8_find_116 : decode cX8_find 116 = .ok (.ishl, 1) := by decide +kernel
theorem dX8_find_117 : decode cX8_find 117 = .ok (.ior, 1) := by decide +kernel
theorem dX8_find_118 : decode cX8_find 118 = .ok (.istore_n 3, 1) := by decide +kernel
theorem dX8_find_119 : decode cX8_find 119 = .ok (.iinc 4 1, 3) := by decide +kernel
theorem dX8_find_122 : decode cX8_find 122 = .ok (.goto (-95), 3) := by decide +kernel
theorem dX8_find_125 : decode cX8_find 125 = .ok (.iload_n 2, 1) := by decide +kernel
theorem dX8_find_126 : decode cX8_find 126 = .ok (.iload_n 3, 1) := by decide +kernel
theorem dX8_find_127 : decode cX8_find 127 = .ok (.iand, 1) := by decide +kernel
theorem dX8_find_128 : decode cX8_find 128 = .ok (.istore 4, 2) := by decide +kernel
theorem dX8_find_130 : decode cX8_find 130 = .ok (.iconst 2, 1) := by decide +kernel
theorem dX8_find_131 : decode cX8_find 131 = .ok (.istore 5, 2) := by decide +kernel
theorem dX8_find_133 : decode cX8_find 133 = .ok (.iload 5, 2) := by decide +kernel
theorem dX8_find_135 : decode cX8_find 135 = .ok (.bipush 8, 2) := by decide +kernel
theorem dX8_find_137 : decode cX8_find 137 = .ok (.if_icmp .gt 72, 3) := by decide +kernel
theorem dX8_find_140 : decode cX8_find 140 = .ok (.iconst 0, 1) := by decide +kernel
theorem dX8_find_141 : decode cX8_find 141 = .ok (.istore 6, 2) := by decide +kernel
theorem dX8_find_143 : decode cX8_find 143 = .ok (.iload 6, 2) := by decide +kernel
theorem dX8_find_145 : decode cX8_find 145 = .ok (.iload 4, 2) := by decide +kernel
theorem dX8_find_147 : decode cX8_find 147 = .ok (.if_icmp .gt 56, 3) := by decide +kernel
theorem dX8_find_150 : decode cX8_find 150 = .ok (.iload 6, 2) := by decide +kernel
theorem dX8_find_152 : decode cX8_find 152 = .ok (.sipush 256, 3) := by decide +kernel
theorem dX8_find_155 : decode cX8_find 155 = .ok (.if_icmp .ge 48, 3) := by decide +kernel
theorem dX8_find_158 : decode cX8_find 158 = .ok (.iload 6, 2) := by decide +kernel
theorem dX8_find_160 : decode cX8_find 160 = .ok (.iload 4, 2) := by decide +kernel
theorem dX8_find_162 : decode cX8_find 162 = .ok (.iand, 1) := by decide +kernel
theorem dX8_find_163 : decode cX8_find 163 = .ok (.iload 6, 2) := by decide +kernel
theorem dX8_find_165 : decode cX8_find 165 = .ok (.if_icmp .ne 32, 3) := by decide +kernel
theorem dX8_find_168 : decode cX8_find 168 = .ok (.iload 6, 2) := by decide +kernel
theorem dX8_find_170 : decode cX8_find 170 = .ok (.invokestatic 63, 3) := by decide +kernel
theorem dX8_find_173 : decode cX8_find 173 = .ok (.iload 5, 2) := by decide +kernel
theorem dX8_find_175 : decode cX8_find 175 = .ok (.if_icmp .ne 22, 3) := by decide +kernel
theorem dX8_find_178 : decode cX8_find 178 = .ok (.aload_n 0, 1) := by decide +kernel
theorem dX8_find_179 : decode cX8_find 179 = .ok (.iload 6, 2) := by decide +kernel
theorem dX8_find_181 : decode cX8_find 181 = .ok (.iload 5, 2) := by decide +kernel
theorem dX8_find_183 : decode cX8_find 183 = .ok (.invokevirtual 69, 3) := by decide +kernel
theorem dX8_find_186 : decode cX8_find 186 = .ok (.ifCond .eq 11, 3) := by decide +kernel
theorem dX8_find_189 : decode cX8_find 189 = .ok (.aload_n 0, 1) := by decide +kernel
theorem dX8_find_190 : decode cX8_find 190 = .ok (.iload 5, 2) := by decide +kernel
theorem dX8_find_192 : decode cX8_find 192 = .ok (.putfield 18, 3) := by decide +kernel
theorem dX8_find_195 : decode cX8_find 195 = .ok (.iconst 1, 1) := by decide +kernel
theorem dX8_find_196 : decode cX8_find 196 = .ok (.ireturn, 1) := by decide +kernel
theorem dX8_find_197 : decode cX8_find 197 = .ok (.iinc 6 1, 3) := by decide +kernel
theorem dX8_find_200 : decode cX8_find 200 = .ok (.goto (-57), 3) := by decide +kernel
theorem dX8_find_203 : decode cX8_find 203 = .ok (.iinc 5 1, 3) := by decide +kernel
theorem dX8_find_206 : decode cX8_find 206 = .ok (.goto (-73), 3) := by decide +kernel
theorem dX8_find_209 : decode cX8_find 209 = .ok (.iconst 0, 1) := by decide +kernel
theorem dX8_find_210 : decode cX8_find 210 = .ok (.ireturn, 1) := by decide +kernel
theorem dX8_counts_0 : decode cX8_counts 0 = .ok (.aload_n 0, 1) := by decide +kernel
theorem dX8_counts_1 : decode cX8_counts 1 = .ok (.getfield 31, 3) := by decide +kernel
theorem dX8_counts_4 : decode cX8_counts 4 = .ok (.iload_n 1, 1) := by decide +kernel
theorem dX8_counts_5 : decode cX8_counts 5 = .ok (.invokevirtual 73, 3) := by decide +kernel
theorem dX8_counts_8 : decode cX8_counts 8 = .ok (.ifCond .eq 35, 3) := by decide +kernel
theorem dX8_counts_11 : decode cX8_counts 11 = .ok (.aload_n 0, 1) := by decide +kernel
theorem dX8_counts_12 : decode cX8_counts 12 = .ok (.getfield 31, 3) := by decide +kernel
theorem dX8_counts_15 : decode cX8_counts 15 = .ok (.getfield 76, 3) := by decide +kernel
theorem dX8_counts_18 : decode cX8_counts 18 = .ok (.iload_n 1, 1) := by decide +kernel
theorem dX8_counts_19 : decode cX8_counts 19 = .ok (.iaload, 1) := by decide +kernel
theorem dX8_counts_20 : decode cX8_counts 20 = .ok (.aload_n 0, 1) := by decide +kernel
theorem dX8_counts_21 : decode cX8_counts 21 = .ok (.getfield 22, 3) := by decide +kernel
theorem dX8_counts_24 : decode cX8_counts 24 = .ok (.if_icmp .ne 19, 3) := by decide +kernel
theorem dX8_counts_27 : decode cX8_counts 27 = .ok (.aload_n 0, 1) := by decide +kernel
theorem dX8_counts_28 : decode cX8_counts 28 = .ok (.getfield 32, 3) := by decide +kernel
theorem dX8_counts_31 : decode cX8_counts 31 = .ok (.getfield 79, 3) := by decide +kernel
theorem dX8_counts_34 : decode cX8_counts 34 = .ok (.iload_n 1, 1) := by decide +kernel
theorem dX8_counts_35 : decode cX8_counts 35 = .ok (.baload, 1) := by decide +kernel
theorem dX8_counts_36 : decode cX8_counts 36 = .ok (.ifCond .ne 7, 3) := by decide +kernel
theorem dX8_counts_39 : decode cX8_counts 39 = .ok (.iconst 1, 1) := by decide +kernel
theorem dX8_counts_40 : decode cX8_counts 40 = .ok (.goto 4, 3) := by decide +kernel
theorem dX8_counts_43 : decode cX8_counts 43 = .ok (.iconst 0, 1) := by decide +kernel
theorem dX8_counts_44 : decode cX8_counts 44 = .ok (.ireturn, 1) := by decide +kernel
theorem dX8_goesRound_0 : decode cX8_goesRound 0 = .ok (.iload_n 1, 1) := by decide +kernel
theorem dX8_goesRound_1 : decode cX8_goesRound 1 = .ok (.invokestatic 83, 3) := by decide +kernel
theorem dX8_goesRound_4 : decode cX8_goesRound 4 = .ok (.istore_n 3, 1) := by decide +kernel
theorem dX8_goesRound_5 : decode cX8_goesRound 5 = .ok (.iload_n 3, 1) := by decide +kernel
theorem dX8_goesRound_6 : decode cX8_goesRound 6 = .ok (.istore 4, 2) := by decide +kernel
theorem dX8_goesRound_8 : decode cX8_goesRound 8 = .ok (.iconst 0, 1) := by decide +kernel
theorem dX8_goesRound_9 : decode cX8_goesRound 9 = .ok (.istore 5, 2) := by decide +kernel
theorem dX8_goesRound_11 : decode cX8_goesRound 11 = .ok (.iconst 0, 1) := by decide +kernel
theorem dX8_goesRound_12 : decode cX8_goesRound 12 = .ok (.istore 6, 2) := by decide +kernel
theorem dX8_goesRound_14 : decode cX8_goesRound 14 = .ok (.iload 6, 2) := by decide +kernel
theorem dX8_goesRound_16 : decode cX8_goesRound 16 = .ok (.iload_n 2, 1) := by decide +kernel
theorem dX8_goesRound_17 : decode cX8_goesRound 17 = .ok (.if_icmp .ge 68, 3) := by decide +kernel
theorem dX8_goesRound_20 : decode cX8_goesRound 20 = .ok (.iload 6, 2) := by decide +kernel
theorem dX8_goesRound_22 : decode cX8_goesRound 22 = .ok (.bipush 8, 2) := by decide +kernel
theorem dX8_goesRound_24 : decode cX8_goesRound 24 = .ok (.if_icmp .ge 61, 3) := by decide +kernel
theorem dX8_goesRound_27 : decode cX8_goesRound 27 = .ok (.iload 4, 2) := by decide +kernel
theorem dX8_goesRound_29 : decode cX8_goesRound 29 = .ok (.invokestatic 57, 3) := by decide +kernel
theorem dX8_goesRound_32 : decode cX8_goesRound 32 = .ok (.ifCond .eq 13, 3) := by decide +kernel
theorem dX8_goesRound_35 : decode cX8_goesRound 35 = .ok (.iload 5, 2) := by decide +kernel
theorem dX8_goesRound_37 : decode cX8_goesRound 37 = .ok (.iload 4, 2) := by decide +kernel
theorem dX8_goesRound_39 : decode cX8_goesRound 39 = .ok (.ishr, 1) := by decide +kernel
theorem dX8_goesRound_40 : decode cX8_goesRound 40 = .ok (.iconst 1, 1) := by decide +kernel
theorem dX8_goesRound_41 : decode cX8_goesRound 41 = .ok (.iand, 1) := by decide +kernel
theorem dX8_goesRound_42 : decode cX8_goesRound 42 = .ok (.ifCond .eq 5, 3) := by decide +kernel
theorem dX8_goesRound_45 : decode cX8_goesRound 45 = .ok (.iconst 0, 1) := by decide +kernel
theorem dX8_goesRound_46 : decode cX8_goesRound 46 = .ok (.ireturn, 1) := by decide +kernel
theorem dX8_goesRound_47 : decode cX8_goesRound 47 = .ok (.aload_n 0, 1) := by decide +kernel
theorem dX8_goesRound_48 : decode cX8_goesRound 48 = .ok (.getfield 15, 3) := by decide +kernel
theorem dX8_goesRound_51 : decode cX8_goesRound 51 = .ok (.iload 6, 2) := by decide +kernel
theorem dX8_goesRound_53 : decode cX8_goesRound 53 = .ok (.iload 4, 2) := by decide +kernel
theorem dX8_goesRound_55 : decode cX8_goesRound 55 = .ok (.iastore, 1) := by decide +kernel
theorem dX8_goesRound_56 : decode cX8_goesRound 56 = .ok (.iload 5, 2) := by decide +kernel
theorem dX8_goesRound_58 : decode cX8_goesRound 58 = .ok (.iconst 1, 1) := by decide +kernel
theorem dX8_goesRound_59 : decode cX8_goesRound 59 = .ok (.iload 4, 2) := by decide +kernel
theorem dX8_goesRound_61 : decode cX8_goesRound 61 = .ok (.ishl, 1) := by decide +kernel
theorem dX8_goesRound_62 : decode cX8_goesRound 62 = .ok (.ior, 1) := by decide +kernel
theorem dX8_goesRound_63 : decode cX8_goesRound 63 = .ok (.istore 5, 2) := by decide +kernel
theorem dX8_goesRound_65 : decode cX8_goesRound 65 = .ok (.aload_n 0, 1) := by decide +kernel
theorem dX8_goesRound_66 : decode cX8_goesRound 66 = .ok (.getfield 9, 3) := by decide +kernel
theorem dX8_goesRound_69 : decode cX8_goesRound 69 = .ok (.iload 4, 2) := by decide +kernel
theorem dX8_goesRound_71 : decode cX8_goesRound 71 = .ok (.iaload, 1) := by decide +kernel
theorem dX8_goesRound_72 : decode cX8_goesRound 72 = .ok (.iload_n 1, 1) := by decide +kernel
theorem dX8_goesRound_73 : decode cX8_goesRound 73 = .ok (.iand, 1) := by decide +kernel
theorem dX8_goesRound_74 : decode cX8_goesRound 74 = .ok (.invokestatic 83, 3) := by decide +kernel
theorem dX8_goesRound_77 : decode cX8_goesRound 77 = .ok (.istore 4, 2) := by decide +kernel
theorem dX8_goesRound_79 : decode cX8_goesRound 79 = .ok (.iinc 6 1, 3) := by decide +kernel
theorem dX8_goesRound_82 : decode cX8_goesRound 82 = .ok (.goto (-68), 3) := by decide +kernel
theorem dX8_goesRound_85 : decode cX8_goesRound 85 = .ok (.iload 4, 2) := by decide +kernel
theorem dX8_goesRound_87 : decode cX8_goesRound 87 = .ok (.iload_n 3, 1) := by decide +kernel
theorem dX8_goesRound_88 : decode cX8_goesRound 88 = .ok (.if_icmp .ne 7, 3) := by decide +kernel
theorem dX8_goesRound_91 : decode cX8_goesRound 91 = .ok (.iconst 1, 1) := by decide +kernel
theorem dX8_goesRound_92 : decode cX8_goesRound 92 = .ok (.goto 4, 3) := by decide +kernel
theorem dX8_goesRound_95 : decode cX8_goesRound 95 = .ok (.iconst 0, 1) := by decide +kernel
theorem dX8_goesRound_96 : decode cX8_goesRound 96 = .ok (.ireturn, 1) := by decide +kernel
theorem dX8_lowestOf_0 : decode cX8_lowestOf 0 = .ok (.iconst 0, 1) := by decide +kernel
theorem dX8_lowestOf_1 : decode cX8_lowestOf 1 = .ok (.istore_n 1, 1) := by decide +kernel
theorem dX8_lowestOf_2 : decode cX8_lowestOf 2 = .ok (.iload_n 1, 1) := by decide +kernel
theorem dX8_lowestOf_3 : decode cX8_lowestOf 3 = .ok (.bipush 8, 2) := by decide +kernel
theorem dX8_lowestOf_5 : decode cX8_lowestOf 5 = .ok (.if_icmp .ge 19, 3) := by decide +kernel
theorem dX8_lowestOf_8 : decode cX8_lowestOf 8 = .ok (.iload_n 0, 1) := by decide +kernel
theorem dX8_lowestOf_9 : decode cX8_lowestOf 9 = .ok (.iload_n 1, 1) := by decide +kernel
theorem dX8_lowestOf_10 : decode cX8_lowestOf 10 = .ok (.ishr, 1) := by decide +kernel
theorem dX8_lowestOf_11 : decode cX8_lowestOf 11 = .ok (.iconst 1, 1) := by decide +kernel
theorem dX8_lowestOf_12 : decode cX8_lowestOf 12 = .ok (.iand, 1) := by decide +kernel
theorem dX8_lowestOf_13 : decode cX8_lowestOf 13 = .ok (.ifCond .eq 5, 3) := by decide +kernel
theorem dX8_lowestOf_16 : decode cX8_lowestOf 16 = .ok (.iload_n 1, 1) := by decide +kernel
theorem dX8_lowestOf_17 : decode cX8_lowestOf 17 = .ok (.ireturn, 1) := by decide +kernel
theorem dX8_lowestOf_18 : decode cX8_lowestOf 18 = .ok (.iinc 1 1, 3) := by decide +kernel
theorem dX8_lowestOf_21 : decode cX8_lowestOf 21 = .ok (.goto (-19), 3) := by decide +kernel
theorem dX8_lowestOf_24 : decode cX8_lowestOf 24 = .ok (.iconst (-1), 1) := by decide +kernel
theorem dX8_lowestOf_25 : decode cX8_lowestOf 25 = .ok (.ireturn, 1) := by decide +kernel
theorem dX8_drop_0 : decode cX8_drop 0 = .ok (.sipush 144, 3) := by decide +kernel
theorem dX8_drop_3 : decode cX8_drop 3 = .ok (.istore_n 1, 1) := by decide +kernel
theorem dX8_drop_4 : decode cX8_drop 4 = .ok (.iconst 0, 1) := by decide +kernel
theorem dX8_drop_5 : decode cX8_drop 5 = .ok (.istore_n 2, 1) := by decide +kernel
theorem dX8_drop_6 : decode cX8_drop 6 = .ok (.iload_n 2, 1) := by decide +kernel
theorem dX8_drop_7 : decode cX8_drop 7 = .ok (.aload_n 0, 1) := by decide +kernel
theorem dX8_drop_8 : decode cX8_drop 8 = .ok (.getfield 18, 3) := by decide +kernel
theorem dX8_drop_11 : decode cX8_drop 11 = .ok (.if_icmp .ge 36, 3) := by decide +kernel
theorem dX8_drop_14 : decode cX8_drop 14 = .ok (.iload_n 2, 1) := by decide +kernel
theorem dX8_drop_15 : decode cX8_drop 15 = .ok (.bipush 8, 2) := by decide +kernel
theorem dX8_drop_17 : decode cX8_drop 17 = .ok (.if_icmp .ge 30, 3) := by decide +kernel
theorem dX8_drop_20 : decode cX8_drop 20 = .ok (.iload_n 1, 1) := by decide +kernel
theorem dX8_drop_21 : decode cX8_drop 21 = .ok (.aload_n 0, 1) := by decide +kernel
theorem dX8_drop_22 : decode cX8_drop 22 = .ok (.aload_n 0, 1) := by decide +kernel
theorem dX8_drop_23 : decode cX8_drop 23 = .ok (.iload_n 2, 1) := by decide +kernel
theorem dX8_drop_24 : decode cX8_drop 24 = .ok (.invokevirtual 86, 3) := by decide +kernel
theorem dX8_drop_27 : decode cX8_drop 27 = .ok (.aload_n 0, 1) := by decide +kernel
theorem dX8_drop_28 : decode cX8_drop 28 = .ok (.iload_n 2, 1) := by decide +kernel
theorem dX8_drop_29 : decode cX8_drop 29 = .ok (.iconst 1, 1) := by decide +kernel
theorem dX8_drop_30 : decode cX8_drop 30 = .ok (.iadd, 1) := by decide +kernel
theorem dX8_drop_31 : decode cX8_drop 31 = .ok (.invokevirtual 86, 3) := by decide +kernel
theorem dX8_drop_34 : decode cX8_drop 34 = .ok (.invokevirtual 89, 3) := by decide +kernel
theorem dX8_drop_37 : decode cX8_drop 37 = .ok (.invokestatic 93, 3) := by decide +kernel
theorem dX8_drop_40 : decode cX8_drop 40 = .ok (.istore_n 1, 1) := by decide +kernel
theorem dX8_drop_41 : decode cX8_drop 41 = .ok (.iinc 2 1, 3) := by decide +kernel
theorem dX8_drop_44 : decode cX8_drop 44 = .ok (.goto (-38), 3) := by decide +kernel
theorem dX8_drop_47 : decode cX8_drop 47 = .ok (.iconst 0, 1) := by decide +kernel
theorem dX8_drop_48 : decode cX8_drop 48 = .ok (.istore_n 2, 1) := by decide +kernel
theorem dX8_drop_49 : decode cX8_drop 49 = .ok (.iload_n 2, 1) := by decide +kernel
theorem dX8_drop_50 : decode cX8_drop 50 = .ok (.aload_n 0, 1) := by decide +kernel
theorem dX8_drop_51 : decode cX8_drop 51 = .ok (.getfield 18, 3) := by decide +kernel
theorem dX8_drop_54 : decode cX8_drop 54 = .ok (.if_icmp .ge 32, 3) := by decide +kernel
theorem dX8_drop_57 : decode cX8_drop 57 = .ok (.iload_n 2, 1) := by decide +kernel
theorem dX8_drop_58 : decode cX8_drop 58 = .ok (.bipush 8, 2) := by decide +kernel
theorem dX8_drop_60 : decode cX8_drop 60 = .ok (.if_icmp .ge 26, 3) := by decide +kernel
theorem dX8_drop_63 : decode cX8_drop 63 = .ok (.aload_n 0, 1) := by decide +kernel
theorem dX8_drop_64 : decode cX8_drop 64 = .ok (.aload_n 0, 1) := by decide +kernel
theorem dX8_drop_65 : decode cX8_drop 65 = .ok (.iload_n 2, 1) := by decide +kernel
theorem dX8_drop_66 : decode cX8_drop 66 = .ok (.invokevirtual 86, 3) := by decide +kernel
theorem dX8_drop_69 : decode cX8_drop 69 = .ok (.aload_n 0, 1) := by decide +kernel
theorem dX8_drop_70 : decode cX8_drop 70 = .ok (.iload_n 2, 1) := by decide +kernel
theorem dX8_drop_71 : decode cX8_drop 71 = .ok (.iconst 1, 1) := by decide +kernel
theorem dX8_drop_72 : decode cX8_drop 72 = .ok (.iadd, 1) := by decide +kernel
theorem dX8_drop_73 : decode cX8_drop 73 = .ok (.invokevirtual 86, 3) := by decide +kernel
theorem dX8_drop_76 : decode cX8_drop 76 = .ok (.iload_n 1, 1) := by decide +kernel
theorem dX8_drop_77 : decode cX8_drop 77 = .ok (.invokevirtual 98, 3) := by decide +kernel
theorem dX8_drop_80 : decode cX8_drop 80 = .ok (.iinc 2 1, 3) := by decide +kernel
theorem dX8_drop_83 : decode cX8_drop 83 = .ok (.goto (-34), 3) := by decide +kernel
theorem dX8_drop_86 : decode cX8_drop 86 = .ok (.aload_n 0, 1) := by decide +kernel
theorem dX8_drop_87 : decode cX8_drop 87 = .ok (.getfield 31, 3) := by decide +kernel
theorem dX8_drop_90 : decode cX8_drop 90 = .ok (.invokevirtual 102, 3) := by decide +kernel
theorem dX8_drop_93 : decode cX8_drop 93 = .ok (.iload_n 1, 1) := by decide +kernel
theorem dX8_drop_94 : decode cX8_drop 94 = .ok (.ireturn, 1) := by decide +kernel
theorem dX8_dancerAt_0 : decode cX8_dancerAt 0 = .ok (.iload_n 1, 1) := by decide +kernel
theorem dX8_dancerAt_1 : decode cX8_dancerAt 1 = .ok (.aload_n 0, 1) := by decide +kernel
theorem dX8_dancerAt_2 : decode cX8_dancerAt 2 = .ok (.getfield 18, 3) := by decide +kernel
theorem dX8_dancerAt_5 : decode cX8_dancerAt 5 = .ok (.if_icmp .ne 7, 3) := by decide +kernel
theorem dX8_dancerAt_8 : decode cX8_dancerAt 8 = .ok (.iconst 0, 1) := by decide +kernel
theorem dX8_dancerAt_9 : decode cX8_dancerAt 9 = .ok (.goto 4, 3) := by decide +kernel
theorem dX8_dancerAt_12 : decode cX8_dancerAt 12 = .ok (.iload_n 1, 1) := by decide +kernel
theorem dX8_dancerAt_13 : decode cX8_dancerAt 13 = .ok (.istore_n 2, 1) := by decide +kernel
theorem dX8_dancerAt_14 : decode cX8_dancerAt 14 = .ok (.iload_n 2, 1) := by decide +kernel
