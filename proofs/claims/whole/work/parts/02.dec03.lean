theorem dX8_dancerAt_15 : decode cX8_dancerAt 15 = .ok (.ifCond .lt 18, 3) := by decide +kernel
theorem dX8_dancerAt_18 : decode cX8_dancerAt 18 = .ok (.iload_n 2, 1) := by decide +kernel
theorem dX8_dancerAt_19 : decode cX8_dancerAt 19 = .ok (.bipush 8, 2) := by decide +kernel
theorem dX8_dancerAt_21 : decode cX8_dancerAt 21 = .ok (.if_icmp .ge 12, 3) := by decide +kernel
theorem dX8_dancerAt_24 : decode cX8_dancerAt 24 = .ok (.aload_n 0, 1) := by decide +kernel
theorem dX8_dancerAt_25 : decode cX8_dancerAt 25 = .ok (.getfield 15, 3) := by decide +kernel
theorem dX8_dancerAt_28 : decode cX8_dancerAt 28 = .ok (.iload_n 2, 1) := by decide +kernel
theorem dX8_dancerAt_29 : decode cX8_dancerAt 29 = .ok (.iaload, 1) := by decide +kernel
theorem dX8_dancerAt_30 : decode cX8_dancerAt 30 = .ok (.goto 4, 3) := by decide +kernel
theorem dX8_dancerAt_33 : decode cX8_dancerAt 33 = .ok (.iconst (-1), 1) := by decide +kernel
theorem dX8_dancerAt_34 : decode cX8_dancerAt 34 = .ok (.ireturn, 1) := by decide +kernel
theorem dX8_isBetween_0 : decode cX8_isBetween 0 = .ok (.aload_n 0, 1) := by decide +kernel
theorem dX8_isBetween_1 : decode cX8_isBetween 1 = .ok (.iload_n 1, 1) := by decide +kernel
theorem dX8_isBetween_2 : decode cX8_isBetween 2 = .ok (.invokevirtual 53, 3) := by decide +kernel
theorem dX8_isBetween_5 : decode cX8_isBetween 5 = .ok (.ifCond .eq 33, 3) := by decide +kernel
theorem dX8_isBetween_8 : decode cX8_isBetween 8 = .ok (.aload_n 0, 1) := by decide +kernel
theorem dX8_isBetween_9 : decode cX8_isBetween 9 = .ok (.getfield 31, 3) := by decide +kernel
theorem dX8_isBetween_12 : decode cX8_isBetween 12 = .ok (.getfield 50, 3) := by decide +kernel
theorem dX8_isBetween_15 : decode cX8_isBetween 15 = .ok (.iload_n 1, 1) := by decide +kernel
theorem dX8_isBetween_16 : decode cX8_isBetween 16 = .ok (.iaload, 1) := by decide +kernel
theorem dX8_isBetween_17 : decode cX8_isBetween 17 = .ok (.iload_n 2, 1) := by decide +kernel
theorem dX8_isBetween_18 : decode cX8_isBetween 18 = .ok (.if_icmp .ne 20, 3) := by decide +kernel
theorem dX8_isBetween_21 : decode cX8_isBetween 21 = .ok (.aload_n 0, 1) := by decide +kernel
theorem dX8_isBetween_22 : decode cX8_isBetween 22 = .ok (.getfield 31, 3) := by decide +kernel
theorem dX8_isBetween_25 : decode cX8_isBetween 25 = .ok (.getfield 60, 3) := by decide +kernel
theorem dX8_isBetween_28 : decode cX8_isBetween 28 = .ok (.iload_n 1, 1) := by decide +kernel
theorem dX8_isBetween_29 : decode cX8_isBetween 29 = .ok (.iaload, 1) := by decide +kernel
theorem dX8_isBetween_30 : decode cX8_isBetween 30 = .ok (.iload_n 3, 1) := by decide +kernel
theorem dX8_isBetween_31 : decode cX8_isBetween 31 = .ok (.if_icmp .ne 7, 3) := by decide +kernel
theorem dX8_isBetween_34 : decode cX8_isBetween 34 = .ok (.iconst 1, 1) := by decide +kernel
theorem dX8_isBetween_35 : decode cX8_isBetween 35 = .ok (.goto 4, 3) := by decide +kernel
theorem dX8_isBetween_38 : decode cX8_isBetween 38 = .ok (.iconst 0, 1) := by decide +kernel
theorem dX8_isBetween_39 : decode cX8_isBetween 39 = .ok (.ireturn, 1) := by decide +kernel
theorem dX8_between_0 : decode cX8_between 0 = .ok (.iconst 0, 1) := by decide +kernel
theorem dX8_between_1 : decode cX8_between 1 = .ok (.istore_n 3, 1) := by decide +kernel
theorem dX8_between_2 : decode cX8_between 2 = .ok (.iconst 0, 1) := by decide +kernel
theorem dX8_between_3 : decode cX8_between 3 = .ok (.istore 4, 2) := by decide +kernel
theorem dX8_between_5 : decode cX8_between 5 = .ok (.iload 4, 2) := by decide +kernel
theorem dX8_between_7 : decode cX8_between 7 = .ok (.aload_n 0, 1) := by decide +kernel
theorem dX8_between_8 : decode cX8_between 8 = .ok (.getfield 31, 3) := by decide +kernel
theorem dX8_between_11 : decode cX8_between 11 = .ok (.getfield 47, 3) := by decide +kernel
theorem dX8_between_14 : decode cX8_between 14 = .ok (.if_icmp .ge 40, 3) := by decide +kernel
theorem dX8_between_17 : decode cX8_between 17 = .ok (.iload 4, 2) := by decide +kernel
theorem dX8_between_19 : decode cX8_between 19 = .ok (.bipush 16, 2) := by decide +kernel
theorem dX8_between_21 : decode cX8_between 21 = .ok (.if_icmp .ge 33, 3) := by decide +kernel
theorem dX8_between_24 : decode cX8_between 24 = .ok (.aload_n 0, 1) := by decide +kernel
theorem dX8_between_25 : decode cX8_between 25 = .ok (.iload 4, 2) := by decide +kernel
theorem dX8_between_27 : decode cX8_between 27 = .ok (.iload_n 1, 1) := by decide +kernel
theorem dX8_between_28 : decode cX8_between 28 = .ok (.iload_n 2, 1) := by decide +kernel
theorem dX8_between_29 : decode cX8_between 29 = .ok (.invokevirtual 105, 3) := by decide +kernel
theorem dX8_between_32 : decode cX8_between 32 = .ok (.ifCond .eq 16, 3) := by decide +kernel
theorem dX8_between_35 : decode cX8_between 35 = .ok (.iload_n 3, 1) := by decide +kernel
theorem dX8_between_36 : decode cX8_between 36 = .ok (.aload_n 0, 1) := by decide +kernel
theorem dX8_between_37 : decode cX8_between 37 = .ok (.getfield 31, 3) := by decide +kernel
theorem dX8_between_40 : decode cX8_between 40 = .ok (.getfield 109, 3) := by decide +kernel
theorem dX8_between_43 : decode cX8_between 43 = .ok (.iload 4, 2) := by decide +kernel
theorem dX8_between_45 : decode cX8_between 45 = .ok (.iaload, 1) := by decide +kernel
theorem dX8_between_46 : decode cX8_between 46 = .ok (.iadd, 1) := by decide +kernel
theorem dX8_between_47 : decode cX8_between 47 = .ok (.istore_n 3, 1) := by decide +kernel
theorem dX8_between_48 : decode cX8_between 48 = .ok (.iinc 4 1, 3) := by decide +kernel
theorem dX8_between_51 : decode cX8_between 51 = .ok (.goto (-46), 3) := by decide +kernel
theorem dX8_between_54 : decode cX8_between 54 = .ok (.iload_n 3, 1) := by decide +kernel
theorem dX8_between_55 : decode cX8_between 55 = .ok (.ireturn, 1) := by decide +kernel
theorem dX8_take_0 : decode cX8_take 0 = .ok (.iload_n 3, 1) := by decide +kernel
theorem dX8_take_1 : decode cX8_take 1 = .ok (.istore 4, 2) := by decide +kernel
theorem dX8_take_3 : decode cX8_take 3 = .ok (.iconst 0, 1) := by decide +kernel
theorem dX8_take_4 : decode cX8_take 4 = .ok (.istore 5, 2) := by decide +kernel
theorem dX8_take_6 : decode cX8_take 6 = .ok (.iload 5, 2) := by decide +kernel
theorem dX8_take_8 : decode cX8_take 8 = .ok (.aload_n 0, 1) := by decide +kernel
theorem dX8_take_9 : decode cX8_take 9 = .ok (.getfield 31, 3) := by decide +kernel
theorem dX8_take_12 : decode cX8_take 12 = .ok (.getfield 47, 3) := by decide +kernel
theorem dX8_take_15 : decode cX8_take 15 = .ok (.if_icmp .ge 66, 3) := by decide +kernel
theorem dX8_take_18 : decode cX8_take 18 = .ok (.iload 5, 2) := by decide +kernel
theorem dX8_take_20 : decode cX8_take 20 = .ok (.bipush 16, 2) := by decide +kernel
theorem dX8_take_22 : decode cX8_take 22 = .ok (.if_icmp .ge 59, 3) := by decide +kernel
theorem dX8_take_25 : decode cX8_take 25 = .ok (.aload_n 0, 1) := by decide +kernel
theorem dX8_take_26 : decode cX8_take 26 = .ok (.iload 5, 2) := by decide +kernel
theorem dX8_take_28 : decode cX8_take 28 = .ok (.iload_n 1, 1) := by decide +kernel
theorem dX8_take_29 : decode cX8_take 29 = .ok (.iload_n 2, 1) := by decide +kernel
theorem dX8_take_30 : decode cX8_take 30 = .ok (.invokevirtual 105, 3) := by decide +kernel
theorem dX8_take_33 : decode cX8_take 33 = .ok (.ifCond .eq 42, 3) := by decide +kernel
theorem dX8_take_36 : decode cX8_take 36 = .ok (.iload 4, 2) := by decide +kernel
theorem dX8_take_38 : decode cX8_take 38 = .ok (.aload_n 0, 1) := by decide +kernel
theorem dX8_take_39 : decode cX8_take 39 = .ok (.getfield 31, 3) := by decide +kernel
theorem dX8_take_42 : decode cX8_take 42 = .ok (.getfield 109, 3) := by decide +kernel
theorem dX8_take_45 : decode cX8_take 45 = .ok (.iload 5, 2) := by decide +kernel
theorem dX8_take_47 : decode cX8_take 47 = .ok (.iaload, 1) := by decide +kernel
theorem dX8_take_48 : decode cX8_take 48 = .ok (.invokestatic 93, 3) := by decide +kernel
theorem dX8_take_51 : decode cX8_take 51 = .ok (.istore 6, 2) := by decide +kernel
theorem dX8_take_53 : decode cX8_take 53 = .ok (.aload_n 0, 1) := by decide +kernel
theorem dX8_take_54 : decode cX8_take 54 = .ok (.getfield 31, 3) := by decide +kernel
theorem dX8_take_57 : decode cX8_take 57 = .ok (.getfield 109, 3) := by decide +kernel
theorem dX8_take_60 : decode cX8_take 60 = .ok (.iload 5, 2) := by decide +kernel
theorem dX8_take_62 : decode cX8_take 62 = .ok (.dup2, 1) := by decide +kernel
theorem dX8_take_63 : decode cX8_take 63 = .ok (.iaload, 1) := by decide +kernel
theorem dX8_take_64 : decode cX8_take 64 = .ok (.iload 6, 2) := by decide +kernel
theorem dX8_take_66 : decode cX8_take 66 = .ok (.isub, 1) := by decide +kernel
theorem dX8_take_67 : decode cX8_take 67 = .ok (.iastore, 1) := by decide +kernel
theorem dX8_take_68 : decode cX8_take 68 = .ok (.iload 4, 2) := by decide +kernel
theorem dX8_take_70 : decode cX8_take 70 = .ok (.iload 6, 2) := by decide +kernel
theorem dX8_take_72 : decode cX8_take 72 = .ok (.isub, 1) := by decide +kernel
theorem dX8_take_73 : decode cX8_take 73 = .ok (.istore 4, 2) := by decide +kernel
theorem dX8_take_75 : decode cX8_take 75 = .ok (.iinc 5 1, 3) := by decide +kernel
theorem dX8_take_78 : decode cX8_take 78 = .ok (.goto (-72), 3) := by decide +kernel
theorem dX8_take_81 : decode cX8_take 81 = .ok (.return_, 1) := by decide +kernel
theorem dX9_init_0 : decode cX9_init 0 = .ok (.aload_n 0, 1) := by decide +kernel
theorem dX9_init_1 : decode cX9_init 1 = .ok (.invokespecial 3, 3) := by decide +kernel
theorem dX9_init_4 : decode cX9_init 4 = .ok (.aload_n 0, 1) := by decide +kernel
theorem dX9_init_5 : decode cX9_init 5 = .ok (.sipush 400, 3) := by decide +kernel
theorem dX9_init_8 : decode cX9_init 8 = .ok (.newarray .byte, 2) := by decide +kernel
theorem dX9_init_10 : decode cX9_init 10 = .ok (.putfield 9, 3) := by decide +kernel
theorem dX9_init_13 : decode cX9_init 13 = .ok (.aload_n 0, 1) := by decide +kernel
theorem dX9_init_14 : decode cX9_init 14 = .ok (.iconst 0, 1) := by decide +kernel
theorem dX9_init_15 : decode cX9_init 15 = .ok (.putfield 15, 3) := by decide +kernel
theorem dX9_init_18 : decode cX9_init 18 = .ok (.return_, 1) := by decide +kernel
theorem dX9_hasRoomFor_0 : decode cX9_hasRoomFor 0 = .ok (.aload_n 0, 1) := by decide +kernel
theorem dX9_hasRoomFor_1 : decode cX9_hasRoomFor 1 = .ok (.getfield 15, 3) := by decide +kernel
theorem dX9_hasRoomFor_4 : decode cX9_hasRoomFor 4 = .ok (.iload_n 1, 1) := by decide +kernel
theorem dX9_hasRoomFor_5 : decode cX9_hasRoomFor 5 = .ok (.iadd, 1) := by decide +kernel
theorem dX9_hasRoomFor_6 : decode cX9_hasRoomFor 6 = .ok (.sipush 400, 3) := by decide +kernel
theorem dX9_hasRoomFor_9 : decode cX9_hasRoomFor 9 = .ok (.if_icmp .gt 7, 3) := by decide +kernel
theorem dX9_hasRoomFor_12 : decode cX9_hasRoomFor 12 = .ok (.iconst 1, 1) := by decide +kernel
theorem dX9_hasRoomFor_13 : decode cX9_hasRoomFor 13 = .ok (.goto 4, 3) := by decide +kernel
theorem dX9_hasRoomFor_16 : decode cX9_hasRoomFor 16 = .ok (.iconst 0, 1) := by decide +kernel
theorem dX9_hasRoomFor_17 : decode cX9_hasRoomFor 17 = .ok (.ireturn, 1) := by decide +kernel
theorem dX9_write_0 : decode cX9_write 0 = .ok (.bipush 24, 2) := by decide +kernel
theorem dX9_write_2 : decode cX9_write 2 = .ok (.istore_n 2, 1) := by decide +kernel
theorem dX9_write_3 : decode cX9_write 3 = .ok (.iload_n 2, 1) := by decide +kernel
theorem dX9_write_4 : decode cX9_write 4 = .ok (.ifCond .lt 42, 3) := by decide +kernel
theorem dX9_write_7 : decode cX9_write 7 = .ok (.aload_n 0, 1) := by decide +kernel
theorem dX9_write_8 : decode cX9_write 8 = .ok (.getfield 15, 3) := by decide +kernel
theorem dX9_write_11 : decode cX9_write 11 = .ok (.sipush 400, 3) := by decide +kernel
theorem dX9_write_14 : decode cX9_write 14 = .ok (.if_icmp .ge 32, 3) := by decide +kernel
theorem dX9_write_17 : decode cX9_write 17 = .ok (.aload_n 0, 1) := by decide +kernel
theorem dX9_write_18 : decode cX9_write 18 = .ok (.getfield 9, 3) := by decide +kernel
theorem dX9_write_21 : decode cX9_write 21 = .ok (.aload_n 0, 1) := by decide +kernel
theorem dX9_write_22 : decode cX9_write 22 = .ok (.getfield 15, 3) := by decide +kernel
theorem dX9_write_25 : decode cX9_write 25 = .ok (.iload_n 1, 1) := by decide +kernel
theorem dX9_write_26 : decode cX9_write 26 = .ok (.iload_n 2, 1) := by decide +kernel
theorem dX9_write_27 : decode cX9_write 27 = .ok (.ishr, 1) := by decide +kernel
theorem dX9_write_28 : decode cX9_write 28 = .ok (.i2b, 1) := by decide +kernel
theorem dX9_write_29 : decode cX9_write 29 = .ok (.bastore, 1) := by decide +kernel
theorem dX9_write_30 : decode cX9_write 30 = .ok (.aload_n 0, 1) := by decide +kernel
theorem dX9_write_31 : decode cX9_write 31 = .ok (.dup, 1) := by decide +kernel
theorem dX9_write_32 : decode cX9_write 32 = .ok (.getfield 15, 3) := by decide +kernel
theorem dX9_write_35 : decode cX9_write 35 = .ok (.iconst 1, 1) := by decide +kernel
theorem dX9_write_36 : decode cX9_write 36 = .ok (.iadd, 1) := by decide +kernel
theorem dX9_write_37 : decode cX9_write 37 = .ok (.putfield 15, 3) := by decide +kernel
theorem dX9_write_40 : decode cX9_write 40 = .ok (.iinc 2 (-8), 3) := by decide +kernel
theorem dX9_write_43 : decode cX9_write 43 = .ok (.goto (-40), 3) := by decide +kernel
theorem dX9_write_46 : decode cX9_write 46 = .ok (.return_, 1) := by decide +kernel
theorem dX9_byteAt_0 : decode cX9_byteAt 0 = .ok (.iload_n 1, 1) := by decide +kernel
theorem dX9_byteAt_1 : decode cX9_byteAt 1 = .ok (.ifCond .lt 31, 3) := by decide +kernel
theorem dX9_byteAt_4 : decode cX9_byteAt 4 = .ok (.iload_n 1, 1) := by decide +kernel
theorem dX9_byteAt_5 : decode cX9_byteAt 5 = .ok (.aload_n 0, 1) := by decide +kernel
theorem dX9_byteAt_6 : decode cX9_byteAt 6 = .ok (.getfield 15, 3) := by decide +kernel
theorem dX9_byteAt_9 : decode cX9_byteAt 9 = .ok (.if_icmp .ge 23, 3) := by decide +kernel
theorem dX9_byteAt_12 : decode cX9_byteAt 12 = .ok (.iload_n 1, 1) := by decide +kernel
theorem dX9_byteAt_13 : decode cX9_byteAt 13 = .ok (.sipush 400, 3) := by decide +kernel
theorem dX9_byteAt_16 : decode cX9_byteAt 16 = .ok (.if_icmp .ge 16, 3) := by decide +kernel
theorem dX9_byteAt_19 : decode cX9_byteAt 19 = .ok (.aload_n 0, 1) := by decide +kernel
theorem dX9_byteAt_20 : decode cX9_byteAt 20 = .ok (.getfield 9, 3) := by decide +kernel
theorem dX9_byteAt_23 : decode cX9_byteAt 23 = .ok (.iload_n 1, 1) := by decide +kernel
theorem dX9_byteAt_24 : decode cX9_byteAt 24 = .ok (.baload, 1) := by decide +kernel
theorem dX9_byteAt_25 : decode cX9_byteAt 25 = .ok (.sipush 255, 3) := by decide +kernel
theorem dX9_byteAt_28 : decode cX9_byteAt 28 = .ok (.iand, 1) := by decide +kernel
theorem dX9_byteAt_29 : decode cX9_byteAt 29 = .ok (.goto 4, 3) := by decide +kernel
theorem dX9_byteAt_32 : decode cX9_byteAt 32 = .ok (.iconst (-1), 1) := by decide +kernel
theorem dX9_byteAt_33 : decode cX9_byteAt 33 = .ok (.ireturn, 1) := by decide +kernel
theorem dX10_init_0 : decode cX10_init 0 = .ok (.aload_n 0, 1) := by decide +kernel
theorem dX10_init_1 : decode cX10_init 1 = .ok (.invokespecial 3, 3) := by decide +kernel
theorem dX10_init_4 : decode cX10_init 4 = .ok (.aload_n 0, 1) := by decide +kernel
theorem dX10_init_5 : decode cX10_init 5 = .ok (.bipush 6, 2) := by decide +kernel
theorem dX10_init_7 : decode cX10_init 7 = .ok (.newarray .int, 2) := by decide +kernel
theorem dX10_init_9 : decode cX10_init 9 = .ok (.putfield 9, 3) := by decide +kernel
theorem dX10_init_12 : decode cX10_init 12 = .ok (.aload_n 0, 1) := by decide +kernel
theorem dX10_init_13 : decode cX10_init 13 = .ok (.iconst 0, 1) := by decide +kernel
theorem dX10_init_14 : decode cX10_init 14 = .ok (.putfield 15, 3) := by decide +kernel
theorem dX10_init_17 : decode cX10_init 17 = .ok (.aload_n 0, 1) := by decide +kernel
theorem dX10_init_18 : decode cX10_init 18 = .ok (.new 19, 3) := by decide +kernel
theorem dX10_init_21 : decode cX10_init 21 = .ok (.dup, 1) := by decide +kernel
theorem dX10_init_22 : decode cX10_init 22 = .ok (.invokespecial 21, 3) := by decide +kernel
theorem dX10_init_25 : decode cX10_init 25 = .ok (.putfield 22, 3) := by decide +kernel
theorem dX10_init_28 : decode cX10_init 28 = .ok (.aload_n 0, 1) := by decide +kernel
theorem dX10_init_29 : decode cX10_init 29 = .ok (.iconst 0, 1) := by decide +kernel
theorem dX10_init_30 : decode cX10_init 30 = .ok (.putfield 26, 3) := by decide +kernel
theorem dX10_init_33 : decode cX10_init 33 = .ok (.aload_n 0, 1) := by decide +kernel
theorem dX10_init_34 : decode cX10_init 34 = .ok (.bipush 6, 2) := by decide +kernel
theorem dX10_init_36 : decode cX10_init 36 = .ok (.anewarray 29, 3) := by decide +kernel
theorem dX10_init_39 : decode cX10_init 39 = .ok (.putfield 30, 3) := by decide +kernel
theorem dX10_init_42 : decode cX10_init 42 = .ok (.aload_n 0, 1) := by decide +kernel
theorem dX10_init_43 : decode cX10_init 43 = .ok (.iconst 0, 1) := by decide +kernel
theorem dX10_init_44 : decode cX10_init 44 = .ok (.putfield 34, 3) := by decide +kernel
theorem dX10_init_47 : decode cX10_init 47 = .ok (.aload_n 0, 1) := by decide +kernel
theorem dX10_init_48 : decode cX10_init 48 = .ok (.iconst (-1), 1) := by decide +kernel
theorem dX10_init_49 : decode cX10_init 49 = .ok (.putfield 37, 3) := by decide +kernel
theorem dX10_init_52 : decode cX10_init 52 = .ok (.aload_n 0, 1) := by decide +kernel
theorem dX10_init_53 : decode cX10_init 53 = .ok (.bipush 8, 2) := by decide +kernel
theorem dX10_init_55 : decode cX10_init 55 = .ok (.newarray .int, 2) := by decide +kernel
theorem dX10_init_57 : decode cX10_init 57 = .ok (.putfield 40, 3) := by decide +kernel
theorem dX10_init_60 : decode cX10_init 60 = .ok (.aload_n 0, 1) := by decide +kernel
theorem dX10_init_61 : decode cX10_init 61 = .ok (.bipush 8, 2) := by decide +kernel
theorem dX10_init_63 : decode cX10_init 63 = .ok (.newarray .int, 2) := by decide +kernel
theorem dX10_init_65 : decode cX10_init 65 = .ok (.putfield 43, 3) := by decide +kernel
theorem dX10_init_68 : decode cX10_init 68 = .ok (.aload_n 0, 1) := by decide +kernel
theorem dX10_init_69 : decode cX10_init 69 = .ok (.iconst 0, 1) := by decide +kernel
theorem dX10_init_70 : decode cX10_init 70 = .ok (.putfield 46, 3) := by decide +kernel
theorem dX10_init_73 : decode cX10_init 73 = .ok (.aload_n 0, 1) := by decide +kernel
theorem dX10_init_74 : decode cX10_init 74 = .ok (.bipush 10, 2) := by decide +kernel
theorem dX10_init_76 : decode cX10_init 76 = .ok (.newarray .int, 2) := by decide +kernel
theorem dX10_init_78 : decode cX10_init 78 = .ok (.putfield 49, 3) := by decide +kernel
theorem dX10_init_81 : decode cX10_init 81 = .ok (.aload_n 0, 1) := by decide +kernel
theorem dX10_init_82 : decode cX10_init 82 = .ok (.bipush 10, 2) := by decide +kernel
theorem dX10_init_84 : decode cX10_init 84 = .ok (.newarray .int, 2) := by decide +kernel
theorem dX10_init_86 : decode cX10_init 86 = .ok (.putfield 52, 3) := by decide +kernel
theorem dX10_init_89 : decode cX10_init 89 = .ok (.aload_n 0, 1) := by decide +kernel
theorem dX10_init_90 : decode cX10_init 90 = .ok (.iconst 0, 1) := by decide +kernel
theorem dX10_init_91 : decode cX10_init 91 = .ok (.putfield 55, 3) := by decide +kernel
theorem dX10_init_94 : decode cX10_init 94 = .ok (.aload_n 0, 1) := by decide +kernel
theorem dX10_init_95 : decode cX10_init 95 = .ok (.bipush 12, 2) := by decide +kernel
theorem dX10_init_97 : decode cX10_init 97 = .ok (.newarray .int, 2) := by decide +kernel
theorem dX10_init_99 : decode cX10_init 99 = .ok (.putfield 58, 3) := by decide +kernel
theorem dX10_init_102 : decode cX10_init 102 = .ok (.aload_n 0, 1) := by decide +kernel
theorem dX10_init_103 : decode cX10_init 103 = .ok (.bipush 12, 2) := by decide +kernel
theorem dX10_init_105 : decode cX10_init 105 = .ok (.newarray .int, 2) := by decide +kernel
theorem dX10_init_107 : decode cX10_init 107 = .ok (.putfield 61, 3) := by decide +kernel
theorem dX10_init_110 : decode cX10_init 110 = .ok (.aload_n 0, 1) := by decide +kernel
theorem dX10_init_111 : decode cX10_init 111 = .ok (.iconst 0, 1) := by decide +kernel
theorem dX10_init_112 : decode cX10_init 112 = .ok (.putfield 64, 3) := by decide +kernel
theorem dX10_init_115 : decode cX10_init 115 = .ok (.return_, 1) := by decide +kernel
theorem dX10_become_0 : decode cX10_become 0 = .ok (.aload_n 1, 1) := by decide +kernel
theorem dX10_become_1 : decode cX10_become 1 = .ok (.getfield 9, 3) := by decide +kernel
theorem dX10_become_4 : decode cX10_become 4 = .ok (.iconst 0, 1) := by decide +kernel
theorem dX10_become_5 : decode cX10_become 5 = .ok (.aload_n 0, 1) := by decide +kernel
theorem dX10_become_6 : decode cX10_become 6 = .ok (.getfield 9, 3) := by decide +kernel
theorem dX10_become_9 : decode cX10_become 9 = .ok (.iconst 0, 1) := by decide +kernel
theorem dX10_become_10 : decode cX10_become 10 = .ok (.bipush 6, 2) := by decide +kernel
theorem dX10_become_12 : decode cX10_become 12 = .ok (.invokestatic 67, 3) := by decide +kernel
theorem dX10_become_15 : decode cX10_become 15 = .ok (.aload_n 0, 1) := by decide +kernel
theorem dX10_become_16 : decode cX10_become 16 = .ok (.aload_n 1, 1) := by decide +kernel
theorem dX10_become_17 : decode cX10_become 17 = .ok (.getfield 15, 3) := by decide +kernel
theorem dX10_become_20 : decode cX10_become 20 = .ok (.putfield 15, 3) := by decide +kernel
theorem dX10_become_23 : decode cX10_become 23 = .ok (.aload_n 0, 1) := by decide +kernel
theorem dX10_become_24 : decode cX10_become 24 = .ok (.getfield 22, 3) := by decide +kernel
theorem dX10_become_27 : decode cX10_become 27 = .ok (.aload_n 1, 1) := by decide +kernel
theorem dX10_become_28 : decode cX10_become 28 = .ok (.getfield 22, 3) := by decide +kernel
theorem dX10_become_31 : decode cX10_become 31 = .ok (.invokevirtual 73, 3) := by decide +kernel
theorem dX10_become_34 : decode cX10_become 34 = .ok (.aload_n 0, 1) := by decide +kernel
theorem dX10_become_35 : decode cX10_become 35 = .ok (.aload_n 1, 1) := by decide +kernel
theorem dX10_become_36 : decode cX10_become 36 = .ok (.getfield 26, 3) := by decide +kernel
theorem dX10_become_39 : decode cX10_become 39 = .ok (.putfield 26, 3) := by decide +kernel
theorem dX10_become_42 : decode cX10_become 42 = .ok (.iconst 0, 1) := by decide +kernel
theorem dX10_become_43 : decode cX10_become 43 = .ok (.istore_n 2, 1) := by decide +kernel
theorem dX10_become_44 : decode cX10_become 44 = .ok (.iload_n 2, 1) := by decide +kernel
theorem dX10_become_45 : decode cX10_become 45 = .ok (.bipush 6, 2) := by decide +kernel
theorem dX10_become_47 : decode cX10_become 47 = .ok (.if_icmp .ge 21, 3) := by decide +kernel
theorem dX10_become_50 : decode cX10_become 50 = .ok (.aload_n 0, 1) := by decide +kernel
theorem dX10_become_51 : decode cX10_become 51 = .ok (.getfield 30, 3) := by decide +kernel
theorem dX10_become_54 : decode cX10_become 54 = .ok (.iload_n 2, 1) := by decide +kernel
theorem dX10_become_55 : decode cX10_become 55 = .ok (.aload_n 1, 1) := by decide +kernel
theorem dX10_become_56 : decode cX10_become 56 = .ok (.getfield 30, 3) := by decide +kernel
theorem dX10_become_59 : decode cX10_become 59 = .ok (.iload_n 2, 1) := by decide +kernel
theorem dX10_become_60 : decode cX10_become 60 = .ok (.aaload, 1) := by decide +kernel
theorem dX10_become_61 : decode cX10_become 61 = .ok (.aastore, 1) := by decide +kernel
theorem dX10_become_62 : decode cX10_become 62 = .ok (.iinc 2 1, 3) := by decide +kernel
theorem dX10_become_65 : decode cX10_become 65 = .ok (.goto (-21), 3) := by decide +kernel
theorem dX10_become_68 : decode cX10_become 68 = .ok (.aload_n 0, 1) := by decide +kernel
theorem dX10_become_69 : decode cX10_become 69 = .ok (.aload_n 1, 1) := by decide +kernel
theorem dX10_become_70 : decode cX10_become 70 = .ok (.getfield 34, 3) := by decide +kernel
theorem dX10_become_73 : decode cX10_become 73 = .ok (.putfield 34, 3) := by decide +kernel
theorem dX10_become_76 : decode cX10_become 76 = .ok (.aload_n 0, 1) := by decide +kernel
theorem dX10_become_77 : decode cX10_become 77 = .ok (.aload_n 1, 1) := by decide +kernel
theorem dX10_become_78 : decode cX10_become 78 = .ok (.getfield 37, 3) := by decide +kernel
theorem dX10_become_81 : decode cX10_become 81 = .ok (.putfield 37, 3) := by decide +kernel
theorem dX10_become_84 : decode cX10_become 84 = .ok (.aload_n 1, 1) := by decide +kernel
theorem dX10_become_85 : decode cX10_become 85 = .ok (.getfield 40, 3) := by decide +kernel
theorem dX10_become_88 : decode cX10_become 88 = .ok (.iconst 0, 1) := by decide +kernel
theorem dX10_become_89 : decode cX10_become 89 = .ok (.aload_n 0, 1) := by decide +kernel
theorem dX10_become_90 : decode cX10_become 90 = .ok (.getfield 40, 3) := by decide +kernel
theorem dX10_become_93 : decode cX10_become 93 = .ok (.iconst 0, 1) := by decide +kernel
theorem dX10_become_94 : decode cX10_become 94 = .ok (.bipush 8, 2) := by decide +kernel
theorem dX10_become_96 : decode cX10_become 96 = .ok (.invokestatic 67, 3) := by decide +kernel
theorem dX10_become_99 : decode cX10_become 99 = .ok (.aload_n 1, 1) := by decide +kernel
theorem dX10_become_100 : decode cX10_become 100 = .ok (.getfield 43, 3) := by decide +kernel
theorem dX10_become_103 : decode cX10_become 103 = .ok (.iconst 0, 1) := by decide +kernel
theorem dX10_become_104 : decode cX10_become 104 = .ok (.aload_n 0, 1) := by decide +kernel
theorem dX10_become_105 : decode cX10_become 105 = .ok (.getfield 43, 3) := by decide +kernel
theorem dX10_become_108 : decode cX10_become 108 = .ok (.iconst 0, 1) := by decide +kernel
theorem dX10_become_109 : decode cX10_become 109 = .ok (.bipush 8, 2) := by decide +kernel
theorem dX10_become_111 : decode cX10_become 111 = .ok (.invokestatic 67, 3) := by decide +kernel
theorem dX10_become_114 : decode cX10_become 114 = .ok (.aload_n 0, 1) := by decide +kernel
theorem dX10_become_115 : decode cX10_become 115 = .ok (.aload_n 1, 1) := by decide +kernel
theorem dX10_become_116 : decode cX10_become 116 = .ok (.getfield 46, 3) := by decide +kernel
theorem dX10_become_119 : decode cX10_become 119 = .ok (.putfield 46, 3) := by decide +kernel
theorem dX10_become_122 : decode cX10_become 122 = .ok (.aload_n 1, 1) := by decide +kernel
theorem dX10_become_123 : decode cX10_become 123 = .ok (.getfield 49, 3) := by decide +kernel
theorem dX10_become_126 : decode cX10_become 126 = .ok (.iconst 0, 1) := by decide +kernel
theorem dX10_become_127 : decode cX10_become 127 = .ok (.aload_n 0, 1) := by decide +kernel
theorem dX10_become_128 : decode cX10_become 128 = .ok (.getfield 49, 3) := by decide +kernel
theorem dX10_become_131 : decode cX10_become 131 = .ok (.iconst 0, 1) := by decide +kernel
theorem dX10_become_132 : decode cX10_become 132 = .ok (.bipush 10, 2) := by decide +kernel
theorem dX10_become_134 : decode cX10_become 134 = .ok (.invokestatic 67, 3) := by decide +kernel
theorem dX10_become_137 : decode cX10_become 137 = .ok (.aload_n 1, 1) := by decide +kernel
theorem dX10_become_138 : decode cX10_become 138 = .ok (.getfield 52, 3) := by decide +kernel
theorem dX10_become_141 : decode cX10_become 141 = .ok (.iconst 0, 1) := by decide +kernel
theorem dX10_become_142 : decode cX10_become 142 = .ok (.aload_n 0, 1) := by decide +kernel
theorem dX10_become_143 : decode cX10_become 143 = .ok (.getfield 52, 3) := by decide +kernel
theorem dX10_become_146 : decode cX10_become 146 = .ok (.iconst 0, 1) := by decide +kernel
theorem dX10_become_147 : decode cX10_become 147 = .ok (.bipush 10, 2) := by decide +kernel
theorem dX10_become_149 : decode cX10_become 149 = .ok (.invokestatic 67, 3) := by decide +kernel
theorem dX10_become_152 : decode cX10_become 152 = .ok (.aload_n 0, 1) := by decide +kernel
theorem dX10_become_153 : decode cX10_become 153 = .ok (.aload_n 1, 1) := by decide +kernel
theorem dX10_become_154 : decode cX10_become 154 = .ok (.getfield 55, 3) := by decide +kernel
theorem dX10_become_157 : decode cX10_become 157 = .ok (.putfield 55, 3) := by decide +kernel
theorem dX10_become_160 : decode cX10_become 160 = .ok (.aload_n 1, 1) := by decide +kernel
theorem dX10_become_161 : decode cX10_become 161 = .ok (.getfield 58, 3) := by decide +kernel
theorem dX10_become_164 : decode cX10_become 164 = .ok (.iconst 0, 1) := by decide +kernel
theorem dX10_become_165 : decode cX10_become 165 = .ok (.aload_n 0, 1) := by decide +kernel
theorem dX10_become_166 : decode cX10_become 166 = .ok (.getfield 58, 3) := by decide +kernel
theorem dX10_become_169 : decode cX10_become 169 = .ok (.iconst 0, 1) := by decide +kernel
theorem dX10_become_170 : decode cX10_become 170 = .ok (.bipush 12, 2) := by decide +kernel
theorem dX10_become_172 : decode cX10_become 172 = .ok (.invokestatic 67, 3) := by decide +kernel
theorem dX10_become_175 : decode cX10_become 175 = .ok (.aload_n 1, 1) := by decide +kernel
theorem dX10_become_176 : decode cX10_become 176 = .ok (.getfield 61, 3) := by decide +kernel
theorem dX10_become_179 : decode cX10_become 179 = .ok (.iconst 0, 1) := by decide +kernel
theorem dX10_become_180 : decode cX10_become 180 = .ok (.aload_n 0, 1) := by decide +kernel
theorem dX10_become_181 : decode cX10_become 181 = .ok (.getfield 61, 3) := by decide +kernel
theorem dX10_become_184 : decode cX10_become 184 = .ok (.iconst 0, 1) := by decide +kernel
theorem dX10_become_185 : decode cX10_become 185 = .ok (.bipush 12, 2) := by decide +kernel
theorem dX10_become_187 : decode cX10_become 187 = .ok (.invokestatic 67, 3) := by decide +kernel
theorem dX10_become_190 : decode cX10_become 190 = .ok (.aload_n 0, 1) := by decide +kernel
theorem dX10_become_191 : decode cX10_become 191 = .ok (.aload_n 1, 1) := by decide +kernel
theorem dX10_become_192 : decode cX10_become 192 = .ok (.getfield 64, 3) := by decide +kernel
theorem dX10_become_195 : decode cX10_become 195 = .ok (.putfield 64, 3) := by decide +kernel
theorem dX10_become_198 : decode cX10_become 198 = .ok (.return_, 1) := by decide +kernel
theorem dX10_hasTune_0 : decode cX10_hasTune 0 = .ok (.iload_n 1, 1) := by decide +kernel
theorem dX10_hasTune_1 : decode cX10_hasTune 1 = .ok (.ifCond .lt 21, 3) := by decide +kernel
theorem dX10_hasTune_4 : decode cX10_hasTune 4 = .ok (.iload_n 1, 1) := by decide +kernel
theorem dX10_hasTune_5 : decode cX10_hasTune 5 = .ok (.aload_n 0, 1) := by decide +kernel
theorem dX10_hasTune_6 : decode cX10_hasTune 6 = .ok (.getfield 15, 3) := by decide +kernel
theorem dX10_hasTune_9 : decode cX10_hasTune 9 = .ok (.if_icmp .ge 13, 3) := by decide +kernel
theorem dX10_hasTune_12 : decode cX10_hasTune 12 = .ok (.iload_n 1, 1) := by decide +kernel
theorem dX10_hasTune_13 : decode cX10_hasTune 13 = .ok (.bipush 6, 2) := by decide +kernel
theorem dX10_hasTune_15 : decode cX10_hasTune 15 = .ok (.if_icmp .ge 7, 3) := by decide +kernel
theorem dX10_hasTune_18 : decode cX10_hasTune 18 = .ok (.iconst 1, 1) := by decide +kernel
theorem dX10_hasTune_19 : decode cX10_hasTune 19 = .ok (.goto 4, 3) := by decide +kernel
theorem dX10_hasTune_22 : decode cX10_hasTune 22 = .ok (.iconst 0, 1) := by decide +kernel
theorem dX10_hasTune_23 : decode cX10_hasTune 23 = .ok (.ireturn, 1) := by decide +kernel
theorem dX10_hasLaw_0 : decode cX10_hasLaw 0 = .ok (.iload_n 1, 1) := by decide +kernel
theorem dX10_hasLaw_1 : decode cX10_hasLaw 1 = .ok (.ifCond .lt 21, 3) := by decide +kernel
theorem dX10_hasLaw_4 : decode cX10_hasLaw 4 = .ok (.iload_n 1, 1) := by decide +kernel
theorem dX10_hasLaw_5 : decode cX10_hasLaw 5 = .ok (.aload_n 0, 1) := by decide +kernel
theorem dX10_hasLaw_6 : decode cX10_hasLaw 6 = .ok (.getfield 34, 3) := by decide +kernel
theorem dX10_hasLaw_9 : decode cX10_hasLaw 9 = .ok (.if_icmp .ge 13, 3) := by decide +kernel
theorem dX10_hasLaw_12 : decode cX10_hasLaw 12 = .ok (.iload_n 1, 1) := by decide +kernel
theorem dX10_hasLaw_13 : decode cX10_hasLaw 13 = .ok (.bipush 6, 2) := by decide +kernel
theorem dX10_hasLaw_15 : decode cX10_hasLaw 15 = .ok (.if_icmp .ge 7, 3) := by decide +kernel
theorem dX10_hasLaw_18 : decode cX10_hasLaw 18 = .ok (.iconst 1, 1) := by decide +kernel
theorem dX10_hasLaw_19 : decode cX10_hasLaw 19 = .ok (.goto 4, 3) := by decide +kernel
theorem dX10_hasLaw_22 : decode cX10_hasLaw 22 = .ok (.iconst 0, 1) := by decide +kernel
theorem dX10_hasLaw_23 : decode cX10_hasLaw 23 = .ok (.ireturn, 1) := by decide +kernel
theorem dX10_hasDance_0 : decode cX10_hasDance 0 = .ok (.iload_n 1, 1) := by decide +kernel
theorem dX10_hasDance_1 : decode cX10_hasDance 1 = .ok (.ifCond .lt 21, 3) := by decide +kernel
theorem dX10_hasDance_4 : decode cX10_hasDance 4 = .ok (.iload_n 1, 1) := by decide +kernel
theorem dX10_hasDance_5 : decode cX10_hasDance 5 = .ok (.aload_n 0, 1) := by decide +kernel
theorem dX10_hasDance_6 : decode cX10_hasDance 6 = .ok (.getfield 55, 3) := by decide +kernel
theorem dX10_hasDance_9 : decode cX10_hasDance 9 = .ok (.if_icmp .ge 13, 3) := by decide +kernel
theorem dX10_hasDance_12 : decode cX10_hasDance 12 = .ok (.iload_n 1, 1) := by decide +kernel
theorem dX10_hasDance_13 : decode cX10_hasDance 13 = .ok (.bipush 10, 2) := by decide +kernel
theorem dX10_hasDance_15 : decode cX10_hasDance 15 = .ok (.if_icmp .ge 7, 3) := by decide +kernel
theorem dX10_hasDance_18 : decode cX10_hasDance 18 = .ok (.iconst 1, 1) := by decide +kernel
theorem dX10_hasDance_19 : decode cX10_hasDance 19 = .ok (.goto 4, 3) := by decide +kernel
theorem dX10_hasDance_22 : decode cX10_hasDance 22 = .ok (.iconst 0, 1) := by decide +kernel
theorem dX10_hasDance_23 : decode cX10_hasDance 23 = .ok (.ireturn, 1) := by decide +kernel
theorem dX10_addTune_0 : decode cX10_addTune 0 = .ok (.aload_n 0, 1) := by decide +kernel
theorem dX10_addTune_1 : decode cX10_addTune 1 = .ok (.getfield 15, 3) := by decide +kernel
theorem dX10_addTune_4 : decode cX10_addTune 4 = .ok (.bipush 6, 2) := by decide +kernel
theorem dX10_addTune_6 : decode cX10_addTune 6 = .ok (.if_icmp .lt 5, 3) := by decide +kernel
theorem dX10_addTune_9 : decode cX10_addTune 9 = .ok (.iconst (-1), 1) := by decide +kernel
theorem dX10_addTune_10 : decode cX10_addTune 10 = .ok (.ireturn, 1) := by decide +kernel
theorem dX10_addTune_11 : decode cX10_addTune 11 = .ok (.aload_n 0, 1) := by decide +kernel
theorem dX10_addTune_12 : decode cX10_addTune 12 = .ok (.getfield 9, 3) := by decide +kernel
theorem dX10_addTune_15 : decode cX10_addTune 15 = .ok (.aload_n 0, 1) := by decide +kernel
theorem dX10_addTune_16 : decode cX10_addTune 16 = .ok (.getfield 15, 3) := by decide +kernel
theorem dX10_addTune_19 : decode cX10_addTune 19 = .ok (.iload_n 1, 1) := by decide +kernel
theorem dX10_addTune_20 : decode cX10_addTune 20 = .ok (.iastore, 1) := by decide +kernel
theorem dX10_addTune_21 : decode cX10_addTune 21 = .ok (.aload_n 0, 1) := by decide +kernel
theorem dX10_addTune_22 : decode cX10_addTune 22 = .ok (.dup, 1) := by decide +kernel
theorem dX10_addTune_23 : decode cX10_addTune 23 = .ok (.getfield 15, 3) := by decide +kernel
theorem dX10_addTune_26 : decode cX10_addTune 26 = .ok (.iconst 1, 1) := by decide +kernel
theorem dX10_addTune_27 : decode cX10_addTune 27 = .ok (.iadd, 1) := by decide +kernel
theorem dX10_addTune_28 : decode cX10_addTune 28 = .ok (.putfield 15, 3) := by decide +kernel
theorem dX10_addTune_31 : decode cX10_addTune 31 = .ok (.aload_n 0, 1) := by decide +kernel
theorem dX10_addTune_32 : decode cX10_addTune 32 = .ok (.getfield 15, 3) := by decide +kernel
theorem dX10_addTune_35 : decode cX10_addTune 35 = .ok (.iconst 1, 1) := by decide +kernel
theorem dX10_addTune_36 : decode cX10_addTune 36 = .ok (.isub, 1) := by decide +kernel
theorem dX10_addTune_37 : decode cX10_addTune 37 = .ok (.ireturn, 1) := by decide +kernel
theorem dX10_addLaw_0 : decode cX10_addLaw 0 = .ok (.aload_n 1, 1) := by decide +kernel
theorem dX10_addLaw_1 : decode cX10_addLaw 1 = .ok (.ifnull 12, 3) := by decide +kernel
theorem dX10_addLaw_4 : decode cX10_addLaw 4 = .ok (.aload_n 0, 1) := by decide +kernel
theorem dX10_addLaw_5 : decode cX10_addLaw 5 = .ok (.getfield 34, 3) := by decide +kernel
theorem dX10_addLaw_8 : decode cX10_addLaw 8 = .ok (.bipush 6, 2) := by decide +kernel
theorem dX10_addLaw_10 : decode cX10_addLaw 10 = .ok (.if_icmp .lt 5, 3) := by decide +kernel
theorem dX10_addLaw_13 : decode cX10_addLaw 13 = .ok (.iconst (-1), 1) := by decide +kernel
theorem dX10_addLaw_14 : decode cX10_addLaw 14 = .ok (.ireturn, 1) := by decide +kernel
theorem dX10_addLaw_15 : decode cX10_addLaw 15 = .ok (.aload_n 0, 1) := by decide +kernel
theorem dX10_addLaw_16 : decode cX10_addLaw 16 = .ok (.getfield 30, 3) := by decide +kernel
theorem dX10_addLaw_19 : decode cX10_addLaw 19 = .ok (.aload_n 0, 1) := by decide +kernel
theorem dX10_addLaw_20 : decode cX10_addLaw 20 = .ok (.getfield 34, 3) := by decide +kernel
theorem dX10_addLaw_23 : decode cX10_addLaw 23 = .ok (.aload_n 1, 1) := by decide +kernel
theorem dX10_addLaw_24 : decode cX10_addLaw 24 = .ok (.aastore, 1) := by decide +kernel
theorem dX10_addLaw_25 : decode cX10_addLaw 25 = .ok (.aload_n 0, 1) := by decide +kernel
theorem dX10_addLaw_26 : decode cX10_addLaw 26 = .ok (.dup, 1) := by decide +kernel
theorem dX10_addLaw_27 : decode cX10_addLaw 27 = .ok (.getfield 34, 3) := by decide +kernel
theorem dX10_addLaw_30 : decode cX10_addLaw 30 = .ok (.iconst 1, 1) := by decide +kernel
theorem dX10_addLaw_31 : decode cX10_addLaw 31 = .ok (.iadd, 1) := by decide +kernel
theorem dX10_addLaw_32 : decode cX10_addLaw 32 = .ok (.putfield 34, 3) := by decide +kernel
theorem dX10_addLaw_35 : decode cX10_addLaw 35 = .ok (.aload_n 0, 1) := by decide +kernel
theorem dX10_addLaw_36 : decode cX10_addLaw 36 = .ok (.getfield 34, 3) := by decide +kernel
theorem dX10_addLaw_39 : decode cX10_addLaw 39 = .ok (.iconst 1, 1) := by decide +kernel
theorem dX10_addLaw_40 : decode cX10_addLaw 40 = .ok (.isub, 1) := by decide +kernel
theorem dX10_addLaw_41 : decode cX10_addLaw 41 = .ok (.ireturn, 1) := by decide +kernel
theorem dX10_lawInForce_0 : decode cX10_lawInForce 0 = .ok (.aload_n 0, 1) := by decide +kernel
theorem dX10_lawInForce_1 : decode cX10_lawInForce 1 = .ok (.aload_n 0, 1) := by decide +kernel
theorem dX10_lawInForce_2 : decode cX10_lawInForce 2 = .ok (.getfield 37, 3) := by decide +kernel
theorem dX10_lawInForce_5 : decode cX10_lawInForce 5 = .ok (.invokevirtual 77, 3) := by decide +kernel
theorem dX10_lawInForce_8 : decode cX10_lawInForce 8 = .ok (.ifCond .eq 15, 3) := by decide +kernel
theorem dX10_lawInForce_11 : decode cX10_lawInForce 11 = .ok (.aload_n 0, 1) := by decide +kernel
theorem dX10_lawInForce_12 : decode cX10_lawInForce 12 = .ok (.getfield 30, 3) := by decide +kernel
theorem dX10_lawInForce_15 : decode cX10_lawInForce 15 = .ok (.aload_n 0, 1) := by decide +kernel
theorem dX10_lawInForce_16 : decode cX10_lawInForce 16 = .ok (.getfield 37, 3) := by decide +kernel
theorem dX10_lawInForce_19 : decode cX10_lawInForce 19 = .ok (.aaload, 1) := by decide +kernel
theorem dX10_lawInForce_20 : decode cX10_lawInForce 20 = .ok (.goto 4, 3) := by decide +kernel
theorem dX10_lawInForce_23 : decode cX10_lawInForce 23 = .ok (.aconst_null, 1) := by decide +kernel
theorem dX10_lawInForce_24 : decode cX10_lawInForce 24 = .ok (.areturn, 1) := by decide +kernel
theorem dX10_addWedding_0 : decode cX10_addWedding 0 = .ok (.aload_n 0, 1) := by decide +kernel
theorem dX10_addWedding_1 : decode cX10_addWedding 1 = .ok (.getfield 46, 3) := by decide +kernel
theorem dX10_addWedding_4 : decode cX10_addWedding 4 = .ok (.bipush 8, 2) := by decide +kernel
theorem dX10_addWedding_6 : decode cX10_addWedding 6 = .ok (.if_icmp .lt 5, 3) := by decide +kernel
theorem dX10_addWedding_9 : decode cX10_addWedding 9 = .ok (.iconst 0, 1) := by decide +kernel
theorem dX10_addWedding_10 : decode cX10_addWedding 10 = .ok (.ireturn, 1) := by decide +kernel
theorem dX10_addWedding_11 : decode cX10_addWedding 11 = .ok (.aload_n 0, 1) := by decide +kernel
theorem dX10_addWedding_12 : decode cX10_addWedding 12 = .ok (.getfield 40, 3) := by decide +kernel
theorem dX10_addWedding_15 : decode cX10_addWedding 15 = .ok (.aload_n 0, 1) := by decide +kernel
theorem dX10_addWedding_16 : decode cX10_addWedding 16 = .ok (.getfield 46, 3) := by decide +kernel
theorem dX10_addWedding_19 : decode cX10_addWedding 19 = .ok (.iload_n 1, 1) := by decide +kernel
theorem dX10_addWedding_20 : decode cX10_addWedding 20 = .ok (.iastore, 1) := by decide +kernel
theorem dX10_addWedding_21 : decode cX10_addWedding 21 = .ok (.aload_n 0, 1) := by decide +kernel
theorem dX10_addWedding_22 : decode cX10_addWedding 22 = .ok (.getfield 43, 3) := by decide +kernel
theorem dX10_addWedding_25 : decode cX10_addWedding 25 = .ok (.aload_n 0, 1) := by decide +kernel
theorem dX10_addWedding_26 : decode cX10_addWedding 26 = .ok (.getfield 46, 3) := by decide +kernel
theorem dX10_addWedding_29 : decode cX10_addWedding 29 = .ok (.iload_n 2, 1) := by decide +kernel
theorem dX10_addWedding_30 : decode cX10_addWedding 30 = .ok (.iastore, 1) := by decide +kernel
theorem dX10_addWedding_31 : decode cX10_addWedding 31 = .ok (.aload_n 0, 1) := by decide +kernel
theorem dX10_addWedding_32 : decode cX10_addWedding 32 = .ok (.dup, 1) := by decide +kernel
theorem dX10_addWedding_33 : decode cX10_addWedding 33 = .ok (.getfield 46, 3) := by decide +kernel
theorem dX10_addWedding_36 : decode cX10_addWedding 36 = .ok (.iconst 1, 1) := by decide +kernel
theorem dX10_addWedding_37 : decode cX10_addWedding 37 = .ok (.iadd, 1) := by decide +kernel
theorem dX10_addWedding_38 : decode cX10_addWedding 38 = .ok (.putfield 46, 3) := by decide +kernel
theorem dX10_addWedding_41 : decode cX10_addWedding 41 = .ok (.iconst 1, 1) := by decide +kernel
theorem dX10_addWedding_42 : decode cX10_addWedding 42 = .ok (.ireturn, 1) := by decide +kernel
theorem dX10_addDance_0 : decode cX10_addDance 0 = .ok (.aload_n 0, 1) := by decide +kernel
theorem dX10_addDance_1 : decode cX10_addDance 1 = .ok (.getfield 55, 3) := by decide +kernel
theorem dX10_addDance_4 : decode cX10_addDance 4 = .ok (.bipush 10, 2) := by decide +kernel
theorem dX10_addDance_6 : decode cX10_addDance 6 = .ok (.if_icmp .lt 5, 3) := by decide +kernel
theorem dX10_addDance_9 : decode cX10_addDance 9 = .ok (.iconst (-1), 1) := by decide +kernel
theorem dX10_addDance_10 : decode cX10_addDance 10 = .ok (.ireturn, 1) := by decide +kernel
theorem dX10_addDance_11 : decode cX10_addDance 11 = .ok (.aload_n 0, 1) := by decide +kernel
theorem dX10_addDance_12 : decode cX10_addDance 12 = .ok (.getfield 49, 3) := by decide +kernel
theorem dX10_addDance_15 : decode cX10_addDance 15 = .ok (.aload_n 0, 1) := by decide +kernel
theorem dX10_addDance_16 : decode cX10_addDance 16 = .ok (.getfield 55, 3) := by decide +kernel
theorem dX10_addDance_19 : decode cX10_addDance 19 = .ok (.iload_n 1, 1) := by decide +kernel
theorem dX10_addDance_20 : decode cX10_addDance 20 = .ok (.iastore, 1) := by decide +kernel
theorem dX10_addDance_21 : decode cX10_addDance 21 = .ok (.aload_n 0, 1) := by decide +kernel
theorem dX10_addDance_22 : decode cX10_addDance 22 = .ok (.getfield 52, 3) := by decide +kernel
theorem dX10_addDance_25 : decode cX10_addDance 25 = .ok (.aload_n 0, 1) := by decide +kernel
theorem dX10_addDance_26 : decode cX10_addDance 26 = .ok (.getfield 55, 3) := by decide +kernel
theorem dX10_addDance_29 : decode cX10_addDance 29 = .ok (.iload_n 2, 1) := by decide +kernel
theorem dX10_addDance_30 : decode cX10_addDance 30 = .ok (.iastore, 1) := by decide +kernel
theorem dX10_addDance_31 : decode cX10_addDance 31 = .ok (.aload_n 0, 1) := by decide +kernel
theorem dX10_addDance_32 : decode cX10_addDance 32 = .ok (.dup, 1) := by decide +kernel
theorem dX10_addDance_33 : decode cX10_addDance 33 = .ok (.getfield 55, 3) := by decide +kernel
theorem dX10_addDance_36 : decode cX10_addDance 36 = .ok (.iconst 1, 1) := by decide +kernel
theorem dX10_addDance_37 : decode cX10_addDance 37 = .ok (.iadd, 1) := by decide +kernel
theorem dX10_addDance_38 : decode cX10_addDance 38 = .ok (.putfield 55, 3) := by decide +kernel
theorem dX10_addDance_41 : decode cX10_addDance 41 = .ok (.aload_n 0, 1) := by decide +kernel
theorem dX10_addDance_42 : decode cX10_addDance 42 = .ok (.getfield 55, 3) := by decide +kernel
theorem dX10_addDance_45 : decode cX10_addDance 45 = .ok (.iconst 1, 1) := by decide +kernel
theorem dX10_addDance_46 : decode cX10_addDance 46 = .ok (.isub, 1) := by decide +kernel
theorem dX10_addDance_47 : decode cX10_addDance 47 = .ok (.ireturn, 1) := by decide +kernel
theorem dX10_addAhead_0 : decode cX10_addAhead 0 = .ok (.aload_n 0, 1) := by decide +kernel
theorem dX10_addAhead_1 : decode cX10_addAhead 1 = .ok (.getfield 64, 3) := by decide +kernel
theorem dX10_addAhead_4 : decode cX10_addAhead 4 = .ok (.bipush 12, 2) := by decide +kernel
theorem dX10_addAhead_6 : decode cX10_addAhead 6 = .ok (.if_icmp .lt 5, 3) := by decide +kernel
theorem dX10_addAhead_9 : decode cX10_addAhead 9 = .ok (.iconst 0, 1) := by decide +kernel
theorem dX10_addAhead_10 : decode cX10_addAhead 10 = .ok (.ireturn, 1) := by decide +kernel
theorem dX10_addAhead_11 : decode cX10_addAhead 11 = .ok (.aload_n 0, 1) := by decide +kernel
theorem dX10_addAhead_12 : decode cX10_addAhead 12 = .ok (.getfield 58, 3) := by decide +kernel
theorem dX10_addAhead_15 : decode cX10_addAhead 15 = .ok (.aload_n 0, 1) := by decide +kernel
theorem dX10_addAhead_16 : decode cX10_addAhead 16 = .ok (.getfield 64, 3) := by decide +kernel
theorem dX10_addAhead_19 : decode cX10_addAhead 19 = .ok (.iload_n 1, 1) := by decide +kernel
theorem dX10_addAhead_20 : decode cX10_addAhead 20 = .ok (.iastore, 1) := by decide +kernel
theorem dX10_addAhead_21 : decode cX10_addAhead 21 = .ok (.aload_n 0, 1) := by decide +kernel
theorem dX10_addAhead_22 : decode cX10_addAhead 22 = .ok (.getfield 61, 3) := by decide +kernel
theorem dX10_addAhead_25 : decode cX10_addAhead 25 = .ok (.aload_n 0, 1) := by decide +kernel
theorem dX10_addAhead_26 : decode cX10_addAhead 26 = .ok (.getfield 64, 3) := by decide +kernel
theorem dX10_addAhead_29 : decode cX10_addAhead 29 = .ok (.iload_n 2, 1) := by decide +kernel
theorem dX10_addAhead_30 : decode cX10_addAhead 30 = .ok (.iastore, 1) := by decide +kernel
theorem dX10_addAhead_31 : decode cX10_addAhead 31 = .ok (.aload_n 0, 1) := by decide +kernel
theorem dX10_addAhead_32 : decode cX10_addAhead 32 = .ok (.dup, 1) := by decide +kernel
theorem dX10_addAhead_33 : decode cX10_addAhead 33 = .ok (.getfield 64, 3) := by decide +kernel
theorem dX10_addAhead_36 : decode cX10_addAhead 36 = .ok (.iconst 1, 1) := by decide +kernel
theorem dX10_addAhead_37 : decode cX10_addAhead 37 = .ok (.iadd, 1) := by decide +kernel
theorem dX10_addAhead_38 : decode cX10_addAhead 38 = .ok (.putfield 64, 3) := by decide +kernel
theorem dX10_addAhead_41 : decode cX10_addAhead 41 = .ok (.iconst 1, 1) := by decide +kernel
theorem dX10_addAhead_42 : decode cX10_addAhead 42 = .ok (.ireturn, 1) := by decide +kernel
theorem dX10_lengthOfDebt_0 : decode cX10_lengthOfDebt 0 = .ok (.iload_n 1, 1) := by decide +kernel
theorem dX10_lengthOfDebt_1 : decode cX10_lengthOfDebt 1 = .ok (.ifCond .lt 20, 3) := by decide +kernel
theorem dX10_lengthOfDebt_4 : decode cX10_lengthOfDebt 4 = .ok (.iload_n 1, 1) := by decide +kernel
theorem dX10_lengthOfDebt_5 : decode cX10_lengthOfDebt 5 = .ok (.aload_n 0, 1) := by decide +kernel
theorem dX10_lengthOfDebt_6 : decode cX10_lengthOfDebt 6 = .ok (.getfield 22, 3) := by decide +kernel
theorem dX10_lengthOfDebt_9 : decode cX10_lengthOfDebt 9 = .ok (.getfield 81, 3) := by decide +kernel
theorem dX10_lengthOfDebt_12 : decode cX10_lengthOfDebt 12 = .ok (.if_icmp .ge 9, 3) := by decide +kernel
theorem dX10_lengthOfDebt_15 : decode cX10_lengthOfDebt 15 = .ok (.iload_n 1, 1) := by decide +kernel
theorem dX10_lengthOfDebt_16 : decode cX10_lengthOfDebt 16 = .ok (.bipush 16, 2) := by decide +kernel
theorem dX10_lengthOfDebt_18 : decode cX10_lengthOfDebt 18 = .ok (.if_icmp .lt 5, 3) := by decide +kernel
theorem dX10_lengthOfDebt_21 : decode cX10_lengthOfDebt 21 = .ok (.iconst 0, 1) := by decide +kernel
theorem dX10_lengthOfDebt_22 : decode cX10_lengthOfDebt 22 = .ok (.ireturn, 1) := by decide +kernel
theorem dX10_lengthOfDebt_23 : decode cX10_lengthOfDebt 23 = .ok (.aload_n 0, 1) := by decide +kernel
theorem dX10_lengthOfDebt_24 : decode cX10_lengthOfDebt 24 = .ok (.getfield 22, 3) := by decide +kernel
theorem dX10_lengthOfDebt_27 : decode cX10_lengthOfDebt 27 = .ok (.getfield 84, 3) := by decide +kernel
theorem dX10_lengthOfDebt_30 : decode cX10_lengthOfDebt 30 = .ok (.iload_n 1, 1) := by decide +kernel
theorem dX10_lengthOfDebt_31 : decode cX10_lengthOfDebt 31 = .ok (.iaload, 1) := by decide +kernel
theorem dX10_lengthOfDebt_32 : decode cX10_lengthOfDebt 32 = .ok (.istore_n 2, 1) := by decide +kernel
theorem dX10_lengthOfDebt_33 : decode cX10_lengthOfDebt 33 = .ok (.iload_n 2, 1) := by decide +kernel
theorem dX10_lengthOfDebt_34 : decode cX10_lengthOfDebt 34 = .ok (.ifCond .lt 26, 3) := by decide +kernel
theorem dX10_lengthOfDebt_37 : decode cX10_lengthOfDebt 37 = .ok (.iload_n 2, 1) := by decide +kernel
theorem dX10_lengthOfDebt_38 : decode cX10_lengthOfDebt 38 = .ok (.aload_n 0, 1) := by decide +kernel
theorem dX10_lengthOfDebt_39 : decode cX10_lengthOfDebt 39 = .ok (.getfield 15, 3) := by decide +kernel
theorem dX10_lengthOfDebt_42 : decode cX10_lengthOfDebt 42 = .ok (.if_icmp .ge 18, 3) := by decide +kernel
theorem dX10_lengthOfDebt_45 : decode cX10_lengthOfDebt 45 = .ok (.iload_n 2, 1) := by decide +kernel
theorem dX10_lengthOfDebt_46 : decode cX10_lengthOfDebt 46 = .ok (.bipush 6, 2) := by decide +kernel
theorem dX10_lengthOfDebt_48 : decode cX10_lengthOfDebt 48 = .ok (.if_icmp .ge 12, 3) := by decide +kernel
theorem dX10_lengthOfDebt_51 : decode cX10_lengthOfDebt 51 = .ok (.aload_n 0, 1) := by decide +kernel
theorem dX10_lengthOfDebt_52 : decode cX10_lengthOfDebt 52 = .ok (.getfield 9, 3) := by decide +kernel
theorem dX10_lengthOfDebt_55 : decode cX10_lengthOfDebt 55 = .ok (.iload_n 2, 1) := by decide +kernel
theorem dX10_lengthOfDebt_56 : decode cX10_lengthOfDebt 56 = .ok (.iaload, 1) := by decide +kernel
theorem dX10_lengthOfDebt_57 : decode cX10_lengthOfDebt 57 = .ok (.goto 4, 3) := by decide +kernel
theorem dX10_lengthOfDebt_60 : decode cX10_lengthOfDebt 60 = .ok (.iconst 0, 1) := by decide +kernel
theorem dX10_lengthOfDebt_61 : decode cX10_lengthOfDebt 61 = .ok (.ireturn, 1) := by decide +kernel
theorem dX11_init_0 : decode cX11_init 0 = .ok (.aload_n 0, 1) := by decide +kernel
theorem dX11_init_1 : decode cX11_init 1 = .ok (.invokespecial 1, 3) := by decide +kernel
theorem dX11_init_4 : decode cX11_init 4 = .ok (.aload_n 0, 1) := by decide +kernel
theorem dX11_init_5 : decode cX11_init 5 = .ok (.new 7, 3) := by decide +kernel
theorem dX11_init_8 : decode cX11_init 8 = .ok (.dup, 1) := by decide +kernel
theorem dX11_init_9 : decode cX11_init 9 = .ok (.invokespecial 9, 3) := by decide +kernel
theorem dX11_init_12 : decode cX11_init 12 = .ok (.putfield 10, 3) := by decide +kernel
theorem dX11_init_15 : decode cX11_init 15 = .ok (.aload_n 0, 1) := by decide +kernel
theorem dX11_init_16 : decode cX11_init 16 = .ok (.iconst 2, 1) := by decide +kernel
theorem dX11_init_17 : decode cX11_init 17 = .ok (.anewarray 7, 3) := by decide +kernel
theorem dX11_init_20 : decode cX11_init 20 = .ok (.putfield 16, 3) := by decide +kernel
theorem dX11_init_23 : decode cX11_init 23 = .ok (.aload_n 0, 1) := by decide +kernel
theorem dX11_init_24 : decode cX11_init 24 = .ok (.new 20, 3) := by decide +kernel
theorem dX11_init_27 : decode cX11_init 27 = .ok (.dup, 1) := by decide +kernel
theorem dX11_init_28 : decode cX11_init 28 = .ok (.invokespecial 22, 3) := by decide +kernel
theorem dX11_init_31 : decode cX11_init 31 = .ok (.putfield 23, 3) := by decide +kernel
theorem dX11_init_34 : decode cX11_init 34 = .ok (.aload_n 0, 1) := by decide +kernel
theorem dX11_init_35 : decode cX11_init 35 = .ok (.new 27, 3) := by decide +kernel
theorem dX11_init_38 : decode cX11_init 38 = .ok (.dup, 1) := by decide +kernel
theorem dX11_init_39 : decode cX11_init 39 = .ok (.aload_n 0, 1) := by decide +kernel
theorem dX11_init_40 : decode cX11_init 40 = .ok (.getfield 23, 3) := by decide +kernel
theorem dX11_init_43 : decode cX11_init 43 = .ok (.invokespecial 29, 3) := by decide +kernel
theorem dX11_init_46 : decode cX11_init 46 = .ok (.putfield 32, 3) := by decide +kernel
theorem dX11_init_49 : decode cX11_init 49 = .ok (.aload_n 0, 1) := by decide +kernel
theorem dX11_init_50 : decode cX11_init 50 = .ok (.new 36, 3) := by decide +kernel
theorem dX11_init_53 : decode cX11_init 53 = .ok (.dup, 1) := by decide +kernel
theorem dX11_init_54 : decode cX11_init 54 = .ok (.aload_n 0, 1) := by decide +kernel
theorem dX11_init_55 : decode cX11_init 55 = .ok (.getfield 10, 3) := by decide +kernel
theorem dX11_init_58 : decode cX11_init 58 = .ok (.invokespecial 38, 3) := by decide +kernel
theorem dX11_init_61 : decode cX11_init 61 = .ok (.putfield 41, 3) := by decide +kernel
theorem dX11_init_64 : decode cX11_init 64 = .ok (.aload_n 0, 1) := by decide +kernel
theorem dX11_init_65 : decode cX11_init 65 = .ok (.new 45, 3) := by decide +kernel
theorem dX11_init_68 : decode cX11_init 68 = .ok (.dup, 1) := by decide +kernel
theorem dX11_init_69 : decode cX11_init 69 = .ok (.aload_n 0, 1) := by decide +kernel
theorem dX11_init_70 : decode cX11_init 70 = .ok (.getfield 10, 3) := by decide +kernel
theorem dX11_init_73 : decode cX11_init 73 = .ok (.aload_n 0, 1) := by decide +kernel
theorem dX11_init_74 : decode cX11_init 74 = .ok (.getfield 41, 3) := by decide +kernel
theorem dX11_init_77 : decode cX11_init 77 = .ok (.invokespecial 47, 3) := by decide +kernel
theorem dX11_init_80 : decode cX11_init 80 = .ok (.putfield 50, 3) := by decide +kernel
theorem dX11_init_83 : decode cX11_init 83 = .ok (.aload_n 0, 1) := by decide +kernel
theorem dX11_init_84 : decode cX11_init 84 = .ok (.new 54, 3) := by decide +kernel
theorem dX11_init_87 : decode cX11_init 87 = .ok (.dup, 1) := by decide +kernel
theorem dX11_init_88 : decode cX11_init 88 = .ok (.aload_n 0, 1) := by decide +kernel
theorem dX11_init_89 : decode cX11_init 89 = .ok (.getfield 10, 3) := by decide +kernel
theorem dX11_init_92 : decode cX11_init 92 = .ok (.aload_n 0, 1) := by decide +kernel
theorem dX11_init_93 : decode cX11_init 93 = .ok (.getfield 41, 3) := by decide +kernel
theorem dX11_init_96 : decode cX11_init 96 = .ok (.invokespecial 56, 3) := by decide +kernel
theorem dX11_init_99 : decode cX11_init 99 = .ok (.putfield 57, 3) := by decide +kernel
theorem dX11_init_102 : decode cX11_init 102 = .ok (.aload_n 0, 1) := by decide +kernel
theorem dX11_init_103 : decode cX11_init 103 = .ok (.new 61, 3) := by decide +kernel
theorem dX11_init_106 : decode cX11_init 106 = .ok (.dup, 1) := by decide +kernel
theorem dX11_init_107 : decode cX11_init 107 = .ok (.aload_n 0, 1) := by decide +kernel
theorem dX11_init_108 : decode cX11_init 108 = .ok (.getfield 10, 3) := by decide +kernel
theorem dX11_init_111 : decode cX11_init 111 = .ok (.aload_n 0, 1) := by decide +kernel
theorem dX11_init_112 : decode cX11_init 112 = .ok (.getfield 41, 3) := by decide +kernel
theorem dX11_init_115 : decode cX11_init 115 = .ok (.invokespecial 63, 3) := by decide +kernel
theorem dX11_init_118 : decode cX11_init 118 = .ok (.putfield 64, 3) := by decide +kernel
theorem dX11_init_121 : decode cX11_init 121 = .ok (.aload_n 0, 1) := by decide +kernel
theorem dX11_init_122 : decode cX11_init 122 = .ok (.new 68, 3) := by decide +kernel
theorem dX11_init_125 : decode cX11_init 125 = .ok (.dup, 1) := by decide +kernel
theorem dX11_init_126 : decode cX11_init 126 = .ok (.aload_n 0, 1) := by decide +kernel
theorem dX11_init_127 : decode cX11_init 127 = .ok (.getfield 10, 3) := by decide +kernel
theorem dX11_init_130 : decode cX11_init 130 = .ok (.aload_n 0, 1) := by decide +kernel
theorem dX11_init_131 : decode cX11_init 131 = .ok (.getfield 41, 3) := by decide +kernel
theorem dX11_init_134 : decode cX11_init 134 = .ok (.invokespecial 70, 3) := by decide +kernel
theorem dX11_init_137 : decode cX11_init 137 = .ok (.putfield 71, 3) := by decide +kernel
theorem dX11_init_140 : decode cX11_init 140 = .ok (.aload_n 0, 1) := by decide +kernel
theorem dX11_init_141 : decode cX11_init 141 = .ok (.new 75, 3) := by decide +kernel
theorem dX11_init_144 : decode cX11_init 144 = .ok (.dup, 1) := by decide +kernel
theorem dX11_init_145 : decode cX11_init 145 = .ok (.aload_n 0, 1) := by decide +kernel
theorem dX11_init_146 : decode cX11_init 146 = .ok (.getfield 10, 3) := by decide +kernel
theorem dX11_init_149 : decode cX11_init 149 = .ok (.invokespecial 77, 3) := by decide +kernel
theorem dX11_init_152 : decode cX11_init 152 = .ok (.putfield 78, 3) := by decide +kernel
theorem dX11_init_155 : decode cX11_init 155 = .ok (.aload_n 0, 1) := by decide +kernel
theorem dX11_init_156 : decode cX11_init 156 = .ok (.new 82, 3) := by decide +kernel
theorem dX11_init_159 : decode cX11_init 159 = .ok (.dup, 1) := by decide +kernel
theorem dX11_init_160 : decode cX11_init 160 = .ok (.aload_n 0, 1) := by decide +kernel
theorem dX11_init_161 : decode cX11_init 161 = .ok (.getfield 10, 3) := by decide +kernel
theorem dX11_init_164 : decode cX11_init 164 = .ok (.invokespecial 84, 3) := by decide +kernel
theorem dX11_init_167 : decode cX11_init 167 = .ok (.putfield 85, 3) := by decide +kernel
theorem dX11_init_170 : decode cX11_init 170 = .ok (.aload_n 0, 1) := by decide +kernel
theorem dX11_init_171 : decode cX11_init 171 = .ok (.iconst 5, 1) := by decide +kernel
theorem dX11_init_172 : decode cX11_init 172 = .ok (.newarray .int, 2) := by decide +kernel
theorem dX11_init_174 : decode cX11_init 174 = .ok (.putfield 89, 3) := by decide +kernel
theorem dX11_init_177 : decode cX11_init 177 = .ok (.aload_n 0, 1) := by decide +kernel
theorem dX11_init_178 : decode cX11_init 178 = .ok (.iconst 0, 1) := by decide +kernel
theorem dX11_init_179 : decode cX11_init 179 = .ok (.putfield 93, 3) := by decide +kernel
theorem dX11_init_182 : decode cX11_init 182 = .ok (.aload_n 0, 1) := by decide +kernel
theorem dX11_init_183 : decode cX11_init 183 = .ok (.iconst (-1), 1) := by decide +kernel
theorem dX11_init_184 : decode cX11_init 184 = .ok (.putfield 97, 3) := by decide +kernel
theorem dX11_init_187 : decode cX11_init 187 = .ok (.aload_n 0, 1) := by decide +kernel
theorem dX11_init_188 : decode cX11_init 188 = .ok (.iconst 0, 1) := by decide +kernel
theorem dX11_init_189 : decode cX11_init 189 = .ok (.putfield 100, 3) := by decide +kernel
theorem dX11_init_192 : decode cX11_init 192 = .ok (.return_, 1) := by decide +kernel
theorem dX11_tune_0 : decode cX11_tune 0 = .ok (.iload_n 1, 1) := by decide +kernel
theorem dX11_tune_1 : decode cX11_tune 1 = .ok (.iconst 1, 1) := by decide +kernel
theorem dX11_tune_2 : decode cX11_tune 2 = .ok (.if_icmp .lt 9, 3) := by decide +kernel
theorem dX11_tune_5 : decode cX11_tune 5 = .ok (.iload_n 1, 1) := by decide +kernel
theorem dX11_tune_6 : decode cX11_tune 6 = .ok (.bipush 30, 2) := by decide +kernel
theorem dX11_tune_8 : decode cX11_tune 8 = .ok (.if_icmp .le 9, 3) := by decide +kernel
theorem dX11_tune_11 : decode cX11_tune 11 = .ok (.aload_n 0, 1) := by decide +kernel
theorem dX11_tune_12 : decode cX11_tune 12 = .ok (.iconst (-1), 1) := by decide +kernel
theorem dX11_tune_13 : decode cX11_tune 13 = .ok (.invokevirtual 103, 3) := by decide +kernel
theorem dX11_tune_16 : decode cX11_tune 16 = .ok (.ireturn, 1) := by decide +kernel
theorem dX11_tune_17 : decode cX11_tune 17 = .ok (.aload_n 0, 1) := by decide +kernel
theorem dX11_tune_18 : decode cX11_tune 18 = .ok (.getfield 10, 3) := by decide +kernel
theorem dX11_tune_21 : decode cX11_tune 21 = .ok (.iload_n 1, 1) := by decide +kernel
theorem dX11_tune_22 : decode cX11_tune 22 = .ok (.invokevirtual 107, 3) := by decide +kernel
theorem dX11_tune_25 : decode cX11_tune 25 = .ok (.istore_n 2, 1) := by decide +kernel
theorem dX11_tune_26 : decode cX11_tune 26 = .ok (.iload_n 2, 1) := by decide +kernel
theorem dX11_tune_27 : decode cX11_tune 27 = .ok (.iconst (-1), 1) := by decide +kernel
theorem dX11_tune_28 : decode cX11_tune 28 = .ok (.if_icmp .ne 12, 3) := by decide +kernel
theorem dX11_tune_31 : decode cX11_tune 31 = .ok (.aload_n 0, 1) := by decide +kernel
theorem dX11_tune_32 : decode cX11_tune 32 = .ok (.bipush (-5), 2) := by decide +kernel
theorem dX11_tune_34 : decode cX11_tune 34 = .ok (.invokevirtual 103, 3) := by decide +kernel
theorem dX11_tune_37 : decode cX11_tune 37 = .ok (.goto 8, 3) := by decide +kernel
theorem dX11_tune_40 : decode cX11_tune 40 = .ok (.aload_n 0, 1) := by decide +kernel
theorem dX11_tune_41 : decode cX11_tune 41 = .ok (.iload_n 2, 1) := by decide +kernel
theorem dX11_tune_42 : decode cX11_tune 42 = .ok (.invokevirtual 110, 3) := by decide +kernel
theorem dX11_tune_45 : decode cX11_tune 45 = .ok (.ireturn, 1) := by decide +kernel
theorem dX11_length_0 : decode cX11_length 0 = .ok (.aload_n 0, 1) := by decide +kernel
theorem dX11_length_1 : decode cX11_length 1 = .ok (.getfield 10, 3) := by decide +kernel
theorem dX11_length_4 : decode cX11_length 4 = .ok (.iload_n 1, 1) := by decide +kernel
theorem dX11_length_5 : decode cX11_length 5 = .ok (.invokevirtual 113, 3) := by decide +kernel
theorem dX11_length_8 : decode cX11_length 8 = .ok (.ifCond .eq 15, 3) := by decide +kernel
theorem dX11_length_11 : decode cX11_length 11 = .ok (.aload_n 0, 1) := by decide +kernel
theorem dX11_length_12 : decode cX11_length 12 = .ok (.getfield 10, 3) := by decide +kernel
theorem dX11_length_15 : decode cX11_length 15 = .ok (.getfield 117, 3) := by decide +kernel
theorem dX11_length_18 : decode cX11_length 18 = .ok (.iload_n 1, 1) := by decide +kernel
theorem dX11_length_19 : decode cX11_length 19 = .ok (.iaload, 1) := by decide +kernel
theorem dX11_length_20 : decode cX11_length 20 = .ok (.goto 4, 3) := by decide +kernel
theorem dX11_length_23 : decode cX11_length 23 = .ok (.iconst (-1), 1) := by decide +kernel
theorem dX11_length_24 : decode cX11_length 24 = .ok (.ireturn, 1) := by decide +kernel
theorem dX11_owe_0 : decode cX11_owe 0 = .ok (.iload_n 1, 1) := by decide +kernel
theorem dX11_owe_1 : decode cX11_owe 1 = .ok (.iload_n 2, 1) := by decide +kernel
theorem dX11_owe_2 : decode cX11_owe 2 = .ok (.iload 4, 2) := by decide +kernel
theorem dX11_owe_4 : decode cX11_owe 4 = .ok (.invokestatic 120, 3) := by decide +kernel
theorem dX11_owe_7 : decode cX11_owe 7 = .ok (.ifCond .ne 9, 3) := by decide +kernel
theorem dX11_owe_10 : decode cX11_owe 10 = .ok (.aload_n 0, 1) := by decide +kernel
theorem dX11_owe_11 : decode cX11_owe 11 = .ok (.iconst (-1), 1) := by decide +kernel
theorem dX11_owe_12 : decode cX11_owe 12 = .ok (.invokevirtual 103, 3) := by decide +kernel
theorem dX11_owe_15 : decode cX11_owe 15 = .ok (.ireturn, 1) := by decide +kernel
theorem dX11_owe_16 : decode cX11_owe 16 = .ok (.aload_n 0, 1) := by decide +kernel
theorem dX11_owe_17 : decode cX11_owe 17 = .ok (.getfield 10, 3) := by decide +kernel
theorem dX11_owe_20 : decode cX11_owe 20 = .ok (.iload_n 3, 1) := by decide +kernel
theorem dX11_owe_21 : decode cX11_owe 21 = .ok (.invokevirtual 113, 3) := by decide +kernel
theorem dX11_owe_24 : decode cX11_owe 24 = .ok (.ifCond .ne 10, 3) := by decide +kernel
theorem dX11_owe_27 : decode cX11_owe 27 = .ok (.aload_n 0, 1) := by decide +kernel
theorem dX11_owe_28 : decode cX11_owe 28 = .ok (.bipush (-2), 2) := by decide +kernel
theorem dX11_owe_30 : decode cX11_owe 30 = .ok (.invokevirtual 103, 3) := by decide +kernel
theorem dX11_owe_33 : decode cX11_owe 33 = .ok (.ireturn, 1) := by decide +kernel
theorem dX11_owe_34 : decode cX11_owe 34 = .ok (.aload_n 0, 1) := by decide +kernel
theorem dX11_owe_35 : decode cX11_owe 35 = .ok (.getfield 10, 3) := by decide +kernel
theorem dX11_owe_38 : decode cX11_owe 38 = .ok (.getfield 124, 3) := by decide +kernel
theorem dX11_owe_41 : decode cX11_owe 41 = .ok (.iload_n 1, 1) := by decide +kernel
theorem dX11_owe_42 : decode cX11_owe 42 = .ok (.iload_n 2, 1) := by decide +kernel
theorem dX11_owe_43 : decode cX11_owe 43 = .ok (.iload_n 3, 1) := by decide +kernel
theorem dX11_owe_44 : decode cX11_owe 44 = .ok (.iload 4, 2) := by decide +kernel
theorem dX11_owe_46 : decode cX11_owe 46 = .ok (.aload_n 0, 1) := by decide +kernel
theorem dX11_owe_47 : decode cX11_owe 47 = .ok (.getfield 10, 3) := by decide +kernel
theorem dX11_owe_50 : decode cX11_owe 50 = .ok (.getfield 128, 3) := by decide +kernel
theorem dX11_owe_53 : decode cX11_owe 53 = .ok (.invokevirtual 131, 3) := by decide +kernel
theorem dX11_owe_56 : decode cX11_owe 56 = .ok (.istore 5, 2) := by decide +kernel
theorem dX11_owe_58 : decode cX11_owe 58 = .ok (.iload 5, 2) := by decide +kernel
theorem dX11_owe_60 : decode cX11_owe 60 = .ok (.iconst (-1), 1) := by decide +kernel
theorem dX11_owe_61 : decode cX11_owe 61 = .ok (.if_icmp .ne 12, 3) := by decide +kernel
theorem dX11_owe_64 : decode cX11_owe 64 = .ok (.aload_n 0, 1) := by decide +kernel
theorem dX11_owe_65 : decode cX11_owe 65 = .ok (.bipush (-5), 2) := by decide +kernel
theorem dX11_owe_67 : decode cX11_owe 67 = .ok (.invokevirtual 103, 3) := by decide +kernel
theorem dX11_owe_70 : decode cX11_owe 70 = .ok (.goto 9, 3) := by decide +kernel
theorem dX11_owe_73 : decode cX11_owe 73 = .ok (.aload_n 0, 1) := by decide +kernel
theorem dX11_owe_74 : decode cX11_owe 74 = .ok (.iload 5, 2) := by decide +kernel
theorem dX11_owe_76 : decode cX11_owe 76 = .ok (.invokevirtual 110, 3) := by decide +kernel
theorem dX11_owe_79 : decode cX11_owe 79 = .ok (.ireturn, 1) := by decide +kernel
theorem dX11_of_0 : decode cX11_of 0 = .ok (.aload_n 0, 1) := by decide +kernel
theorem dX11_of_1 : decode cX11_of 1 = .ok (.getfield 10, 3) := by decide +kernel
theorem dX11_of_4 : decode cX11_of 4 = .ok (.getfield 124, 3) := by decide +kernel
theorem dX11_of_7 : decode cX11_of 7 = .ok (.astore_n 3, 1) := by decide +kernel
theorem dX11_of_8 : decode cX11_of 8 = .ok (.aload_n 3, 1) := by decide +kernel
theorem dX11_of_9 : decode cX11_of 9 = .ok (.iload_n 1, 1) := by decide +kernel
theorem dX11_of_10 : decode cX11_of 10 = .ok (.invokevirtual 137, 3) := by decide +kernel
theorem dX11_of_13 : decode cX11_of 13 = .ok (.ifCond .eq 13, 3) := by decide +kernel
theorem dX11_of_16 : decode cX11_of 16 = .ok (.iload_n 2, 1) := by decide +kernel
theorem dX11_of_17 : decode cX11_of 17 = .ok (.ifCond .lt 9, 3) := by decide +kernel
theorem dX11_of_20 : decode cX11_of 20 = .ok (.iload_n 2, 1) := by decide +kernel
theorem dX11_of_21 : decode cX11_of 21 = .ok (.bipush 7, 2) := by decide +kernel
theorem dX11_of_23 : decode cX11_of 23 = .ok (.if_icmp .le 5, 3) := by decide +kernel
theorem dX11_of_26 : decode cX11_of 26 = .ok (.iconst (-1), 1) := by decide +kernel
theorem dX11_of_27 : decode cX11_of 27 = .ok (.ireturn, 1) := by decide +kernel
theorem dX11_of_28 : decode cX11_of 28 = .ok (.iload_n 2, 1) := by decide +kernel
theorem dX11_of_29 : decode cX11_of 29 = .ok (.iconst 4, 1) := by decide +kernel
theorem dX11_of_30 : decode cX11_of 30 = .ok (.if_icmp .gt 10, 3) := by decide +kernel
theorem dX11_of_33 : decode cX11_of 33 = .ok (.aload_n 3, 1) := by decide +kernel
theorem dX11_of_34 : decode cX11_of 34 = .ok (.iload_n 1, 1) := by decide +kernel
theorem dX11_of_35 : decode cX11_of 35 = .ok (.iload_n 2, 1) := by decide +kernel
theorem dX11_of_36 : decode cX11_of 36 = .ok (.invokevirtual 140, 3) := by decide +kernel
theorem dX11_of_39 : decode cX11_of 39 = .ok (.ireturn, 1) := by decide +kernel
theorem dX11_of_40 : decode cX11_of 40 = .ok (.aload_n 0, 1) := by decide +kernel
theorem dX11_of_41 : decode cX11_of 41 = .ok (.getfield 41, 3) := by decide +kernel
theorem dX11_of_44 : decode cX11_of 44 = .ok (.invokevirtual 144, 3) := by decide +kernel
theorem dX11_of_47 : decode cX11_of 47 = .ok (.iload_n 2, 1) := by decide +kernel
theorem dX11_of_48 : decode cX11_of 48 = .ok (.iconst 5, 1) := by decide +kernel
theorem dX11_of_49 : decode cX11_of 49 = .ok (.if_icmp .ne 13, 3) := by decide +kernel
theorem dX11_of_52 : decode cX11_of 52 = .ok (.aload_n 0, 1) := by decide +kernel
theorem dX11_of_53 : decode cX11_of 53 = .ok (.getfield 41, 3) := by decide +kernel
theorem dX11_of_56 : decode cX11_of 56 = .ok (.getfield 147, 3) := by decide +kernel
theorem dX11_of_59 : decode cX11_of 59 = .ok (.iload_n 1, 1) := by decide +kernel
theorem dX11_of_60 : decode cX11_of 60 = .ok (.iaload, 1) := by decide +kernel
theorem dX11_of_61 : decode cX11_of 61 = .ok (.ireturn, 1) := by decide +kernel
theorem dX11_of_62 : decode cX11_of 62 = .ok (.iload_n 2, 1) := by decide +kernel
theorem dX11_of_63 : decode cX11_of 63 = .ok (.bipush 6, 2) := by decide +kernel
theorem dX11_of_65 : decode cX11_of 65 = .ok (.if_icmp .ne 15, 3) := by decide +kernel
theorem dX11_of_68 : decode cX11_of 68 = .ok (.aload_n 0, 1) := by decide +kernel
theorem dX11_of_69 : decode cX11_of 69 = .ok (.getfield 41, 3) := by decide +kernel
theorem dX11_of_72 : decode cX11_of 72 = .ok (.getfield 150, 3) := by decide +kernel
theorem dX11_of_75 : decode cX11_of 75 = .ok (.iload_n 1, 1) := by decide +kernel
theorem dX11_of_76 : decode cX11_of 76 = .ok (.baload, 1) := by decide +kernel
theorem dX11_of_77 : decode cX11_of 77 = .ok (.goto 12, 3) := by decide +kernel
theorem dX11_of_80 : decode cX11_of 80 = .ok (.aload_n 0, 1) := by decide +kernel
theorem dX11_of_81 : decode cX11_of 81 = .ok (.getfield 41, 3) := by decide +kernel
theorem dX11_of_84 : decode cX11_of 84 = .ok (.getfield 154, 3) := by decide +kernel
theorem dX11_of_87 : decode cX11_of 87 = .ok (.iload_n 1, 1) := by decide +kernel
theorem dX11_of_88 : decode cX11_of 88 = .ok (.baload, 1) := by decide +kernel
theorem dX11_of_89 : decode cX11_of 89 = .ok (.istore 4, 2) := by decide +kernel
theorem dX11_of_91 : decode cX11_of 91 = .ok (.iload 4, 2) := by decide +kernel
theorem dX11_of_93 : decode cX11_of 93 = .ok (.ifCond .eq 7, 3) := by decide +kernel
theorem dX11_of_96 : decode cX11_of 96 = .ok (.iconst 1, 1) := by decide +kernel
theorem dX11_of_97 : decode cX11_of 97 = .ok (.goto 4, 3) := by decide +kernel
theorem dX11_of_100 : decode cX11_of 100 = .ok (.iconst 0, 1) := by decide +kernel
theorem dX11_of_101 : decode cX11_of 101 = .ok (.ireturn, 1) := by decide +kernel
theorem dX11_pay_0 : decode cX11_pay 0 = .ok (.iload_n 2, 1) := by decide +kernel
theorem dX11_pay_1 : decode cX11_pay 1 = .ok (.iconst 1, 1) := by decide +kernel
theorem dX11_pay_2 : decode cX11_pay 2 = .ok (.if_icmp .lt 9, 3) := by decide +kernel
theorem dX11_pay_5 : decode cX11_pay 5 = .ok (.iload_n 2, 1) := by decide +kernel
theorem dX11_pay_6 : decode cX11_pay 6 = .ok (.bipush 9, 2) := by decide +kernel
theorem dX11_pay_8 : decode cX11_pay 8 = .ok (.if_icmp .le 9, 3) := by decide +kernel
theorem dX11_pay_11 : decode cX11_pay 11 = .ok (.aload_n 0, 1) := by decide +kernel
theorem dX11_pay_12 : decode cX11_pay 12 = .ok (.iconst (-1), 1) := by decide +kernel
theorem dX11_pay_13 : decode cX11_pay 13 = .ok (.invokevirtual 103, 3) := by decide +kernel
theorem dX11_pay_16 : decode cX11_pay 16 = .ok (.ireturn, 1) := by decide +kernel
theorem dX11_pay_17 : decode cX11_pay 17 = .ok (.aload_n 0, 1) := by decide +kernel
theorem dX11_pay_18 : decode cX11_pay 18 = .ok (.getfield 10, 3) := by decide +kernel
theorem dX11_pay_21 : decode cX11_pay 21 = .ok (.getfield 124, 3) := by decide +kernel
theorem dX11_pay_24 : decode cX11_pay 24 = .ok (.astore_n 3, 1) := by decide +kernel
theorem dX11_pay_25 : decode cX11_pay 25 = .ok (.aload_n 3, 1) := by decide +kernel
theorem dX11_pay_26 : decode cX11_pay 26 = .ok (.iload_n 1, 1) := by decide +kernel
theorem dX11_pay_27 : decode cX11_pay 27 = .ok (.invokevirtual 137, 3) := by decide +kernel
theorem dX11_pay_30 : decode cX11_pay 30 = .ok (.ifCond .ne 10, 3) := by decide +kernel
theorem dX11_pay_33 : decode cX11_pay 33 = .ok (.aload_n 0, 1) := by decide +kernel
theorem dX11_pay_34 : decode cX11_pay 34 = .ok (.bipush (-2), 2) := by decide +kernel
theorem dX11_pay_36 : decode cX11_pay 36 = .ok (.invokevirtual 103, 3) := by decide +kernel
theorem dX11_pay_39 : decode cX11_pay 39 = .ok (.ireturn, 1) := by decide +kernel
theorem dX11_pay_40 : decode cX11_pay 40 = .ok (.iload_n 2, 1) := by decide +kernel
theorem dX11_pay_41 : decode cX11_pay 41 = .ok (.aload_n 3, 1) := by decide +kernel
theorem dX11_pay_42 : decode cX11_pay 42 = .ok (.getfield 157, 3) := by decide +kernel
theorem dX11_pay_45 : decode cX11_pay 45 = .ok (.iload_n 1, 1) := by decide +kernel
theorem dX11_pay_46 : decode cX11_pay 46 = .ok (.iaload, 1) := by decide +kernel
theorem dX11_pay_47 : decode cX11_pay 47 = .ok (.if_icmp .le 9, 3) := by decide +kernel
theorem dX11_pay_50 : decode cX11_pay 50 = .ok (.aload_n 0, 1) := by decide +kernel
theorem dX11_pay_51 : decode cX11_pay 51 = .ok (.iconst (-1), 1) := by decide +kernel
theorem dX11_pay_52 : decode cX11_pay 52 = .ok (.invokevirtual 103, 3) := by decide +kernel
theorem dX11_pay_55 : decode cX11_pay 55 = .ok (.ireturn, 1) := by decide +kernel
theorem dX11_pay_56 : decode cX11_pay 56 = .ok (.aload_n 3, 1) := by decide +kernel
theorem dX11_pay_57 : decode cX11_pay 57 = .ok (.getfield 157, 3) := by decide +kernel
theorem dX11_pay_60 : decode cX11_pay 60 = .ok (.iload_n 1, 1) := by decide +kernel
theorem dX11_pay_61 : decode cX11_pay 61 = .ok (.iaload, 1) := by decide +kernel
theorem dX11_pay_62 : decode cX11_pay 62 = .ok (.iload_n 2, 1) := by decide +kernel
theorem dX11_pay_63 : decode cX11_pay 63 = .ok (.isub, 1) := by decide +kernel
theorem dX11_pay_64 : decode cX11_pay 64 = .ok (.istore 4, 2) := by decide +kernel
theorem dX11_pay_66 : decode cX11_pay 66 = .ok (.aload_n 3, 1) := by decide +kernel
theorem dX11_pay_67 : decode cX11_pay 67 = .ok (.getfield 157, 3) := by decide +kernel
theorem dX11_pay_70 : decode cX11_pay 70 = .ok (.iload_n 1, 1) := by decide +kernel
theorem dX11_pay_71 : decode cX11_pay 71 = .ok (.iload 4, 2) := by decide +kernel
theorem dX11_pay_73 : decode cX11_pay 73 = .ok (.iastore, 1) := by decide +kernel
theorem dX11_pay_74 : decode cX11_pay 74 = .ok (.aload_n 3, 1) := by decide +kernel
theorem dX11_pay_75 : decode cX11_pay 75 = .ok (.invokevirtual 160, 3) := by decide +kernel
theorem dX11_pay_78 : decode cX11_pay 78 = .ok (.aload_n 0, 1) := by decide +kernel
theorem dX11_pay_79 : decode cX11_pay 79 = .ok (.iload 4, 2) := by decide +kernel
theorem dX11_pay_81 : decode cX11_pay 81 = .ok (.invokevirtual 110, 3) := by decide +kernel
theorem dX11_pay_84 : decode cX11_pay 84 = .ok (.ireturn, 1) := by decide +kernel
theorem dX11_funeral_0 : decode cX11_funeral 0 = .ok (.iload_n 1, 1) := by decide +kernel
theorem dX11_funeral_1 : decode cX11_funeral 1 = .ok (.invokestatic 163, 3) := by decide +kernel
theorem dX11_funeral_4 : decode cX11_funeral 4 = .ok (.ifCond .ne 9, 3) := by decide +kernel
theorem dX11_funeral_7 : decode cX11_funeral 7 = .ok (.aload_n 0, 1) := by decide +kernel
theorem dX11_funeral_8 : decode cX11_funeral 8 = .ok (.iconst (-1), 1) := by decide +kernel
theorem dX11_funeral_9 : decode cX11_funeral 9 = .ok (.invokevirtual 103, 3) := by decide +kernel
theorem dX11_funeral_12 : decode cX11_funeral 12 = .ok (.ireturn, 1) := by decide +kernel
theorem dX11_funeral_13 : decode cX11_funeral 13 = .ok (.aload_n 0, 1) := by decide +kernel
theorem dX11_funeral_14 : decode cX11_funeral 14 = .ok (.aload_n 0, 1) := by decide +kernel
theorem dX11_funeral_15 : decode cX11_funeral 15 = .ok (.getfield 10, 3) := by decide +kernel
theorem dX11_funeral_18 : decode cX11_funeral 18 = .ok (.getfield 124, 3) := by decide +kernel
theorem dX11_funeral_21 : decode cX11_funeral 21 = .ok (.iload_n 1, 1) := by decide +kernel
theorem dX11_funeral_22 : decode cX11_funeral 22 = .ok (.invokevirtual 166, 3) := by decide +kernel
theorem dX11_funeral_25 : decode cX11_funeral 25 = .ok (.invokevirtual 110, 3) := by decide +kernel
theorem dX11_funeral_28 : decode cX11_funeral 28 = .ok (.ireturn, 1) := by decide +kernel
theorem dX11_terms_0 : decode cX11_terms 0 = .ok (.iload_n 1, 1) := by decide +kernel
theorem dX11_terms_1 : decode cX11_terms 1 = .ok (.ifCond .ne 14, 3) := by decide +kernel
theorem dX11_terms_4 : decode cX11_terms 4 = .ok (.iload_n 2, 1) := by decide +kernel
theorem dX11_terms_5 : decode cX11_terms 5 = .ok (.ifCond .lt 10, 3) := by decide +kernel
theorem dX11_terms_8 : decode cX11_terms 8 = .ok (.iload_n 2, 1) := by decide +kernel
theorem dX11_terms_9 : decode cX11_terms 9 = .ok (.sipush 999, 3) := by decide +kernel
theorem dX11_terms_12 : decode cX11_terms 12 = .ok (.if_icmp .le 9, 3) := by decide +kernel
theorem dX11_terms_15 : decode cX11_terms 15 = .ok (.aload_n 0, 1) := by decide +kernel
theorem dX11_terms_16 : decode cX11_terms 16 = .ok (.iconst (-1), 1) := by decide +kernel
theorem dX11_terms_17 : decode cX11_terms 17 = .ok (.invokevirtual 103, 3) := by decide +kernel
theorem dX11_terms_20 : decode cX11_terms 20 = .ok (.ireturn, 1) := by decide +kernel
theorem dX11_terms_21 : decode cX11_terms 21 = .ok (.aload_n 0, 1) := by decide +kernel
theorem dX11_terms_22 : decode cX11_terms 22 = .ok (.getfield 10, 3) := by decide +kernel
theorem dX11_terms_25 : decode cX11_terms 25 = .ok (.getfield 128, 3) := by decide +kernel
theorem dX11_terms_28 : decode cX11_terms 28 = .ok (.istore_n 3, 1) := by decide +kernel
theorem dX11_terms_29 : decode cX11_terms 29 = .ok (.aload_n 0, 1) := by decide +kernel
theorem dX11_terms_30 : decode cX11_terms 30 = .ok (.getfield 10, 3) := by decide +kernel
theorem dX11_terms_33 : decode cX11_terms 33 = .ok (.iload_n 2, 1) := by decide +kernel
theorem dX11_terms_34 : decode cX11_terms 34 = .ok (.putfield 128, 3) := by decide +kernel
theorem dX11_terms_37 : decode cX11_terms 37 = .ok (.aload_n 0, 1) := by decide +kernel
theorem dX11_terms_38 : decode cX11_terms 38 = .ok (.iload_n 3, 1) := by decide +kernel
theorem dX11_terms_39 : decode cX11_terms 39 = .ok (.invokevirtual 110, 3) := by decide +kernel
theorem dX11_terms_42 : decode cX11_terms 42 = .ok (.ireturn, 1) := by decide +kernel
theorem dX11_feed_0 : decode cX11_feed 0 = .ok (.aload_n 0, 1) := by decide +kernel
theorem dX11_feed_1 : decode cX11_feed 1 = .ok (.getfield 23, 3) := by decide +kernel
theorem dX11_feed_4 : decode cX11_feed 4 = .ok (.bipush 20, 2) := by decide +kernel
theorem dX11_feed_6 : decode cX11_feed 6 = .ok (.invokevirtual 169, 3) := by decide +kernel
theorem dX11_feed_9 : decode cX11_feed 9 = .ok (.ifCond .ne 5, 3) := by decide +kernel
theorem dX11_feed_12 : decode cX11_feed 12 = .ok (.iconst (-1), 1) := by decide +kernel
theorem dX11_feed_13 : decode cX11_feed 13 = .ok (.ireturn, 1) := by decide +kernel
theorem dX11_feed_14 : decode cX11_feed 14 = .ok (.aload_n 0, 1) := by decide +kernel
theorem dX11_feed_15 : decode cX11_feed 15 = .ok (.getfield 23, 3) := by decide +kernel
theorem dX11_feed_18 : decode cX11_feed 18 = .ok (.iload_n 1, 1) := by decide +kernel
theorem dX11_feed_19 : decode cX11_feed 19 = .ok (.invokevirtual 172, 3) := by decide +kernel
theorem dX11_feed_22 : decode cX11_feed 22 = .ok (.aload_n 0, 1) := by decide +kernel
theorem dX11_feed_23 : decode cX11_feed 23 = .ok (.getfield 23, 3) := by decide +kernel
theorem dX11_feed_26 : decode cX11_feed 26 = .ok (.iload_n 2, 1) := by decide +kernel
theorem dX11_feed_27 : decode cX11_feed 27 = .ok (.invokevirtual 172, 3) := by decide +kernel
theorem dX11_feed_30 : decode cX11_feed 30 = .ok (.aload_n 0, 1) := by decide +kernel
theorem dX11_feed_31 : decode cX11_feed 31 = .ok (.getfield 23, 3) := by decide +kernel
theorem dX11_feed_34 : decode cX11_feed 34 = .ok (.iload_n 3, 1) := by decide +kernel
theorem dX11_feed_35 : decode cX11_feed 35 = .ok (.invokevirtual 172, 3) := by decide +kernel
theorem dX11_feed_38 : decode cX11_feed 38 = .ok (.aload_n 0, 1) := by decide +kernel
theorem dX11_feed_39 : decode cX11_feed 39 = .ok (.getfield 23, 3) := by decide +kernel
theorem dX11_feed_42 : decode cX11_feed 42 = .ok (.iload 4, 2) := by decide +kernel
theorem dX11_feed_44 : decode cX11_feed 44 = .ok (.invokevirtual 172, 3) := by decide +kernel
theorem dX11_feed_47 : decode cX11_feed 47 = .ok (.aload_n 0, 1) := by decide +kernel
theorem dX11_feed_48 : decode cX11_feed 48 = .ok (.getfield 23, 3) := by decide +kernel
theorem dX11_feed_51 : decode cX11_feed 51 = .ok (.iload 5, 2) := by decide +kernel
theorem dX11_feed_53 : decode cX11_feed 53 = .ok (.invokevirtual 172, 3) := by decide +kernel
theorem dX11_feed_56 : decode cX11_feed 56 = .ok (.aload_n 0, 1) := by decide +kernel
theorem dX11_feed_57 : decode cX11_feed 57 = .ok (.getfield 23, 3) := by decide +kernel
theorem dX11_feed_60 : decode cX11_feed 60 = .ok (.getfield 176, 3) := by decide +kernel
theorem dX11_feed_63 : decode cX11_feed 63 = .ok (.ireturn, 1) := by decide +kernel
theorem dX11_end_0 : decode cX11_end 0 = .ok (.iload_n 1, 1) := by decide +kernel
theorem dX11_end_1 : decode cX11_end 1 = .ok (.ifCond .lt 14, 3) := by decide +kernel
theorem dX11_end_4 : decode cX11_end 4 = .ok (.iload_n 1, 1) := by decide +kernel
theorem dX11_end_5 : decode cX11_end 5 = .ok (.aload_n 0, 1) := by decide +kernel
theorem dX11_end_6 : decode cX11_end 6 = .ok (.getfield 23, 3) := by decide +kernel
theorem dX11_end_9 : decode cX11_end 9 = .ok (.getfield 176, 3) := by decide +kernel
theorem dX11_end_12 : decode cX11_end 12 = .ok (.if_icmp .le 5, 3) := by decide +kernel
theorem dX11_end_15 : decode cX11_end 15 = .ok (.iconst (-1), 1) := by decide +kernel
theorem dX11_end_16 : decode cX11_end 16 = .ok (.ireturn, 1) := by decide +kernel
theorem dX11_end_17 : decode cX11_end 17 = .ok (.aload_n 0, 1) := by decide +kernel
theorem dX11_end_18 : decode cX11_end 18 = .ok (.getfield 23, 3) := by decide +kernel
theorem dX11_end_21 : decode cX11_end 21 = .ok (.iload_n 1, 1) := by decide +kernel
theorem dX11_end_22 : decode cX11_end 22 = .ok (.putfield 176, 3) := by decide +kernel
theorem dX11_end_25 : decode cX11_end 25 = .ok (.iload_n 1, 1) := by decide +kernel
theorem dX11_end_26 : decode cX11_end 26 = .ok (.ireturn, 1) := by decide +kernel
theorem dX11_row_0 : decode cX11_row 0 = .ok (.aload_n 0, 1) := by decide +kernel
theorem dX11_row_1 : decode cX11_row 1 = .ok (.getfield 23, 3) := by decide +kernel
theorem dX11_row_4 : decode cX11_row 4 = .ok (.getfield 176, 3) := by decide +kernel
theorem dX11_row_7 : decode cX11_row 7 = .ok (.ifCond .ne 10, 3) := by decide +kernel
theorem dX11_row_10 : decode cX11_row 10 = .ok (.aload_n 0, 1) := by decide +kernel
theorem dX11_row_11 : decode cX11_row 11 = .ok (.bipush (-6), 2) := by decide +kernel
theorem dX11_row_13 : decode cX11_row 13 = .ok (.invokevirtual 103, 3) := by decide +kernel
theorem dX11_row_16 : decode cX11_row 16 = .ok (.ireturn, 1) := by decide +kernel
theorem dX11_row_17 : decode cX11_row 17 = .ok (.iconst 0, 1) := by decide +kernel
theorem dX11_row_18 : decode cX11_row 18 = .ok (.istore_n 1, 1) := by decide +kernel
theorem dX11_row_19 : decode cX11_row 19 = .ok (.iconst 0, 1) := by decide +kernel
theorem dX11_row_20 : decode cX11_row 20 = .ok (.istore_n 2, 1) := by decide +kernel
theorem dX11_row_21 : decode cX11_row 21 = .ok (.iconst 0, 1) := by decide +kernel
theorem dX11_row_22 : decode cX11_row 22 = .ok (.istore_n 3, 1) := by decide +kernel
theorem dX11_row_23 : decode cX11_row 23 = .ok (.iload_n 3, 1) := by decide +kernel
theorem dX11_row_24 : decode cX11_row 24 = .ok (.aload_n 0, 1) := by decide +kernel
theorem dX11_row_25 : decode cX11_row 25 = .ok (.getfield 23, 3) := by decide +kernel
theorem dX11_row_28 : decode cX11_row 28 = .ok (.getfield 176, 3) := by decide +kernel
theorem dX11_row_31 : decode cX11_row 31 = .ok (.if_icmp .ge 26, 3) := by decide +kernel
theorem dX11_row_34 : decode cX11_row 34 = .ok (.aload_n 0, 1) := by decide +kernel
theorem dX11_row_35 : decode cX11_row 35 = .ok (.iload_n 3, 1) := by decide +kernel
theorem dX11_row_36 : decode cX11_row 36 = .ok (.invokevirtual 179, 3) := by decide +kernel
theorem dX11_row_39 : decode cX11_row 39 = .ok (.ifCond .eq 9, 3) := by decide +kernel
theorem dX11_row_42 : decode cX11_row 42 = .ok (.iinc 1 1, 3) := by decide +kernel
theorem dX11_row_45 : decode cX11_row 45 = .ok (.goto 6, 3) := by decide +kernel
theorem dX11_row_48 : decode cX11_row 48 = .ok (.iinc 2 1, 3) := by decide +kernel
theorem dX11_row_51 : decode cX11_row 51 = .ok (.iinc 3 4, 3) := by decide +kernel
theorem dX11_row_54 : decode cX11_row 54 = .ok (.goto (-31), 3) := by decide +kernel
theorem dX11_row_57 : decode cX11_row 57 = .ok (.aload_n 0, 1) := by decide +kernel
theorem dX11_row_58 : decode cX11_row 58 = .ok (.getfield 23, 3) := by decide +kernel
theorem dX11_row_61 : decode cX11_row 61 = .ok (.iconst 0, 1) := by decide +kernel
theorem dX11_row_62 : decode cX11_row 62 = .ok (.putfield 176, 3) := by decide +kernel
theorem dX11_row_65 : decode cX11_row 65 = .ok (.aload_n 0, 1) := by decide +kernel
theorem dX11_row_66 : decode cX11_row 66 = .ok (.iload_n 2, 1) := by decide +kernel
theorem dX11_row_67 : decode cX11_row 67 = .ok (.putfield 93, 3) := by decide +kernel
theorem dX11_row_70 : decode cX11_row 70 = .ok (.aload_n 0, 1) := by decide +kernel
theorem dX11_row_71 : decode cX11_row 71 = .ok (.iload_n 1, 1) := by decide +kernel
theorem dX11_row_72 : decode cX11_row 72 = .ok (.invokevirtual 110, 3) := by decide +kernel
theorem dX11_row_75 : decode cX11_row 75 = .ok (.ireturn, 1) := by decide +kernel
theorem dX11_sung_0 : decode cX11_sung 0 = .ok (.aload_n 0, 1) := by decide +kernel
theorem dX11_sung_1 : decode cX11_sung 1 = .ok (.getfield 93, 3) := by decide +kernel
theorem dX11_sung_4 : decode cX11_sung 4 = .ok (.ireturn, 1) := by decide +kernel
theorem dX11_law_0 : decode cX11_law 0 = .ok (.iconst (-1), 1) := by decide +kernel
theorem dX11_law_1 : decode cX11_law 1 = .ok (.istore_n 1, 1) := by decide +kernel
theorem dX11_law_2 : decode cX11_law 2 = .ok (.bipush (-5), 2) := by decide +kernel
theorem dX11_law_4 : decode cX11_law 4 = .ok (.istore_n 2, 1) := by decide +kernel
theorem dX11_law_5 : decode cX11_law 5 = .ok (.aload_n 0, 1) := by decide +kernel
theorem dX11_law_6 : decode cX11_law 6 = .ok (.getfield 10, 3) := by decide +kernel
theorem dX11_law_9 : decode cX11_law 9 = .ok (.getfield 182, 3) := by decide +kernel
theorem dX11_law_12 : decode cX11_law 12 = .ok (.bipush 6, 2) := by decide +kernel
theorem dX11_law_14 : decode cX11_law 14 = .ok (.if_icmp .ge 42, 3) := by decide +kernel
theorem dX11_law_17 : decode cX11_law 17 = .ok (.aload_n 0, 1) := by decide +kernel
theorem dX11_law_18 : decode cX11_law 18 = .ok (.getfield 32, 3) := by decide +kernel
theorem dX11_law_21 : decode cX11_law 21 = .ok (.invokevirtual 185, 3) := by decide +kernel
theorem dX11_law_24 : decode cX11_law 24 = .ok (.astore_n 3, 1) := by decide +kernel
theorem dX11_law_25 : decode cX11_law 25 = .ok (.aload_n 0, 1) := by decide +kernel
theorem dX11_law_26 : decode cX11_law 26 = .ok (.aload_n 3, 1) := by decide +kernel
theorem dX11_law_27 : decode cX11_law 27 = .ok (.ifnonnull 13, 3) := by decide +kernel
theorem dX11_law_30 : decode cX11_law 30 = .ok (.aload_n 0, 1) := by decide +kernel
theorem dX11_law_31 : decode cX11_law 31 = .ok (.getfield 32, 3) := by decide +kernel
theorem dX11_law_34 : decode cX11_law 34 = .ok (.getfield 189, 3) := by decide +kernel
theorem dX11_law_37 : decode cX11_law 37 = .ok (.goto 4, 3) := by decide +kernel
theorem dX11_law_40 : decode cX11_law 40 = .ok (.iconst (-1), 1) := by decide +kernel
theorem dX11_law_41 : decode cX11_law 41 = .ok (.putfield 97, 3) := by decide +kernel
theorem dX11_law_44 : decode cX11_law 44 = .ok (.bipush (-6), 2) := by decide +kernel
theorem dX11_law_46 : decode cX11_law 46 = .ok (.istore_n 2, 1) := by decide +kernel
theorem dX11_law_47 : decode cX11_law 47 = .ok (.aload_n 0, 1) := by decide +kernel
theorem dX11_law_48 : decode cX11_law 48 = .ok (.getfield 10, 3) := by decide +kernel
theorem dX11_law_51 : decode cX11_law 51 = .ok (.aload_n 3, 1) := by decide +kernel
theorem dX11_law_52 : decode cX11_law 52 = .ok (.invokevirtual 192, 3) := by decide +kernel
theorem dX11_law_55 : decode cX11_law 55 = .ok (.istore_n 1, 1) := by decide +kernel
theorem dX11_law_56 : decode cX11_law 56 = .ok (.aload_n 0, 1) := by decide +kernel
theorem dX11_law_57 : decode cX11_law 57 = .ok (.getfield 23, 3) := by decide +kernel
theorem dX11_law_60 : decode cX11_law 60 = .ok (.iconst 0, 1) := by decide +kernel
theorem dX11_law_61 : decode cX11_law 61 = .ok (.putfield 176, 3) := by decide +kernel
theorem dX11_law_64 : decode cX11_law 64 = .ok (.iload_n 1, 1) := by decide +kernel
theorem dX11_law_65 : decode cX11_law 65 = .ok (.iconst (-1), 1) := by decide +kernel
theorem dX11_law_66 : decode cX11_law 66 = .ok (.if_icmp .ne 11, 3) := by decide +kernel
theorem dX11_law_69 : decode cX11_law 69 = .ok (.aload_n 0, 1) := by decide +kernel
theorem dX11_law_70 : decode cX11_law 70 = .ok (.iload_n 2, 1) := by decide +kernel
theorem dX11_law_71 : decode cX11_law 71 = .ok (.invokevirtual 103, 3) := by decide +kernel
theorem dX11_law_74 : decode cX11_law 74 = .ok (.goto 8, 3) := by decide +kernel
theorem dX11_law_77 : decode cX11_law 77 = .ok (.aload_n 0, 1) := by decide +kernel
theorem dX11_law_78 : decode cX11_law 78 = .ok (.iload_n 1, 1) := by decide +kernel
theorem dX11_law_79 : decode cX11_law 79 = .ok (.invokevirtual 110, 3) := by decide +kernel
theorem dX11_law_82 : decode cX11_law 82 = .ok (.ireturn, 1) := by decide +kernel
theorem dX11_fault_0 : decode cX11_fault 0 = .ok (.aload_n 0, 1) := by decide +kernel
theorem dX11_fault_1 : decode cX11_fault 1 = .ok (.getfield 97, 3) := by decide +kernel
theorem dX11_fault_4 : decode cX11_fault 4 = .ok (.ireturn, 1) := by decide +kernel
theorem dX11_force_0 : decode cX11_force 0 = .ok (.iload_n 1, 1) := by decide +kernel
theorem dX11_force_1 : decode cX11_force 1 = .ok (.iconst (-1), 1) := by decide +kernel
theorem dX11_force_2 : decode cX11_force 2 = .ok (.if_icmp .eq 21, 3) := by decide +kernel
theorem dX11_force_5 : decode cX11_force 5 = .ok (.aload_n 0, 1) := by decide +kernel
theorem dX11_force_6 : decode cX11_force 6 = .ok (.getfield 10, 3) := by decide +kernel
theorem dX11_force_9 : decode cX11_force 9 = .ok (.iload_n 1, 1) := by decide +kernel
theorem dX11_force_10 : decode cX11_force 10 = .ok (.invokevirtual 196, 3) := by decide +kernel
theorem dX11_force_13 : decode cX11_force 13 = .ok (.ifCond .ne 10, 3) := by decide +kernel
theorem dX11_force_16 : decode cX11_force 16 = .ok (.aload_n 0, 1) := by decide +kernel
theorem dX11_force_17 : decode cX11_force 17 = .ok (.bipush (-2), 2) := by decide +kernel
theorem dX11_force_19 : decode cX11_force 19 = .ok (.invokevirtual 103, 3) := by decide +kernel
theorem dX11_force_22 : decode cX11_force 22 = .ok (.ireturn, 1) := by decide +kernel
theorem dX11_force_23 : decode cX11_force 23 = .ok (.aload_n 0, 1) := by decide +kernel
theorem dX11_force_24 : decode cX11_force 24 = .ok (.getfield 10, 3) := by decide +kernel
theorem dX11_force_27 : decode cX11_force 27 = .ok (.getfield 199, 3) := by decide +kernel
theorem dX11_force_30 : decode cX11_force 30 = .ok (.istore_n 2, 1) := by decide +kernel
theorem dX11_force_31 : decode cX11_force 31 = .ok (.aload_n 0, 1) := by decide +kernel
theorem dX11_force_32 : decode cX11_force 32 = .ok (.getfield 10, 3) := by decide +kernel
theorem dX11_force_35 : decode cX11_force 35 = .ok (.iload_n 1, 1) := by decide +kernel
theorem dX11_force_36 : decode cX11_force 36 = .ok (.putfield 199, 3) := by decide +kernel
theorem dX11_force_39 : decode cX11_force 39 = .ok (.aload_n 0, 1) := by decide +kernel
theorem dX11_force_40 : decode cX11_force 40 = .ok (.iload_n 2, 1) := by decide +kernel
theorem dX11_force_41 : decode cX11_force 41 = .ok (.invokevirtual 110, 3) := by decide +kernel
theorem dX11_force_44 : decode cX11_force 44 = .ok (.ireturn, 1) := by decide +kernel
theorem dX11_balance_0 : decode cX11_balance 0 = .ok (.iload_n 1, 1) := by decide +kernel
theorem dX11_balance_1 : decode cX11_balance 1 = .ok (.invokestatic 163, 3) := by decide +kernel
theorem dX11_balance_4 : decode cX11_balance 4 = .ok (.ifCond .ne 6, 3) := by decide +kernel
theorem dX11_balance_7 : decode cX11_balance 7 = .ok (.ldc 202, 2) := by decide +kernel
theorem dX11_balance_9 : decode cX11_balance 9 = .ok (.ireturn, 1) := by decide +kernel
theorem dX11_balance_10 : decode cX11_balance 10 = .ok (.aload_n 0, 1) := by decide +kernel
theorem dX11_balance_11 : decode cX11_balance 11 = .ok (.getfield 41, 3) := by decide +kernel
theorem dX11_balance_14 : decode cX11_balance 14 = .ok (.invokevirtual 144, 3) := by decide +kernel
theorem dX11_balance_17 : decode cX11_balance 17 = .ok (.aload_n 0, 1) := by decide +kernel
theorem dX11_balance_18 : decode cX11_balance 18 = .ok (.getfield 41, 3) := by decide +kernel
theorem dX11_balance_21 : decode cX11_balance 21 = .ok (.iload_n 1, 1) := by decide +kernel
theorem dX11_balance_22 : decode cX11_balance 22 = .ok (.invokevirtual 203, 3) := by decide +kernel
theorem dX11_balance_25 : decode cX11_balance 25 = .ok (.ireturn, 1) := by decide +kernel
theorem dX11_richest_0 : decode cX11_richest 0 = .ok (.aload_n 0, 1) := by decide +kernel
theorem dX11_richest_1 : decode cX11_richest 1 = .ok (.getfield 41, 3) := by decide +kernel
theorem dX11_richest_4 : decode cX11_richest 4 = .ok (.invokevirtual 144, 3) := by decide +kernel
theorem dX11_richest_7 : decode cX11_richest 7 = .ok (.iconst 0, 1) := by decide +kernel
theorem dX11_richest_8 : decode cX11_richest 8 = .ok (.istore_n 1, 1) := by decide +kernel
theorem dX11_richest_9 : decode cX11_richest 9 = .ok (.aload_n 0, 1) := by decide +kernel
theorem dX11_richest_10 : decode cX11_richest 10 = .ok (.getfield 41, 3) := by decide +kernel
theorem dX11_richest_13 : decode cX11_richest 13 = .ok (.iconst 0, 1) := by decide +kernel
theorem dX11_richest_14 : decode cX11_richest 14 = .ok (.invokevirtual 203, 3) := by decide +kernel
theorem dX11_richest_17 : decode cX11_richest 17 = .ok (.istore_n 2, 1) := by decide +kernel
theorem dX11_richest_18 : decode cX11_richest 18 = .ok (.iconst 1, 1) := by decide +kernel
theorem dX11_richest_19 : decode cX11_richest 19 = .ok (.istore_n 3, 1) := by decide +kernel
theorem dX11_richest_20 : decode cX11_richest 20 = .ok (.iload_n 3, 1) := by decide +kernel
theorem dX11_richest_21 : decode cX11_richest 21 = .ok (.bipush 8, 2) := by decide +kernel
theorem dX11_richest_23 : decode cX11_richest 23 = .ok (.if_icmp .ge 30, 3) := by decide +kernel
theorem dX11_richest_26 : decode cX11_richest 26 = .ok (.aload_n 0, 1) := by decide +kernel
theorem dX11_richest_27 : decode cX11_richest 27 = .ok (.getfield 41, 3) := by decide +kernel
theorem dX11_richest_30 : decode cX11_richest 30 = .ok (.iload_n 3, 1) := by decide +kernel
theorem dX11_richest_31 : decode cX11_richest 31 = .ok (.invokevirtual 203, 3) := by decide +kernel
theorem dX11_richest_34 : decode cX11_richest 34 = .ok (.istore 4, 2) := by decide +kernel
theorem dX11_richest_36 : decode cX11_richest 36 = .ok (.iload 4, 2) := by decide +kernel
theorem dX11_richest_38 : decode cX11_richest 38 = .ok (.iload_n 2, 1) := by decide +kernel
theorem dX11_richest_39 : decode cX11_richest 39 = .ok (.if_icmp .le 8, 3) := by decide +kernel
theorem dX11_richest_42 : decode cX11_richest 42 = .ok (.iload 4, 2) := by decide +kernel
theorem dX11_richest_44 : decode cX11_richest 44 = .ok (.istore_n 2, 1) := by decide +kernel
theorem dX11_richest_45 : decode cX11_richest 45 = .ok (.iload_n 3, 1) := by decide +kernel
theorem dX11_richest_46 : decode cX11_richest 46 = .ok (.istore_n 1, 1) := by decide +kernel
theorem dX11_richest_47 : decode cX11_richest 47 = .ok (.iinc 3 1, 3) := by decide +kernel
theorem dX11_richest_50 : decode cX11_richest 50 = .ok (.goto (-30), 3) := by decide +kernel
theorem dX11_richest_53 : decode cX11_richest 53 = .ok (.iload_n 1, 1) := by decide +kernel
theorem dX11_richest_54 : decode cX11_richest 54 = .ok (.ireturn, 1) := by decide +kernel
theorem dX11_net_0 : decode cX11_net 0 = .ok (.iload_n 1, 1) := by decide +kernel
theorem dX11_net_1 : decode cX11_net 1 = .ok (.invokestatic 163, 3) := by decide +kernel
theorem dX11_net_4 : decode cX11_net 4 = .ok (.ifCond .eq 14, 3) := by decide +kernel
theorem dX11_net_7 : decode cX11_net 7 = .ok (.aload_n 0, 1) := by decide +kernel
theorem dX11_net_8 : decode cX11_net 8 = .ok (.getfield 10, 3) := by decide +kernel
theorem dX11_net_11 : decode cX11_net 11 = .ok (.iload_n 2, 1) := by decide +kernel
theorem dX11_net_12 : decode cX11_net 12 = .ok (.invokevirtual 113, 3) := by decide +kernel
theorem dX11_net_15 : decode cX11_net 15 = .ok (.ifCond .ne 6, 3) := by decide +kernel
theorem dX11_net_18 : decode cX11_net 18 = .ok (.ldc 202, 2) := by decide +kernel
theorem dX11_net_20 : decode cX11_net 20 = .ok (.ireturn, 1) := by decide +kernel
theorem dX11_net_21 : decode cX11_net 21 = .ok (.aload_n 0, 1) := by decide +kernel
theorem dX11_net_22 : decode cX11_net 22 = .ok (.getfield 50, 3) := by decide +kernel
theorem dX11_net_25 : decode cX11_net 25 = .ok (.iload_n 2, 1) := by decide +kernel
theorem dX11_net_26 : decode cX11_net 26 = .ok (.invokevirtual 206, 3) := by decide +kernel
theorem dX11_net_29 : decode cX11_net 29 = .ok (.aload_n 0, 1) := by decide +kernel
theorem dX11_net_30 : decode cX11_net 30 = .ok (.getfield 50, 3) := by decide +kernel
theorem dX11_net_33 : decode cX11_net 33 = .ok (.getfield 209, 3) := by decide +kernel
theorem dX11_net_36 : decode cX11_net 36 = .ok (.iload_n 1, 1) := by decide +kernel
theorem dX11_net_37 : decode cX11_net 37 = .ok (.iaload, 1) := by decide +kernel
theorem dX11_net_38 : decode cX11_net 38 = .ok (.ireturn, 1) := by decide +kernel
theorem dX11_left_0 : decode cX11_left 0 = .ok (.aload_n 0, 1) := by decide +kernel
theorem dX11_left_1 : decode cX11_left 1 = .ok (.getfield 10, 3) := by decide +kernel
theorem dX11_left_4 : decode cX11_left 4 = .ok (.iload_n 1, 1) := by decide +kernel
theorem dX11_left_5 : decode cX11_left 5 = .ok (.invokevirtual 113, 3) := by decide +kernel
theorem dX11_left_8 : decode cX11_left 8 = .ok (.ifCond .eq 12, 3) := by decide +kernel
theorem dX11_left_11 : decode cX11_left 11 = .ok (.iload_n 2, 1) := by decide +kernel
theorem dX11_left_12 : decode cX11_left 12 = .ok (.ifCond .lt 8, 3) := by decide +kernel
theorem dX11_left_15 : decode cX11_left 15 = .ok (.iload_n 2, 1) := by decide +kernel
theorem dX11_left_16 : decode cX11_left 16 = .ok (.iconst 2, 1) := by decide +kernel
theorem dX11_left_17 : decode cX11_left 17 = .ok (.if_icmp .le 5, 3) := by decide +kernel
theorem dX11_left_20 : decode cX11_left 20 = .ok (.iconst (-1), 1) := by decide +kernel
theorem dX11_left_21 : decode cX11_left 21 = .ok (.ireturn, 1) := by decide +kernel
theorem dX11_left_22 : decode cX11_left 22 = .ok (.aload_n 0, 1) := by decide +kernel
theorem dX11_left_23 : decode cX11_left 23 = .ok (.getfield 50, 3) := by decide +kernel
theorem dX11_left_26 : decode cX11_left 26 = .ok (.iload_n 1, 1) := by decide +kernel
theorem dX11_left_27 : decode cX11_left 27 = .ok (.invokevirtual 206, 3) := by decide +kernel
theorem dX11_left_30 : decode cX11_left 30 = .ok (.iload_n 2, 1) := by decide +kernel
theorem dX11_left_31 : decode cX11_left 31 = .ok (.ifCond .ne 11, 3) := by decide +kernel
theorem dX11_left_34 : decode cX11_left 34 = .ok (.aload_n 0, 1) := by decide +kernel
theorem dX11_left_35 : decode cX11_left 35 = .ok (.getfield 50, 3) := by decide +kernel
theorem dX11_left_38 : decode cX11_left 38 = .ok (.getfield 211, 3) := by decide +kernel
theorem dX11_left_41 : decode cX11_left 41 = .ok (.ireturn, 1) := by decide +kernel
theorem dX11_left_42 : decode cX11_left 42 = .ok (.iload_n 2, 1) := by decide +kernel
theorem dX11_left_43 : decode cX11_left 43 = .ok (.iconst 1, 1) := by decide +kernel
theorem dX11_left_44 : decode cX11_left 44 = .ok (.if_icmp .ne 13, 3) := by decide +kernel
theorem dX11_left_47 : decode cX11_left 47 = .ok (.aload_n 0, 1) := by decide +kernel
theorem dX11_left_48 : decode cX11_left 48 = .ok (.getfield 50, 3) := by decide +kernel
theorem dX11_left_51 : decode cX11_left 51 = .ok (.invokevirtual 214, 3) := by decide +kernel
theorem dX11_left_54 : decode cX11_left 54 = .ok (.goto 10, 3) := by decide +kernel
theorem dX11_left_57 : decode cX11_left 57 = .ok (.aload_n 0, 1) := by decide +kernel
theorem dX11_left_58 : decode cX11_left 58 = .ok (.getfield 50, 3) := by decide +kernel
theorem dX11_left_61 : decode cX11_left 61 = .ok (.invokevirtual 218, 3) := by decide +kernel
theorem dX11_left_64 : decode cX11_left 64 = .ok (.ireturn, 1) := by decide +kernel
theorem dX11_ring_0 : decode cX11_ring 0 = .ok (.aload_n 0, 1) := by decide +kernel
theorem dX11_ring_1 : decode cX11_ring 1 = .ok (.getfield 10, 3) := by decide +kernel
theorem dX11_ring_4 : decode cX11_ring 4 = .ok (.iload_n 1, 1) := by decide +kernel
theorem dX11_ring_5 : decode cX11_ring 5 = .ok (.invokevirtual 113, 3) := by decide +kernel
theorem dX11_ring_8 : decode cX11_ring 8 = .ok (.ifCond .eq 14, 3) := by decide +kernel
theorem dX11_ring_11 : decode cX11_ring 11 = .ok (.aload_n 0, 1) := by decide +kernel
theorem dX11_ring_12 : decode cX11_ring 12 = .ok (.getfield 57, 3) := by decide +kernel
theorem dX11_ring_15 : decode cX11_ring 15 = .ok (.iload_n 1, 1) := by decide +kernel
theorem dX11_ring_16 : decode cX11_ring 16 = .ok (.invokevirtual 221, 3) := by decide +kernel
theorem dX11_ring_19 : decode cX11_ring 19 = .ok (.ifCond .ne 5, 3) := by decide +kernel
theorem dX11_ring_22 : decode cX11_ring 22 = .ok (.iconst (-1), 1) := by decide +kernel
theorem dX11_ring_23 : decode cX11_ring 23 = .ok (.ireturn, 1) := by decide +kernel
theorem dX11_ring_24 : decode cX11_ring 24 = .ok (.iload_n 2, 1) := by decide +kernel
theorem dX11_ring_25 : decode cX11_ring 25 = .ok (.iconst (-1), 1) := by decide +kernel
theorem dX11_ring_26 : decode cX11_ring 26 = .ok (.if_icmp .ne 11, 3) := by decide +kernel
theorem dX11_ring_29 : decode cX11_ring 29 = .ok (.aload_n 0, 1) := by decide +kernel
theorem dX11_ring_30 : decode cX11_ring 30 = .ok (.getfield 57, 3) := by decide +kernel
theorem dX11_ring_33 : decode cX11_ring 33 = .ok (.getfield 224, 3) := by decide +kernel
theorem dX11_ring_36 : decode cX11_ring 36 = .ok (.ireturn, 1) := by decide +kernel
theorem dX11_ring_37 : decode cX11_ring 37 = .ok (.iload_n 2, 1) := by decide +kernel
theorem dX11_ring_38 : decode cX11_ring 38 = .ok (.ifCond .lt 26, 3) := by decide +kernel
theorem dX11_ring_41 : decode cX11_ring 41 = .ok (.iload_n 2, 1) := by decide +kernel
theorem dX11_ring_42 : decode cX11_ring 42 = .ok (.aload_n 0, 1) := by decide +kernel
theorem dX11_ring_43 : decode cX11_ring 43 = .ok (.getfield 57, 3) := by decide +kernel
theorem dX11_ring_46 : decode cX11_ring 46 = .ok (.getfield 224, 3) := by decide +kernel
theorem dX11_ring_49 : decode cX11_ring 49 = .ok (.if_icmp .ge 15, 3) := by decide +kernel
theorem dX11_ring_52 : decode cX11_ring 52 = .ok (.aload_n 0, 1) := by decide +kernel
theorem dX11_ring_53 : decode cX11_ring 53 = .ok (.getfield 57, 3) := by decide +kernel
theorem dX11_ring_56 : decode cX11_ring 56 = .ok (.getfield 225, 3) := by decide +kernel
theorem dX11_ring_59 : decode cX11_ring 59 = .ok (.iload_n 2, 1) := by decide +kernel
theorem dX11_ring_60 : decode cX11_ring 60 = .ok (.iaload, 1) := by decide +kernel
theorem dX11_ring_61 : decode cX11_ring 61 = .ok (.goto 4, 3) := by decide +kernel
theorem dX11_ring_64 : decode cX11_ring 64 = .ok (.iconst (-1), 1) := by decide +kernel
theorem dX11_ring_65 : decode cX11_ring 65 = .ok (.ireturn, 1) := by decide +kernel
theorem dX11_cancel_0 : decode cX11_cancel 0 = .ok (.aload_n 0, 1) := by decide +kernel
theorem dX11_cancel_1 : decode cX11_cancel 1 = .ok (.getfield 10, 3) := by decide +kernel
theorem dX11_cancel_4 : decode cX11_cancel 4 = .ok (.iload_n 1, 1) := by decide +kernel
theorem dX11_cancel_5 : decode cX11_cancel 5 = .ok (.invokevirtual 113, 3) := by decide +kernel
theorem dX11_cancel_8 : decode cX11_cancel 8 = .ok (.ifCond .ne 10, 3) := by decide +kernel
theorem dX11_cancel_11 : decode cX11_cancel 11 = .ok (.aload_n 0, 1) := by decide +kernel
theorem dX11_cancel_12 : decode cX11_cancel 12 = .ok (.bipush (-2), 2) := by decide +kernel
theorem dX11_cancel_14 : decode cX11_cancel 14 = .ok (.invokevirtual 103, 3) := by decide +kernel
theorem dX11_cancel_17 : decode cX11_cancel 17 = .ok (.ireturn, 1) := by decide +kernel
theorem dX11_cancel_18 : decode cX11_cancel 18 = .ok (.aload_n 0, 1) := by decide +kernel
theorem dX11_cancel_19 : decode cX11_cancel 19 = .ok (.getfield 57, 3) := by decide +kernel
theorem dX11_cancel_22 : decode cX11_cancel 22 = .ok (.iload_n 1, 1) := by decide +kernel
theorem dX11_cancel_23 : decode cX11_cancel 23 = .ok (.invokevirtual 221, 3) := by decide +kernel
theorem dX11_cancel_26 : decode cX11_cancel 26 = .ok (.ifCond .ne 10, 3) := by decide +kernel
theorem dX11_cancel_29 : decode cX11_cancel 29 = .ok (.aload_n 0, 1) := by decide +kernel
theorem dX11_cancel_30 : decode cX11_cancel 30 = .ok (.bipush (-3), 2) := by decide +kernel
theorem dX11_cancel_32 : decode cX11_cancel 32 = .ok (.invokevirtual 103, 3) := by decide +kernel
theorem dX11_cancel_35 : decode cX11_cancel 35 = .ok (.ireturn, 1) := by decide +kernel
theorem dX11_cancel_36 : decode cX11_cancel 36 = .ok (.aload_n 0, 1) := by decide +kernel
theorem dX11_cancel_37 : decode cX11_cancel 37 = .ok (.aload_n 0, 1) := by decide +kernel
theorem dX11_cancel_38 : decode cX11_cancel 38 = .ok (.getfield 57, 3) := by decide +kernel
theorem dX11_cancel_41 : decode cX11_cancel 41 = .ok (.invokevirtual 228, 3) := by decide +kernel
theorem dX11_cancel_44 : decode cX11_cancel 44 = .ok (.invokevirtual 110, 3) := by decide +kernel
theorem dX11_cancel_47 : decode cX11_cancel 47 = .ok (.ireturn, 1) := by decide +kernel
theorem dX11_best_0 : decode cX11_best 0 = .ok (.iload_n 1, 1) := by decide +kernel
theorem dX11_best_1 : decode cX11_best 1 = .ok (.iload_n 2, 1) := by decide +kernel
theorem dX11_best_2 : decode cX11_best 2 = .ok (.invokestatic 231, 3) := by decide +kernel
theorem dX11_best_5 : decode cX11_best 5 = .ok (.ifCond .eq 13, 3) := by decide +kernel
theorem dX11_best_8 : decode cX11_best 8 = .ok (.iload_n 3, 1) := by decide +kernel
theorem dX11_best_9 : decode cX11_best 9 = .ok (.ifCond .lt 9, 3) := by decide +kernel
theorem dX11_best_12 : decode cX11_best 12 = .ok (.iload_n 3, 1) := by decide +kernel
theorem dX11_best_13 : decode cX11_best 13 = .ok (.bipush 8, 2) := by decide +kernel
theorem dX11_best_15 : decode cX11_best 15 = .ok (.if_icmp .le 5, 3) := by decide +kernel
theorem dX11_best_18 : decode cX11_best 18 = .ok (.iconst (-1), 1) := by decide +kernel
theorem dX11_best_19 : decode cX11_best 19 = .ok (.ireturn, 1) := by decide +kernel
theorem dX11_best_20 : decode cX11_best 20 = .ok (.iload 4, 2) := by decide +kernel
theorem dX11_best_22 : decode cX11_best 22 = .ok (.iconst 3, 1) := by decide +kernel
theorem dX11_best_23 : decode cX11_best 23 = .ok (.isub, 1) := by decide +kernel
theorem dX11_best_24 : decode cX11_best 24 = .ok (.istore 5, 2) := by decide +kernel
theorem dX11_best_26 : decode cX11_best 26 = .ok (.iload 4, 2) := by decide +kernel
theorem dX11_best_28 : decode cX11_best 28 = .ok (.ifCond .lt 24, 3) := by decide +kernel
theorem dX11_best_31 : decode cX11_best 31 = .ok (.iload 4, 2) := by decide +kernel
