theorem dX0_init_0 : decode cX0_init 0 = .ok (.aload_n 0, 1) := by decide +kernel
theorem dX0_init_1 : decode cX0_init 1 = .ok (.invokespecial 3, 3) := by decide +kernel
theorem dX0_init_4 : decode cX0_init 4 = .ok (.aload_n 0, 1) := by decide +kernel
theorem dX0_init_5 : decode cX0_init 5 = .ok (.iload_n 1, 1) := by decide +kernel
theorem dX0_init_6 : decode cX0_init 6 = .ok (.newarray .int, 2) := by decide +kernel
theorem dX0_init_8 : decode cX0_init 8 = .ok (.putfield 9, 3) := by decide +kernel
theorem dX0_init_11 : decode cX0_init 11 = .ok (.aload_n 0, 1) := by decide +kernel
theorem dX0_init_12 : decode cX0_init 12 = .ok (.iconst 0, 1) := by decide +kernel
theorem dX0_init_13 : decode cX0_init 13 = .ok (.putfield 15, 3) := by decide +kernel
theorem dX0_init_16 : decode cX0_init 16 = .ok (.return_, 1) := by decide +kernel
theorem dX0_append_0 : decode cX0_append 0 = .ok (.iload_n 3, 1) := by decide +kernel
theorem dX0_append_1 : decode cX0_append 1 = .ok (.iconst 1, 1) := by decide +kernel
theorem dX0_append_2 : decode cX0_append 2 = .ok (.if_icmp .lt 23, 3) := by decide +kernel
theorem dX0_append_5 : decode cX0_append 5 = .ok (.iload_n 3, 1) := by decide +kernel
theorem dX0_append_6 : decode cX0_append 6 = .ok (.bipush 8, 2) := by decide +kernel
theorem dX0_append_8 : decode cX0_append 8 = .ok (.if_icmp .gt 17, 3) := by decide +kernel
theorem dX0_append_11 : decode cX0_append 11 = .ok (.aload_n 0, 1) := by decide +kernel
theorem dX0_append_12 : decode cX0_append 12 = .ok (.getfield 15, 3) := by decide +kernel
theorem dX0_append_15 : decode cX0_append 15 = .ok (.iload_n 3, 1) := by decide +kernel
theorem dX0_append_16 : decode cX0_append 16 = .ok (.iadd, 1) := by decide +kernel
theorem dX0_append_17 : decode cX0_append 17 = .ok (.aload_n 0, 1) := by decide +kernel
theorem dX0_append_18 : decode cX0_append 18 = .ok (.getfield 9, 3) := by decide +kernel
theorem dX0_append_21 : decode cX0_append 21 = .ok (.arraylength, 1) := by decide +kernel
theorem dX0_append_22 : decode cX0_append 22 = .ok (.if_icmp .le 5, 3) := by decide +kernel
theorem dX0_append_25 : decode cX0_append 25 = .ok (.iconst 0, 1) := by decide +kernel
theorem dX0_append_26 : decode cX0_append 26 = .ok (.ireturn, 1) := by decide +kernel
theorem dX0_append_27 : decode cX0_append 27 = .ok (.iload_n 3, 1) := by decide +kernel
theorem dX0_append_28 : decode cX0_append 28 = .ok (.iconst 1, 1) := by decide +kernel
theorem dX0_append_29 : decode cX0_append 29 = .ok (.isub, 1) := by decide +kernel
theorem dX0_append_30 : decode cX0_append 30 = .ok (.istore 4, 2) := by decide +kernel
theorem dX0_append_32 : decode cX0_append 32 = .ok (.iload 4, 2) := by decide +kernel
theorem dX0_append_34 : decode cX0_append 34 = .ok (.ifCond .lt 40, 3) := by decide +kernel
theorem dX0_append_37 : decode cX0_append 37 = .ok (.aload_n 0, 1) := by decide +kernel
theorem dX0_append_38 : decode cX0_append 38 = .ok (.getfield 9, 3) := by decide +kernel
theorem dX0_append_41 : decode cX0_append 41 = .ok (.aload_n 0, 1) := by decide +kernel
theorem dX0_append_42 : decode cX0_append 42 = .ok (.getfield 15, 3) := by decide +kernel
theorem dX0_append_45 : decode cX0_append 45 = .ok (.lload_n 1, 1) := by decide +kernel
theorem dX0_append_46 : decode cX0_append 46 = .ok (.bipush 8, 2) := by decide +kernel
theorem dX0_append_48 : decode cX0_append 48 = .ok (.iload 4, 2) := by decide +kernel
theorem dX0_append_50 : decode cX0_append 50 = .ok (.imul, 1) := by decide +kernel
theorem dX0_append_51 : decode cX0_append 51 = .ok (.lushr, 1) := by decide +kernel
theorem dX0_append_52 : decode cX0_append 52 = .ok (.l2i, 1) := by decide +kernel
theorem dX0_append_53 : decode cX0_append 53 = .ok (.sipush 255, 3) := by decide +kernel
theorem dX0_append_56 : decode cX0_append 56 = .ok (.iand, 1) := by decide +kernel
theorem dX0_append_57 : decode cX0_append 57 = .ok (.iastore, 1) := by decide +kernel
theorem dX0_append_58 : decode cX0_append 58 = .ok (.aload_n 0, 1) := by decide +kernel
theorem dX0_append_59 : decode cX0_append 59 = .ok (.dup, 1) := by decide +kernel
theorem dX0_append_60 : decode cX0_append 60 = .ok (.getfield 15, 3) := by decide +kernel
theorem dX0_append_63 : decode cX0_append 63 = .ok (.iconst 1, 1) := by decide +kernel
theorem dX0_append_64 : decode cX0_append 64 = .ok (.iadd, 1) := by decide +kernel
theorem dX0_append_65 : decode cX0_append 65 = .ok (.putfield 15, 3) := by decide +kernel
theorem dX0_append_68 : decode cX0_append 68 = .ok (.iinc 4 (-1), 3) := by decide +kernel
theorem dX0_append_71 : decode cX0_append 71 = .ok (.goto (-39), 3) := by decide +kernel
theorem dX0_append_74 : decode cX0_append 74 = .ok (.iconst 1, 1) := by decide +kernel
theorem dX0_append_75 : decode cX0_append 75 = .ok (.ireturn, 1) := by decide +kernel
theorem dX0_clear_0 : decode cX0_clear 0 = .ok (.aload_n 0, 1) := by decide +kernel
theorem dX0_clear_1 : decode cX0_clear 1 = .ok (.iconst 0, 1) := by decide +kernel
theorem dX0_clear_2 : decode cX0_clear 2 = .ok (.putfield 15, 3) := by decide +kernel
theorem dX0_clear_5 : decode cX0_clear 5 = .ok (.return_, 1) := by decide +kernel
theorem dX0_size_0 : decode cX0_size 0 = .ok (.aload_n 0, 1) := by decide +kernel
theorem dX0_size_1 : decode cX0_size 1 = .ok (.getfield 15, 3) := by decide +kernel
theorem dX0_size_4 : decode cX0_size 4 = .ok (.ireturn, 1) := by decide +kernel
theorem dX0_at_0 : decode cX0_at 0 = .ok (.iload_n 1, 1) := by decide +kernel
theorem dX0_at_1 : decode cX0_at 1 = .ok (.ifCond .lt 20, 3) := by decide +kernel
theorem dX0_at_4 : decode cX0_at 4 = .ok (.iload_n 1, 1) := by decide +kernel
theorem dX0_at_5 : decode cX0_at 5 = .ok (.aload_n 0, 1) := by decide +kernel
theorem dX0_at_6 : decode cX0_at 6 = .ok (.getfield 15, 3) := by decide +kernel
theorem dX0_at_9 : decode cX0_at 9 = .ok (.if_icmp .ge 12, 3) := by decide +kernel
theorem dX0_at_12 : decode cX0_at 12 = .ok (.aload_n 0, 1) := by decide +kernel
theorem dX0_at_13 : decode cX0_at 13 = .ok (.getfield 9, 3) := by decide +kernel
theorem dX0_at_16 : decode cX0_at 16 = .ok (.iload_n 1, 1) := by decide +kernel
theorem dX0_at_17 : decode cX0_at 17 = .ok (.iaload, 1) := by decide +kernel
theorem dX0_at_18 : decode cX0_at 18 = .ok (.goto 4, 3) := by decide +kernel
theorem dX0_at_21 : decode cX0_at 21 = .ok (.iconst 0, 1) := by decide +kernel
theorem dX0_at_22 : decode cX0_at 22 = .ok (.ireturn, 1) := by decide +kernel
theorem dX0_bit_0 : decode cX0_bit 0 = .ok (.aload_n 0, 1) := by decide +kernel
theorem dX0_bit_1 : decode cX0_bit 1 = .ok (.iload_n 1, 1) := by decide +kernel
theorem dX0_bit_2 : decode cX0_bit 2 = .ok (.iconst 3, 1) := by decide +kernel
theorem dX0_bit_3 : decode cX0_bit 3 = .ok (.ishr, 1) := by decide +kernel
theorem dX0_bit_4 : decode cX0_bit 4 = .ok (.invokevirtual 19, 3) := by decide +kernel
theorem dX0_bit_7 : decode cX0_bit 7 = .ok (.bipush 7, 2) := by decide +kernel
theorem dX0_bit_9 : decode cX0_bit 9 = .ok (.iload_n 1, 1) := by decide +kernel
theorem dX0_bit_10 : decode cX0_bit 10 = .ok (.bipush 7, 2) := by decide +kernel
theorem dX0_bit_12 : decode cX0_bit 12 = .ok (.iand, 1) := by decide +kernel
theorem dX0_bit_13 : decode cX0_bit 13 = .ok (.isub, 1) := by decide +kernel
theorem dX0_bit_14 : decode cX0_bit 14 = .ok (.ishr, 1) := by decide +kernel
theorem dX0_bit_15 : decode cX0_bit 15 = .ok (.iconst 1, 1) := by decide +kernel
theorem dX0_bit_16 : decode cX0_bit 16 = .ok (.iand, 1) := by decide +kernel
theorem dX0_bit_17 : decode cX0_bit 17 = .ok (.ireturn, 1) := by decide +kernel
theorem dX1_init_0 : decode cX1_init 0 = .ok (.aload_n 0, 1) := by decide +kernel
theorem dX1_init_1 : decode cX1_init 1 = .ok (.invokespecial 3, 3) := by decide +kernel
theorem dX1_init_4 : decode cX1_init 4 = .ok (.aload_n 0, 1) := by decide +kernel
theorem dX1_init_5 : decode cX1_init 5 = .ok (.lconst 0, 1) := by decide +kernel
theorem dX1_init_6 : decode cX1_init 6 = .ok (.putfield 9, 3) := by decide +kernel
theorem dX1_init_9 : decode cX1_init 9 = .ok (.aload_n 0, 1) := by decide +kernel
theorem dX1_init_10 : decode cX1_init 10 = .ok (.lconst 0, 1) := by decide +kernel
theorem dX1_init_11 : decode cX1_init 11 = .ok (.putfield 15, 3) := by decide +kernel
theorem dX1_init_14 : decode cX1_init 14 = .ok (.return_, 1) := by decide +kernel
theorem dX1_clear_0 : decode cX1_clear 0 = .ok (.aload_n 0, 1) := by decide +kernel
theorem dX1_clear_1 : decode cX1_clear 1 = .ok (.lconst 0, 1) := by decide +kernel
theorem dX1_clear_2 : decode cX1_clear 2 = .ok (.putfield 9, 3) := by decide +kernel
theorem dX1_clear_5 : decode cX1_clear 5 = .ok (.aload_n 0, 1) := by decide +kernel
theorem dX1_clear_6 : decode cX1_clear 6 = .ok (.lconst 0, 1) := by decide +kernel
theorem dX1_clear_7 : decode cX1_clear 7 = .ok (.putfield 15, 3) := by decide +kernel
theorem dX1_clear_10 : decode cX1_clear 10 = .ok (.return_, 1) := by decide +kernel
theorem dX1_at_0 : decode cX1_at 0 = .ok (.iload_n 1, 1) := by decide +kernel
theorem dX1_at_1 : decode cX1_at 1 = .ok (.bipush 64, 2) := by decide +kernel
theorem dX1_at_3 : decode cX1_at 3 = .ok (.if_icmp .ge 10, 3) := by decide +kernel
theorem dX1_at_6 : decode cX1_at 6 = .ok (.aload_n 0, 1) := by decide +kernel
theorem dX1_at_7 : decode cX1_at 7 = .ok (.getfield 9, 3) := by decide +kernel
theorem dX1_at_10 : decode cX1_at 10 = .ok (.goto 7, 3) := by decide +kernel
theorem dX1_at_13 : decode cX1_at 13 = .ok (.aload_n 0, 1) := by decide +kernel
theorem dX1_at_14 : decode cX1_at 14 = .ok (.getfield 15, 3) := by decide +kernel
theorem dX1_at_17 : decode cX1_at 17 = .ok (.iload_n 1, 1) := by decide +kernel
theorem dX1_at_18 : decode cX1_at 18 = .ok (.lushr, 1) := by decide +kernel
theorem dX1_at_19 : decode cX1_at 19 = .ok (.l2i, 1) := by decide +kernel
theorem dX1_at_20 : decode cX1_at 20 = .ok (.iconst 1, 1) := by decide +kernel
theorem dX1_at_21 : decode cX1_at 21 = .ok (.iand, 1) := by decide +kernel
theorem dX1_at_22 : decode cX1_at 22 = .ok (.ireturn, 1) := by decide +kernel
theorem dX1_add_0 : decode cX1_add 0 = .ok (.iload_n 1, 1) := by decide +kernel
theorem dX1_add_1 : decode cX1_add 1 = .ok (.bipush 64, 2) := by decide +kernel
theorem dX1_add_3 : decode cX1_add 3 = .ok (.if_icmp .ge 19, 3) := by decide +kernel
theorem dX1_add_6 : decode cX1_add 6 = .ok (.aload_n 0, 1) := by decide +kernel
theorem dX1_add_7 : decode cX1_add 7 = .ok (.dup, 1) := by decide +kernel
theorem dX1_add_8 : decode cX1_add 8 = .ok (.getfield 9, 3) := by decide +kernel
theorem dX1_add_11 : decode cX1_add 11 = .ok (.iload_n 2, 1) := by decide +kernel
theorem dX1_add_12 : decode cX1_add 12 = .ok (.i2l, 1) := by decide +kernel
theorem dX1_add_13 : decode cX1_add 13 = .ok (.iload_n 1, 1) := by decide +kernel
theorem dX1_add_14 : decode cX1_add 14 = .ok (.lshl, 1) := by decide +kernel
theorem dX1_add_15 : decode cX1_add 15 = .ok (.lxor, 1) := by decide +kernel
theorem dX1_add_16 : decode cX1_add 16 = .ok (.putfield 9, 3) := by decide +kernel
theorem dX1_add_19 : decode cX1_add 19 = .ok (.goto 16, 3) := by decide +kernel
theorem dX1_add_22 : decode cX1_add 22 = .ok (.aload_n 0, 1) := by decide +kernel
theorem dX1_add_23 : decode cX1_add 23 = .ok (.dup, 1) := by decide +kernel
theorem dX1_add_24 : decode cX1_add 24 = .ok (.getfield 15, 3) := by decide +kernel
theorem dX1_add_27 : decode cX1_add 27 = .ok (.iload_n 2, 1) := by decide +kernel
theorem dX1_add_28 : decode cX1_add 28 = .ok (.i2l, 1) := by decide +kernel
theorem dX1_add_29 : decode cX1_add 29 = .ok (.iload_n 1, 1) := by decide +kernel
theorem dX1_add_30 : decode cX1_add 30 = .ok (.lshl, 1) := by decide +kernel
theorem dX1_add_31 : decode cX1_add 31 = .ok (.lxor, 1) := by decide +kernel
theorem dX1_add_32 : decode cX1_add 32 = .ok (.putfield 15, 3) := by decide +kernel
theorem dX1_add_35 : decode cX1_add 35 = .ok (.return_, 1) := by decide +kernel
theorem dX1_moveUp_0 : decode cX1_moveUp 0 = .ok (.aload_n 0, 1) := by decide +kernel
theorem dX1_moveUp_1 : decode cX1_moveUp 1 = .ok (.aload_n 0, 1) := by decide +kernel
theorem dX1_moveUp_2 : decode cX1_moveUp 2 = .ok (.getfield 15, 3) := by decide +kernel
theorem dX1_moveUp_5 : decode cX1_moveUp 5 = .ok (.iconst 1, 1) := by decide +kernel
theorem dX1_moveUp_6 : decode cX1_moveUp 6 = .ok (.lshl, 1) := by decide +kernel
theorem dX1_moveUp_7 : decode cX1_moveUp 7 = .ok (.aload_n 0, 1) := by decide +kernel
theorem dX1_moveUp_8 : decode cX1_moveUp 8 = .ok (.getfield 9, 3) := by decide +kernel
theorem dX1_moveUp_11 : decode cX1_moveUp 11 = .ok (.bipush 63, 2) := by decide +kernel
theorem dX1_moveUp_13 : decode cX1_moveUp 13 = .ok (.lushr, 1) := by decide +kernel
theorem dX1_moveUp_14 : decode cX1_moveUp 14 = .ok (.lor, 1) := by decide +kernel
theorem dX1_moveUp_15 : decode cX1_moveUp 15 = .ok (.putfield 15, 3) := by decide +kernel
theorem dX1_moveUp_18 : decode cX1_moveUp 18 = .ok (.aload_n 0, 1) := by decide +kernel
theorem dX1_moveUp_19 : decode cX1_moveUp 19 = .ok (.aload_n 0, 1) := by decide +kernel
theorem dX1_moveUp_20 : decode cX1_moveUp 20 = .ok (.getfield 9, 3) := by decide +kernel
theorem dX1_moveUp_23 : decode cX1_moveUp 23 = .ok (.iconst 1, 1) := by decide +kernel
theorem dX1_moveUp_24 : decode cX1_moveUp 24 = .ok (.lshl, 1) := by decide +kernel
theorem dX1_moveUp_25 : decode cX1_moveUp 25 = .ok (.iload_n 1, 1) := by decide +kernel
theorem dX1_moveUp_26 : decode cX1_moveUp 26 = .ok (.i2l, 1) := by decide +kernel
theorem dX1_moveUp_27 : decode cX1_moveUp 27 = .ok (.lor, 1) := by decide +kernel
theorem dX1_moveUp_28 : decode cX1_moveUp 28 = .ok (.putfield 9, 3) := by decide +kernel
theorem dX1_moveUp_31 : decode cX1_moveUp 31 = .ok (.return_, 1) := by decide +kernel
theorem dX1_moveDown_0 : decode cX1_moveDown 0 = .ok (.aload_n 0, 1) := by decide +kernel
theorem dX1_moveDown_1 : decode cX1_moveDown 1 = .ok (.aload_n 0, 1) := by decide +kernel
theorem dX1_moveDown_2 : decode cX1_moveDown 2 = .ok (.getfield 9, 3) := by decide +kernel
theorem dX1_moveDown_5 : decode cX1_moveDown 5 = .ok (.iconst 1, 1) := by decide +kernel
theorem dX1_moveDown_6 : decode cX1_moveDown 6 = .ok (.lushr, 1) := by decide +kernel
theorem dX1_moveDown_7 : decode cX1_moveDown 7 = .ok (.aload_n 0, 1) := by decide +kernel
theorem dX1_moveDown_8 : decode cX1_moveDown 8 = .ok (.getfield 15, 3) := by decide +kernel
theorem dX1_moveDown_11 : decode cX1_moveDown 11 = .ok (.bipush 63, 2) := by decide +kernel
theorem dX1_moveDown_13 : decode cX1_moveDown 13 = .ok (.lshl, 1) := by decide +kernel
theorem dX1_moveDown_14 : decode cX1_moveDown 14 = .ok (.lor, 1) := by decide +kernel
theorem dX1_moveDown_15 : decode cX1_moveDown 15 = .ok (.putfield 9, 3) := by decide +kernel
theorem dX1_moveDown_18 : decode cX1_moveDown 18 = .ok (.aload_n 0, 1) := by decide +kernel
theorem dX1_moveDown_19 : decode cX1_moveDown 19 = .ok (.aload_n 0, 1) := by decide +kernel
theorem dX1_moveDown_20 : decode cX1_moveDown 20 = .ok (.getfield 15, 3) := by decide +kernel
theorem dX1_moveDown_23 : decode cX1_moveDown 23 = .ok (.iconst 1, 1) := by decide +kernel
theorem dX1_moveDown_24 : decode cX1_moveDown 24 = .ok (.lushr, 1) := by decide +kernel
theorem dX1_moveDown_25 : decode cX1_moveDown 25 = .ok (.iload_n 1, 1) := by decide +kernel
theorem dX1_moveDown_26 : decode cX1_moveDown 26 = .ok (.i2l, 1) := by decide +kernel
theorem dX1_moveDown_27 : decode cX1_moveDown 27 = .ok (.bipush 63, 2) := by decide +kernel
theorem dX1_moveDown_29 : decode cX1_moveDown 29 = .ok (.lshl, 1) := by decide +kernel
theorem dX1_moveDown_30 : decode cX1_moveDown 30 = .ok (.lor, 1) := by decide +kernel
theorem dX1_moveDown_31 : decode cX1_moveDown 31 = .ok (.putfield 15, 3) := by decide +kernel
theorem dX1_moveDown_34 : decode cX1_moveDown 34 = .ok (.return_, 1) := by decide +kernel
theorem dX2_init_0 : decode cX2_init 0 = .ok (.aload_n 0, 1) := by decide +kernel
theorem dX2_init_1 : decode cX2_init 1 = .ok (.invokespecial 5, 3) := by decide +kernel
theorem dX2_init_4 : decode cX2_init 4 = .ok (.aload_n 0, 1) := by decide +kernel
theorem dX2_init_5 : decode cX2_init 5 = .ok (.sipush 256, 3) := by decide +kernel
theorem dX2_init_8 : decode cX2_init 8 = .ok (.newarray .int, 2) := by decide +kernel
theorem dX2_init_10 : decode cX2_init 10 = .ok (.putfield 11, 3) := by decide +kernel
theorem dX2_init_13 : decode cX2_init 13 = .ok (.aload_n 0, 1) := by decide +kernel
theorem dX2_init_14 : decode cX2_init 14 = .ok (.iconst 0, 1) := by decide +kernel
theorem dX2_init_15 : decode cX2_init 15 = .ok (.putfield 15, 3) := by decide +kernel
theorem dX2_init_18 : decode cX2_init 18 = .ok (.aload_n 0, 1) := by decide +kernel
theorem dX2_init_19 : decode cX2_init 19 = .ok (.iconst 0, 1) := by decide +kernel
theorem dX2_init_20 : decode cX2_init 20 = .ok (.putfield 19, 3) := by decide +kernel
theorem dX2_init_23 : decode cX2_init 23 = .ok (.aload_n 0, 1) := by decide +kernel
theorem dX2_init_24 : decode cX2_init 24 = .ok (.iconst 0, 1) := by decide +kernel
theorem dX2_init_25 : decode cX2_init 25 = .ok (.putfield 22, 3) := by decide +kernel
theorem dX2_init_28 : decode cX2_init 28 = .ok (.aload_n 0, 1) := by decide +kernel
theorem dX2_init_29 : decode cX2_init 29 = .ok (.iconst 0, 1) := by decide +kernel
theorem dX2_init_30 : decode cX2_init 30 = .ok (.putfield 25, 3) := by decide +kernel
theorem dX2_init_33 : decode cX2_init 33 = .ok (.return_, 1) := by decide +kernel
theorem dX2_takes_0 : decode cX2_takes 0 = .ok (.iload_n 1, 1) := by decide +kernel
theorem dX2_takes_1 : decode cX2_takes 1 = .ok (.iconst 5, 1) := by decide +kernel
theorem dX2_takes_2 : decode cX2_takes 2 = .ok (.if_icmp .lt 17, 3) := by decide +kernel
theorem dX2_takes_5 : decode cX2_takes 5 = .ok (.iload_n 1, 1) := by decide +kernel
theorem dX2_takes_6 : decode cX2_takes 6 = .ok (.bipush 32, 2) := by decide +kernel
theorem dX2_takes_8 : decode cX2_takes 8 = .ok (.if_icmp .gt 11, 3) := by decide +kernel
theorem dX2_takes_11 : decode cX2_takes 11 = .ok (.iload_n 2, 1) := by decide +kernel
theorem dX2_takes_12 : decode cX2_takes 12 = .ok (.ifCond .ne 7, 3) := by decide +kernel
theorem dX2_takes_15 : decode cX2_takes 15 = .ok (.iconst 1, 1) := by decide +kernel
theorem dX2_takes_16 : decode cX2_takes 16 = .ok (.goto 4, 3) := by decide +kernel
theorem dX2_takes_19 : decode cX2_takes 19 = .ok (.iconst 0, 1) := by decide +kernel
theorem dX2_takes_20 : decode cX2_takes 20 = .ok (.ireturn, 1) := by decide +kernel
theorem dX2_load_0 : decode cX2_load 0 = .ok (.iconst 0, 1) := by decide +kernel
theorem dX2_load_1 : decode cX2_load 1 = .ok (.istore_n 3, 1) := by decide +kernel
theorem dX2_load_2 : decode cX2_load 2 = .ok (.iload_n 3, 1) := by decide +kernel
theorem dX2_load_3 : decode cX2_load 3 = .ok (.sipush 256, 3) := by decide +kernel
theorem dX2_load_6 : decode cX2_load 6 = .ok (.if_icmp .ge 16, 3) := by decide +kernel
theorem dX2_load_9 : decode cX2_load 9 = .ok (.aload_n 0, 1) := by decide +kernel
theorem dX2_load_10 : decode cX2_load 10 = .ok (.getfield 11, 3) := by decide +kernel
theorem dX2_load_13 : decode cX2_load 13 = .ok (.iload_n 3, 1) := by decide +kernel
theorem dX2_load_14 : decode cX2_load 14 = .ok (.iload_n 3, 1) := by decide +kernel
theorem dX2_load_15 : decode cX2_load 15 = .ok (.iastore, 1) := by decide +kernel
theorem dX2_load_16 : decode cX2_load 16 = .ok (.iinc 3 1, 3) := by decide +kernel
theorem dX2_load_19 : decode cX2_load 19 = .ok (.goto (-17), 3) := by decide +kernel
theorem dX2_load_22 : decode cX2_load 22 = .ok (.iconst 0, 1) := by decide +kernel
theorem dX2_load_23 : decode cX2_load 23 = .ok (.istore_n 3, 1) := by decide +kernel
theorem dX2_load_24 : decode cX2_load 24 = .ok (.iconst 0, 1) := by decide +kernel
theorem dX2_load_25 : decode cX2_load 25 = .ok (.istore 4, 2) := by decide +kernel
theorem dX2_load_27 : decode cX2_load 27 = .ok (.iconst 0, 1) := by decide +kernel
theorem dX2_load_28 : decode cX2_load 28 = .ok (.istore 5, 2) := by decide +kernel
theorem dX2_load_30 : decode cX2_load 30 = .ok (.iload 5, 2) := by decide +kernel
theorem dX2_load_32 : decode cX2_load 32 = .ok (.sipush 256, 3) := by decide +kernel
theorem dX2_load_35 : decode cX2_load 35 = .ok (.if_icmp .ge 58, 3) := by decide +kernel
theorem dX2_load_38 : decode cX2_load 38 = .ok (.iload_n 3, 1) := by decide +kernel
theorem dX2_load_39 : decode cX2_load 39 = .ok (.aload_n 0, 1) := by decide +kernel
theorem dX2_load_40 : decode cX2_load 40 = .ok (.getfield 11, 3) := by decide +kernel
theorem dX2_load_43 : decode cX2_load 43 = .ok (.iload 5, 2) := by decide +kernel
theorem dX2_load_45 : decode cX2_load 45 = .ok (.iaload, 1) := by decide +kernel
theorem dX2_load_46 : decode cX2_load 46 = .ok (.iadd, 1) := by decide +kernel
theorem dX2_load_47 : decode cX2_load 47 = .ok (.aload_n 1, 1) := by decide +kernel
theorem dX2_load_48 : decode cX2_load 48 = .ok (.iload 4, 2) := by decide +kernel
theorem dX2_load_50 : decode cX2_load 50 = .ok (.invokevirtual 28, 3) := by decide +kernel
theorem dX2_load_53 : decode cX2_load 53 = .ok (.iadd, 1) := by decide +kernel
theorem dX2_load_54 : decode cX2_load 54 = .ok (.sipush 255, 3) := by decide +kernel
theorem dX2_load_57 : decode cX2_load 57 = .ok (.iand, 1) := by decide +kernel
theorem dX2_load_58 : decode cX2_load 58 = .ok (.istore_n 3, 1) := by decide +kernel
theorem dX2_load_59 : decode cX2_load 59 = .ok (.aload_n 0, 1) := by decide +kernel
theorem dX2_load_60 : decode cX2_load 60 = .ok (.iload 5, 2) := by decide +kernel
theorem dX2_load_62 : decode cX2_load 62 = .ok (.iload_n 3, 1) := by decide +kernel
theorem dX2_load_63 : decode cX2_load 63 = .ok (.invokevirtual 34, 3) := by decide +kernel
theorem dX2_load_66 : decode cX2_load 66 = .ok (.iload 4, 2) := by decide +kernel
theorem dX2_load_68 : decode cX2_load 68 = .ok (.iconst 1, 1) := by decide +kernel
theorem dX2_load_69 : decode cX2_load 69 = .ok (.iadd, 1) := by decide +kernel
theorem dX2_load_70 : decode cX2_load 70 = .ok (.aload_n 1, 1) := by decide +kernel
theorem dX2_load_71 : decode cX2_load 71 = .ok (.invokevirtual 38, 3) := by decide +kernel
theorem dX2_load_74 : decode cX2_load 74 = .ok (.if_icmp .ge 10, 3) := by decide +kernel
theorem dX2_load_77 : decode cX2_load 77 = .ok (.iload 4, 2) := by decide +kernel
theorem dX2_load_79 : decode cX2_load 79 = .ok (.iconst 1, 1) := by decide +kernel
theorem dX2_load_80 : decode cX2_load 80 = .ok (.iadd, 1) := by decide +kernel
theorem dX2_load_81 : decode cX2_load 81 = .ok (.goto 4, 3) := by decide +kernel
theorem dX2_load_84 : decode cX2_load 84 = .ok (.iconst 0, 1) := by decide +kernel
theorem dX2_load_85 : decode cX2_load 85 = .ok (.istore 4, 2) := by decide +kernel
theorem dX2_load_87 : decode cX2_load 87 = .ok (.iinc 5 1, 3) := by decide +kernel
theorem dX2_load_90 : decode cX2_load 90 = .ok (.goto (-60), 3) := by decide +kernel
theorem dX2_load_93 : decode cX2_load 93 = .ok (.aload_n 0, 1) := by decide +kernel
theorem dX2_load_94 : decode cX2_load 94 = .ok (.iconst 0, 1) := by decide +kernel
theorem dX2_load_95 : decode cX2_load 95 = .ok (.putfield 15, 3) := by decide +kernel
theorem dX2_load_98 : decode cX2_load 98 = .ok (.aload_n 0, 1) := by decide +kernel
theorem dX2_load_99 : decode cX2_load 99 = .ok (.iconst 0, 1) := by decide +kernel
theorem dX2_load_100 : decode cX2_load 100 = .ok (.putfield 19, 3) := by decide +kernel
theorem dX2_load_103 : decode cX2_load 103 = .ok (.aload_n 0, 1) := by decide +kernel
theorem dX2_load_104 : decode cX2_load 104 = .ok (.iconst 0, 1) := by decide +kernel
theorem dX2_load_105 : decode cX2_load 105 = .ok (.putfield 25, 3) := by decide +kernel
theorem dX2_load_108 : decode cX2_load 108 = .ok (.return_, 1) := by decide +kernel
theorem dX2_nextBit_0 : decode cX2_nextBit 0 = .ok (.aload_n 0, 1) := by decide +kernel
theorem dX2_nextBit_1 : decode cX2_nextBit 1 = .ok (.getfield 25, 3) := by decide +kernel
theorem dX2_nextBit_4 : decode cX2_nextBit 4 = .ok (.ifCond .ne 17, 3) := by decide +kernel
theorem dX2_nextBit_7 : decode cX2_nextBit 7 = .ok (.aload_n 0, 1) := by decide +kernel
theorem dX2_nextBit_8 : decode cX2_nextBit 8 = .ok (.aload_n 0, 1) := by decide +kernel
theorem dX2_nextBit_9 : decode cX2_nextBit 9 = .ok (.invokevirtual 42, 3) := by decide +kernel
theorem dX2_nextBit_12 : decode cX2_nextBit 12 = .ok (.putfield 22, 3) := by decide +kernel
theorem dX2_nextBit_15 : decode cX2_nextBit 15 = .ok (.aload_n 0, 1) := by decide +kernel
theorem dX2_nextBit_16 : decode cX2_nextBit 16 = .ok (.bipush 8, 2) := by decide +kernel
theorem dX2_nextBit_18 : decode cX2_nextBit 18 = .ok (.putfield 25, 3) := by decide +kernel
theorem dX2_nextBit_21 : decode cX2_nextBit 21 = .ok (.aload_n 0, 1) := by decide +kernel
theorem dX2_nextBit_22 : decode cX2_nextBit 22 = .ok (.dup, 1) := by decide +kernel
theorem dX2_nextBit_23 : decode cX2_nextBit 23 = .ok (.getfield 25, 3) := by decide +kernel
theorem dX2_nextBit_26 : decode cX2_nextBit 26 = .ok (.iconst 1, 1) := by decide +kernel
theorem dX2_nextBit_27 : decode cX2_nextBit 27 = .ok (.isub, 1) := by decide +kernel
theorem dX2_nextBit_28 : decode cX2_nextBit 28 = .ok (.putfield 25, 3) := by decide +kernel
theorem dX2_nextBit_31 : decode cX2_nextBit 31 = .ok (.aload_n 0, 1) := by decide +kernel
theorem dX2_nextBit_32 : decode cX2_nextBit 32 = .ok (.getfield 22, 3) := by decide +kernel
theorem dX2_nextBit_35 : decode cX2_nextBit 35 = .ok (.aload_n 0, 1) := by decide +kernel
theorem dX2_nextBit_36 : decode cX2_nextBit 36 = .ok (.getfield 25, 3) := by decide +kernel
theorem dX2_nextBit_39 : decode cX2_nextBit 39 = .ok (.ishr, 1) := by decide +kernel
theorem dX2_nextBit_40 : decode cX2_nextBit 40 = .ok (.iconst 1, 1) := by decide +kernel
theorem dX2_nextBit_41 : decode cX2_nextBit 41 = .ok (.iand, 1) := by decide +kernel
theorem dX2_nextBit_42 : decode cX2_nextBit 42 = .ok (.ireturn, 1) := by decide +kernel
theorem dX2_nextByte_0 : decode cX2_nextByte 0 = .ok (.aload_n 0, 1) := by decide +kernel
theorem dX2_nextByte_1 : decode cX2_nextByte 1 = .ok (.aload_n 0, 1) := by decide +kernel
theorem dX2_nextByte_2 : decode cX2_nextByte 2 = .ok (.getfield 15, 3) := by decide +kernel
theorem dX2_nextByte_5 : decode cX2_nextByte 5 = .ok (.iconst 1, 1) := by decide +kernel
theorem dX2_nextByte_6 : decode cX2_nextByte 6 = .ok (.iadd, 1) := by decide +kernel
theorem dX2_nextByte_7 : decode cX2_nextByte 7 = .ok (.sipush 255, 3) := by decide +kernel
theorem dX2_nextByte_10 : decode cX2_nextByte 10 = .ok (.iand, 1) := by decide +kernel
theorem dX2_nextByte_11 : decode cX2_nextByte 11 = .ok (.putfield 15, 3) := by decide +kernel
theorem dX2_nextByte_14 : decode cX2_nextByte 14 = .ok (.aload_n 0, 1) := by decide +kernel
theorem dX2_nextByte_15 : decode cX2_nextByte 15 = .ok (.aload_n 0, 1) := by decide +kernel
theorem dX2_nextByte_16 : decode cX2_nextByte 16 = .ok (.getfield 19, 3) := by decide +kernel
theorem dX2_nextByte_19 : decode cX2_nextByte 19 = .ok (.aload_n 0, 1) := by decide +kernel
theorem dX2_nextByte_20 : decode cX2_nextByte 20 = .ok (.getfield 11, 3) := by decide +kernel
theorem dX2_nextByte_23 : decode cX2_nextByte 23 = .ok (.aload_n 0, 1) := by decide +kernel
theorem dX2_nextByte_24 : decode cX2_nextByte 24 = .ok (.getfield 15, 3) := by decide +kernel
theorem dX2_nextByte_27 : decode cX2_nextByte 27 = .ok (.iaload, 1) := by decide +kernel
theorem dX2_nextByte_28 : decode cX2_nextByte 28 = .ok (.iadd, 1) := by decide +kernel
theorem dX2_nextByte_29 : decode cX2_nextByte 29 = .ok (.sipush 255, 3) := by decide +kernel
theorem dX2_nextByte_32 : decode cX2_nextByte 32 = .ok (.iand, 1) := by decide +kernel
theorem dX2_nextByte_33 : decode cX2_nextByte 33 = .ok (.putfield 19, 3) := by decide +kernel
theorem dX2_nextByte_36 : decode cX2_nextByte 36 = .ok (.aload_n 0, 1) := by decide +kernel
theorem dX2_nextByte_37 : decode cX2_nextByte 37 = .ok (.aload_n 0, 1) := by decide +kernel
theorem dX2_nextByte_38 : decode cX2_nextByte 38 = .ok (.getfield 15, 3) := by decide +kernel
theorem dX2_nextByte_41 : decode cX2_nextByte 41 = .ok (.aload_n 0, 1) := by decide +kernel
theorem dX2_nextByte_42 : decode cX2_nextByte 42 = .ok (.getfield 19, 3) := by decide +kernel
theorem dX2_nextByte_45 : decode cX2_nextByte 45 = .ok (.invokevirtual 34, 3) := by decide +kernel
theorem dX2_nextByte_48 : decode cX2_nextByte 48 = .ok (.aload_n 0, 1) := by decide +kernel
theorem dX2_nextByte_49 : decode cX2_nextByte 49 = .ok (.getfield 11, 3) := by decide +kernel
theorem dX2_nextByte_52 : decode cX2_nextByte 52 = .ok (.aload_n 0, 1) := by decide +kernel
theorem dX2_nextByte_53 : decode cX2_nextByte 53 = .ok (.getfield 11, 3) := by decide +kernel
theorem dX2_nextByte_56 : decode cX2_nextByte 56 = .ok (.aload_n 0, 1) := by decide +kernel
theorem dX2_nextByte_57 : decode cX2_nextByte 57 = .ok (.getfield 15, 3) := by decide +kernel
theorem dX2_nextByte_60 : decode cX2_nextByte 60 = .ok (.iaload, 1) := by decide +kernel
theorem dX2_nextByte_61 : decode cX2_nextByte 61 = .ok (.aload_n 0, 1) := by decide +kernel
theorem dX2_nextByte_62 : decode cX2_nextByte 62 = .ok (.getfield 11, 3) := by decide +kernel
theorem dX2_nextByte_65 : decode cX2_nextByte 65 = .ok (.aload_n 0, 1) := by decide +kernel
theorem dX2_nextByte_66 : decode cX2_nextByte 66 = .ok (.getfield 19, 3) := by decide +kernel
theorem dX2_nextByte_69 : decode cX2_nextByte 69 = .ok (.iaload, 1) := by decide +kernel
theorem dX2_nextByte_70 : decode cX2_nextByte 70 = .ok (.iadd, 1) := by decide +kernel
theorem dX2_nextByte_71 : decode cX2_nextByte 71 = .ok (.sipush 255, 3) := by decide +kernel
theorem dX2_nextByte_74 : decode cX2_nextByte 74 = .ok (.iand, 1) := by decide +kernel
theorem dX2_nextByte_75 : decode cX2_nextByte 75 = .ok (.iaload, 1) := by decide +kernel
theorem dX2_nextByte_76 : decode cX2_nextByte 76 = .ok (.ireturn, 1) := by decide +kernel
theorem dX2_exchange_0 : decode cX2_exchange 0 = .ok (.aload_n 0, 1) := by decide +kernel
theorem dX2_exchange_1 : decode cX2_exchange 1 = .ok (.getfield 11, 3) := by decide +kernel
theorem dX2_exchange_4 : decode cX2_exchange 4 = .ok (.iload_n 1, 1) := by decide +kernel
theorem dX2_exchange_5 : decode cX2_exchange 5 = .ok (.sipush 255, 3) := by decide +kernel
theorem dX2_exchange_8 : decode cX2_exchange 8 = .ok (.iand, 1) := by decide +kernel
theorem dX2_exchange_9 : decode cX2_exchange 9 = .ok (.iaload, 1) := by decide +kernel
theorem dX2_exchange_10 : decode cX2_exchange 10 = .ok (.istore_n 3, 1) := by decide +kernel
theorem dX2_exchange_11 : decode cX2_exchange 11 = .ok (.aload_n 0, 1) := by decide +kernel
theorem dX2_exchange_12 : decode cX2_exchange 12 = .ok (.getfield 11, 3) := by decide +kernel
theorem dX2_exchange_15 : decode cX2_exchange 15 = .ok (.iload_n 1, 1) := by decide +kernel
theorem dX2_exchange_16 : decode cX2_exchange 16 = .ok (.sipush 255, 3) := by decide +kernel
theorem dX2_exchange_19 : decode cX2_exchange 19 = .ok (.iand, 1) := by decide +kernel
theorem dX2_exchange_20 : decode cX2_exchange 20 = .ok (.aload_n 0, 1) := by decide +kernel
theorem dX2_exchange_21 : decode cX2_exchange 21 = .ok (.getfield 11, 3) := by decide +kernel
theorem dX2_exchange_24 : decode cX2_exchange 24 = .ok (.iload_n 2, 1) := by decide +kernel
theorem dX2_exchange_25 : decode cX2_exchange 25 = .ok (.sipush 255, 3) := by decide +kernel
theorem dX2_exchange_28 : decode cX2_exchange 28 = .ok (.iand, 1) := by decide +kernel
theorem dX2_exchange_29 : decode cX2_exchange 29 = .ok (.iaload, 1) := by decide +kernel
theorem dX2_exchange_30 : decode cX2_exchange 30 = .ok (.iastore, 1) := by decide +kernel
theorem dX2_exchange_31 : decode cX2_exchange 31 = .ok (.aload_n 0, 1) := by decide +kernel
theorem dX2_exchange_32 : decode cX2_exchange 32 = .ok (.getfield 11, 3) := by decide +kernel
theorem dX2_exchange_35 : decode cX2_exchange 35 = .ok (.iload_n 2, 1) := by decide +kernel
theorem dX2_exchange_36 : decode cX2_exchange 36 = .ok (.sipush 255, 3) := by decide +kernel
theorem dX2_exchange_39 : decode cX2_exchange 39 = .ok (.iand, 1) := by decide +kernel
theorem dX2_exchange_40 : decode cX2_exchange 40 = .ok (.iload_n 3, 1) := by decide +kernel
theorem dX2_exchange_41 : decode cX2_exchange 41 = .ok (.iastore, 1) := by decide +kernel
theorem dX2_exchange_42 : decode cX2_exchange 42 = .ok (.return_, 1) := by decide +kernel
theorem dX3_init_0 : decode cX3_init 0 = .ok (.aload_n 0, 1) := by decide +kernel
theorem dX3_init_1 : decode cX3_init 1 = .ok (.invokespecial 1, 3) := by decide +kernel
theorem dX3_init_4 : decode cX3_init 4 = .ok (.return_, 1) := by decide +kernel
theorem dX4_init_0 : decode cX4_init 0 = .ok (.aload_n 0, 1) := by decide +kernel
theorem dX4_init_1 : decode cX4_init 1 = .ok (.invokespecial 1, 3) := by decide +kernel
theorem dX4_init_4 : decode cX4_init 4 = .ok (.aload_n 0, 1) := by decide +kernel
theorem dX4_init_5 : decode cX4_init 5 = .ok (.new 7, 3) := by decide +kernel
theorem dX4_init_8 : decode cX4_init 8 = .ok (.dup, 1) := by decide +kernel
theorem dX4_init_9 : decode cX4_init 9 = .ok (.invokespecial 9, 3) := by decide +kernel
theorem dX4_init_12 : decode cX4_init 12 = .ok (.putfield 10, 3) := by decide +kernel
theorem dX4_init_15 : decode cX4_init 15 = .ok (.aload_n 0, 1) := by decide +kernel
theorem dX4_init_16 : decode cX4_init 16 = .ok (.new 7, 3) := by decide +kernel
theorem dX4_init_19 : decode cX4_init 19 = .ok (.dup, 1) := by decide +kernel
theorem dX4_init_20 : decode cX4_init 20 = .ok (.invokespecial 9, 3) := by decide +kernel
theorem dX4_init_23 : decode cX4_init 23 = .ok (.putfield 16, 3) := by decide +kernel
theorem dX4_init_26 : decode cX4_init 26 = .ok (.aload_n 0, 1) := by decide +kernel
theorem dX4_init_27 : decode cX4_init 27 = .ok (.new 7, 3) := by decide +kernel
theorem dX4_init_30 : decode cX4_init 30 = .ok (.dup, 1) := by decide +kernel
theorem dX4_init_31 : decode cX4_init 31 = .ok (.invokespecial 9, 3) := by decide +kernel
theorem dX4_init_34 : decode cX4_init 34 = .ok (.putfield 19, 3) := by decide +kernel
theorem dX4_init_37 : decode cX4_init 37 = .ok (.return_, 1) := by decide +kernel
theorem dX4_takes_0 : decode cX4_takes 0 = .ok (.iload_n 1, 1) := by decide +kernel
theorem dX4_takes_1 : decode cX4_takes 1 = .ok (.bipush 10, 2) := by decide +kernel
theorem dX4_takes_3 : decode cX4_takes 3 = .ok (.if_icmp .ne 13, 3) := by decide +kernel
theorem dX4_takes_6 : decode cX4_takes 6 = .ok (.iload_n 2, 1) := by decide +kernel
theorem dX4_takes_7 : decode cX4_takes 7 = .ok (.bipush 10, 2) := by decide +kernel
theorem dX4_takes_9 : decode cX4_takes 9 = .ok (.if_icmp .ne 7, 3) := by decide +kernel
theorem dX4_takes_12 : decode cX4_takes 12 = .ok (.iconst 1, 1) := by decide +kernel
theorem dX4_takes_13 : decode cX4_takes 13 = .ok (.goto 4, 3) := by decide +kernel
theorem dX4_takes_16 : decode cX4_takes 16 = .ok (.iconst 0, 1) := by decide +kernel
theorem dX4_takes_17 : decode cX4_takes 17 = .ok (.ireturn, 1) := by decide +kernel
theorem dX4_load_0 : decode cX4_load 0 = .ok (.aload_n 0, 1) := by decide +kernel
theorem dX4_load_1 : decode cX4_load 1 = .ok (.getfield 10, 3) := by decide +kernel
theorem dX4_load_4 : decode cX4_load 4 = .ok (.invokevirtual 22, 3) := by decide +kernel
theorem dX4_load_7 : decode cX4_load 7 = .ok (.aload_n 0, 1) := by decide +kernel
theorem dX4_load_8 : decode cX4_load 8 = .ok (.getfield 16, 3) := by decide +kernel
theorem dX4_load_11 : decode cX4_load 11 = .ok (.invokevirtual 22, 3) := by decide +kernel
theorem dX4_load_14 : decode cX4_load 14 = .ok (.aload_n 0, 1) := by decide +kernel
theorem dX4_load_15 : decode cX4_load 15 = .ok (.getfield 19, 3) := by decide +kernel
theorem dX4_load_18 : decode cX4_load 18 = .ok (.invokevirtual 22, 3) := by decide +kernel
theorem dX4_load_21 : decode cX4_load 21 = .ok (.iconst 0, 1) := by decide +kernel
theorem dX4_load_22 : decode cX4_load 22 = .ok (.istore_n 3, 1) := by decide +kernel
theorem dX4_load_23 : decode cX4_load 23 = .ok (.iload_n 3, 1) := by decide +kernel
theorem dX4_load_24 : decode cX4_load 24 = .ok (.bipush 80, 2) := by decide +kernel
theorem dX4_load_26 : decode cX4_load 26 = .ok (.if_icmp .ge 35, 3) := by decide +kernel
theorem dX4_load_29 : decode cX4_load 29 = .ok (.aload_n 0, 1) := by decide +kernel
theorem dX4_load_30 : decode cX4_load 30 = .ok (.getfield 10, 3) := by decide +kernel
theorem dX4_load_33 : decode cX4_load 33 = .ok (.iload_n 3, 1) := by decide +kernel
theorem dX4_load_34 : decode cX4_load 34 = .ok (.aload_n 1, 1) := by decide +kernel
theorem dX4_load_35 : decode cX4_load 35 = .ok (.iload_n 3, 1) := by decide +kernel
theorem dX4_load_36 : decode cX4_load 36 = .ok (.invokevirtual 25, 3) := by decide +kernel
theorem dX4_load_39 : decode cX4_load 39 = .ok (.invokevirtual 31, 3) := by decide +kernel
theorem dX4_load_42 : decode cX4_load 42 = .ok (.aload_n 0, 1) := by decide +kernel
theorem dX4_load_43 : decode cX4_load 43 = .ok (.getfield 16, 3) := by decide +kernel
theorem dX4_load_46 : decode cX4_load 46 = .ok (.iload_n 3, 1) := by decide +kernel
theorem dX4_load_47 : decode cX4_load 47 = .ok (.aload_n 2, 1) := by decide +kernel
theorem dX4_load_48 : decode cX4_load 48 = .ok (.iload_n 3, 1) := by decide +kernel
theorem dX4_load_49 : decode cX4_load 49 = .ok (.invokevirtual 25, 3) := by decide +kernel
theorem dX4_load_52 : decode cX4_load 52 = .ok (.invokevirtual 31, 3) := by decide +kernel
theorem dX4_load_55 : decode cX4_load 55 = .ok (.iinc 3 1, 3) := by decide +kernel
theorem dX4_load_58 : decode cX4_load 58 = .ok (.goto (-35), 3) := by decide +kernel
theorem dX4_load_61 : decode cX4_load 61 = .ok (.aload_n 0, 1) := by decide +kernel
theorem dX4_load_62 : decode cX4_load 62 = .ok (.getfield 19, 3) := by decide +kernel
theorem dX4_load_65 : decode cX4_load 65 = .ok (.bipush 108, 2) := by decide +kernel
theorem dX4_load_67 : decode cX4_load 67 = .ok (.iconst 1, 1) := by decide +kernel
theorem dX4_load_68 : decode cX4_load 68 = .ok (.invokevirtual 31, 3) := by decide +kernel
theorem dX4_load_71 : decode cX4_load 71 = .ok (.aload_n 0, 1) := by decide +kernel
theorem dX4_load_72 : decode cX4_load 72 = .ok (.getfield 19, 3) := by decide +kernel
theorem dX4_load_75 : decode cX4_load 75 = .ok (.bipush 109, 2) := by decide +kernel
theorem dX4_load_77 : decode cX4_load 77 = .ok (.iconst 1, 1) := by decide +kernel
theorem dX4_load_78 : decode cX4_load 78 = .ok (.invokevirtual 31, 3) := by decide +kernel
theorem dX4_load_81 : decode cX4_load 81 = .ok (.aload_n 0, 1) := by decide +kernel
theorem dX4_load_82 : decode cX4_load 82 = .ok (.getfield 19, 3) := by decide +kernel
theorem dX4_load_85 : decode cX4_load 85 = .ok (.bipush 110, 2) := by decide +kernel
theorem dX4_load_87 : decode cX4_load 87 = .ok (.iconst 1, 1) := by decide +kernel
theorem dX4_load_88 : decode cX4_load 88 = .ok (.invokevirtual 31, 3) := by decide +kernel
theorem dX4_load_91 : decode cX4_load 91 = .ok (.iconst 0, 1) := by decide +kernel
theorem dX4_load_92 : decode cX4_load 92 = .ok (.istore_n 3, 1) := by decide +kernel
theorem dX4_load_93 : decode cX4_load 93 = .ok (.iload_n 3, 1) := by decide +kernel
theorem dX4_load_94 : decode cX4_load 94 = .ok (.sipush 1152, 3) := by decide +kernel
theorem dX4_load_97 : decode cX4_load 97 = .ok (.if_icmp .ge 14, 3) := by decide +kernel
theorem dX4_load_100 : decode cX4_load 100 = .ok (.aload_n 0, 1) := by decide +kernel
theorem dX4_load_101 : decode cX4_load 101 = .ok (.invokevirtual 35, 3) := by decide +kernel
theorem dX4_load_104 : decode cX4_load 104 = .ok (.pop, 1) := by decide +kernel
theorem dX4_load_105 : decode cX4_load 105 = .ok (.iinc 3 1, 3) := by decide +kernel
theorem dX4_load_108 : decode cX4_load 108 = .ok (.goto (-15), 3) := by decide +kernel
theorem dX4_load_111 : decode cX4_load 111 = .ok (.return_, 1) := by decide +kernel
theorem dX4_nextBit_0 : decode cX4_nextBit 0 = .ok (.aload_n 0, 1) := by decide +kernel
theorem dX4_nextBit_1 : decode cX4_nextBit 1 = .ok (.getfield 10, 3) := by decide +kernel
theorem dX4_nextBit_4 : decode cX4_nextBit 4 = .ok (.bipush 65, 2) := by decide +kernel
theorem dX4_nextBit_6 : decode cX4_nextBit 6 = .ok (.invokevirtual 39, 3) := by decide +kernel
theorem dX4_nextBit_9 : decode cX4_nextBit 9 = .ok (.aload_n 0, 1) := by decide +kernel
theorem dX4_nextBit_10 : decode cX4_nextBit 10 = .ok (.getfield 10, 3) := by decide +kernel
theorem dX4_nextBit_13 : decode cX4_nextBit 13 = .ok (.bipush 92, 2) := by decide +kernel
theorem dX4_nextBit_15 : decode cX4_nextBit 15 = .ok (.invokevirtual 39, 3) := by decide +kernel
theorem dX4_nextBit_18 : decode cX4_nextBit 18 = .ok (.ixor, 1) := by decide +kernel
theorem dX4_nextBit_19 : decode cX4_nextBit 19 = .ok (.istore_n 1, 1) := by decide +kernel
theorem dX4_nextBit_20 : decode cX4_nextBit 20 = .ok (.aload_n 0, 1) := by decide +kernel
theorem dX4_nextBit_21 : decode cX4_nextBit 21 = .ok (.getfield 16, 3) := by decide +kernel
theorem dX4_nextBit_24 : decode cX4_nextBit 24 = .ok (.bipush 68, 2) := by decide +kernel
theorem dX4_nextBit_26 : decode cX4_nextBit 26 = .ok (.invokevirtual 39, 3) := by decide +kernel
theorem dX4_nextBit_29 : decode cX4_nextBit 29 = .ok (.aload_n 0, 1) := by decide +kernel
theorem dX4_nextBit_30 : decode cX4_nextBit 30 = .ok (.getfield 16, 3) := by decide +kernel
theorem dX4_nextBit_33 : decode cX4_nextBit 33 = .ok (.bipush 83, 2) := by decide +kernel
theorem dX4_nextBit_35 : decode cX4_nextBit 35 = .ok (.invokevirtual 39, 3) := by decide +kernel
theorem dX4_nextBit_38 : decode cX4_nextBit 38 = .ok (.ixor, 1) := by decide +kernel
theorem dX4_nextBit_39 : decode cX4_nextBit 39 = .ok (.istore_n 2, 1) := by decide +kernel
theorem dX4_nextBit_40 : decode cX4_nextBit 40 = .ok (.aload_n 0, 1) := by decide +kernel
theorem dX4_nextBit_41 : decode cX4_nextBit 41 = .ok (.getfield 19, 3) := by decide +kernel
theorem dX4_nextBit_44 : decode cX4_nextBit 44 = .ok (.bipush 65, 2) := by decide +kernel
theorem dX4_nextBit_46 : decode cX4_nextBit 46 = .ok (.invokevirtual 39, 3) := by decide +kernel
theorem dX4_nextBit_49 : decode cX4_nextBit 49 = .ok (.aload_n 0, 1) := by decide +kernel
theorem dX4_nextBit_50 : decode cX4_nextBit 50 = .ok (.getfield 19, 3) := by decide +kernel
theorem dX4_nextBit_53 : decode cX4_nextBit 53 = .ok (.bipush 110, 2) := by decide +kernel
theorem dX4_nextBit_55 : decode cX4_nextBit 55 = .ok (.invokevirtual 39, 3) := by decide +kernel
theorem dX4_nextBit_58 : decode cX4_nextBit 58 = .ok (.ixor, 1) := by decide +kernel
theorem dX4_nextBit_59 : decode cX4_nextBit 59 = .ok (.istore_n 3, 1) := by decide +kernel
theorem dX4_nextBit_60 : decode cX4_nextBit 60 = .ok (.iload_n 1, 1) := by decide +kernel
theorem dX4_nextBit_61 : decode cX4_nextBit 61 = .ok (.iload_n 2, 1) := by decide +kernel
theorem dX4_nextBit_62 : decode cX4_nextBit 62 = .ok (.ixor, 1) := by decide +kernel
theorem dX4_nextBit_63 : decode cX4_nextBit 63 = .ok (.iload_n 3, 1) := by decide +kernel
theorem dX4_nextBit_64 : decode cX4_nextBit 64 = .ok (.ixor, 1) := by decide +kernel
theorem dX4_nextBit_65 : decode cX4_nextBit 65 = .ok (.istore 4, 2) := by decide +kernel
theorem dX4_nextBit_67 : decode cX4_nextBit 67 = .ok (.iload_n 1, 1) := by decide +kernel
theorem dX4_nextBit_68 : decode cX4_nextBit 68 = .ok (.aload_n 0, 1) := by decide +kernel
theorem dX4_nextBit_69 : decode cX4_nextBit 69 = .ok (.getfield 10, 3) := by decide +kernel
theorem dX4_nextBit_72 : decode cX4_nextBit 72 = .ok (.bipush 90, 2) := by decide +kernel
theorem dX4_nextBit_74 : decode cX4_nextBit 74 = .ok (.invokevirtual 39, 3) := by decide +kernel
theorem dX4_nextBit_77 : decode cX4_nextBit 77 = .ok (.aload_n 0, 1) := by decide +kernel
theorem dX4_nextBit_78 : decode cX4_nextBit 78 = .ok (.getfield 10, 3) := by decide +kernel
theorem dX4_nextBit_81 : decode cX4_nextBit 81 = .ok (.bipush 91, 2) := by decide +kernel
theorem dX4_nextBit_83 : decode cX4_nextBit 83 = .ok (.invokevirtual 39, 3) := by decide +kernel
theorem dX4_nextBit_86 : decode cX4_nextBit 86 = .ok (.iand, 1) := by decide +kernel
theorem dX4_nextBit_87 : decode cX4_nextBit 87 = .ok (.aload_n 0, 1) := by decide +kernel
theorem dX4_nextBit_88 : decode cX4_nextBit 88 = .ok (.getfield 16, 3) := by decide +kernel
theorem dX4_nextBit_91 : decode cX4_nextBit 91 = .ok (.bipush 77, 2) := by decide +kernel
theorem dX4_nextBit_93 : decode cX4_nextBit 93 = .ok (.invokevirtual 39, 3) := by decide +kernel
theorem dX4_nextBit_96 : decode cX4_nextBit 96 = .ok (.ixor, 1) := by decide +kernel
theorem dX4_nextBit_97 : decode cX4_nextBit 97 = .ok (.ixor, 1) := by decide +kernel
theorem dX4_nextBit_98 : decode cX4_nextBit 98 = .ok (.istore_n 1, 1) := by decide +kernel
theorem dX4_nextBit_99 : decode cX4_nextBit 99 = .ok (.iload_n 2, 1) := by decide +kernel
theorem dX4_nextBit_100 : decode cX4_nextBit 100 = .ok (.aload_n 0, 1) := by decide +kernel
theorem dX4_nextBit_101 : decode cX4_nextBit 101 = .ok (.getfield 16, 3) := by decide +kernel
theorem dX4_nextBit_104 : decode cX4_nextBit 104 = .ok (.bipush 81, 2) := by decide +kernel
theorem dX4_nextBit_106 : decode cX4_nextBit 106 = .ok (.invokevirtual 39, 3) := by decide +kernel
theorem dX4_nextBit_109 : decode cX4_nextBit 109 = .ok (.aload_n 0, 1) := by decide +kernel
theorem dX4_nextBit_110 : decode cX4_nextBit 110 = .ok (.getfield 16, 3) := by decide +kernel
theorem dX4_nextBit_113 : decode cX4_nextBit 113 = .ok (.bipush 82, 2) := by decide +kernel
theorem dX4_nextBit_115 : decode cX4_nextBit 115 = .ok (.invokevirtual 39, 3) := by decide +kernel
theorem dX4_nextBit_118 : decode cX4_nextBit 118 = .ok (.iand, 1) := by decide +kernel
theorem dX4_nextBit_119 : decode cX4_nextBit 119 = .ok (.aload_n 0, 1) := by decide +kernel
theorem dX4_nextBit_120 : decode cX4_nextBit 120 = .ok (.getfield 19, 3) := by decide +kernel
theorem dX4_nextBit_123 : decode cX4_nextBit 123 = .ok (.bipush 86, 2) := by decide +kernel
theorem dX4_nextBit_125 : decode cX4_nextBit 125 = .ok (.invokevirtual 39, 3) := by decide +kernel
theorem dX4_nextBit_128 : decode cX4_nextBit 128 = .ok (.ixor, 1) := by decide +kernel
theorem dX4_nextBit_129 : decode cX4_nextBit 129 = .ok (.ixor, 1) := by decide +kernel
theorem dX4_nextBit_130 : decode cX4_nextBit 130 = .ok (.istore_n 2, 1) := by decide +kernel
theorem dX4_nextBit_131 : decode cX4_nextBit 131 = .ok (.iload_n 3, 1) := by decide +kernel
theorem dX4_nextBit_132 : decode cX4_nextBit 132 = .ok (.aload_n 0, 1) := by decide +kernel
theorem dX4_nextBit_133 : decode cX4_nextBit 133 = .ok (.getfield 19, 3) := by decide +kernel
theorem dX4_nextBit_136 : decode cX4_nextBit 136 = .ok (.bipush 108, 2) := by decide +kernel
theorem dX4_nextBit_138 : decode cX4_nextBit 138 = .ok (.invokevirtual 39, 3) := by decide +kernel
theorem dX4_nextBit_141 : decode cX4_nextBit 141 = .ok (.aload_n 0, 1) := by decide +kernel
theorem dX4_nextBit_142 : decode cX4_nextBit 142 = .ok (.getfield 19, 3) := by decide +kernel
theorem dX4_nextBit_145 : decode cX4_nextBit 145 = .ok (.bipush 109, 2) := by decide +kernel
theorem dX4_nextBit_147 : decode cX4_nextBit 147 = .ok (.invokevirtual 39, 3) := by decide +kernel
theorem dX4_nextBit_150 : decode cX4_nextBit 150 = .ok (.iand, 1) := by decide +kernel
theorem dX4_nextBit_151 : decode cX4_nextBit 151 = .ok (.aload_n 0, 1) := by decide +kernel
theorem dX4_nextBit_152 : decode cX4_nextBit 152 = .ok (.getfield 10, 3) := by decide +kernel
theorem dX4_nextBit_155 : decode cX4_nextBit 155 = .ok (.bipush 68, 2) := by decide +kernel
theorem dX4_nextBit_157 : decode cX4_nextBit 157 = .ok (.invokevirtual 39, 3) := by decide +kernel
theorem dX4_nextBit_160 : decode cX4_nextBit 160 = .ok (.ixor, 1) := by decide +kernel
theorem dX4_nextBit_161 : decode cX4_nextBit 161 = .ok (.ixor, 1) := by decide +kernel
theorem dX4_nextBit_162 : decode cX4_nextBit 162 = .ok (.istore_n 3, 1) := by decide +kernel
theorem dX4_nextBit_163 : decode cX4_nextBit 163 = .ok (.aload_n 0, 1) := by decide +kernel
theorem dX4_nextBit_164 : decode cX4_nextBit 164 = .ok (.getfield 10, 3) := by decide +kernel
theorem dX4_nextBit_167 : decode cX4_nextBit 167 = .ok (.iload_n 3, 1) := by decide +kernel
theorem dX4_nextBit_168 : decode cX4_nextBit 168 = .ok (.invokevirtual 42, 3) := by decide +kernel
theorem dX4_nextBit_171 : decode cX4_nextBit 171 = .ok (.aload_n 0, 1) := by decide +kernel
theorem dX4_nextBit_172 : decode cX4_nextBit 172 = .ok (.getfield 16, 3) := by decide +kernel
theorem dX4_nextBit_175 : decode cX4_nextBit 175 = .ok (.iload_n 1, 1) := by decide +kernel
theorem dX4_nextBit_176 : decode cX4_nextBit 176 = .ok (.invokevirtual 42, 3) := by decide +kernel
theorem dX4_nextBit_179 : decode cX4_nextBit 179 = .ok (.aload_n 0, 1) := by decide +kernel
theorem dX4_nextBit_180 : decode cX4_nextBit 180 = .ok (.getfield 19, 3) := by decide +kernel
theorem dX4_nextBit_183 : decode cX4_nextBit 183 = .ok (.iload_n 2, 1) := by decide +kernel
theorem dX4_nextBit_184 : decode cX4_nextBit 184 = .ok (.invokevirtual 42, 3) := by decide +kernel
theorem dX4_nextBit_187 : decode cX4_nextBit 187 = .ok (.iload 4, 2) := by decide +kernel
theorem dX4_nextBit_189 : decode cX4_nextBit 189 = .ok (.ireturn, 1) := by decide +kernel
theorem dX5_init_0 : decode cX5_init 0 = .ok (.aload_n 0, 1) := by decide +kernel
theorem dX5_init_1 : decode cX5_init 1 = .ok (.invokespecial 1, 3) := by decide +kernel
theorem dX5_init_4 : decode cX5_init 4 = .ok (.aload_n 0, 1) := by decide +kernel
theorem dX5_init_5 : decode cX5_init 5 = .ok (.new 7, 3) := by decide +kernel
theorem dX5_init_8 : decode cX5_init 8 = .ok (.dup, 1) := by decide +kernel
theorem dX5_init_9 : decode cX5_init 9 = .ok (.invokespecial 9, 3) := by decide +kernel
theorem dX5_init_12 : decode cX5_init 12 = .ok (.putfield 10, 3) := by decide +kernel
theorem dX5_init_15 : decode cX5_init 15 = .ok (.aload_n 0, 1) := by decide +kernel
theorem dX5_init_16 : decode cX5_init 16 = .ok (.new 7, 3) := by decide +kernel
theorem dX5_init_19 : decode cX5_init 19 = .ok (.dup, 1) := by decide +kernel
theorem dX5_init_20 : decode cX5_init 20 = .ok (.invokespecial 9, 3) := by decide +kernel
theorem dX5_init_23 : decode cX5_init 23 = .ok (.putfield 16, 3) := by decide +kernel
theorem dX5_init_26 : decode cX5_init 26 = .ok (.aload_n 0, 1) := by decide +kernel
theorem dX5_init_27 : decode cX5_init 27 = .ok (.new 7, 3) := by decide +kernel
theorem dX5_init_30 : decode cX5_init 30 = .ok (.dup, 1) := by decide +kernel
theorem dX5_init_31 : decode cX5_init 31 = .ok (.invokespecial 9, 3) := by decide +kernel
theorem dX5_init_34 : decode cX5_init 34 = .ok (.putfield 19, 3) := by decide +kernel
theorem dX5_init_37 : decode cX5_init 37 = .ok (.return_, 1) := by decide +kernel
theorem dX5_takes_0 : decode cX5_takes 0 = .ok (.iload_n 1, 1) := by decide +kernel
theorem dX5_takes_1 : decode cX5_takes 1 = .ok (.bipush 8, 2) := by decide +kernel
theorem dX5_takes_3 : decode cX5_takes 3 = .ok (.if_icmp .ne 12, 3) := by decide +kernel
theorem dX5_takes_6 : decode cX5_takes 6 = .ok (.iload_n 2, 1) := by decide +kernel
theorem dX5_takes_7 : decode cX5_takes 7 = .ok (.iconst 3, 1) := by decide +kernel
theorem dX5_takes_8 : decode cX5_takes 8 = .ok (.if_icmp .ne 7, 3) := by decide +kernel
theorem dX5_takes_11 : decode cX5_takes 11 = .ok (.iconst 1, 1) := by decide +kernel
theorem dX5_takes_12 : decode cX5_takes 12 = .ok (.goto 4, 3) := by decide +kernel
theorem dX5_takes_15 : decode cX5_takes 15 = .ok (.iconst 0, 1) := by decide +kernel
theorem dX5_takes_16 : decode cX5_takes 16 = .ok (.ireturn, 1) := by decide +kernel
theorem dX5_load_0 : decode cX5_load 0 = .ok (.aload_n 0, 1) := by decide +kernel
theorem dX5_load_1 : decode cX5_load 1 = .ok (.getfield 10, 3) := by decide +kernel
theorem dX5_load_4 : decode cX5_load 4 = .ok (.invokevirtual 22, 3) := by decide +kernel
theorem dX5_load_7 : decode cX5_load 7 = .ok (.aload_n 0, 1) := by decide +kernel
theorem dX5_load_8 : decode cX5_load 8 = .ok (.getfield 16, 3) := by decide +kernel
theorem dX5_load_11 : decode cX5_load 11 = .ok (.invokevirtual 22, 3) := by decide +kernel
theorem dX5_load_14 : decode cX5_load 14 = .ok (.aload_n 0, 1) := by decide +kernel
theorem dX5_load_15 : decode cX5_load 15 = .ok (.getfield 19, 3) := by decide +kernel
theorem dX5_load_18 : decode cX5_load 18 = .ok (.invokevirtual 22, 3) := by decide +kernel
theorem dX5_load_21 : decode cX5_load 21 = .ok (.iconst 0, 1) := by decide +kernel
theorem dX5_load_22 : decode cX5_load 22 = .ok (.istore_n 3, 1) := by decide +kernel
theorem dX5_load_23 : decode cX5_load 23 = .ok (.iload_n 3, 1) := by decide +kernel
theorem dX5_load_24 : decode cX5_load 24 = .ok (.bipush 64, 2) := by decide +kernel
theorem dX5_load_26 : decode cX5_load 26 = .ok (.if_icmp .ge 18, 3) := by decide +kernel
theorem dX5_load_29 : decode cX5_load 29 = .ok (.aload_n 0, 1) := by decide +kernel
theorem dX5_load_30 : decode cX5_load 30 = .ok (.aload_n 1, 1) := by decide +kernel
theorem dX5_load_31 : decode cX5_load 31 = .ok (.iload_n 3, 1) := by decide +kernel
theorem dX5_load_32 : decode cX5_load 32 = .ok (.invokevirtual 25, 3) := by decide +kernel
theorem dX5_load_35 : decode cX5_load 35 = .ok (.invokevirtual 31, 3) := by decide +kernel
theorem dX5_load_38 : decode cX5_load 38 = .ok (.iinc 3 1, 3) := by decide +kernel
theorem dX5_load_41 : decode cX5_load 41 = .ok (.goto (-18), 3) := by decide +kernel
theorem dX5_load_44 : decode cX5_load 44 = .ok (.iconst 2, 1) := by decide +kernel
theorem dX5_load_45 : decode cX5_load 45 = .ok (.istore_n 3, 1) := by decide +kernel
theorem dX5_load_46 : decode cX5_load 46 = .ok (.iload_n 3, 1) := by decide +kernel
theorem dX5_load_47 : decode cX5_load 47 = .ok (.bipush 24, 2) := by decide +kernel
theorem dX5_load_49 : decode cX5_load 49 = .ok (.if_icmp .ge 18, 3) := by decide +kernel
theorem dX5_load_52 : decode cX5_load 52 = .ok (.aload_n 0, 1) := by decide +kernel
theorem dX5_load_53 : decode cX5_load 53 = .ok (.aload_n 2, 1) := by decide +kernel
theorem dX5_load_54 : decode cX5_load 54 = .ok (.iload_n 3, 1) := by decide +kernel
theorem dX5_load_55 : decode cX5_load 55 = .ok (.invokevirtual 25, 3) := by decide +kernel
theorem dX5_load_58 : decode cX5_load 58 = .ok (.invokevirtual 31, 3) := by decide +kernel
theorem dX5_load_61 : decode cX5_load 61 = .ok (.iinc 3 1, 3) := by decide +kernel
theorem dX5_load_64 : decode cX5_load 64 = .ok (.goto (-18), 3) := by decide +kernel
theorem dX5_load_67 : decode cX5_load 67 = .ok (.iconst 0, 1) := by decide +kernel
theorem dX5_load_68 : decode cX5_load 68 = .ok (.istore_n 3, 1) := by decide +kernel
theorem dX5_load_69 : decode cX5_load 69 = .ok (.iload_n 3, 1) := by decide +kernel
theorem dX5_load_70 : decode cX5_load 70 = .ok (.bipush 100, 2) := by decide +kernel
theorem dX5_load_72 : decode cX5_load 72 = .ok (.if_icmp .ge 14, 3) := by decide +kernel
theorem dX5_load_75 : decode cX5_load 75 = .ok (.aload_n 0, 1) := by decide +kernel
theorem dX5_load_76 : decode cX5_load 76 = .ok (.invokevirtual 35, 3) := by decide +kernel
theorem dX5_load_79 : decode cX5_load 79 = .ok (.pop, 1) := by decide +kernel
theorem dX5_load_80 : decode cX5_load 80 = .ok (.iinc 3 1, 3) := by decide +kernel
theorem dX5_load_83 : decode cX5_load 83 = .ok (.goto (-14), 3) := by decide +kernel
theorem dX5_load_86 : decode cX5_load 86 = .ok (.return_, 1) := by decide +kernel
theorem dX5_nextBit_0 : decode cX5_nextBit 0 = .ok (.aload_n 0, 1) := by decide +kernel
theorem dX5_nextBit_1 : decode cX5_nextBit 1 = .ok (.getfield 10, 3) := by decide +kernel
theorem dX5_nextBit_4 : decode cX5_nextBit 4 = .ok (.bipush 8, 2) := by decide +kernel
theorem dX5_nextBit_6 : decode cX5_nextBit 6 = .ok (.invokevirtual 39, 3) := by decide +kernel
theorem dX5_nextBit_9 : decode cX5_nextBit 9 = .ok (.istore_n 1, 1) := by decide +kernel
theorem dX5_nextBit_10 : decode cX5_nextBit 10 = .ok (.aload_n 0, 1) := by decide +kernel
theorem dX5_nextBit_11 : decode cX5_nextBit 11 = .ok (.getfield 16, 3) := by decide +kernel
theorem dX5_nextBit_14 : decode cX5_nextBit 14 = .ok (.bipush 10, 2) := by decide +kernel
theorem dX5_nextBit_16 : decode cX5_nextBit 16 = .ok (.invokevirtual 39, 3) := by decide +kernel
theorem dX5_nextBit_19 : decode cX5_nextBit 19 = .ok (.istore_n 2, 1) := by decide +kernel
theorem dX5_nextBit_20 : decode cX5_nextBit 20 = .ok (.aload_n 0, 1) := by decide +kernel
theorem dX5_nextBit_21 : decode cX5_nextBit 21 = .ok (.getfield 19, 3) := by decide +kernel
theorem dX5_nextBit_24 : decode cX5_nextBit 24 = .ok (.bipush 10, 2) := by decide +kernel
theorem dX5_nextBit_26 : decode cX5_nextBit 26 = .ok (.invokevirtual 39, 3) := by decide +kernel
theorem dX5_nextBit_29 : decode cX5_nextBit 29 = .ok (.istore_n 3, 1) := by decide +kernel
theorem dX5_nextBit_30 : decode cX5_nextBit 30 = .ok (.iload_n 1, 1) := by decide +kernel
theorem dX5_nextBit_31 : decode cX5_nextBit 31 = .ok (.iload_n 2, 1) := by decide +kernel
theorem dX5_nextBit_32 : decode cX5_nextBit 32 = .ok (.iadd, 1) := by decide +kernel
theorem dX5_nextBit_33 : decode cX5_nextBit 33 = .ok (.iload_n 3, 1) := by decide +kernel
theorem dX5_nextBit_34 : decode cX5_nextBit 34 = .ok (.iadd, 1) := by decide +kernel
theorem dX5_nextBit_35 : decode cX5_nextBit 35 = .ok (.iconst 2, 1) := by decide +kernel
theorem dX5_nextBit_36 : decode cX5_nextBit 36 = .ok (.if_icmp .lt 7, 3) := by decide +kernel
theorem dX5_nextBit_39 : decode cX5_nextBit 39 = .ok (.iconst 1, 1) := by decide +kernel
theorem dX5_nextBit_40 : decode cX5_nextBit 40 = .ok (.goto 4, 3) := by decide +kernel
theorem dX5_nextBit_43 : decode cX5_nextBit 43 = .ok (.iconst 0, 1) := by decide +kernel
theorem dX5_nextBit_44 : decode cX5_nextBit 44 = .ok (.istore 4, 2) := by decide +kernel
theorem dX5_nextBit_46 : decode cX5_nextBit 46 = .ok (.iload_n 1, 1) := by decide +kernel
theorem dX5_nextBit_47 : decode cX5_nextBit 47 = .ok (.iload 4, 2) := by decide +kernel
theorem dX5_nextBit_49 : decode cX5_nextBit 49 = .ok (.if_icmp .ne 7, 3) := by decide +kernel
theorem dX5_nextBit_52 : decode cX5_nextBit 52 = .ok (.aload_n 0, 1) := by decide +kernel
theorem dX5_nextBit_53 : decode cX5_nextBit 53 = .ok (.invokevirtual 42, 3) := by decide +kernel
theorem dX5_nextBit_56 : decode cX5_nextBit 56 = .ok (.iload_n 2, 1) := by decide +kernel
theorem dX5_nextBit_57 : decode cX5_nextBit 57 = .ok (.iload 4, 2) := by decide +kernel
theorem dX5_nextBit_59 : decode cX5_nextBit 59 = .ok (.if_icmp .ne 7, 3) := by decide +kernel
theorem dX5_nextBit_62 : decode cX5_nextBit 62 = .ok (.aload_n 0, 1) := by decide +kernel
theorem dX5_nextBit_63 : decode cX5_nextBit 63 = .ok (.invokevirtual 45, 3) := by decide +kernel
theorem dX5_nextBit_66 : decode cX5_nextBit 66 = .ok (.iload_n 3, 1) := by decide +kernel
theorem dX5_nextBit_67 : decode cX5_nextBit 67 = .ok (.iload 4, 2) := by decide +kernel
theorem dX5_nextBit_69 : decode cX5_nextBit 69 = .ok (.if_icmp .ne 7, 3) := by decide +kernel
theorem dX5_nextBit_72 : decode cX5_nextBit 72 = .ok (.aload_n 0, 1) := by decide +kernel
theorem dX5_nextBit_73 : decode cX5_nextBit 73 = .ok (.invokevirtual 48, 3) := by decide +kernel
theorem dX5_nextBit_76 : decode cX5_nextBit 76 = .ok (.aload_n 0, 1) := by decide +kernel
theorem dX5_nextBit_77 : decode cX5_nextBit 77 = .ok (.getfield 10, 3) := by decide +kernel
theorem dX5_nextBit_80 : decode cX5_nextBit 80 = .ok (.bipush 18, 2) := by decide +kernel
theorem dX5_nextBit_82 : decode cX5_nextBit 82 = .ok (.invokevirtual 39, 3) := by decide +kernel
theorem dX5_nextBit_85 : decode cX5_nextBit 85 = .ok (.aload_n 0, 1) := by decide +kernel
theorem dX5_nextBit_86 : decode cX5_nextBit 86 = .ok (.getfield 16, 3) := by decide +kernel
theorem dX5_nextBit_89 : decode cX5_nextBit 89 = .ok (.bipush 21, 2) := by decide +kernel
theorem dX5_nextBit_91 : decode cX5_nextBit 91 = .ok (.invokevirtual 39, 3) := by decide +kernel
theorem dX5_nextBit_94 : decode cX5_nextBit 94 = .ok (.ixor, 1) := by decide +kernel
theorem dX5_nextBit_95 : decode cX5_nextBit 95 = .ok (.aload_n 0, 1) := by decide +kernel
theorem dX5_nextBit_96 : decode cX5_nextBit 96 = .ok (.getfield 19, 3) := by decide +kernel
theorem dX5_nextBit_99 : decode cX5_nextBit 99 = .ok (.bipush 22, 2) := by decide +kernel
theorem dX5_nextBit_101 : decode cX5_nextBit 101 = .ok (.invokevirtual 39, 3) := by decide +kernel
theorem dX5_nextBit_104 : decode cX5_nextBit 104 = .ok (.ixor, 1) := by decide +kernel
theorem dX5_nextBit_105 : decode cX5_nextBit 105 = .ok (.ireturn, 1) := by decide +kernel
theorem dX5_feed_0 : decode cX5_feed 0 = .ok (.aload_n 0, 1) := by decide +kernel
theorem dX5_feed_1 : decode cX5_feed 1 = .ok (.invokevirtual 42, 3) := by decide +kernel
theorem dX5_feed_4 : decode cX5_feed 4 = .ok (.aload_n 0, 1) := by decide +kernel
theorem dX5_feed_5 : decode cX5_feed 5 = .ok (.invokevirtual 45, 3) := by decide +kernel
theorem dX5_feed_8 : decode cX5_feed 8 = .ok (.aload_n 0, 1) := by decide +kernel
theorem dX5_feed_9 : decode cX5_feed 9 = .ok (.invokevirtual 48, 3) := by decide +kernel
theorem dX5_feed_12 : decode cX5_feed 12 = .ok (.aload_n 0, 1) := by decide +kernel
theorem dX5_feed_13 : decode cX5_feed 13 = .ok (.getfield 10, 3) := by decide +kernel
theorem dX5_feed_16 : decode cX5_feed 16 = .ok (.iconst 0, 1) := by decide +kernel
theorem dX5_feed_17 : decode cX5_feed 17 = .ok (.iload_n 1, 1) := by decide +kernel
theorem dX5_feed_18 : decode cX5_feed 18 = .ok (.invokevirtual 51, 3) := by decide +kernel
theorem dX5_feed_21 : decode cX5_feed 21 = .ok (.aload_n 0, 1) := by decide +kernel
theorem dX5_feed_22 : decode cX5_feed 22 = .ok (.getfield 16, 3) := by decide +kernel
theorem dX5_feed_25 : decode cX5_feed 25 = .ok (.iconst 0, 1) := by decide +kernel
theorem dX5_feed_26 : decode cX5_feed 26 = .ok (.iload_n 1, 1) := by decide +kernel
theorem dX5_feed_27 : decode cX5_feed 27 = .ok (.invokevirtual 51, 3) := by decide +kernel
theorem dX5_feed_30 : decode cX5_feed 30 = .ok (.aload_n 0, 1) := by decide +kernel
theorem dX5_feed_31 : decode cX5_feed 31 = .ok (.getfield 19, 3) := by decide +kernel
theorem dX5_feed_34 : decode cX5_feed 34 = .ok (.iconst 0, 1) := by decide +kernel
theorem dX5_feed_35 : decode cX5_feed 35 = .ok (.iload_n 1, 1) := by decide +kernel
theorem dX5_feed_36 : decode cX5_feed 36 = .ok (.invokevirtual 51, 3) := by decide +kernel
theorem dX5_feed_39 : decode cX5_feed 39 = .ok (.return_, 1) := by decide +kernel
theorem dX5_goX_0 : decode cX5_goX 0 = .ok (.aload_n 0, 1) := by decide +kernel
theorem dX5_goX_1 : decode cX5_goX 1 = .ok (.getfield 10, 3) := by decide +kernel
theorem dX5_goX_4 : decode cX5_goX 4 = .ok (.aload_n 0, 1) := by decide +kernel
theorem dX5_goX_5 : decode cX5_goX 5 = .ok (.getfield 10, 3) := by decide +kernel
theorem dX5_goX_8 : decode cX5_goX 8 = .ok (.bipush 13, 2) := by decide +kernel
theorem dX5_goX_10 : decode cX5_goX 10 = .ok (.invokevirtual 39, 3) := by decide +kernel
theorem dX5_goX_13 : decode cX5_goX 13 = .ok (.aload_n 0, 1) := by decide +kernel
theorem dX5_goX_14 : decode cX5_goX 14 = .ok (.getfield 10, 3) := by decide +kernel
theorem dX5_goX_17 : decode cX5_goX 17 = .ok (.bipush 16, 2) := by decide +kernel
theorem dX5_goX_19 : decode cX5_goX 19 = .ok (.invokevirtual 39, 3) := by decide +kernel
theorem dX5_goX_22 : decode cX5_goX 22 = .ok (.ixor, 1) := by decide +kernel
theorem dX5_goX_23 : decode cX5_goX 23 = .ok (.aload_n 0, 1) := by decide +kernel
theorem dX5_goX_24 : decode cX5_goX 24 = .ok (.getfield 10, 3) := by decide +kernel
theorem dX5_goX_27 : decode cX5_goX 27 = .ok (.bipush 17, 2) := by decide +kernel
theorem dX5_goX_29 : decode cX5_goX 29 = .ok (.invokevirtual 39, 3) := by decide +kernel
theorem dX5_goX_32 : decode cX5_goX 32 = .ok (.ixor, 1) := by decide +kernel
theorem dX5_goX_33 : decode cX5_goX 33 = .ok (.aload_n 0, 1) := by decide +kernel
theorem dX5_goX_34 : decode cX5_goX 34 = .ok (.getfield 10, 3) := by decide +kernel
theorem dX5_goX_37 : decode cX5_goX 37 = .ok (.bipush 18, 2) := by decide +kernel
theorem dX5_goX_39 : decode cX5_goX 39 = .ok (.invokevirtual 39, 3) := by decide +kernel
theorem dX5_goX_42 : decode cX5_goX 42 = .ok (.ixor, 1) := by decide +kernel
theorem dX5_goX_43 : decode cX5_goX 43 = .ok (.invokevirtual 55, 3) := by decide +kernel
theorem dX5_goX_46 : decode cX5_goX 46 = .ok (.return_, 1) := by decide +kernel
theorem dX5_goY_0 : decode cX5_goY 0 = .ok (.aload_n 0, 1) := by decide +kernel
theorem dX5_goY_1 : decode cX5_goY 1 = .ok (.getfield 16, 3) := by decide +kernel
theorem dX5_goY_4 : decode cX5_goY 4 = .ok (.aload_n 0, 1) := by decide +kernel
theorem dX5_goY_5 : decode cX5_goY 5 = .ok (.getfield 16, 3) := by decide +kernel
theorem dX5_goY_8 : decode cX5_goY 8 = .ok (.bipush 20, 2) := by decide +kernel
theorem dX5_goY_10 : decode cX5_goY 10 = .ok (.invokevirtual 39, 3) := by decide +kernel
theorem dX5_goY_13 : decode cX5_goY 13 = .ok (.aload_n 0, 1) := by decide +kernel
theorem dX5_goY_14 : decode cX5_goY 14 = .ok (.getfield 16, 3) := by decide +kernel
theorem dX5_goY_17 : decode cX5_goY 17 = .ok (.bipush 21, 2) := by decide +kernel
theorem dX5_goY_19 : decode cX5_goY 19 = .ok (.invokevirtual 39, 3) := by decide +kernel
theorem dX5_goY_22 : decode cX5_goY 22 = .ok (.ixor, 1) := by decide +kernel
theorem dX5_goY_23 : decode cX5_goY 23 = .ok (.invokevirtual 55, 3) := by decide +kernel
theorem dX5_goY_26 : decode cX5_goY 26 = .ok (.return_, 1) := by decide +kernel
theorem dX5_goZ_0 : decode cX5_goZ 0 = .ok (.aload_n 0, 1) := by decide +kernel
theorem dX5_goZ_1 : decode cX5_goZ 1 = .ok (.getfield 19, 3) := by decide +kernel
theorem dX5_goZ_4 : decode cX5_goZ 4 = .ok (.aload_n 0, 1) := by decide +kernel
theorem dX5_goZ_5 : decode cX5_goZ 5 = .ok (.getfield 19, 3) := by decide +kernel
theorem dX5_goZ_8 : decode cX5_goZ 8 = .ok (.bipush 7, 2) := by decide +kernel
theorem dX5_goZ_10 : decode cX5_goZ 10 = .ok (.invokevirtual 39, 3) := by decide +kernel
theorem dX5_goZ_13 : decode cX5_goZ 13 = .ok (.aload_n 0, 1) := by decide +kernel
theorem dX5_goZ_14 : decode cX5_goZ 14 = .ok (.getfield 19, 3) := by decide +kernel
theorem dX5_goZ_17 : decode cX5_goZ 17 = .ok (.bipush 20, 2) := by decide +kernel
theorem dX5_goZ_19 : decode cX5_goZ 19 = .ok (.invokevirtual 39, 3) := by decide +kernel
theorem dX5_goZ_22 : decode cX5_goZ 22 = .ok (.ixor, 1) := by decide +kernel
theorem dX5_goZ_23 : decode cX5_goZ 23 = .ok (.aload_n 0, 1) := by decide +kernel
theorem dX5_goZ_24 : decode cX5_goZ 24 = .ok (.getfield 19, 3) := by decide +kernel
theorem dX5_goZ_27 : decode cX5_goZ 27 = .ok (.bipush 21, 2) := by decide +kernel
theorem dX5_goZ_29 : decode cX5_goZ 29 = .ok (.invokevirtual 39, 3) := by decide +kernel
theorem dX5_goZ_32 : decode cX5_goZ 32 = .ok (.ixor, 1) := by decide +kernel
theorem dX5_goZ_33 : decode cX5_goZ 33 = .ok (.aload_n 0, 1) := by decide +kernel
theorem dX5_goZ_34 : decode cX5_goZ 34 = .ok (.getfield 19, 3) := by decide +kernel
theorem dX5_goZ_37 : decode cX5_goZ 37 = .ok (.bipush 22, 2) := by decide +kernel
theorem dX5_goZ_39 : decode cX5_goZ 39 = .ok (.invokevirtual 39, 3) := by decide +kernel
theorem dX5_goZ_42 : decode cX5_goZ 42 = .ok (.ixor, 1) := by decide +kernel
theorem dX5_goZ_43 : decode cX5_goZ 43 = .ok (.invokevirtual 55, 3) := by decide +kernel
theorem dX5_goZ_46 : decode cX5_goZ 46 = .ok (.return_, 1) := by decide +kernel
theorem dX6_init_0 : decode cX6_init 0 = .ok (.aload_n 0, 1) := by decide +kernel
theorem dX6_init_1 : decode cX6_init 1 = .ok (.invokespecial 1, 3) := by decide +kernel
theorem dX6_init_4 : decode cX6_init 4 = .ok (.aload_n 0, 1) := by decide +kernel
theorem dX6_init_5 : decode cX6_init 5 = .ok (.new 7, 3) := by decide +kernel
theorem dX6_init_8 : decode cX6_init 8 = .ok (.dup, 1) := by decide +kernel
theorem dX6_init_9 : decode cX6_init 9 = .ok (.invokespecial 9, 3) := by decide +kernel
theorem dX6_init_12 : decode cX6_init 12 = .ok (.putfield 10, 3) := by decide +kernel
theorem dX6_init_15 : decode cX6_init 15 = .ok (.aload_n 0, 1) := by decide +kernel
theorem dX6_init_16 : decode cX6_init 16 = .ok (.new 7, 3) := by decide +kernel
theorem dX6_init_19 : decode cX6_init 19 = .ok (.dup, 1) := by decide +kernel
theorem dX6_init_20 : decode cX6_init 20 = .ok (.invokespecial 9, 3) := by decide +kernel
theorem dX6_init_23 : decode cX6_init 23 = .ok (.putfield 16, 3) := by decide +kernel
theorem dX6_init_26 : decode cX6_init 26 = .ok (.return_, 1) := by decide +kernel
theorem dX6_takes_0 : decode cX6_takes 0 = .ok (.iload_n 1, 1) := by decide +kernel
theorem dX6_takes_1 : decode cX6_takes 1 = .ok (.bipush 16, 2) := by decide +kernel
theorem dX6_takes_3 : decode cX6_takes 3 = .ok (.if_icmp .ne 13, 3) := by decide +kernel
theorem dX6_takes_6 : decode cX6_takes 6 = .ok (.iload_n 2, 1) := by decide +kernel
theorem dX6_takes_7 : decode cX6_takes 7 = .ok (.bipush 12, 2) := by decide +kernel
theorem dX6_takes_9 : decode cX6_takes 9 = .ok (.if_icmp .ne 7, 3) := by decide +kernel
theorem dX6_takes_12 : decode cX6_takes 12 = .ok (.iconst 1, 1) := by decide +kernel
theorem dX6_takes_13 : decode cX6_takes 13 = .ok (.goto 4, 3) := by decide +kernel
theorem dX6_takes_16 : decode cX6_takes 16 = .ok (.iconst 0, 1) := by decide +kernel
theorem dX6_takes_17 : decode cX6_takes 17 = .ok (.ireturn, 1) := by decide +kernel
theorem dX6_load_0 : decode cX6_load 0 = .ok (.aload_n 0, 1) := by decide +kernel
theorem dX6_load_1 : decode cX6_load 1 = .ok (.getfield 10, 3) := by decide +kernel
theorem dX6_load_4 : decode cX6_load 4 = .ok (.invokevirtual 19, 3) := by decide +kernel
theorem dX6_load_7 : decode cX6_load 7 = .ok (.aload_n 0, 1) := by decide +kernel
theorem dX6_load_8 : decode cX6_load 8 = .ok (.getfield 16, 3) := by decide +kernel
theorem dX6_load_11 : decode cX6_load 11 = .ok (.invokevirtual 19, 3) := by decide +kernel
theorem dX6_load_14 : decode cX6_load 14 = .ok (.iconst 0, 1) := by decide +kernel
theorem dX6_load_15 : decode cX6_load 15 = .ok (.istore_n 3, 1) := by decide +kernel
theorem dX6_load_16 : decode cX6_load 16 = .ok (.iload_n 3, 1) := by decide +kernel
theorem dX6_load_17 : decode cX6_load 17 = .ok (.sipush 128, 3) := by decide +kernel
theorem dX6_load_20 : decode cX6_load 20 = .ok (.if_icmp .ge 22, 3) := by decide +kernel
theorem dX6_load_23 : decode cX6_load 23 = .ok (.aload_n 0, 1) := by decide +kernel
theorem dX6_load_24 : decode cX6_load 24 = .ok (.getfield 10, 3) := by decide +kernel
theorem dX6_load_27 : decode cX6_load 27 = .ok (.iload_n 3, 1) := by decide +kernel
theorem dX6_load_28 : decode cX6_load 28 = .ok (.aload_n 1, 1) := by decide +kernel
theorem dX6_load_29 : decode cX6_load 29 = .ok (.iload_n 3, 1) := by decide +kernel
theorem dX6_load_30 : decode cX6_load 30 = .ok (.invokevirtual 22, 3) := by decide +kernel
theorem dX6_load_33 : decode cX6_load 33 = .ok (.invokevirtual 28, 3) := by decide +kernel
theorem dX6_load_36 : decode cX6_load 36 = .ok (.iinc 3 1, 3) := by decide +kernel
theorem dX6_load_39 : decode cX6_load 39 = .ok (.goto (-23), 3) := by decide +kernel
theorem dX6_load_42 : decode cX6_load 42 = .ok (.iconst 0, 1) := by decide +kernel
theorem dX6_load_43 : decode cX6_load 43 = .ok (.istore_n 3, 1) := by decide +kernel
theorem dX6_load_44 : decode cX6_load 44 = .ok (.iload_n 3, 1) := by decide +kernel
theorem dX6_load_45 : decode cX6_load 45 = .ok (.bipush 96, 2) := by decide +kernel
theorem dX6_load_47 : decode cX6_load 47 = .ok (.if_icmp .ge 22, 3) := by decide +kernel
theorem dX6_load_50 : decode cX6_load 50 = .ok (.aload_n 0, 1) := by decide +kernel
theorem dX6_load_51 : decode cX6_load 51 = .ok (.getfield 16, 3) := by decide +kernel
theorem dX6_load_54 : decode cX6_load 54 = .ok (.iload_n 3, 1) := by decide +kernel
theorem dX6_load_55 : decode cX6_load 55 = .ok (.aload_n 2, 1) := by decide +kernel
theorem dX6_load_56 : decode cX6_load 56 = .ok (.iload_n 3, 1) := by decide +kernel
theorem dX6_load_57 : decode cX6_load 57 = .ok (.invokevirtual 22, 3) := by decide +kernel
theorem dX6_load_60 : decode cX6_load 60 = .ok (.invokevirtual 28, 3) := by decide +kernel
theorem dX6_load_63 : decode cX6_load 63 = .ok (.iinc 3 1, 3) := by decide +kernel
theorem dX6_load_66 : decode cX6_load 66 = .ok (.goto (-22), 3) := by decide +kernel
theorem dX6_load_69 : decode cX6_load 69 = .ok (.bipush 96, 2) := by decide +kernel
theorem dX6_load_71 : decode cX6_load 71 = .ok (.istore_n 3, 1) := by decide +kernel
theorem dX6_load_72 : decode cX6_load 72 = .ok (.iload_n 3, 1) := by decide +kernel
theorem dX6_load_73 : decode cX6_load 73 = .ok (.bipush 127, 2) := by decide +kernel
theorem dX6_load_75 : decode cX6_load 75 = .ok (.if_icmp .ge 18, 3) := by decide +kernel
theorem dX6_load_78 : decode cX6_load 78 = .ok (.aload_n 0, 1) := by decide +kernel
theorem dX6_load_79 : decode cX6_load 79 = .ok (.getfield 16, 3) := by decide +kernel
theorem dX6_load_82 : decode cX6_load 82 = .ok (.iload_n 3, 1) := by decide +kernel
theorem dX6_load_83 : decode cX6_load 83 = .ok (.iconst 1, 1) := by decide +kernel
theorem dX6_load_84 : decode cX6_load 84 = .ok (.invokevirtual 28, 3) := by decide +kernel
theorem dX6_load_87 : decode cX6_load 87 = .ok (.iinc 3 1, 3) := by decide +kernel
theorem dX6_load_90 : decode cX6_load 90 = .ok (.goto (-18), 3) := by decide +kernel
theorem dX6_load_93 : decode cX6_load 93 = .ok (.iconst 0, 1) := by decide +kernel
theorem dX6_load_94 : decode cX6_load 94 = .ok (.istore_n 3, 1) := by decide +kernel
theorem dX6_load_95 : decode cX6_load 95 = .ok (.iload_n 3, 1) := by decide +kernel
theorem dX6_load_96 : decode cX6_load 96 = .ok (.sipush 256, 3) := by decide +kernel
theorem dX6_load_99 : decode cX6_load 99 = .ok (.if_icmp .ge 17, 3) := by decide +kernel
theorem dX6_load_102 : decode cX6_load 102 = .ok (.aload_n 0, 1) := by decide +kernel
theorem dX6_load_103 : decode cX6_load 103 = .ok (.aload_n 0, 1) := by decide +kernel
theorem dX6_load_104 : decode cX6_load 104 = .ok (.invokevirtual 32, 3) := by decide +kernel
theorem dX6_load_107 : decode cX6_load 107 = .ok (.invokevirtual 36, 3) := by decide +kernel
theorem dX6_load_110 : decode cX6_load 110 = .ok (.iinc 3 1, 3) := by decide +kernel
theorem dX6_load_113 : decode cX6_load 113 = .ok (.goto (-18), 3) := by decide +kernel
theorem dX6_load_116 : decode cX6_load 116 = .ok (.return_, 1) := by decide +kernel
theorem dX6_nextBit_0 : decode cX6_nextBit 0 = .ok (.aload_n 0, 1) := by decide +kernel
theorem dX6_nextBit_1 : decode cX6_nextBit 1 = .ok (.invokevirtual 32, 3) := by decide +kernel
theorem dX6_nextBit_4 : decode cX6_nextBit 4 = .ok (.istore_n 1, 1) := by decide +kernel
theorem dX6_nextBit_5 : decode cX6_nextBit 5 = .ok (.aload_n 0, 1) := by decide +kernel
theorem dX6_nextBit_6 : decode cX6_nextBit 6 = .ok (.iconst 0, 1) := by decide +kernel
theorem dX6_nextBit_7 : decode cX6_nextBit 7 = .ok (.invokevirtual 36, 3) := by decide +kernel
theorem dX6_nextBit_10 : decode cX6_nextBit 10 = .ok (.iload_n 1, 1) := by decide +kernel
theorem dX6_nextBit_11 : decode cX6_nextBit 11 = .ok (.ireturn, 1) := by decide +kernel
theorem dX6_output_0 : decode cX6_output 0 = .ok (.aload_n 0, 1) := by decide +kernel
theorem dX6_output_1 : decode cX6_output 1 = .ok (.getfield 10, 3) := by decide +kernel
theorem dX6_output_4 : decode cX6_output 4 = .ok (.bipush 12, 2) := by decide +kernel
theorem dX6_output_6 : decode cX6_output 6 = .ok (.invokevirtual 40, 3) := by decide +kernel
theorem dX6_output_9 : decode cX6_output 9 = .ok (.aload_n 0, 1) := by decide +kernel
theorem dX6_output_10 : decode cX6_output 10 = .ok (.getfield 16, 3) := by decide +kernel
theorem dX6_output_13 : decode cX6_output 13 = .ok (.bipush 8, 2) := by decide +kernel
theorem dX6_output_15 : decode cX6_output 15 = .ok (.invokevirtual 40, 3) := by decide +kernel
theorem dX6_output_18 : decode cX6_output 18 = .ok (.iand, 1) := by decide +kernel
theorem dX6_output_19 : decode cX6_output 19 = .ok (.aload_n 0, 1) := by decide +kernel
theorem dX6_output_20 : decode cX6_output 20 = .ok (.getfield 16, 3) := by decide +kernel
theorem dX6_output_23 : decode cX6_output 23 = .ok (.bipush 13, 2) := by decide +kernel
theorem dX6_output_25 : decode cX6_output 25 = .ok (.invokevirtual 40, 3) := by decide +kernel
theorem dX6_output_28 : decode cX6_output 28 = .ok (.aload_n 0, 1) := by decide +kernel
theorem dX6_output_29 : decode cX6_output 29 = .ok (.getfield 16, 3) := by decide +kernel
theorem dX6_output_32 : decode cX6_output 32 = .ok (.bipush 20, 2) := by decide +kernel
theorem dX6_output_34 : decode cX6_output 34 = .ok (.invokevirtual 40, 3) := by decide +kernel
theorem dX6_output_37 : decode cX6_output 37 = .ok (.iand, 1) := by decide +kernel
theorem dX6_output_38 : decode cX6_output 38 = .ok (.ixor, 1) := by decide +kernel
theorem dX6_output_39 : decode cX6_output 39 = .ok (.aload_n 0, 1) := by decide +kernel
theorem dX6_output_40 : decode cX6_output 40 = .ok (.getfield 10, 3) := by decide +kernel
theorem dX6_output_43 : decode cX6_output 43 = .ok (.bipush 95, 2) := by decide +kernel
theorem dX6_output_45 : decode cX6_output 45 = .ok (.invokevirtual 40, 3) := by decide +kernel
theorem dX6_output_48 : decode cX6_output 48 = .ok (.aload_n 0, 1) := by decide +kernel
theorem dX6_output_49 : decode cX6_output 49 = .ok (.getfield 16, 3) := by decide +kernel
theorem dX6_output_52 : decode cX6_output 52 = .ok (.bipush 42, 2) := by decide +kernel
theorem dX6_output_54 : decode cX6_output 54 = .ok (.invokevirtual 40, 3) := by decide +kernel
theorem dX6_output_57 : decode cX6_output 57 = .ok (.iand, 1) := by decide +kernel
theorem dX6_output_58 : decode cX6_output 58 = .ok (.ixor, 1) := by decide +kernel
theorem dX6_output_59 : decode cX6_output 59 = .ok (.aload_n 0, 1) := by decide +kernel
theorem dX6_output_60 : decode cX6_output 60 = .ok (.getfield 16, 3) := by decide +kernel
theorem dX6_output_63 : decode cX6_output 63 = .ok (.bipush 60, 2) := by decide +kernel
theorem dX6_output_65 : decode cX6_output 65 = .ok (.invokevirtual 40, 3) := by decide +kernel
theorem dX6_output_68 : decode cX6_output 68 = .ok (.aload_n 0, 1) := by decide +kernel
theorem dX6_output_69 : decode cX6_output 69 = .ok (.getfield 16, 3) := by decide +kernel
theorem dX6_output_72 : decode cX6_output 72 = .ok (.bipush 79, 2) := by decide +kernel
theorem dX6_output_74 : decode cX6_output 74 = .ok (.invokevirtual 40, 3) := by decide +kernel
theorem dX6_output_77 : decode cX6_output 77 = .ok (.iand, 1) := by decide +kernel
theorem dX6_output_78 : decode cX6_output 78 = .ok (.ixor, 1) := by decide +kernel
theorem dX6_output_79 : decode cX6_output 79 = .ok (.aload_n 0, 1) := by decide +kernel
theorem dX6_output_80 : decode cX6_output 80 = .ok (.getfield 10, 3) := by decide +kernel
theorem dX6_output_83 : decode cX6_output 83 = .ok (.bipush 12, 2) := by decide +kernel
theorem dX6_output_85 : decode cX6_output 85 = .ok (.invokevirtual 40, 3) := by decide +kernel
theorem dX6_output_88 : decode cX6_output 88 = .ok (.aload_n 0, 1) := by decide +kernel
theorem dX6_output_89 : decode cX6_output 89 = .ok (.getfield 10, 3) := by decide +kernel
theorem dX6_output_92 : decode cX6_output 92 = .ok (.bipush 95, 2) := by decide +kernel
theorem dX6_output_94 : decode cX6_output 94 = .ok (.invokevirtual 40, 3) := by decide +kernel
theorem dX6_output_97 : decode cX6_output 97 = .ok (.iand, 1) := by decide +kernel
theorem dX6_output_98 : decode cX6_output 98 = .ok (.aload_n 0, 1) := by decide +kernel
theorem dX6_output_99 : decode cX6_output 99 = .ok (.getfield 16, 3) := by decide +kernel
theorem dX6_output_102 : decode cX6_output 102 = .ok (.bipush 94, 2) := by decide +kernel
theorem dX6_output_104 : decode cX6_output 104 = .ok (.invokevirtual 40, 3) := by decide +kernel
theorem dX6_output_107 : decode cX6_output 107 = .ok (.iand, 1) := by decide +kernel
theorem dX6_output_108 : decode cX6_output 108 = .ok (.ixor, 1) := by decide +kernel
theorem dX6_output_109 : decode cX6_output 109 = .ok (.aload_n 0, 1) := by decide +kernel
theorem dX6_output_110 : decode cX6_output 110 = .ok (.getfield 16, 3) := by decide +kernel
theorem dX6_output_113 : decode cX6_output 113 = .ok (.bipush 93, 2) := by decide +kernel
theorem dX6_output_115 : decode cX6_output 115 = .ok (.invokevirtual 40, 3) := by decide +kernel
theorem dX6_output_118 : decode cX6_output 118 = .ok (.ixor, 1) := by decide +kernel
theorem dX6_output_119 : decode cX6_output 119 = .ok (.aload_n 0, 1) := by decide +kernel
theorem dX6_output_120 : decode cX6_output 120 = .ok (.getfield 10, 3) := by decide +kernel
theorem dX6_output_123 : decode cX6_output 123 = .ok (.iconst 2, 1) := by decide +kernel
theorem dX6_output_124 : decode cX6_output 124 = .ok (.invokevirtual 40, 3) := by decide +kernel
theorem dX6_output_127 : decode cX6_output 127 = .ok (.ixor, 1) := by decide +kernel
theorem dX6_output_128 : decode cX6_output 128 = .ok (.aload_n 0, 1) := by decide +kernel
theorem dX6_output_129 : decode cX6_output 129 = .ok (.getfield 10, 3) := by decide +kernel
theorem dX6_output_132 : decode cX6_output 132 = .ok (.bipush 15, 2) := by decide +kernel
theorem dX6_output_134 : decode cX6_output 134 = .ok (.invokevirtual 40, 3) := by decide +kernel
theorem dX6_output_137 : decode cX6_output 137 = .ok (.ixor, 1) := by decide +kernel
theorem dX6_output_138 : decode cX6_output 138 = .ok (.aload_n 0, 1) := by decide +kernel
theorem dX6_output_139 : decode cX6_output 139 = .ok (.getfield 10, 3) := by decide +kernel
theorem dX6_output_142 : decode cX6_output 142 = .ok (.bipush 36, 2) := by decide +kernel
theorem dX6_output_144 : decode cX6_output 144 = .ok (.invokevirtual 40, 3) := by decide +kernel
theorem dX6_output_147 : decode cX6_output 147 = .ok (.ixor, 1) := by decide +kernel
theorem dX6_output_148 : decode cX6_output 148 = .ok (.aload_n 0, 1) := by decide +kernel
theorem dX6_output_149 : decode cX6_output 149 = .ok (.getfield 10, 3) := by decide +kernel
theorem dX6_output_152 : decode cX6_output 152 = .ok (.bipush 45, 2) := by decide +kernel
theorem dX6_output_154 : decode cX6_output 154 = .ok (.invokevirtual 40, 3) := by decide +kernel
theorem dX6_output_157 : decode cX6_output 157 = .ok (.ixor, 1) := by decide +kernel
theorem dX6_output_158 : decode cX6_output 158 = .ok (.aload_n 0, 1) := by decide +kernel
theorem dX6_output_159 : decode cX6_output 159 = .ok (.getfield 10, 3) := by decide +kernel
theorem dX6_output_162 : decode cX6_output 162 = .ok (.bipush 64, 2) := by decide +kernel
theorem dX6_output_164 : decode cX6_output 164 = .ok (.invokevirtual 40, 3) := by decide +kernel
theorem dX6_output_167 : decode cX6_output 167 = .ok (.ixor, 1) := by decide +kernel
theorem dX6_output_168 : decode cX6_output 168 = .ok (.aload_n 0, 1) := by decide +kernel
theorem dX6_output_169 : decode cX6_output 169 = .ok (.getfield 10, 3) := by decide +kernel
theorem dX6_output_172 : decode cX6_output 172 = .ok (.bipush 73, 2) := by decide +kernel
theorem dX6_output_174 : decode cX6_output 174 = .ok (.invokevirtual 40, 3) := by decide +kernel
theorem dX6_output_177 : decode cX6_output 177 = .ok (.ixor, 1) := by decide +kernel
theorem dX6_output_178 : decode cX6_output 178 = .ok (.aload_n 0, 1) := by decide +kernel
theorem dX6_output_179 : decode cX6_output 179 = .ok (.getfield 10, 3) := by decide +kernel
theorem dX6_output_182 : decode cX6_output 182 = .ok (.bipush 89, 2) := by decide +kernel
theorem dX6_output_184 : decode cX6_output 184 = .ok (.invokevirtual 40, 3) := by decide +kernel
theorem dX6_output_187 : decode cX6_output 187 = .ok (.ixor, 1) := by decide +kernel
theorem dX6_output_188 : decode cX6_output 188 = .ok (.ireturn, 1) := by decide +kernel
theorem dX6_move_0 : decode cX6_move 0 = .ok (.aload_n 0, 1) := by decide +kernel
theorem dX6_move_1 : decode cX6_move 1 = .ok (.invokevirtual 43, 3) := by decide +kernel
theorem dX6_move_4 : decode cX6_move 4 = .ok (.iload_n 1, 1) := by decide +kernel
theorem dX6_move_5 : decode cX6_move 5 = .ok (.ixor, 1) := by decide +kernel
theorem dX6_move_6 : decode cX6_move 6 = .ok (.istore_n 2, 1) := by decide +kernel
theorem dX6_move_7 : decode cX6_move 7 = .ok (.aload_n 0, 1) := by decide +kernel
theorem dX6_move_8 : decode cX6_move 8 = .ok (.invokevirtual 46, 3) := by decide +kernel
theorem dX6_move_11 : decode cX6_move 11 = .ok (.iload_n 1, 1) := by decide +kernel
theorem dX6_move_12 : decode cX6_move 12 = .ok (.ixor, 1) := by decide +kernel
theorem dX6_move_13 : decode cX6_move 13 = .ok (.istore_n 3, 1) := by decide +kernel
theorem dX6_move_14 : decode cX6_move 14 = .ok (.aload_n 0, 1) := by decide +kernel
theorem dX6_move_15 : decode cX6_move 15 = .ok (.getfield 16, 3) := by decide +kernel
theorem dX6_move_18 : decode cX6_move 18 = .ok (.iload_n 2, 1) := by decide +kernel
theorem dX6_move_19 : decode cX6_move 19 = .ok (.invokevirtual 49, 3) := by decide +kernel
theorem dX6_move_22 : decode cX6_move 22 = .ok (.aload_n 0, 1) := by decide +kernel
theorem dX6_move_23 : decode cX6_move 23 = .ok (.getfield 10, 3) := by decide +kernel
theorem dX6_move_26 : decode cX6_move 26 = .ok (.iload_n 3, 1) := by decide +kernel
theorem dX6_move_27 : decode cX6_move 27 = .ok (.invokevirtual 49, 3) := by decide +kernel
theorem dX6_move_30 : decode cX6_move 30 = .ok (.return_, 1) := by decide +kernel
theorem dX6_newBitOfS_0 : decode cX6_newBitOfS 0 = .ok (.aload_n 0, 1) := by decide +kernel
theorem dX6_newBitOfS_1 : decode cX6_newBitOfS 1 = .ok (.getfield 16, 3) := by decide +kernel
theorem dX6_newBitOfS_4 : decode cX6_newBitOfS 4 = .ok (.iconst 0, 1) := by decide +kernel
theorem dX6_newBitOfS_5 : decode cX6_newBitOfS 5 = .ok (.invokevirtual 40, 3) := by decide +kernel
theorem dX6_newBitOfS_8 : decode cX6_newBitOfS 8 = .ok (.aload_n 0, 1) := by decide +kernel
theorem dX6_newBitOfS_9 : decode cX6_newBitOfS 9 = .ok (.getfield 16, 3) := by decide +kernel
theorem dX6_newBitOfS_12 : decode cX6_newBitOfS 12 = .ok (.bipush 7, 2) := by decide +kernel
theorem dX6_newBitOfS_14 : decode cX6_newBitOfS 14 = .ok (.invokevirtual 40, 3) := by decide +kernel
theorem dX6_newBitOfS_17 : decode cX6_newBitOfS 17 = .ok (.ixor, 1) := by decide +kernel
theorem dX6_newBitOfS_18 : decode cX6_newBitOfS 18 = .ok (.aload_n 0, 1) := by decide +kernel
theorem dX6_newBitOfS_19 : decode cX6_newBitOfS 19 = .ok (.getfield 16, 3) := by decide +kernel
theorem dX6_newBitOfS_22 : decode cX6_newBitOfS 22 = .ok (.bipush 38, 2) := by decide +kernel
theorem dX6_newBitOfS_24 : decode cX6_newBitOfS 24 = .ok (.invokevirtual 40, 3) := by decide +kernel
theorem dX6_newBitOfS_27 : decode cX6_newBitOfS 27 = .ok (.ixor, 1) := by decide +kernel
theorem dX6_newBitOfS_28 : decode cX6_newBitOfS 28 = .ok (.aload_n 0, 1) := by decide +kernel
theorem dX6_newBitOfS_29 : decode cX6_newBitOfS 29 = .ok (.getfield 16, 3) := by decide +kernel
theorem dX6_newBitOfS_32 : decode cX6_newBitOfS 32 = .ok (.bipush 70, 2) := by decide +kernel
theorem dX6_newBitOfS_34 : decode cX6_newBitOfS 34 = .ok (.invokevirtual 40, 3) := by decide +kernel
theorem dX6_newBitOfS_37 : decode cX6_newBitOfS 37 = .ok (.ixor, 1) := by decide +kernel
theorem dX6_newBitOfS_38 : decode cX6_newBitOfS 38 = .ok (.aload_n 0, 1) := by decide +kernel
theorem dX6_newBitOfS_39 : decode cX6_newBitOfS 39 = .ok (.getfield 16, 3) := by decide +kernel
theorem dX6_newBitOfS_42 : decode cX6_newBitOfS 42 = .ok (.bipush 81, 2) := by decide +kernel
theorem dX6_newBitOfS_44 : decode cX6_newBitOfS 44 = .ok (.invokevirtual 40, 3) := by decide +kernel
theorem dX6_newBitOfS_47 : decode cX6_newBitOfS 47 = .ok (.ixor, 1) := by decide +kernel
theorem dX6_newBitOfS_48 : decode cX6_newBitOfS 48 = .ok (.aload_n 0, 1) := by decide +kernel
theorem dX6_newBitOfS_49 : decode cX6_newBitOfS 49 = .ok (.getfield 16, 3) := by decide +kernel
theorem dX6_newBitOfS_52 : decode cX6_newBitOfS 52 = .ok (.bipush 96, 2) := by decide +kernel
theorem dX6_newBitOfS_54 : decode cX6_newBitOfS 54 = .ok (.invokevirtual 40, 3) := by decide +kernel
theorem dX6_newBitOfS_57 : decode cX6_newBitOfS 57 = .ok (.ixor, 1) := by decide +kernel
theorem dX6_newBitOfS_58 : decode cX6_newBitOfS 58 = .ok (.ireturn, 1) := by decide +kernel
theorem dX6_newBitOfB_0 : decode cX6_newBitOfB 0 = .ok (.aload_n 0, 1) := by decide +kernel
theorem dX6_newBitOfB_1 : decode cX6_newBitOfB 1 = .ok (.getfield 16, 3) := by decide +kernel
theorem dX6_newBitOfB_4 : decode cX6_newBitOfB 4 = .ok (.iconst 0, 1) := by decide +kernel
theorem dX6_newBitOfB_5 : decode cX6_newBitOfB 5 = .ok (.invokevirtual 40, 3) := by decide +kernel
theorem dX6_newBitOfB_8 : decode cX6_newBitOfB 8 = .ok (.aload_n 0, 1) := by decide +kernel
theorem dX6_newBitOfB_9 : decode cX6_newBitOfB 9 = .ok (.getfield 10, 3) := by decide +kernel
theorem dX6_newBitOfB_12 : decode cX6_newBitOfB 12 = .ok (.iconst 0, 1) := by decide +kernel
theorem dX6_newBitOfB_13 : decode cX6_newBitOfB 13 = .ok (.invokevirtual 40, 3) := by decide +kernel
theorem dX6_newBitOfB_16 : decode cX6_newBitOfB 16 = .ok (.ixor, 1) := by decide +kernel
theorem dX6_newBitOfB_17 : decode cX6_newBitOfB 17 = .ok (.aload_n 0, 1) := by decide +kernel
theorem dX6_newBitOfB_18 : decode cX6_newBitOfB 18 = .ok (.getfield 10, 3) := by decide +kernel
theorem dX6_newBitOfB_21 : decode cX6_newBitOfB 21 = .ok (.bipush 26, 2) := by decide +kernel
theorem dX6_newBitOfB_23 : decode cX6_newBitOfB 23 = .ok (.invokevirtual 40, 3) := by decide +kernel
theorem dX6_newBitOfB_26 : decode cX6_newBitOfB 26 = .ok (.ixor, 1) := by decide +kernel
theorem dX6_newBitOfB_27 : decode cX6_newBitOfB 27 = .ok (.aload_n 0, 1) := by decide +kernel
theorem dX6_newBitOfB_28 : decode cX6_newBitOfB 28 = .ok (.getfield 10, 3) := by decide +kernel
theorem dX6_newBitOfB_31 : decode cX6_newBitOfB 31 = .ok (.bipush 56, 2) := by decide +kernel
theorem dX6_newBitOfB_33 : decode cX6_newBitOfB 33 = .ok (.invokevirtual 40, 3) := by decide +kernel
theorem dX6_newBitOfB_36 : decode cX6_newBitOfB 36 = .ok (.ixor, 1) := by decide +kernel
theorem dX6_newBitOfB_37 : decode cX6_newBitOfB 37 = .ok (.aload_n 0, 1) := by decide +kernel
theorem dX6_newBitOfB_38 : decode cX6_newBitOfB 38 = .ok (.getfield 10, 3) := by decide +kernel
theorem dX6_newBitOfB_41 : decode cX6_newBitOfB 41 = .ok (.bipush 91, 2) := by decide +kernel
theorem dX6_newBitOfB_43 : decode cX6_newBitOfB 43 = .ok (.invokevirtual 40, 3) := by decide +kernel
theorem dX6_newBitOfB_46 : decode cX6_newBitOfB 46 = .ok (.ixor, 1) := by decide +kernel
theorem dX6_newBitOfB_47 : decode cX6_newBitOfB 47 = .ok (.aload_n 0, 1) := by decide +kernel
theorem dX6_newBitOfB_48 : decode cX6_newBitOfB 48 = .ok (.getfield 10, 3) := by decide +kernel
theorem dX6_newBitOfB_51 : decode cX6_newBitOfB 51 = .ok (.bipush 96, 2) := by decide +kernel
theorem dX6_newBitOfB_53 : decode cX6_newBitOfB 53 = .ok (.invokevirtual 40, 3) := by decide +kernel
theorem dX6_newBitOfB_56 : decode cX6_newBitOfB 56 = .ok (.ixor, 1) := by decide +kernel
theorem dX6_newBitOfB_57 : decode cX6_newBitOfB 57 = .ok (.aload_n 0, 1) := by decide +kernel
theorem dX6_newBitOfB_58 : decode cX6_newBitOfB 58 = .ok (.getfield 10, 3) := by decide +kernel
theorem dX6_newBitOfB_61 : decode cX6_newBitOfB 61 = .ok (.iconst 3, 1) := by decide +kernel
theorem dX6_newBitOfB_62 : decode cX6_newBitOfB 62 = .ok (.invokevirtual 40, 3) := by decide +kernel
theorem dX6_newBitOfB_65 : decode cX6_newBitOfB 65 = .ok (.aload_n 0, 1) := by decide +kernel
theorem dX6_newBitOfB_66 : decode cX6_newBitOfB 66 = .ok (.getfield 10, 3) := by decide +kernel
theorem dX6_newBitOfB_69 : decode cX6_newBitOfB 69 = .ok (.bipush 67, 2) := by decide +kernel
theorem dX6_newBitOfB_71 : decode cX6_newBitOfB 71 = .ok (.invokevirtual 40, 3) := by decide +kernel
theorem dX6_newBitOfB_74 : decode cX6_newBitOfB 74 = .ok (.iand, 1) := by decide +kernel
theorem dX6_newBitOfB_75 : decode cX6_newBitOfB 75 = .ok (.ixor, 1) := by decide +kernel
theorem dX6_newBitOfB_76 : decode cX6_newBitOfB 76 = .ok (.aload_n 0, 1) := by decide +kernel
theorem dX6_newBitOfB_77 : decode cX6_newBitOfB 77 = .ok (.getfield 10, 3) := by decide +kernel
theorem dX6_newBitOfB_80 : decode cX6_newBitOfB 80 = .ok (.bipush 11, 2) := by decide +kernel
theorem dX6_newBitOfB_82 : decode cX6_newBitOfB 82 = .ok (.invokevirtual 40, 3) := by decide +kernel
theorem dX6_newBitOfB_85 : decode cX6_newBitOfB 85 = .ok (.aload_n 0, 1) := by decide +kernel
theorem dX6_newBitOfB_86 : decode cX6_newBitOfB 86 = .ok (.getfield 10, 3) := by decide +kernel
theorem dX6_newBitOfB_89 : decode cX6_newBitOfB 89 = .ok (.bipush 13, 2) := by decide +kernel
theorem dX6_newBitOfB_91 : decode cX6_newBitOfB 91 = .ok (.invokevirtual 40, 3) := by decide +kernel
theorem dX6_newBitOfB_94 : decode cX6_newBitOfB 94 = .ok (.iand, 1) := by decide +kernel
theorem dX6_newBitOfB_95 : decode cX6_newBitOfB 95 = .ok (.ixor, 1) := by decide +kernel
theorem dX6_newBitOfB_96 : decode cX6_newBitOfB 96 = .ok (.aload_n 0, 1) := by decide +kernel
theorem dX6_newBitOfB_97 : decode cX6_newBitOfB 97 = .ok (.getfield 10, 3) := by decide +kernel
theorem dX6_newBitOfB_100 : decode cX6_newBitOfB 100 = .ok (.bipush 17, 2) := by decide +kernel
theorem dX6_newBitOfB_102 : decode cX6_newBitOfB 102 = .ok (.invokevirtual 40, 3) := by decide +kernel
theorem dX6_newBitOfB_105 : decode cX6_newBitOfB 105 = .ok (.aload_n 0, 1) := by decide +kernel
theorem dX6_newBitOfB_106 : decode cX6_newBitOfB 106 = .ok (.getfield 10, 3) := by decide +kernel
theorem dX6_newBitOfB_109 : decode cX6_newBitOfB 109 = .ok (.bipush 18, 2) := by decide +kernel
theorem dX6_newBitOfB_111 : decode cX6_newBitOfB 111 = .ok (.invokevirtual 40, 3) := by decide +kernel
theorem dX6_newBitOfB_114 : decode cX6_newBitOfB 114 = .ok (.iand, 1) := by decide +kernel
theorem dX6_newBitOfB_115 : decode cX6_newBitOfB 115 = .ok (.ixor, 1) := by decide +kernel
theorem dX6_newBitOfB_116 : decode cX6_newBitOfB 116 = .ok (.aload_n 0, 1) := by decide +kernel
theorem dX6_newBitOfB_117 : decode cX6_newBitOfB 117 = .ok (.getfield 10, 3) := by decide +kernel
theorem dX6_newBitOfB_120 : decode cX6_newBitOfB 120 = .ok (.bipush 27, 2) := by decide +kernel
theorem dX6_newBitOfB_122 : decode cX6_newBitOfB 122 = .ok (.invokevirtual 40, 3) := by decide +kernel
theorem dX6_newBitOfB_125 : decode cX6_newBitOfB 125 = .ok (.aload_n 0, 1) := by decide +kernel
theorem dX6_newBitOfB_126 : decode cX6_newBitOfB 126 = .ok (.getfield 10, 3) := by decide +kernel
theorem dX6_newBitOfB_129 : decode cX6_newBitOfB 129 = .ok (.bipush 59, 2) := by decide +kernel
theorem dX6_newBitOfB_131 : decode cX6_newBitOfB 131 = .ok (.invokevirtual 40, 3) := by decide +kernel
theorem dX6_newBitOfB_134 : decode cX6_newBitOfB 134 = .ok (.iand, 1) := by decide +kernel
theorem dX6_newBitOfB_135 : decode cX6_newBitOfB 135 = .ok (.ixor, 1) := by decide +kernel
theorem dX6_newBitOfB_136 : decode cX6_newBitOfB 136 = .ok (.aload_n 0, 1) := by decide +kernel
theorem dX6_newBitOfB_137 : decode cX6_newBitOfB 137 = .ok (.getfield 10, 3) := by decide +kernel
theorem dX6_newBitOfB_140 : decode cX6_newBitOfB 140 = .ok (.bipush 40, 2) := by decide +kernel
theorem dX6_newBitOfB_142 : decode cX6_newBitOfB 142 = .ok (.invokevirtual 40, 3) := by decide +kernel
theorem dX6_newBitOfB_145 : decode cX6_newBitOfB 145 = .ok (.aload_n 0, 1) := by decide +kernel
theorem dX6_newBitOfB_146 : decode cX6_newBitOfB 146 = .ok (.getfield 10, 3) := by decide +kernel
theorem dX6_newBitOfB_149 : decode cX6_newBitOfB 149 = .ok (.bipush 48, 2) := by decide +kernel
theorem dX6_newBitOfB_151 : decode cX6_newBitOfB 151 = .ok (.invokevirtual 40, 3) := by decide +kernel
theorem dX6_newBitOfB_154 : decode cX6_newBitOfB 154 = .ok (.iand, 1) := by decide +kernel
theorem dX6_newBitOfB_155 : decode cX6_newBitOfB 155 = .ok (.ixor, 1) := by decide +kernel
theorem dX6_newBitOfB_156 : decode cX6_newBitOfB 156 = .ok (.aload_n 0, 1) := by decide +kernel
theorem dX6_newBitOfB_157 : decode cX6_newBitOfB 157 = .ok (.getfield 10, 3) := by decide +kernel
theorem dX6_newBitOfB_160 : decode cX6_newBitOfB 160 = .ok (.bipush 61, 2) := by decide +kernel
theorem dX6_newBitOfB_162 : decode cX6_newBitOfB 162 = .ok (.invokevirtual 40, 3) := by decide +kernel
theorem dX6_newBitOfB_165 : decode cX6_newBitOfB 165 = .ok (.aload_n 0, 1) := by decide +kernel
theorem dX6_newBitOfB_166 : decode cX6_newBitOfB 166 = .ok (.getfield 10, 3) := by decide +kernel
theorem dX6_newBitOfB_169 : decode cX6_newBitOfB 169 = .ok (.bipush 65, 2) := by decide +kernel
theorem dX6_newBitOfB_171 : decode cX6_newBitOfB 171 = .ok (.invokevirtual 40, 3) := by decide +kernel
theorem dX6_newBitOfB_174 : decode cX6_newBitOfB 174 = .ok (.iand, 1) := by decide +kernel
theorem dX6_newBitOfB_175 : decode cX6_newBitOfB 175 = .ok (.ixor, 1) := by decide +kernel
theorem dX6_newBitOfB_176 : decode cX6_newBitOfB 176 = .ok (.aload_n 0, 1) := by decide +kernel
theorem dX6_newBitOfB_177 : decode cX6_newBitOfB 177 = .ok (.getfield 10, 3) := by decide +kernel
theorem dX6_newBitOfB_180 : decode cX6_newBitOfB 180 = .ok (.bipush 68, 2) := by decide +kernel
theorem dX6_newBitOfB_182 : decode cX6_newBitOfB 182 = .ok (.invokevirtual 40, 3) := by decide +kernel
theorem dX6_newBitOfB_185 : decode cX6_newBitOfB 185 = .ok (.aload_n 0, 1) := by decide +kernel
theorem dX6_newBitOfB_186 : decode cX6_newBitOfB 186 = .ok (.getfield 10, 3) := by decide +kernel
theorem dX6_newBitOfB_189 : decode cX6_newBitOfB 189 = .ok (.bipush 84, 2) := by decide +kernel
theorem dX6_newBitOfB_191 : decode cX6_newBitOfB 191 = .ok (.invokevirtual 40, 3) := by decide +kernel
theorem dX6_newBitOfB_194 : decode cX6_newBitOfB 194 = .ok (.iand, 1) := by decide +kernel
theorem dX6_newBitOfB_195 : decode cX6_newBitOfB 195 = .ok (.ixor, 1) := by decide +kernel
theorem dX6_newBitOfB_196 : decode cX6_newBitOfB 196 = .ok (.aload_n 0, 1) := by decide +kernel
theorem dX6_newBitOfB_197 : decode cX6_newBitOfB 197 = .ok (.getfield 10, 3) := by decide +kernel
theorem dX6_newBitOfB_200 : decode cX6_newBitOfB 200 = .ok (.bipush 88, 2) := by decide +kernel
theorem dX6_newBitOfB_202 : decode cX6_newBitOfB 202 = .ok (.invokevirtual 40, 3) := by decide +kernel
theorem dX6_newBitOfB_205 : decode cX6_newBitOfB 205 = .ok (.aload_n 0, 1) := by decide +kernel
theorem dX6_newBitOfB_206 : decode cX6_newBitOfB 206 = .ok (.getfield 10, 3) := by decide +kernel
theorem dX6_newBitOfB_209 : decode cX6_newBitOfB 209 = .ok (.bipush 92, 2) := by decide +kernel
theorem dX6_newBitOfB_211 : decode cX6_newBitOfB 211 = .ok (.invokevirtual 40, 3) := by decide +kernel
theorem dX6_newBitOfB_214 : decode cX6_newBitOfB 214 = .ok (.iand, 1) := by decide +kernel
theorem dX6_newBitOfB_215 : decode cX6_newBitOfB 215 = .ok (.aload_n 0, 1) := by decide +kernel
theorem dX6_newBitOfB_216 : decode cX6_newBitOfB 216 = .ok (.getfield 10, 3) := by decide +kernel
theorem dX6_newBitOfB_219 : decode cX6_newBitOfB 219 = .ok (.bipush 93, 2) := by decide +kernel
theorem dX6_newBitOfB_221 : decode cX6_newBitOfB 221 = .ok (.invokevirtual 40, 3) := by decide +kernel
theorem dX6_newBitOfB_224 : decode cX6_newBitOfB 224 = .ok (.iand, 1) := by decide +kernel
theorem dX6_newBitOfB_225 : decode cX6_newBitOfB 225 = .ok (.aload_n 0, 1) := by decide +kernel
theorem dX6_newBitOfB_226 : decode cX6_newBitOfB 226 = .ok (.getfield 10, 3) := by decide +kernel
theorem dX6_newBitOfB_229 : decode cX6_newBitOfB 229 = .ok (.bipush 95, 2) := by decide +kernel
theorem dX6_newBitOfB_231 : decode cX6_newBitOfB 231 = .ok (.invokevirtual 40, 3) := by decide +kernel
theorem dX6_newBitOfB_234 : decode cX6_newBitOfB 234 = .ok (.iand, 1) := by decide +kernel
theorem dX6_newBitOfB_235 : decode cX6_newBitOfB 235 = .ok (.ixor, 1) := by decide +kernel
theorem dX6_newBitOfB_236 : decode cX6_newBitOfB 236 = .ok (.aload_n 0, 1) := by decide +kernel
theorem dX6_newBitOfB_237 : decode cX6_newBitOfB 237 = .ok (.getfield 10, 3) := by decide +kernel
theorem dX6_newBitOfB_240 : decode cX6_newBitOfB 240 = .ok (.bipush 22, 2) := by decide +kernel
theorem dX6_newBitOfB_242 : decode cX6_newBitOfB 242 = .ok (.invokevirtual 40, 3) := by decide +kernel
theorem dX6_newBitOfB_245 : decode cX6_newBitOfB 245 = .ok (.aload_n 0, 1) := by decide +kernel
theorem dX6_newBitOfB_246 : decode cX6_newBitOfB 246 = .ok (.getfield 10, 3) := by decide +kernel
theorem dX6_newBitOfB_249 : decode cX6_newBitOfB 249 = .ok (.bipush 24, 2) := by decide +kernel
theorem dX6_newBitOfB_251 : decode cX6_newBitOfB 251 = .ok (.invokevirtual 40, 3) := by decide +kernel
theorem dX6_newBitOfB_254 : decode cX6_newBitOfB 254 = .ok (.iand, 1) := by decide +kernel
theorem dX6_newBitOfB_255 : decode cX6_newBitOfB 255 = .ok (.aload_n 0, 1) := by decide +kernel
theorem dX6_newBitOfB_256 : decode cX6_newBitOfB 256 = .ok (.getfield 10, 3) := by decide +kernel
theorem dX6_newBitOfB_259 : decode cX6_newBitOfB 259 = .ok (.bipush 25, 2) := by decide +kernel
theorem dX6_newBitOfB_261 : decode cX6_newBitOfB 261 = .ok (.invokevirtual 40, 3) := by decide +kernel
theorem dX6_newBitOfB_264 : decode cX6_newBitOfB 264 = .ok (.iand, 1) := by decide +kernel
theorem dX6_newBitOfB_265 : decode cX6_newBitOfB 265 = .ok (.ixor, 1) := by decide +kernel
theorem dX6_newBitOfB_266 : decode cX6_newBitOfB 266 = .ok (.aload_n 0, 1) := by decide +kernel
theorem dX6_newBitOfB_267 : decode cX6_newBitOfB 267 = .ok (.getfield 10, 3) := by decide +kernel
theorem dX6_newBitOfB_270 : decode cX6_newBitOfB 270 = .ok (.bipush 70, 2) := by decide +kernel
theorem dX6_newBitOfB_272 : decode cX6_newBitOfB 272 = .ok (.invokevirtual 40, 3) := by decide +kernel
theorem dX6_newBitOfB_275 : decode cX6_newBitOfB 275 = .ok (.aload_n 0, 1) := by decide +kernel
theorem dX6_newBitOfB_276 : decode cX6_newBitOfB 276 = .ok (.getfield 10, 3) := by decide +kernel
theorem dX6_newBitOfB_279 : decode cX6_newBitOfB 279 = .ok (.bipush 78, 2) := by decide +kernel
theorem dX6_newBitOfB_281 : decode cX6_newBitOfB 281 = .ok (.invokevirtual 40, 3) := by decide +kernel
theorem dX6_newBitOfB_284 : decode cX6_newBitOfB 284 = .ok (.iand, 1) := by decide +kernel
theorem dX6_newBitOfB_285 : decode cX6_newBitOfB 285 = .ok (.aload_n 0, 1) := by decide +kernel
theorem dX6_newBitOfB_286 : decode cX6_newBitOfB 286 = .ok (.getfield 10, 3) := by decide +kernel
theorem dX6_newBitOfB_289 : decode cX6_newBitOfB 289 = .ok (.bipush 82, 2) := by decide +kernel
theorem dX6_newBitOfB_291 : decode cX6_newBitOfB 291 = .ok (.invokevirtual 40, 3) := by decide +kernel
theorem dX6_newBitOfB_294 : decode cX6_newBitOfB 294 = .ok (.iand, 1) := by decide +kernel
theorem dX6_newBitOfB_295 : decode cX6_newBitOfB 295 = .ok (.ixor, 1) := by decide +kernel
theorem dX6_newBitOfB_296 : decode cX6_newBitOfB 296 = .ok (.ireturn, 1) := by decide +kernel
theorem dX7_init_0 : decode cX7_init 0 = .ok (.aload_n 0, 1) := by decide +kernel
theorem dX7_init_1 : decode cX7_init 1 = .ok (.invokespecial 1, 3) := by decide +kernel
theorem dX7_init_4 : decode cX7_init 4 = .ok (.aload_n 0, 1) := by decide +kernel
theorem dX7_init_5 : decode cX7_init 5 = .ok (.new 7, 3) := by decide +kernel
theorem dX7_init_8 : decode cX7_init 8 = .ok (.dup, 1) := by decide +kernel
theorem dX7_init_9 : decode cX7_init 9 = .ok (.bipush 32, 2) := by decide +kernel
theorem dX7_init_11 : decode cX7_init 11 = .ok (.invokespecial 11, 3) := by decide +kernel
theorem dX7_init_14 : decode cX7_init 14 = .ok (.putfield 14, 3) := by decide +kernel
theorem dX7_init_17 : decode cX7_init 17 = .ok (.aload_n 0, 1) := by decide +kernel
theorem dX7_init_18 : decode cX7_init 18 = .ok (.new 7, 3) := by decide +kernel
theorem dX7_init_21 : decode cX7_init 21 = .ok (.dup, 1) := by decide +kernel
theorem dX7_init_22 : decode cX7_init 22 = .ok (.bipush 12, 2) := by decide +kernel
theorem dX7_init_24 : decode cX7_init 24 = .ok (.invokespecial 11, 3) := by decide +kernel
theorem dX7_init_27 : decode cX7_init 27 = .ok (.putfield 18, 3) := by decide +kernel
theorem dX7_init_30 : decode cX7_init 30 = .ok (.aload_n 0, 1) := by decide +kernel
theorem dX7_init_31 : decode cX7_init 31 = .ok (.iconst 4, 1) := by decide +kernel
theorem dX7_init_32 : decode cX7_init 32 = .ok (.anewarray 21, 3) := by decide +kernel
theorem dX7_init_35 : decode cX7_init 35 = .ok (.dup, 1) := by decide +kernel
theorem dX7_init_36 : decode cX7_init 36 = .ok (.iconst 0, 1) := by decide +kernel
theorem dX7_init_37 : decode cX7_init 37 = .ok (.new 23, 3) := by decide +kernel
theorem dX7_init_40 : decode cX7_init 40 = .ok (.dup, 1) := by decide +kernel
theorem dX7_init_41 : decode cX7_init 41 = .ok (.invokespecial 25, 3) := by decide +kernel
theorem dX7_init_44 : decode cX7_init 44 = .ok (.aastore, 1) := by decide +kernel
theorem dX7_init_45 : decode cX7_init 45 = .ok (.dup, 1) := by decide +kernel
theorem dX7_init_46 : decode cX7_init 46 = .ok (.iconst 1, 1) := by decide +kernel
theorem dX7_init_47 : decode cX7_init 47 = .ok (.new 26, 3) := by decide +kernel
theorem dX7_init_50 : decode cX7_init 50 = .ok (.dup, 1) := by decide +kernel
theorem dX7_init_51 : decode cX7_init 51 = .ok (.invokespecial 28, 3) := by decide +kernel
theorem dX7_init_54 : decode cX7_init 54 = .ok (.aastore, 1) := by decide +kernel
theorem dX7_init_55 : decode cX7_init 55 = .ok (.dup, 1) := by decide +kernel
theorem dX7_init_56 : decode cX7_init 56 = .ok (.iconst 2, 1) := by decide +kernel
theorem dX7_init_57 : decode cX7_init 57 = .ok (.new 29, 3) := by decide +kernel
theorem dX7_init_60 : decode cX7_init 60 = .ok (.dup, 1) := by decide +kernel
theorem dX7_init_61 : decode cX7_init 61 = .ok (.invokespecial 31, 3) := by decide +kernel
theorem dX7_init_64 : decode cX7_init 64 = .ok (.aastore, 1) := by decide +kernel
theorem dX7_init_65 : decode cX7_init 65 = .ok (.dup, 1) := by decide +kernel
theorem dX7_init_66 : decode cX7_init 66 = .ok (.iconst 3, 1) := by decide +kernel
theorem dX7_init_67 : decode cX7_init 67 = .ok (.new 32, 3) := by decide +kernel
theorem dX7_init_70 : decode cX7_init 70 = .ok (.dup, 1) := by decide +kernel
theorem dX7_init_71 : decode cX7_init 71 = .ok (.invokespecial 34, 3) := by decide +kernel
theorem dX7_init_74 : decode cX7_init 74 = .ok (.aastore, 1) := by decide +kernel
theorem dX7_init_75 : decode cX7_init 75 = .ok (.putfield 35, 3) := by decide +kernel
theorem dX7_init_78 : decode cX7_init 78 = .ok (.aload_n 0, 1) := by decide +kernel
theorem dX7_init_79 : decode cX7_init 79 = .ok (.aconst_null, 1) := by decide +kernel
theorem dX7_init_80 : decode cX7_init 80 = .ok (.putfield 39, 3) := by decide +kernel
theorem dX7_init_83 : decode cX7_init 83 = .ok (.aload_n 0, 1) := by decide +kernel
theorem dX7_init_84 : decode cX7_init 84 = .ok (.iconst (-1), 1) := by decide +kernel
theorem dX7_init_85 : decode cX7_init 85 = .ok (.putfield 43, 3) := by decide +kernel
theorem dX7_init_88 : decode cX7_init 88 = .ok (.aload_n 0, 1) := by decide +kernel
theorem dX7_init_89 : decode cX7_init 89 = .ok (.iconst 0, 1) := by decide +kernel
theorem dX7_init_90 : decode cX7_init 90 = .ok (.putfield 47, 3) := by decide +kernel
theorem dX7_init_93 : decode cX7_init 93 = .ok (.return_, 1) := by decide +kernel
theorem dX7_key_0 : decode cX7_key 0 = .ok (.aload_n 0, 1) := by decide +kernel
theorem dX7_key_1 : decode cX7_key 1 = .ok (.getfield 14, 3) := by decide +kernel
theorem dX7_key_4 : decode cX7_key 4 = .ok (.lload_n 1, 1) := by decide +kernel
theorem dX7_key_5 : decode cX7_key 5 = .ok (.iload_n 3, 1) := by decide +kernel
theorem dX7_key_6 : decode cX7_key 6 = .ok (.invokevirtual 50, 3) := by decide +kernel
theorem dX7_key_9 : decode cX7_key 9 = .ok (.ireturn, 1) := by decide +kernel
theorem dX7_start_0 : decode cX7_start 0 = .ok (.aload_n 0, 1) := by decide +kernel
theorem dX7_start_1 : decode cX7_start 1 = .ok (.getfield 18, 3) := by decide +kernel
theorem dX7_start_4 : decode cX7_start 4 = .ok (.lload_n 1, 1) := by decide +kernel
theorem dX7_start_5 : decode cX7_start 5 = .ok (.iload_n 3, 1) := by decide +kernel
theorem dX7_start_6 : decode cX7_start 6 = .ok (.invokevirtual 50, 3) := by decide +kernel
theorem dX7_start_9 : decode cX7_start 9 = .ok (.ireturn, 1) := by decide +kernel
theorem dX7_begin_0 : decode cX7_begin 0 = .ok (.iload_n 1, 1) := by decide +kernel
theorem dX7_begin_1 : decode cX7_begin 1 = .ok (.ifCond .lt 12, 3) := by decide +kernel
theorem dX7_begin_4 : decode cX7_begin 4 = .ok (.iload_n 1, 1) := by decide +kernel
theorem dX7_begin_5 : decode cX7_begin 5 = .ok (.aload_n 0, 1) := by decide +kernel
theorem dX7_begin_6 : decode cX7_begin 6 = .ok (.getfield 35, 3) := by decide +kernel
theorem dX7_begin_9 : decode cX7_begin 9 = .ok (.arraylength, 1) := by decide +kernel
theorem dX7_begin_10 : decode cX7_begin 10 = .ok (.if_icmp .lt 5, 3) := by decide +kernel
theorem dX7_begin_13 : decode cX7_begin 13 = .ok (.iconst 0, 1) := by decide +kernel
theorem dX7_begin_14 : decode cX7_begin 14 = .ok (.ireturn, 1) := by decide +kernel
theorem dX7_begin_15 : decode cX7_begin 15 = .ok (.aload_n 0, 1) := by decide +kernel
theorem dX7_begin_16 : decode cX7_begin 16 = .ok (.getfield 35, 3) := by decide +kernel
theorem dX7_begin_19 : decode cX7_begin 19 = .ok (.iload_n 1, 1) := by decide +kernel
theorem dX7_begin_20 : decode cX7_begin 20 = .ok (.aaload, 1) := by decide +kernel
theorem dX7_begin_21 : decode cX7_begin 21 = .ok (.astore_n 2, 1) := by decide +kernel
theorem dX7_begin_22 : decode cX7_begin 22 = .ok (.aload_n 2, 1) := by decide +kernel
theorem dX7_begin_23 : decode cX7_begin 23 = .ok (.aload_n 0, 1) := by decide +kernel
theorem dX7_begin_24 : decode cX7_begin 24 = .ok (.getfield 14, 3) := by decide +kernel
theorem dX7_begin_27 : decode cX7_begin 27 = .ok (.invokevirtual 54, 3) := by decide +kernel
theorem dX7_begin_30 : decode cX7_begin 30 = .ok (.aload_n 0, 1) := by decide +kernel
theorem dX7_begin_31 : decode cX7_begin 31 = .ok (.getfield 18, 3) := by decide +kernel
theorem dX7_begin_34 : decode cX7_begin 34 = .ok (.invokevirtual 54, 3) := by decide +kernel
theorem dX7_begin_37 : decode cX7_begin 37 = .ok (.invokevirtual 58, 3) := by decide +kernel
theorem dX7_begin_40 : decode cX7_begin 40 = .ok (.ifCond .ne 5, 3) := by decide +kernel
theorem dX7_begin_43 : decode cX7_begin 43 = .ok (.iconst 0, 1) := by decide +kernel
theorem dX7_begin_44 : decode cX7_begin 44 = .ok (.ireturn, 1) := by decide +kernel
theorem dX7_begin_45 : decode cX7_begin 45 = .ok (.aload_n 2, 1) := by decide +kernel
theorem dX7_begin_46 : decode cX7_begin 46 = .ok (.aload_n 0, 1) := by decide +kernel
theorem dX7_begin_47 : decode cX7_begin 47 = .ok (.getfield 14, 3) := by decide +kernel
theorem dX7_begin_50 : decode cX7_begin 50 = .ok (.aload_n 0, 1) := by decide +kernel
theorem dX7_begin_51 : decode cX7_begin 51 = .ok (.getfield 18, 3) := by decide +kernel
theorem dX7_begin_54 : decode cX7_begin 54 = .ok (.invokevirtual 62, 3) := by decide +kernel
theorem dX7_begin_57 : decode cX7_begin 57 = .ok (.aload_n 0, 1) := by decide +kernel
theorem dX7_begin_58 : decode cX7_begin 58 = .ok (.getfield 14, 3) := by decide +kernel
theorem dX7_begin_61 : decode cX7_begin 61 = .ok (.invokevirtual 66, 3) := by decide +kernel
theorem dX7_begin_64 : decode cX7_begin 64 = .ok (.aload_n 0, 1) := by decide +kernel
theorem dX7_begin_65 : decode cX7_begin 65 = .ok (.getfield 18, 3) := by decide +kernel
theorem dX7_begin_68 : decode cX7_begin 68 = .ok (.invokevirtual 66, 3) := by decide +kernel
theorem dX7_begin_71 : decode cX7_begin 71 = .ok (.aload_n 0, 1) := by decide +kernel
theorem dX7_begin_72 : decode cX7_begin 72 = .ok (.aload_n 2, 1) := by decide +kernel
theorem dX7_begin_73 : decode cX7_begin 73 = .ok (.putfield 39, 3) := by decide +kernel
theorem dX7_begin_76 : decode cX7_begin 76 = .ok (.aload_n 0, 1) := by decide +kernel
theorem dX7_begin_77 : decode cX7_begin 77 = .ok (.iload_n 1, 1) := by decide +kernel
theorem dX7_begin_78 : decode cX7_begin 78 = .ok (.putfield 43, 3) := by decide +kernel
theorem dX7_begin_81 : decode cX7_begin 81 = .ok (.aload_n 0, 1) := by decide +kernel
theorem dX7_begin_82 : decode cX7_begin 82 = .ok (.iconst 0, 1) := by decide +kernel
theorem dX7_begin_83 : decode cX7_begin 83 = .ok (.putfield 47, 3) := by decide +kernel
theorem dX7_begin_86 : decode cX7_begin 86 = .ok (.iconst 1, 1) := by decide +kernel
theorem dX7_begin_87 : decode cX7_begin 87 = .ok (.ireturn, 1) := by decide +kernel
theorem dX7_bits_0 : decode cX7_bits 0 = .ok (.aload_n 0, 1) := by decide +kernel
theorem dX7_bits_1 : decode cX7_bits 1 = .ok (.lconst 0, 1) := by decide +kernel
theorem dX7_bits_2 : decode cX7_bits 2 = .ok (.iload_n 1, 1) := by decide +kernel
theorem dX7_bits_3 : decode cX7_bits 3 = .ok (.invokevirtual 69, 3) := by decide +kernel
theorem dX7_bits_6 : decode cX7_bits 6 = .ok (.lreturn, 1) := by decide +kernel
theorem dX7_skip_0 : decode cX7_skip 0 = .ok (.aload_n 0, 1) := by decide +kernel
theorem dX7_skip_1 : decode cX7_skip 1 = .ok (.getfield 39, 3) := by decide +kernel
theorem dX7_skip_4 : decode cX7_skip 4 = .ok (.ifnull 14, 3) := by decide +kernel
theorem dX7_skip_7 : decode cX7_skip 7 = .ok (.iload_n 1, 1) := by decide +kernel
theorem dX7_skip_8 : decode cX7_skip 8 = .ok (.ifCond .lt 10, 3) := by decide +kernel
theorem dX7_skip_11 : decode cX7_skip 11 = .ok (.iload_n 1, 1) := by decide +kernel
theorem dX7_skip_12 : decode cX7_skip 12 = .ok (.sipush 5000, 3) := by decide +kernel
theorem dX7_skip_15 : decode cX7_skip 15 = .ok (.if_icmp .le 5, 3) := by decide +kernel
theorem dX7_skip_18 : decode cX7_skip 18 = .ok (.iconst 0, 1) := by decide +kernel
theorem dX7_skip_19 : decode cX7_skip 19 = .ok (.ireturn, 1) := by decide +kernel
theorem dX7_skip_20 : decode cX7_skip 20 = .ok (.iconst 0, 1) := by decide +kernel
theorem dX7_skip_21 : decode cX7_skip 21 = .ok (.istore_n 2, 1) := by decide +kernel
theorem dX7_skip_22 : decode cX7_skip 22 = .ok (.iload_n 2, 1) := by decide +kernel
theorem dX7_skip_23 : decode cX7_skip 23 = .ok (.iload_n 1, 1) := by decide +kernel
theorem dX7_skip_24 : decode cX7_skip 24 = .ok (.if_icmp .ge 17, 3) := by decide +kernel
theorem dX7_skip_27 : decode cX7_skip 27 = .ok (.aload_n 0, 1) := by decide +kernel
theorem dX7_skip_28 : decode cX7_skip 28 = .ok (.getfield 39, 3) := by decide +kernel
theorem dX7_skip_31 : decode cX7_skip 31 = .ok (.invokevirtual 73, 3) := by decide +kernel
theorem dX7_skip_34 : decode cX7_skip 34 = .ok (.pop, 1) := by decide +kernel
theorem dX7_skip_35 : decode cX7_skip 35 = .ok (.iinc 2 1, 3) := by decide +kernel
theorem dX7_skip_38 : decode cX7_skip 38 = .ok (.goto (-16), 3) := by decide +kernel
theorem dX7_skip_41 : decode cX7_skip 41 = .ok (.aload_n 0, 1) := by decide +kernel
theorem dX7_skip_42 : decode cX7_skip 42 = .ok (.dup, 1) := by decide +kernel
theorem dX7_skip_43 : decode cX7_skip 43 = .ok (.getfield 47, 3) := by decide +kernel
theorem dX7_skip_46 : decode cX7_skip 46 = .ok (.iload_n 1, 1) := by decide +kernel
theorem dX7_skip_47 : decode cX7_skip 47 = .ok (.iadd, 1) := by decide +kernel
theorem dX7_skip_48 : decode cX7_skip 48 = .ok (.putfield 47, 3) := by decide +kernel
theorem dX7_skip_51 : decode cX7_skip 51 = .ok (.iconst 1, 1) := by decide +kernel
theorem dX7_skip_52 : decode cX7_skip 52 = .ok (.ireturn, 1) := by decide +kernel
theorem dX7_mix_0 : decode cX7_mix 0 = .ok (.aload_n 0, 1) := by decide +kernel
theorem dX7_mix_1 : decode cX7_mix 1 = .ok (.getfield 39, 3) := by decide +kernel
theorem dX7_mix_4 : decode cX7_mix 4 = .ok (.ifnull 14, 3) := by decide +kernel
theorem dX7_mix_7 : decode cX7_mix 7 = .ok (.iload_n 3, 1) := by decide +kernel
theorem dX7_mix_8 : decode cX7_mix 8 = .ok (.iconst 1, 1) := by decide +kernel
theorem dX7_mix_9 : decode cX7_mix 9 = .ok (.if_icmp .lt 9, 3) := by decide +kernel
theorem dX7_mix_12 : decode cX7_mix 12 = .ok (.iload_n 3, 1) := by decide +kernel
theorem dX7_mix_13 : decode cX7_mix 13 = .ok (.bipush 64, 2) := by decide +kernel
theorem dX7_mix_15 : decode cX7_mix 15 = .ok (.if_icmp .le 5, 3) := by decide +kernel
theorem dX7_mix_18 : decode cX7_mix 18 = .ok (.lconst 0, 1) := by decide +kernel
theorem dX7_mix_19 : decode cX7_mix 19 = .ok (.lreturn, 1) := by decide +kernel
theorem dX7_mix_20 : decode cX7_mix 20 = .ok (.lconst 0, 1) := by decide +kernel
theorem dX7_mix_21 : decode cX7_mix 21 = .ok (.lstore 4, 2) := by decide +kernel
theorem dX7_mix_23 : decode cX7_mix 23 = .ok (.iconst 0, 1) := by decide +kernel
theorem dX7_mix_24 : decode cX7_mix 24 = .ok (.istore 6, 2) := by decide +kernel
theorem dX7_mix_26 : decode cX7_mix 26 = .ok (.iload 6, 2) := by decide +kernel
theorem dX7_mix_28 : decode cX7_mix 28 = .ok (.iload_n 3, 1) := by decide +kernel
theorem dX7_mix_29 : decode cX7_mix 29 = .ok (.if_icmp .ge 24, 3) := by decide +kernel
theorem dX7_mix_32 : decode cX7_mix 32 = .ok (.lload 4, 2) := by decide +kernel
theorem dX7_mix_34 : decode cX7_mix 34 = .ok (.iconst 1, 1) := by decide +kernel
theorem dX7_mix_35 : decode cX7_mix 35 = .ok (.lshl, 1) := by decide +kernel
theorem dX7_mix_36 : decode cX7_mix 36 = .ok (.aload_n 0, 1) := by decide +kernel
theorem dX7_mix_37 : decode cX7_mix 37 = .ok (.getfield 39, 3) := by decide +kernel
theorem dX7_mix_40 : decode cX7_mix 40 = .ok (.invokevirtual 73, 3) := by decide +kernel
theorem dX7_mix_43 : decode cX7_mix 43 = .ok (.i2l, 1) := by decide +kernel
theorem dX7_mix_44 : decode cX7_mix 44 = .ok (.lor, 1) := by decide +kernel
theorem dX7_mix_45 : decode cX7_mix 45 = .ok (.lstore 4, 2) := by decide +kernel
theorem dX7_mix_47 : decode cX7_mix 47 = .ok (.iinc 6 1, 3) := by decide +kernel
theorem dX7_mix_50 : decode cX7_mix 50 = .ok (.goto (-24), 3) := by decide +kernel
theorem dX7_mix_53 : decode cX7_mix 53 = .ok (.aload_n 0, 1) := by decide +kernel
theorem dX7_mix_54 : decode cX7_mix 54 = .ok (.dup, 1) := by decide +kernel
theorem dX7_mix_55 : decode cX7_mix 55 = .ok (.getfield 47, 3) := by decide +kernel
theorem dX7_mix_58 : decode cX7_mix 58 = .ok (.iload_n 3, 1) := by decide +kernel
theorem dX7_mix_59 : decode cX7_mix 59 = .ok (.iadd, 1) := by decide +kernel
theorem dX7_mix_60 : decode cX7_mix 60 = .ok (.putfield 47, 3) := by decide +kernel
theorem dX7_mix_63 : decode cX7_mix 63 = .ok (.ldc2_w 76, 3) := by decide +kernel
theorem dX7_mix_66 : decode cX7_mix 66 = .ok (.bipush 64, 2) := by decide +kernel
theorem dX7_mix_68 : decode cX7_mix 68 = .ok (.iload_n 3, 1) := by decide +kernel
theorem dX7_mix_69 : decode cX7_mix 69 = .ok (.isub, 1) := by decide +kernel
theorem dX7_mix_70 : decode cX7_mix 70 = .ok (.lushr, 1) := by decide +kernel
theorem dX7_mix_71 : decode cX7_mix 71 = .ok (.lstore 6, 2) := by decide +kernel
theorem dX7_mix_73 : decode cX7_mix 73 = .ok (.lload_n 1, 1) := by decide +kernel
theorem dX7_mix_74 : decode cX7_mix 74 = .ok (.lload 6, 2) := by decide +kernel
theorem dX7_mix_76 : decode cX7_mix 76 = .ok (.land, 1) := by decide +kernel
theorem dX7_mix_77 : decode cX7_mix 77 = .ok (.lload 4, 2) := by decide +kernel
theorem dX7_mix_79 : decode cX7_mix 79 = .ok (.lxor, 1) := by decide +kernel
theorem dX7_mix_80 : decode cX7_mix 80 = .ok (.lreturn, 1) := by decide +kernel
theorem dX7_count_0 : decode cX7_count 0 = .ok (.iload_n 1, 1) := by decide +kernel
theorem dX7_count_1 : decode cX7_count 1 = .ok (.tableswitch 57 0 3 #[31, 39, 47, 52], 31) := by decide +kernel
theorem dX7_count_32 : decode cX7_count 32 = .ok (.aload_n 0, 1) := by decide +kernel
theorem dX7_count_33 : decode cX7_count 33 = .ok (.getfield 14, 3) := by decide +kernel
theorem dX7_count_36 : decode cX7_count 36 = .ok (.invokevirtual 54, 3) := by decide +kernel
theorem dX7_count_39 : decode cX7_count 39 = .ok (.ireturn, 1) := by decide +kernel
theorem dX7_count_40 : decode cX7_count 40 = .ok (.aload_n 0, 1) := by decide +kernel
theorem dX7_count_41 : decode cX7_count 41 = .ok (.getfield 18, 3) := by decide +kernel
theorem dX7_count_44 : decode cX7_count 44 = .ok (.invokevirtual 54, 3) := by decide +kernel
theorem dX7_count_47 : decode cX7_count 47 = .ok (.ireturn, 1) := by decide +kernel
theorem dX7_count_48 : decode cX7_count 48 = .ok (.aload_n 0, 1) := by decide +kernel
theorem dX7_count_49 : decode cX7_count 49 = .ok (.getfield 43, 3) := by decide +kernel
theorem dX7_count_52 : decode cX7_count 52 = .ok (.ireturn, 1) := by decide +kernel
theorem dX7_count_53 : decode cX7_count 53 = .ok (.aload_n 0, 1) := by decide +kernel
theorem dX7_count_54 : decode cX7_count 54 = .ok (.getfield 47, 3) := by decide +kernel
theorem dX7_count_57 : decode cX7_count 57 = .ok (.ireturn, 1) := by decide +kernel
theorem dX7_count_58 : decode cX7_count 58 = .ok (.iconst (-1), 1) := by decide +kernel
theorem dX7_count_59 : decode cX7_count 59 = .ok (.ireturn, 1) := by decide +kernel
