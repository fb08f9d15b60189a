theorem dX8_init_0 : decode cX8_init 0 = .ok (.aload_n 0, 1) := by decide +kernel
theorem dX8_init_1 : decode cX8_init 1 = .ok (.invokespecial 1, 3) := by decide +kernel
theorem dX8_init_4 : decode cX8_init 4 = .ok (.aload_n 0, 1) := by decide +kernel
theorem dX8_init_5 : decode cX8_init 5 = .ok (.bipush 32, 2) := by decide +kernel
theorem dX8_init_7 : decode cX8_init 7 = .ok (.newarray .int, 2) := by decide +kernel
theorem dX8_init_9 : decode cX8_init 9 = .ok (.putfield 7, 3) := by decide +kernel
theorem dX8_init_12 : decode cX8_init 12 = .ok (.aload_n 0, 1) := by decide +kernel
theorem dX8_init_13 : decode cX8_init 13 = .ok (.bipush 12, 2) := by decide +kernel
theorem dX8_init_15 : decode cX8_init 15 = .ok (.newarray .int, 2) := by decide +kernel
theorem dX8_init_17 : decode cX8_init 17 = .ok (.putfield 13, 3) := by decide +kernel
theorem dX8_init_20 : decode cX8_init 20 = .ok (.aload_n 0, 1) := by decide +kernel
theorem dX8_init_21 : decode cX8_init 21 = .ok (.iconst (-1), 1) := by decide +kernel
theorem dX8_init_22 : decode cX8_init 22 = .ok (.putfield 16, 3) := by decide +kernel
theorem dX8_init_25 : decode cX8_init 25 = .ok (.aload_n 0, 1) := by decide +kernel
theorem dX8_init_26 : decode cX8_init 26 = .ok (.sipush 384, 3) := by decide +kernel
theorem dX8_init_29 : decode cX8_init 29 = .ok (.newarray .int, 2) := by decide +kernel
theorem dX8_init_31 : decode cX8_init 31 = .ok (.putfield 20, 3) := by decide +kernel
theorem dX8_init_34 : decode cX8_init 34 = .ok (.aload_n 0, 1) := by decide +kernel
theorem dX8_init_35 : decode cX8_init 35 = .ok (.iconst 3, 1) := by decide +kernel
theorem dX8_init_36 : decode cX8_init 36 = .ok (.newarray .int, 2) := by decide +kernel
theorem dX8_init_38 : decode cX8_init 38 = .ok (.putfield 23, 3) := by decide +kernel
theorem dX8_init_41 : decode cX8_init 41 = .ok (.aload_n 0, 1) := by decide +kernel
theorem dX8_init_42 : decode cX8_init 42 = .ok (.sipush 256, 3) := by decide +kernel
theorem dX8_init_45 : decode cX8_init 45 = .ok (.newarray .int, 2) := by decide +kernel
theorem dX8_init_47 : decode cX8_init 47 = .ok (.putfield 26, 3) := by decide +kernel
theorem dX8_init_50 : decode cX8_init 50 = .ok (.return_, 1) := by decide +kernel
theorem dX8_key_0 : decode cX8_key 0 = .ok (.iload_n 3, 1) := by decide +kernel
theorem dX8_key_1 : decode cX8_key 1 = .ok (.iconst 1, 1) := by decide +kernel
theorem dX8_key_2 : decode cX8_key 2 = .ok (.if_icmp .lt 20, 3) := by decide +kernel
theorem dX8_key_5 : decode cX8_key 5 = .ok (.iload_n 3, 1) := by decide +kernel
theorem dX8_key_6 : decode cX8_key 6 = .ok (.bipush 8, 2) := by decide +kernel
theorem dX8_key_8 : decode cX8_key 8 = .ok (.if_icmp .gt 14, 3) := by decide +kernel
theorem dX8_key_11 : decode cX8_key 11 = .ok (.aload_n 0, 1) := by decide +kernel
theorem dX8_key_12 : decode cX8_key 12 = .ok (.getfield 29, 3) := by decide +kernel
theorem dX8_key_15 : decode cX8_key 15 = .ok (.iload_n 3, 1) := by decide +kernel
theorem dX8_key_16 : decode cX8_key 16 = .ok (.iadd, 1) := by decide +kernel
theorem dX8_key_17 : decode cX8_key 17 = .ok (.bipush 32, 2) := by decide +kernel
theorem dX8_key_19 : decode cX8_key 19 = .ok (.if_icmp .le 5, 3) := by decide +kernel
theorem dX8_key_22 : decode cX8_key 22 = .ok (.iconst 0, 1) := by decide +kernel
theorem dX8_key_23 : decode cX8_key 23 = .ok (.ireturn, 1) := by decide +kernel
theorem dX8_key_24 : decode cX8_key 24 = .ok (.iload_n 3, 1) := by decide +kernel
theorem dX8_key_25 : decode cX8_key 25 = .ok (.iconst 1, 1) := by decide +kernel
theorem dX8_key_26 : decode cX8_key 26 = .ok (.isub, 1) := by decide +kernel
theorem dX8_key_27 : decode cX8_key 27 = .ok (.istore 4, 2) := by decide +kernel
theorem dX8_key_29 : decode cX8_key 29 = .ok (.iload 4, 2) := by decide +kernel
theorem dX8_key_31 : decode cX8_key 31 = .ok (.ifCond .lt 40, 3) := by decide +kernel
theorem dX8_key_34 : decode cX8_key 34 = .ok (.aload_n 0, 1) := by decide +kernel
theorem dX8_key_35 : decode cX8_key 35 = .ok (.getfield 7, 3) := by decide +kernel
theorem dX8_key_38 : decode cX8_key 38 = .ok (.aload_n 0, 1) := by decide +kernel
theorem dX8_key_39 : decode cX8_key 39 = .ok (.getfield 29, 3) := by decide +kernel
theorem dX8_key_42 : decode cX8_key 42 = .ok (.lload_n 1, 1) := by decide +kernel
theorem dX8_key_43 : decode cX8_key 43 = .ok (.bipush 8, 2) := by decide +kernel
theorem dX8_key_45 : decode cX8_key 45 = .ok (.iload 4, 2) := by decide +kernel
theorem dX8_key_47 : decode cX8_key 47 = .ok (.imul, 1) := by decide +kernel
theorem dX8_key_48 : decode cX8_key 48 = .ok (.lshr, 1) := by decide +kernel
theorem dX8_key_49 : decode cX8_key 49 = .ok (.ldc2_w 32, 3) := by decide +kernel
theorem dX8_key_52 : decode cX8_key 52 = .ok (.land, 1) := by decide +kernel
theorem dX8_key_53 : decode cX8_key 53 = .ok (.l2i, 1) := by decide +kernel
theorem dX8_key_54 : decode cX8_key 54 = .ok (.iastore, 1) := by decide +kernel
theorem dX8_key_55 : decode cX8_key 55 = .ok (.aload_n 0, 1) := by decide +kernel
theorem dX8_key_56 : decode cX8_key 56 = .ok (.dup, 1) := by decide +kernel
theorem dX8_key_57 : decode cX8_key 57 = .ok (.getfield 29, 3) := by decide +kernel
theorem dX8_key_60 : decode cX8_key 60 = .ok (.iconst 1, 1) := by decide +kernel
theorem dX8_key_61 : decode cX8_key 61 = .ok (.iadd, 1) := by decide +kernel
theorem dX8_key_62 : decode cX8_key 62 = .ok (.putfield 29, 3) := by decide +kernel
theorem dX8_key_65 : decode cX8_key 65 = .ok (.iinc 4 (-1), 3) := by decide +kernel
theorem dX8_key_68 : decode cX8_key 68 = .ok (.goto (-39), 3) := by decide +kernel
theorem dX8_key_71 : decode cX8_key 71 = .ok (.iconst 1, 1) := by decide +kernel
theorem dX8_key_72 : decode cX8_key 72 = .ok (.ireturn, 1) := by decide +kernel
theorem dX8_start_0 : decode cX8_start 0 = .ok (.iload_n 3, 1) := by decide +kernel
theorem dX8_start_1 : decode cX8_start 1 = .ok (.iconst 1, 1) := by decide +kernel
theorem dX8_start_2 : decode cX8_start 2 = .ok (.if_icmp .lt 20, 3) := by decide +kernel
theorem dX8_start_5 : decode cX8_start 5 = .ok (.iload_n 3, 1) := by decide +kernel
theorem dX8_start_6 : decode cX8_start 6 = .ok (.bipush 8, 2) := by decide +kernel
theorem dX8_start_8 : decode cX8_start 8 = .ok (.if_icmp .gt 14, 3) := by decide +kernel
theorem dX8_start_11 : decode cX8_start 11 = .ok (.aload_n 0, 1) := by decide +kernel
theorem dX8_start_12 : decode cX8_start 12 = .ok (.getfield 34, 3) := by decide +kernel
theorem dX8_start_15 : decode cX8_start 15 = .ok (.iload_n 3, 1) := by decide +kernel
theorem dX8_start_16 : decode cX8_start 16 = .ok (.iadd, 1) := by decide +kernel
theorem dX8_start_17 : decode cX8_start 17 = .ok (.bipush 12, 2) := by decide +kernel
theorem dX8_start_19 : decode cX8_start 19 = .ok (.if_icmp .le 5, 3) := by decide +kernel
theorem dX8_start_22 : decode cX8_start 22 = .ok (.iconst 0, 1) := by decide +kernel
theorem dX8_start_23 : decode cX8_start 23 = .ok (.ireturn, 1) := by decide +kernel
theorem dX8_start_24 : decode cX8_start 24 = .ok (.iload_n 3, 1) := by decide +kernel
theorem dX8_start_25 : decode cX8_start 25 = .ok (.iconst 1, 1) := by decide +kernel
theorem dX8_start_26 : decode cX8_start 26 = .ok (.isub, 1) := by decide +kernel
theorem dX8_start_27 : decode cX8_start 27 = .ok (.istore 4, 2) := by decide +kernel
theorem dX8_start_29 : decode cX8_start 29 = .ok (.iload 4, 2) := by decide +kernel
theorem dX8_start_31 : decode cX8_start 31 = .ok (.ifCond .lt 40, 3) := by decide +kernel
theorem dX8_start_34 : decode cX8_start 34 = .ok (.aload_n 0, 1) := by decide +kernel
theorem dX8_start_35 : decode cX8_start 35 = .ok (.getfield 13, 3) := by decide +kernel
theorem dX8_start_38 : decode cX8_start 38 = .ok (.aload_n 0, 1) := by decide +kernel
theorem dX8_start_39 : decode cX8_start 39 = .ok (.getfield 34, 3) := by decide +kernel
theorem dX8_start_42 : decode cX8_start 42 = .ok (.lload_n 1, 1) := by decide +kernel
theorem dX8_start_43 : decode cX8_start 43 = .ok (.bipush 8, 2) := by decide +kernel
theorem dX8_start_45 : decode cX8_start 45 = .ok (.iload 4, 2) := by decide +kernel
theorem dX8_start_47 : decode cX8_start 47 = .ok (.imul, 1) := by decide +kernel
theorem dX8_start_48 : decode cX8_start 48 = .ok (.lshr, 1) := by decide +kernel
theorem dX8_start_49 : decode cX8_start 49 = .ok (.ldc2_w 32, 3) := by decide +kernel
theorem dX8_start_52 : decode cX8_start 52 = .ok (.land, 1) := by decide +kernel
theorem dX8_start_53 : decode cX8_start 53 = .ok (.l2i, 1) := by decide +kernel
theorem dX8_start_54 : decode cX8_start 54 = .ok (.iastore, 1) := by decide +kernel
theorem dX8_start_55 : decode cX8_start 55 = .ok (.aload_n 0, 1) := by decide +kernel
theorem dX8_start_56 : decode cX8_start 56 = .ok (.dup, 1) := by decide +kernel
theorem dX8_start_57 : decode cX8_start 57 = .ok (.getfield 34, 3) := by decide +kernel
theorem dX8_start_60 : decode cX8_start 60 = .ok (.iconst 1, 1) := by decide +kernel
theorem dX8_start_61 : decode cX8_start 61 = .ok (.iadd, 1) := by decide +kernel
theorem dX8_start_62 : decode cX8_start 62 = .ok (.putfield 34, 3) := by decide +kernel
theorem dX8_start_65 : decode cX8_start 65 = .ok (.iinc 4 (-1), 3) := by decide +kernel
theorem dX8_start_68 : decode cX8_start 68 = .ok (.goto (-39), 3) := by decide +kernel
theorem dX8_start_71 : decode cX8_start 71 = .ok (.iconst 1, 1) := by decide +kernel
theorem dX8_start_72 : decode cX8_start 72 = .ok (.ireturn, 1) := by decide +kernel
theorem dX8_keyBit_0 : decode cX8_keyBit 0 = .ok (.aload_n 0, 1) := by decide +kernel
theorem dX8_keyBit_1 : decode cX8_keyBit 1 = .ok (.getfield 7, 3) := by decide +kernel
theorem dX8_keyBit_4 : decode cX8_keyBit 4 = .ok (.iload_n 1, 1) := by decide +kernel
theorem dX8_keyBit_5 : decode cX8_keyBit 5 = .ok (.bipush 8, 2) := by decide +kernel
theorem dX8_keyBit_7 : decode cX8_keyBit 7 = .ok (.idiv, 1) := by decide +kernel
theorem dX8_keyBit_8 : decode cX8_keyBit 8 = .ok (.iaload, 1) := by decide +kernel
theorem dX8_keyBit_9 : decode cX8_keyBit 9 = .ok (.bipush 7, 2) := by decide +kernel
theorem dX8_keyBit_11 : decode cX8_keyBit 11 = .ok (.iload_n 1, 1) := by decide +kernel
theorem dX8_keyBit_12 : decode cX8_keyBit 12 = .ok (.bipush 8, 2) := by decide +kernel
theorem dX8_keyBit_14 : decode cX8_keyBit 14 = .ok (.irem, 1) := by decide +kernel
theorem dX8_keyBit_15 : decode cX8_keyBit 15 = .ok (.isub, 1) := by decide +kernel
theorem dX8_keyBit_16 : decode cX8_keyBit 16 = .ok (.ishr, 1) := by decide +kernel
theorem dX8_keyBit_17 : decode cX8_keyBit 17 = .ok (.iconst 1, 1) := by decide +kernel
theorem dX8_keyBit_18 : decode cX8_keyBit 18 = .ok (.iand, 1) := by decide +kernel
theorem dX8_keyBit_19 : decode cX8_keyBit 19 = .ok (.ireturn, 1) := by decide +kernel
theorem dX8_startBit_0 : decode cX8_startBit 0 = .ok (.aload_n 0, 1) := by decide +kernel
theorem dX8_startBit_1 : decode cX8_startBit 1 = .ok (.getfield 13, 3) := by decide +kernel
theorem dX8_startBit_4 : decode cX8_startBit 4 = .ok (.iload_n 1, 1) := by decide +kernel
theorem dX8_startBit_5 : decode cX8_startBit 5 = .ok (.bipush 8, 2) := by decide +kernel
theorem dX8_startBit_7 : decode cX8_startBit 7 = .ok (.idiv, 1) := by decide +kernel
theorem dX8_startBit_8 : decode cX8_startBit 8 = .ok (.iaload, 1) := by decide +kernel
theorem dX8_startBit_9 : decode cX8_startBit 9 = .ok (.bipush 7, 2) := by decide +kernel
theorem dX8_startBit_11 : decode cX8_startBit 11 = .ok (.iload_n 1, 1) := by decide +kernel
theorem dX8_startBit_12 : decode cX8_startBit 12 = .ok (.bipush 8, 2) := by decide +kernel
theorem dX8_startBit_14 : decode cX8_startBit 14 = .ok (.irem, 1) := by decide +kernel
theorem dX8_startBit_15 : decode cX8_startBit 15 = .ok (.isub, 1) := by decide +kernel
theorem dX8_startBit_16 : decode cX8_startBit 16 = .ok (.ishr, 1) := by decide +kernel
theorem dX8_startBit_17 : decode cX8_startBit 17 = .ok (.iconst 1, 1) := by decide +kernel
theorem dX8_startBit_18 : decode cX8_startBit 18 = .ok (.iand, 1) := by decide +kernel
theorem dX8_startBit_19 : decode cX8_startBit 19 = .ok (.ireturn, 1) := by decide +kernel
theorem dX8_cell_0 : decode cX8_cell 0 = .ok (.aload_n 0, 1) := by decide +kernel
theorem dX8_cell_1 : decode cX8_cell 1 = .ok (.getfield 20, 3) := by decide +kernel
theorem dX8_cell_4 : decode cX8_cell 4 = .ok (.sipush 128, 3) := by decide +kernel
theorem dX8_cell_7 : decode cX8_cell 7 = .ok (.iload_n 1, 1) := by decide +kernel
theorem dX8_cell_8 : decode cX8_cell 8 = .ok (.imul, 1) := by decide +kernel
theorem dX8_cell_9 : decode cX8_cell 9 = .ok (.aload_n 0, 1) := by decide +kernel
theorem dX8_cell_10 : decode cX8_cell 10 = .ok (.getfield 23, 3) := by decide +kernel
theorem dX8_cell_13 : decode cX8_cell 13 = .ok (.iload_n 1, 1) := by decide +kernel
theorem dX8_cell_14 : decode cX8_cell 14 = .ok (.iaload, 1) := by decide +kernel
theorem dX8_cell_15 : decode cX8_cell 15 = .ok (.iload_n 2, 1) := by decide +kernel
theorem dX8_cell_16 : decode cX8_cell 16 = .ok (.iadd, 1) := by decide +kernel
theorem dX8_cell_17 : decode cX8_cell 17 = .ok (.bipush 127, 2) := by decide +kernel
theorem dX8_cell_19 : decode cX8_cell 19 = .ok (.iand, 1) := by decide +kernel
theorem dX8_cell_20 : decode cX8_cell 20 = .ok (.iadd, 1) := by decide +kernel
theorem dX8_cell_21 : decode cX8_cell 21 = .ok (.iaload, 1) := by decide +kernel
theorem dX8_cell_22 : decode cX8_cell 22 = .ok (.ireturn, 1) := by decide +kernel
theorem dX8_put_0 : decode cX8_put 0 = .ok (.aload_n 0, 1) := by decide +kernel
theorem dX8_put_1 : decode cX8_put 1 = .ok (.getfield 20, 3) := by decide +kernel
theorem dX8_put_4 : decode cX8_put 4 = .ok (.sipush 128, 3) := by decide +kernel
theorem dX8_put_7 : decode cX8_put 7 = .ok (.iload_n 1, 1) := by decide +kernel
theorem dX8_put_8 : decode cX8_put 8 = .ok (.imul, 1) := by decide +kernel
theorem dX8_put_9 : decode cX8_put 9 = .ok (.aload_n 0, 1) := by decide +kernel
theorem dX8_put_10 : decode cX8_put 10 = .ok (.getfield 23, 3) := by decide +kernel
theorem dX8_put_13 : decode cX8_put 13 = .ok (.iload_n 1, 1) := by decide +kernel
theorem dX8_put_14 : decode cX8_put 14 = .ok (.iaload, 1) := by decide +kernel
theorem dX8_put_15 : decode cX8_put 15 = .ok (.iload_n 2, 1) := by decide +kernel
theorem dX8_put_16 : decode cX8_put 16 = .ok (.iadd, 1) := by decide +kernel
theorem dX8_put_17 : decode cX8_put 17 = .ok (.bipush 127, 2) := by decide +kernel
theorem dX8_put_19 : decode cX8_put 19 = .ok (.iand, 1) := by decide +kernel
theorem dX8_put_20 : decode cX8_put 20 = .ok (.iadd, 1) := by decide +kernel
theorem dX8_put_21 : decode cX8_put 21 = .ok (.iload_n 3, 1) := by decide +kernel
theorem dX8_put_22 : decode cX8_put 22 = .ok (.iastore, 1) := by decide +kernel
theorem dX8_put_23 : decode cX8_put 23 = .ok (.return_, 1) := by decide +kernel
theorem dX8_up_0 : decode cX8_up 0 = .ok (.aload_n 0, 1) := by decide +kernel
theorem dX8_up_1 : decode cX8_up 1 = .ok (.getfield 23, 3) := by decide +kernel
theorem dX8_up_4 : decode cX8_up 4 = .ok (.iload_n 1, 1) := by decide +kernel
theorem dX8_up_5 : decode cX8_up 5 = .ok (.aload_n 0, 1) := by decide +kernel
theorem dX8_up_6 : decode cX8_up 6 = .ok (.getfield 23, 3) := by decide +kernel
theorem dX8_up_9 : decode cX8_up 9 = .ok (.iload_n 1, 1) := by decide +kernel
theorem dX8_up_10 : decode cX8_up 10 = .ok (.iaload, 1) := by decide +kernel
theorem dX8_up_11 : decode cX8_up 11 = .ok (.iconst 1, 1) := by decide +kernel
theorem dX8_up_12 : decode cX8_up 12 = .ok (.isub, 1) := by decide +kernel
theorem dX8_up_13 : decode cX8_up 13 = .ok (.bipush 127, 2) := by decide +kernel
theorem dX8_up_15 : decode cX8_up 15 = .ok (.iand, 1) := by decide +kernel
theorem dX8_up_16 : decode cX8_up 16 = .ok (.iastore, 1) := by decide +kernel
theorem dX8_up_17 : decode cX8_up 17 = .ok (.aload_n 0, 1) := by decide +kernel
theorem dX8_up_18 : decode cX8_up 18 = .ok (.iload_n 1, 1) := by decide +kernel
theorem dX8_up_19 : decode cX8_up 19 = .ok (.iconst 0, 1) := by decide +kernel
theorem dX8_up_20 : decode cX8_up 20 = .ok (.iload_n 2, 1) := by decide +kernel
theorem dX8_up_21 : decode cX8_up 21 = .ok (.invokevirtual 37, 3) := by decide +kernel
theorem dX8_up_24 : decode cX8_up 24 = .ok (.return_, 1) := by decide +kernel
theorem dX8_down_0 : decode cX8_down 0 = .ok (.aload_n 0, 1) := by decide +kernel
theorem dX8_down_1 : decode cX8_down 1 = .ok (.getfield 23, 3) := by decide +kernel
theorem dX8_down_4 : decode cX8_down 4 = .ok (.iload_n 1, 1) := by decide +kernel
theorem dX8_down_5 : decode cX8_down 5 = .ok (.aload_n 0, 1) := by decide +kernel
theorem dX8_down_6 : decode cX8_down 6 = .ok (.getfield 23, 3) := by decide +kernel
theorem dX8_down_9 : decode cX8_down 9 = .ok (.iload_n 1, 1) := by decide +kernel
theorem dX8_down_10 : decode cX8_down 10 = .ok (.iaload, 1) := by decide +kernel
theorem dX8_down_11 : decode cX8_down 11 = .ok (.iconst 1, 1) := by decide +kernel
theorem dX8_down_12 : decode cX8_down 12 = .ok (.iadd, 1) := by decide +kernel
theorem dX8_down_13 : decode cX8_down 13 = .ok (.bipush 127, 2) := by decide +kernel
theorem dX8_down_15 : decode cX8_down 15 = .ok (.iand, 1) := by decide +kernel
theorem dX8_down_16 : decode cX8_down 16 = .ok (.iastore, 1) := by decide +kernel
theorem dX8_down_17 : decode cX8_down 17 = .ok (.aload_n 0, 1) := by decide +kernel
theorem dX8_down_18 : decode cX8_down 18 = .ok (.iload_n 1, 1) := by decide +kernel
theorem dX8_down_19 : decode cX8_down 19 = .ok (.bipush 127, 2) := by decide +kernel
theorem dX8_down_21 : decode cX8_down 21 = .ok (.iload_n 2, 1) := by decide +kernel
theorem dX8_down_22 : decode cX8_down 22 = .ok (.invokevirtual 37, 3) := by decide +kernel
theorem dX8_down_25 : decode cX8_down 25 = .ok (.return_, 1) := by decide +kernel
theorem dX8_clean_0 : decode cX8_clean 0 = .ok (.iconst 0, 1) := by decide +kernel
theorem dX8_clean_1 : decode cX8_clean 1 = .ok (.istore_n 1, 1) := by decide +kernel
theorem dX8_clean_2 : decode cX8_clean 2 = .ok (.iload_n 1, 1) := by decide +kernel
theorem dX8_clean_3 : decode cX8_clean 3 = .ok (.sipush 384, 3) := by decide +kernel
theorem dX8_clean_6 : decode cX8_clean 6 = .ok (.if_icmp .ge 16, 3) := by decide +kernel
theorem dX8_clean_9 : decode cX8_clean 9 = .ok (.aload_n 0, 1) := by decide +kernel
theorem dX8_clean_10 : decode cX8_clean 10 = .ok (.getfield 20, 3) := by decide +kernel
theorem dX8_clean_13 : decode cX8_clean 13 = .ok (.iload_n 1, 1) := by decide +kernel
theorem dX8_clean_14 : decode cX8_clean 14 = .ok (.iconst 0, 1) := by decide +kernel
theorem dX8_clean_15 : decode cX8_clean 15 = .ok (.iastore, 1) := by decide +kernel
theorem dX8_clean_16 : decode cX8_clean 16 = .ok (.iinc 1 1, 3) := by decide +kernel
theorem dX8_clean_19 : decode cX8_clean 19 = .ok (.goto (-17), 3) := by decide +kernel
theorem dX8_clean_22 : decode cX8_clean 22 = .ok (.iconst 0, 1) := by decide +kernel
theorem dX8_clean_23 : decode cX8_clean 23 = .ok (.istore_n 1, 1) := by decide +kernel
theorem dX8_clean_24 : decode cX8_clean 24 = .ok (.iload_n 1, 1) := by decide +kernel
theorem dX8_clean_25 : decode cX8_clean 25 = .ok (.iconst 3, 1) := by decide +kernel
theorem dX8_clean_26 : decode cX8_clean 26 = .ok (.if_icmp .ge 16, 3) := by decide +kernel
theorem dX8_clean_29 : decode cX8_clean 29 = .ok (.aload_n 0, 1) := by decide +kernel
theorem dX8_clean_30 : decode cX8_clean 30 = .ok (.getfield 23, 3) := by decide +kernel
theorem dX8_clean_33 : decode cX8_clean 33 = .ok (.iload_n 1, 1) := by decide +kernel
theorem dX8_clean_34 : decode cX8_clean 34 = .ok (.iconst 0, 1) := by decide +kernel
theorem dX8_clean_35 : decode cX8_clean 35 = .ok (.iastore, 1) := by decide +kernel
theorem dX8_clean_36 : decode cX8_clean 36 = .ok (.iinc 1 1, 3) := by decide +kernel
theorem dX8_clean_39 : decode cX8_clean 39 = .ok (.goto (-15), 3) := by decide +kernel
theorem dX8_clean_42 : decode cX8_clean 42 = .ok (.return_, 1) := by decide +kernel
theorem dX8_s_0 : decode cX8_s 0 = .ok (.iload_n 1, 1) := by decide +kernel
theorem dX8_s_1 : decode cX8_s 1 = .ok (.bipush 93, 2) := by decide +kernel
theorem dX8_s_3 : decode cX8_s 3 = .ok (.if_icmp .gt 14, 3) := by decide +kernel
theorem dX8_s_6 : decode cX8_s 6 = .ok (.aload_n 0, 1) := by decide +kernel
theorem dX8_s_7 : decode cX8_s 7 = .ok (.iconst 0, 1) := by decide +kernel
theorem dX8_s_8 : decode cX8_s 8 = .ok (.iload_n 1, 1) := by decide +kernel
theorem dX8_s_9 : decode cX8_s 9 = .ok (.iconst 1, 1) := by decide +kernel
theorem dX8_s_10 : decode cX8_s 10 = .ok (.isub, 1) := by decide +kernel
theorem dX8_s_11 : decode cX8_s 11 = .ok (.invokevirtual 41, 3) := by decide +kernel
theorem dX8_s_14 : decode cX8_s 14 = .ok (.goto 32, 3) := by decide +kernel
theorem dX8_s_17 : decode cX8_s 17 = .ok (.iload_n 1, 1) := by decide +kernel
theorem dX8_s_18 : decode cX8_s 18 = .ok (.sipush 177, 3) := by decide +kernel
theorem dX8_s_21 : decode cX8_s 21 = .ok (.if_icmp .gt 15, 3) := by decide +kernel
theorem dX8_s_24 : decode cX8_s 24 = .ok (.aload_n 0, 1) := by decide +kernel
theorem dX8_s_25 : decode cX8_s 25 = .ok (.iconst 1, 1) := by decide +kernel
theorem dX8_s_26 : decode cX8_s 26 = .ok (.iload_n 1, 1) := by decide +kernel
theorem dX8_s_27 : decode cX8_s 27 = .ok (.bipush 94, 2) := by decide +kernel
theorem dX8_s_29 : decode cX8_s 29 = .ok (.isub, 1) := by decide +kernel
theorem dX8_s_30 : decode cX8_s 30 = .ok (.invokevirtual 41, 3) := by decide +kernel
theorem dX8_s_33 : decode cX8_s 33 = .ok (.goto 13, 3) := by decide +kernel
theorem dX8_s_36 : decode cX8_s 36 = .ok (.aload_n 0, 1) := by decide +kernel
theorem dX8_s_37 : decode cX8_s 37 = .ok (.iconst 2, 1) := by decide +kernel
theorem dX8_s_38 : decode cX8_s 38 = .ok (.iload_n 1, 1) := by decide +kernel
theorem dX8_s_39 : decode cX8_s 39 = .ok (.sipush 178, 3) := by decide +kernel
theorem dX8_s_42 : decode cX8_s 42 = .ok (.isub, 1) := by decide +kernel
theorem dX8_s_43 : decode cX8_s 43 = .ok (.invokevirtual 41, 3) := by decide +kernel
theorem dX8_s_46 : decode cX8_s 46 = .ok (.ireturn, 1) := by decide +kernel
theorem dX8_stepRings_0 : decode cX8_stepRings 0 = .ok (.aload_n 0, 1) := by decide +kernel
theorem dX8_stepRings_1 : decode cX8_stepRings 1 = .ok (.bipush 66, 2) := by decide +kernel
theorem dX8_stepRings_3 : decode cX8_stepRings 3 = .ok (.invokevirtual 45, 3) := by decide +kernel
theorem dX8_stepRings_6 : decode cX8_stepRings 6 = .ok (.aload_n 0, 1) := by decide +kernel
theorem dX8_stepRings_7 : decode cX8_stepRings 7 = .ok (.bipush 93, 2) := by decide +kernel
theorem dX8_stepRings_9 : decode cX8_stepRings 9 = .ok (.invokevirtual 45, 3) := by decide +kernel
theorem dX8_stepRings_12 : decode cX8_stepRings 12 = .ok (.ixor, 1) := by decide +kernel
theorem dX8_stepRings_13 : decode cX8_stepRings 13 = .ok (.istore_n 1, 1) := by decide +kernel
theorem dX8_stepRings_14 : decode cX8_stepRings 14 = .ok (.aload_n 0, 1) := by decide +kernel
theorem dX8_stepRings_15 : decode cX8_stepRings 15 = .ok (.sipush 162, 3) := by decide +kernel
theorem dX8_stepRings_18 : decode cX8_stepRings 18 = .ok (.invokevirtual 45, 3) := by decide +kernel
theorem dX8_stepRings_21 : decode cX8_stepRings 21 = .ok (.aload_n 0, 1) := by decide +kernel
theorem dX8_stepRings_22 : decode cX8_stepRings 22 = .ok (.sipush 177, 3) := by decide +kernel
theorem dX8_stepRings_25 : decode cX8_stepRings 25 = .ok (.invokevirtual 45, 3) := by decide +kernel
theorem dX8_stepRings_28 : decode cX8_stepRings 28 = .ok (.ixor, 1) := by decide +kernel
theorem dX8_stepRings_29 : decode cX8_stepRings 29 = .ok (.istore_n 2, 1) := by decide +kernel
theorem dX8_stepRings_30 : decode cX8_stepRings 30 = .ok (.aload_n 0, 1) := by decide +kernel
theorem dX8_stepRings_31 : decode cX8_stepRings 31 = .ok (.sipush 243, 3) := by decide +kernel
theorem dX8_stepRings_34 : decode cX8_stepRings 34 = .ok (.invokevirtual 45, 3) := by decide +kernel
theorem dX8_stepRings_37 : decode cX8_stepRings 37 = .ok (.aload_n 0, 1) := by decide +kernel
theorem dX8_stepRings_38 : decode cX8_stepRings 38 = .ok (.sipush 288, 3) := by decide +kernel
theorem dX8_stepRings_41 : decode cX8_stepRings 41 = .ok (.invokevirtual 45, 3) := by decide +kernel
theorem dX8_stepRings_44 : decode cX8_stepRings 44 = .ok (.ixor, 1) := by decide +kernel
theorem dX8_stepRings_45 : decode cX8_stepRings 45 = .ok (.istore_n 3, 1) := by decide +kernel
theorem dX8_stepRings_46 : decode cX8_stepRings 46 = .ok (.iload_n 1, 1) := by decide +kernel
theorem dX8_stepRings_47 : decode cX8_stepRings 47 = .ok (.iload_n 2, 1) := by decide +kernel
theorem dX8_stepRings_48 : decode cX8_stepRings 48 = .ok (.ixor, 1) := by decide +kernel
theorem dX8_stepRings_49 : decode cX8_stepRings 49 = .ok (.iload_n 3, 1) := by decide +kernel
theorem dX8_stepRings_50 : decode cX8_stepRings 50 = .ok (.ixor, 1) := by decide +kernel
theorem dX8_stepRings_51 : decode cX8_stepRings 51 = .ok (.istore 4, 2) := by decide +kernel
theorem dX8_stepRings_53 : decode cX8_stepRings 53 = .ok (.iload_n 1, 1) := by decide +kernel
theorem dX8_stepRings_54 : decode cX8_stepRings 54 = .ok (.aload_n 0, 1) := by decide +kernel
theorem dX8_stepRings_55 : decode cX8_stepRings 55 = .ok (.bipush 91, 2) := by decide +kernel
theorem dX8_stepRings_57 : decode cX8_stepRings 57 = .ok (.invokevirtual 45, 3) := by decide +kernel
theorem dX8_stepRings_60 : decode cX8_stepRings 60 = .ok (.aload_n 0, 1) := by decide +kernel
theorem dX8_stepRings_61 : decode cX8_stepRings 61 = .ok (.bipush 92, 2) := by decide +kernel
theorem dX8_stepRings_63 : decode cX8_stepRings 63 = .ok (.invokevirtual 45, 3) := by decide +kernel
theorem dX8_stepRings_66 : decode cX8_stepRings 66 = .ok (.iand, 1) := by decide +kernel
theorem dX8_stepRings_67 : decode cX8_stepRings 67 = .ok (.ixor, 1) := by decide +kernel
theorem dX8_stepRings_68 : decode cX8_stepRings 68 = .ok (.aload_n 0, 1) := by decide +kernel
theorem dX8_stepRings_69 : decode cX8_stepRings 69 = .ok (.sipush 171, 3) := by decide +kernel
theorem dX8_stepRings_72 : decode cX8_stepRings 72 = .ok (.invokevirtual 45, 3) := by decide +kernel
theorem dX8_stepRings_75 : decode cX8_stepRings 75 = .ok (.ixor, 1) := by decide +kernel
theorem dX8_stepRings_76 : decode cX8_stepRings 76 = .ok (.istore_n 1, 1) := by decide +kernel
theorem dX8_stepRings_77 : decode cX8_stepRings 77 = .ok (.iload_n 2, 1) := by decide +kernel
theorem dX8_stepRings_78 : decode cX8_stepRings 78 = .ok (.aload_n 0, 1) := by decide +kernel
theorem dX8_stepRings_79 : decode cX8_stepRings 79 = .ok (.sipush 175, 3) := by decide +kernel
theorem dX8_stepRings_82 : decode cX8_stepRings 82 = .ok (.invokevirtual 45, 3) := by decide +kernel
theorem dX8_stepRings_85 : decode cX8_stepRings 85 = .ok (.aload_n 0, 1) := by decide +kernel
theorem dX8_stepRings_86 : decode cX8_stepRings 86 = .ok (.sipush 176, 3) := by decide +kernel
theorem dX8_stepRings_89 : decode cX8_stepRings 89 = .ok (.invokevirtual 45, 3) := by decide +kernel
theorem dX8_stepRings_92 : decode cX8_stepRings 92 = .ok (.iand, 1) := by decide +kernel
theorem dX8_stepRings_93 : decode cX8_stepRings 93 = .ok (.ixor, 1) := by decide +kernel
theorem dX8_stepRings_94 : decode cX8_stepRings 94 = .ok (.aload_n 0, 1) := by decide +kernel
theorem dX8_stepRings_95 : decode cX8_stepRings 95 = .ok (.sipush 264, 3) := by decide +kernel
theorem dX8_stepRings_98 : decode cX8_stepRings 98 = .ok (.invokevirtual 45, 3) := by decide +kernel
theorem dX8_stepRings_101 : decode cX8_stepRings 101 = .ok (.ixor, 1) := by decide +kernel
theorem dX8_stepRings_102 : decode cX8_stepRings 102 = .ok (.istore_n 2, 1) := by decide +kernel
theorem dX8_stepRings_103 : decode cX8_stepRings 103 = .ok (.iload_n 3, 1) := by decide +kernel
theorem dX8_stepRings_104 : decode cX8_stepRings 104 = .ok (.aload_n 0, 1) := by decide +kernel
theorem dX8_stepRings_105 : decode cX8_stepRings 105 = .ok (.sipush 286, 3) := by decide +kernel
theorem dX8_stepRings_108 : decode cX8_stepRings 108 = .ok (.invokevirtual 45, 3) := by decide +kernel
theorem dX8_stepRings_111 : decode cX8_stepRings 111 = .ok (.aload_n 0, 1) := by decide +kernel
theorem dX8_stepRings_112 : decode cX8_stepRings 112 = .ok (.sipush 287, 3) := by decide +kernel
theorem dX8_stepRings_115 : decode cX8_stepRings 115 = .ok (.invokevirtual 45, 3) := by decide +kernel
theorem dX8_stepRings_118 : decode cX8_stepRings 118 = .ok (.iand, 1) := by decide +kernel
theorem dX8_stepRings_119 : decode cX8_stepRings 119 = .ok (.ixor, 1) := by decide +kernel
theorem dX8_stepRings_120 : decode cX8_stepRings 120 = .ok (.aload_n 0, 1) := by decide +kernel
theorem dX8_stepRings_121 : decode cX8_stepRings 121 = .ok (.bipush 69, 2) := by decide +kernel
theorem dX8_stepRings_123 : decode cX8_stepRings 123 = .ok (.invokevirtual 45, 3) := by decide +kernel
theorem dX8_stepRings_126 : decode cX8_stepRings 126 = .ok (.ixor, 1) := by decide +kernel
theorem dX8_stepRings_127 : decode cX8_stepRings 127 = .ok (.istore_n 3, 1) := by decide +kernel
theorem dX8_stepRings_128 : decode cX8_stepRings 128 = .ok (.aload_n 0, 1) := by decide +kernel
theorem dX8_stepRings_129 : decode cX8_stepRings 129 = .ok (.iconst 0, 1) := by decide +kernel
theorem dX8_stepRings_130 : decode cX8_stepRings 130 = .ok (.iload_n 3, 1) := by decide +kernel
theorem dX8_stepRings_131 : decode cX8_stepRings 131 = .ok (.invokevirtual 49, 3) := by decide +kernel
theorem dX8_stepRings_134 : decode cX8_stepRings 134 = .ok (.aload_n 0, 1) := by decide +kernel
theorem dX8_stepRings_135 : decode cX8_stepRings 135 = .ok (.iconst 1, 1) := by decide +kernel
theorem dX8_stepRings_136 : decode cX8_stepRings 136 = .ok (.iload_n 1, 1) := by decide +kernel
theorem dX8_stepRings_137 : decode cX8_stepRings 137 = .ok (.invokevirtual 49, 3) := by decide +kernel
theorem dX8_stepRings_140 : decode cX8_stepRings 140 = .ok (.aload_n 0, 1) := by decide +kernel
theorem dX8_stepRings_141 : decode cX8_stepRings 141 = .ok (.iconst 2, 1) := by decide +kernel
theorem dX8_stepRings_142 : decode cX8_stepRings 142 = .ok (.iload_n 2, 1) := by decide +kernel
theorem dX8_stepRings_143 : decode cX8_stepRings 143 = .ok (.invokevirtual 49, 3) := by decide +kernel
theorem dX8_stepRings_146 : decode cX8_stepRings 146 = .ok (.iload 4, 2) := by decide +kernel
theorem dX8_stepRings_148 : decode cX8_stepRings 148 = .ok (.ireturn, 1) := by decide +kernel
theorem dX8_b_0 : decode cX8_b 0 = .ok (.aload_n 0, 1) := by decide +kernel
theorem dX8_b_1 : decode cX8_b 1 = .ok (.iconst 0, 1) := by decide +kernel
theorem dX8_b_2 : decode cX8_b 2 = .ok (.iload_n 1, 1) := by decide +kernel
theorem dX8_b_3 : decode cX8_b 3 = .ok (.invokevirtual 41, 3) := by decide +kernel
theorem dX8_b_6 : decode cX8_b 6 = .ok (.ireturn, 1) := by decide +kernel
theorem dX8_t_0 : decode cX8_t 0 = .ok (.aload_n 0, 1) := by decide +kernel
theorem dX8_t_1 : decode cX8_t 1 = .ok (.iconst 1, 1) := by decide +kernel
theorem dX8_t_2 : decode cX8_t 2 = .ok (.iload_n 1, 1) := by decide +kernel
theorem dX8_t_3 : decode cX8_t 3 = .ok (.invokevirtual 41, 3) := by decide +kernel
theorem dX8_t_6 : decode cX8_t 6 = .ok (.ireturn, 1) := by decide +kernel
theorem dX8_stepTwo_0 : decode cX8_stepTwo 0 = .ok (.aload_n 0, 1) := by decide +kernel
theorem dX8_stepTwo_1 : decode cX8_stepTwo 1 = .ok (.bipush 12, 2) := by decide +kernel
theorem dX8_stepTwo_3 : decode cX8_stepTwo 3 = .ok (.invokevirtual 53, 3) := by decide +kernel
theorem dX8_stepTwo_6 : decode cX8_stepTwo 6 = .ok (.aload_n 0, 1) := by decide +kernel
theorem dX8_stepTwo_7 : decode cX8_stepTwo 7 = .ok (.bipush 8, 2) := by decide +kernel
theorem dX8_stepTwo_9 : decode cX8_stepTwo 9 = .ok (.invokevirtual 56, 3) := by decide +kernel
theorem dX8_stepTwo_12 : decode cX8_stepTwo 12 = .ok (.iand, 1) := by decide +kernel
theorem dX8_stepTwo_13 : decode cX8_stepTwo 13 = .ok (.aload_n 0, 1) := by decide +kernel
theorem dX8_stepTwo_14 : decode cX8_stepTwo 14 = .ok (.bipush 13, 2) := by decide +kernel
theorem dX8_stepTwo_16 : decode cX8_stepTwo 16 = .ok (.invokevirtual 56, 3) := by decide +kernel
theorem dX8_stepTwo_19 : decode cX8_stepTwo 19 = .ok (.aload_n 0, 1) := by decide +kernel
theorem dX8_stepTwo_20 : decode cX8_stepTwo 20 = .ok (.bipush 20, 2) := by decide +kernel
theorem dX8_stepTwo_22 : decode cX8_stepTwo 22 = .ok (.invokevirtual 56, 3) := by decide +kernel
theorem dX8_stepTwo_25 : decode cX8_stepTwo 25 = .ok (.iand, 1) := by decide +kernel
theorem dX8_stepTwo_26 : decode cX8_stepTwo 26 = .ok (.ixor, 1) := by decide +kernel
theorem dX8_stepTwo_27 : decode cX8_stepTwo 27 = .ok (.aload_n 0, 1) := by decide +kernel
theorem dX8_stepTwo_28 : decode cX8_stepTwo 28 = .ok (.bipush 95, 2) := by decide +kernel
theorem dX8_stepTwo_30 : decode cX8_stepTwo 30 = .ok (.invokevirtual 53, 3) := by decide +kernel
theorem dX8_stepTwo_33 : decode cX8_stepTwo 33 = .ok (.aload_n 0, 1) := by decide +kernel
theorem dX8_stepTwo_34 : decode cX8_stepTwo 34 = .ok (.bipush 42, 2) := by decide +kernel
theorem dX8_stepTwo_36 : decode cX8_stepTwo 36 = .ok (.invokevirtual 56, 3) := by decide +kernel
theorem dX8_stepTwo_39 : decode cX8_stepTwo 39 = .ok (.iand, 1) := by decide +kernel
theorem dX8_stepTwo_40 : decode cX8_stepTwo 40 = .ok (.ixor, 1) := by decide +kernel
theorem dX8_stepTwo_41 : decode cX8_stepTwo 41 = .ok (.aload_n 0, 1) := by decide +kernel
theorem dX8_stepTwo_42 : decode cX8_stepTwo 42 = .ok (.bipush 60, 2) := by decide +kernel
theorem dX8_stepTwo_44 : decode cX8_stepTwo 44 = .ok (.invokevirtual 56, 3) := by decide +kernel
theorem dX8_stepTwo_47 : decode cX8_stepTwo 47 = .ok (.aload_n 0, 1) := by decide +kernel
theorem dX8_stepTwo_48 : decode cX8_stepTwo 48 = .ok (.bipush 79, 2) := by decide +kernel
theorem dX8_stepTwo_50 : decode cX8_stepTwo 50 = .ok (.invokevirtual 56, 3) := by decide +kernel
theorem dX8_stepTwo_53 : decode cX8_stepTwo 53 = .ok (.iand, 1) := by decide +kernel
theorem dX8_stepTwo_54 : decode cX8_stepTwo 54 = .ok (.ixor, 1) := by decide +kernel
theorem dX8_stepTwo_55 : decode cX8_stepTwo 55 = .ok (.aload_n 0, 1) := by decide +kernel
theorem dX8_stepTwo_56 : decode cX8_stepTwo 56 = .ok (.bipush 12, 2) := by decide +kernel
theorem dX8_stepTwo_58 : decode cX8_stepTwo 58 = .ok (.invokevirtual 53, 3) := by decide +kernel
theorem dX8_stepTwo_61 : decode cX8_stepTwo 61 = .ok (.aload_n 0, 1) := by decide +kernel
theorem dX8_stepTwo_62 : decode cX8_stepTwo 62 = .ok (.bipush 95, 2) := by decide +kernel
theorem dX8_stepTwo_64 : decode cX8_stepTwo 64 = .ok (.invokevirtual 53, 3) := by decide +kernel
theorem dX8_stepTwo_67 : decode cX8_stepTwo 67 = .ok (.iand, 1) := by decide +kernel
theorem dX8_stepTwo_68 : decode cX8_stepTwo 68 = .ok (.aload_n 0, 1) := by decide +kernel
theorem dX8_stepTwo_69 : decode cX8_stepTwo 69 = .ok (.bipush 94, 2) := by decide +kernel
theorem dX8_stepTwo_71 : decode cX8_stepTwo 71 = .ok (.invokevirtual 56, 3) := by decide +kernel
theorem dX8_stepTwo_74 : decode cX8_stepTwo 74 = .ok (.iand, 1) := by decide +kernel
theorem dX8_stepTwo_75 : decode cX8_stepTwo 75 = .ok (.ixor, 1) := by decide +kernel
theorem dX8_stepTwo_76 : decode cX8_stepTwo 76 = .ok (.aload_n 0, 1) := by decide +kernel
theorem dX8_stepTwo_77 : decode cX8_stepTwo 77 = .ok (.bipush 93, 2) := by decide +kernel
theorem dX8_stepTwo_79 : decode cX8_stepTwo 79 = .ok (.invokevirtual 56, 3) := by decide +kernel
theorem dX8_stepTwo_82 : decode cX8_stepTwo 82 = .ok (.ixor, 1) := by decide +kernel
theorem dX8_stepTwo_83 : decode cX8_stepTwo 83 = .ok (.istore_n 2, 1) := by decide +kernel
theorem dX8_stepTwo_84 : decode cX8_stepTwo 84 = .ok (.iload_n 2, 1) := by decide +kernel
theorem dX8_stepTwo_85 : decode cX8_stepTwo 85 = .ok (.aload_n 0, 1) := by decide +kernel
theorem dX8_stepTwo_86 : decode cX8_stepTwo 86 = .ok (.iconst 2, 1) := by decide +kernel
theorem dX8_stepTwo_87 : decode cX8_stepTwo 87 = .ok (.invokevirtual 53, 3) := by decide +kernel
theorem dX8_stepTwo_90 : decode cX8_stepTwo 90 = .ok (.ixor, 1) := by decide +kernel
theorem dX8_stepTwo_91 : decode cX8_stepTwo 91 = .ok (.aload_n 0, 1) := by decide +kernel
theorem dX8_stepTwo_92 : decode cX8_stepTwo 92 = .ok (.bipush 15, 2) := by decide +kernel
theorem dX8_stepTwo_94 : decode cX8_stepTwo 94 = .ok (.invokevirtual 53, 3) := by decide +kernel
theorem dX8_stepTwo_97 : decode cX8_stepTwo 97 = .ok (.ixor, 1) := by decide +kernel
theorem dX8_stepTwo_98 : decode cX8_stepTwo 98 = .ok (.aload_n 0, 1) := by decide +kernel
theorem dX8_stepTwo_99 : decode cX8_stepTwo 99 = .ok (.bipush 36, 2) := by decide +kernel
theorem dX8_stepTwo_101 : decode cX8_stepTwo 101 = .ok (.invokevirtual 53, 3) := by decide +kernel
theorem dX8_stepTwo_104 : decode cX8_stepTwo 104 = .ok (.ixor, 1) := by decide +kernel
theorem dX8_stepTwo_105 : decode cX8_stepTwo 105 = .ok (.aload_n 0, 1) := by decide +kernel
theorem dX8_stepTwo_106 : decode cX8_stepTwo 106 = .ok (.bipush 45, 2) := by decide +kernel
theorem dX8_stepTwo_108 : decode cX8_stepTwo 108 = .ok (.invokevirtual 53, 3) := by decide +kernel
theorem dX8_stepTwo_111 : decode cX8_stepTwo 111 = .ok (.ixor, 1) := by decide +kernel
theorem dX8_stepTwo_112 : decode cX8_stepTwo 112 = .ok (.aload_n 0, 1) := by decide +kernel
theorem dX8_stepTwo_113 : decode cX8_stepTwo 113 = .ok (.bipush 64, 2) := by decide +kernel
theorem dX8_stepTwo_115 : decode cX8_stepTwo 115 = .ok (.invokevirtual 53, 3) := by decide +kernel
theorem dX8_stepTwo_118 : decode cX8_stepTwo 118 = .ok (.ixor, 1) := by decide +kernel
theorem dX8_stepTwo_119 : decode cX8_stepTwo 119 = .ok (.aload_n 0, 1) := by decide +kernel
theorem dX8_stepTwo_120 : decode cX8_stepTwo 120 = .ok (.bipush 73, 2) := by decide +kernel
theorem dX8_stepTwo_122 : decode cX8_stepTwo 122 = .ok (.invokevirtual 53, 3) := by decide +kernel
theorem dX8_stepTwo_125 : decode cX8_stepTwo 125 = .ok (.ixor, 1) := by decide +kernel
theorem dX8_stepTwo_126 : decode cX8_stepTwo 126 = .ok (.aload_n 0, 1) := by decide +kernel
theorem dX8_stepTwo_127 : decode cX8_stepTwo 127 = .ok (.bipush 89, 2) := by decide +kernel
theorem dX8_stepTwo_129 : decode cX8_stepTwo 129 = .ok (.invokevirtual 53, 3) := by decide +kernel
theorem dX8_stepTwo_132 : decode cX8_stepTwo 132 = .ok (.ixor, 1) := by decide +kernel
theorem dX8_stepTwo_133 : decode cX8_stepTwo 133 = .ok (.istore_n 2, 1) := by decide +kernel
theorem dX8_stepTwo_134 : decode cX8_stepTwo 134 = .ok (.aload_n 0, 1) := by decide +kernel
theorem dX8_stepTwo_135 : decode cX8_stepTwo 135 = .ok (.iconst 0, 1) := by decide +kernel
theorem dX8_stepTwo_136 : decode cX8_stepTwo 136 = .ok (.invokevirtual 56, 3) := by decide +kernel
theorem dX8_stepTwo_139 : decode cX8_stepTwo 139 = .ok (.aload_n 0, 1) := by decide +kernel
theorem dX8_stepTwo_140 : decode cX8_stepTwo 140 = .ok (.bipush 7, 2) := by decide +kernel
theorem dX8_stepTwo_142 : decode cX8_stepTwo 142 = .ok (.invokevirtual 56, 3) := by decide +kernel
theorem dX8_stepTwo_145 : decode cX8_stepTwo 145 = .ok (.ixor, 1) := by decide +kernel
theorem dX8_stepTwo_146 : decode cX8_stepTwo 146 = .ok (.aload_n 0, 1) := by decide +kernel
theorem dX8_stepTwo_147 : decode cX8_stepTwo 147 = .ok (.bipush 38, 2) := by decide +kernel
theorem dX8_stepTwo_149 : decode cX8_stepTwo 149 = .ok (.invokevirtual 56, 3) := by decide +kernel
theorem dX8_stepTwo_152 : decode cX8_stepTwo 152 = .ok (.ixor, 1) := by decide +kernel
theorem dX8_stepTwo_153 : decode cX8_stepTwo 153 = .ok (.aload_n 0, 1) := by decide +kernel
theorem dX8_stepTwo_154 : decode cX8_stepTwo 154 = .ok (.bipush 70, 2) := by decide +kernel
theorem dX8_stepTwo_156 : decode cX8_stepTwo 156 = .ok (.invokevirtual 56, 3) := by decide +kernel
theorem dX8_stepTwo_159 : decode cX8_stepTwo 159 = .ok (.ixor, 1) := by decide +kernel
theorem dX8_stepTwo_160 : decode cX8_stepTwo 160 = .ok (.aload_n 0, 1) := by decide +kernel
theorem dX8_stepTwo_161 : decode cX8_stepTwo 161 = .ok (.bipush 81, 2) := by decide +kernel
theorem dX8_stepTwo_163 : decode cX8_stepTwo 163 = .ok (.invokevirtual 56, 3) := by decide +kernel
theorem dX8_stepTwo_166 : decode cX8_stepTwo 166 = .ok (.ixor, 1) := by decide +kernel
theorem dX8_stepTwo_167 : decode cX8_stepTwo 167 = .ok (.aload_n 0, 1) := by decide +kernel
theorem dX8_stepTwo_168 : decode cX8_stepTwo 168 = .ok (.bipush 96, 2) := by decide +kernel
theorem dX8_stepTwo_170 : decode cX8_stepTwo 170 = .ok (.invokevirtual 56, 3) := by decide +kernel
theorem dX8_stepTwo_173 : decode cX8_stepTwo 173 = .ok (.ixor, 1) := by decide +kernel
theorem dX8_stepTwo_174 : decode cX8_stepTwo 174 = .ok (.istore_n 3, 1) := by decide +kernel
theorem dX8_stepTwo_175 : decode cX8_stepTwo 175 = .ok (.aload_n 0, 1) := by decide +kernel
theorem dX8_stepTwo_176 : decode cX8_stepTwo 176 = .ok (.iconst 0, 1) := by decide +kernel
theorem dX8_stepTwo_177 : decode cX8_stepTwo 177 = .ok (.invokevirtual 56, 3) := by decide +kernel
theorem dX8_stepTwo_180 : decode cX8_stepTwo 180 = .ok (.aload_n 0, 1) := by decide +kernel
theorem dX8_stepTwo_181 : decode cX8_stepTwo 181 = .ok (.iconst 0, 1) := by decide +kernel
theorem dX8_stepTwo_182 : decode cX8_stepTwo 182 = .ok (.invokevirtual 53, 3) := by decide +kernel
theorem dX8_stepTwo_185 : decode cX8_stepTwo 185 = .ok (.ixor, 1) := by decide +kernel
theorem dX8_stepTwo_186 : decode cX8_stepTwo 186 = .ok (.aload_n 0, 1) := by decide +kernel
theorem dX8_stepTwo_187 : decode cX8_stepTwo 187 = .ok (.bipush 26, 2) := by decide +kernel
theorem dX8_stepTwo_189 : decode cX8_stepTwo 189 = .ok (.invokevirtual 53, 3) := by decide +kernel
theorem dX8_stepTwo_192 : decode cX8_stepTwo 192 = .ok (.ixor, 1) := by decide +kernel
theorem dX8_stepTwo_193 : decode cX8_stepTwo 193 = .ok (.aload_n 0, 1) := by decide +kernel
theorem dX8_stepTwo_194 : decode cX8_stepTwo 194 = .ok (.bipush 56, 2) := by decide +kernel
theorem dX8_stepTwo_196 : decode cX8_stepTwo 196 = .ok (.invokevirtual 53, 3) := by decide +kernel
theorem dX8_stepTwo_199 : decode cX8_stepTwo 199 = .ok (.ixor, 1) := by decide +kernel
theorem dX8_stepTwo_200 : decode cX8_stepTwo 200 = .ok (.aload_n 0, 1) := by decide +kernel
theorem dX8_stepTwo_201 : decode cX8_stepTwo 201 = .ok (.bipush 91, 2) := by decide +kernel
theorem dX8_stepTwo_203 : decode cX8_stepTwo 203 = .ok (.invokevirtual 53, 3) := by decide +kernel
theorem dX8_stepTwo_206 : decode cX8_stepTwo 206 = .ok (.ixor, 1) := by decide +kernel
theorem dX8_stepTwo_207 : decode cX8_stepTwo 207 = .ok (.aload_n 0, 1) := by decide +kernel
theorem dX8_stepTwo_208 : decode cX8_stepTwo 208 = .ok (.bipush 96, 2) := by decide +kernel
theorem dX8_stepTwo_210 : decode cX8_stepTwo 210 = .ok (.invokevirtual 53, 3) := by decide +kernel
theorem dX8_stepTwo_213 : decode cX8_stepTwo 213 = .ok (.ixor, 1) := by decide +kernel
theorem dX8_stepTwo_214 : decode cX8_stepTwo 214 = .ok (.aload_n 0, 1) := by decide +kernel
theorem dX8_stepTwo_215 : decode cX8_stepTwo 215 = .ok (.iconst 3, 1) := by decide +kernel
theorem dX8_stepTwo_216 : decode cX8_stepTwo 216 = .ok (.invokevirtual 53, 3) := by decide +kernel
theorem dX8_stepTwo_219 : decode cX8_stepTwo 219 = .ok (.aload_n 0, 1) := by decide +kernel
theorem dX8_stepTwo_220 : decode cX8_stepTwo 220 = .ok (.bipush 67, 2) := by decide +kernel
theorem dX8_stepTwo_222 : decode cX8_stepTwo 222 = .ok (.invokevirtual 53, 3) := by decide +kernel
theorem dX8_stepTwo_225 : decode cX8_stepTwo 225 = .ok (.iand, 1) := by decide +kernel
theorem dX8_stepTwo_226 : decode cX8_stepTwo 226 = .ok (.ixor, 1) := by decide +kernel
theorem dX8_stepTwo_227 : decode cX8_stepTwo 227 = .ok (.aload_n 0, 1) := by decide +kernel
theorem dX8_stepTwo_228 : decode cX8_stepTwo 228 = .ok (.bipush 11, 2) := by decide +kernel
theorem dX8_stepTwo_230 : decode cX8_stepTwo 230 = .ok (.invokevirtual 53, 3) := by decide +kernel
theorem dX8_stepTwo_233 : decode cX8_stepTwo 233 = .ok (.aload_n 0, 1) := by decide +kernel
theorem dX8_stepTwo_234 : decode cX8_stepTwo 234 = .ok (.bipush 13, 2) := by decide +kernel
theorem dX8_stepTwo_236 : decode cX8_stepTwo 236 = .ok (.invokevirtual 53, 3) := by decide +kernel
theorem dX8_stepTwo_239 : decode cX8_stepTwo 239 = .ok (.iand, 1) := by decide +kernel
theorem dX8_stepTwo_240 : decode cX8_stepTwo 240 = .ok (.ixor, 1) := by decide +kernel
theorem dX8_stepTwo_241 : decode cX8_stepTwo 241 = .ok (.aload_n 0, 1) := by decide +kernel
theorem dX8_stepTwo_242 : decode cX8_stepTwo 242 = .ok (.bipush 17, 2) := by decide +kernel
theorem dX8_stepTwo_244 : decode cX8_stepTwo 244 = .ok (.invokevirtual 53, 3) := by decide +kernel
theorem dX8_stepTwo_247 : decode cX8_stepTwo 247 = .ok (.aload_n 0, 1) := by decide +kernel
theorem dX8_stepTwo_248 : decode cX8_stepTwo 248 = .ok (.bipush 18, 2) := by decide +kernel
theorem dX8_stepTwo_250 : decode cX8_stepTwo 250 = .ok (.invokevirtual 53, 3) := by decide +kernel
theorem dX8_stepTwo_253 : decode cX8_stepTwo 253 = .ok (.iand, 1) := by decide +kernel
theorem dX8_stepTwo_254 : decode cX8_stepTwo 254 = .ok (.ixor, 1) := by decide +kernel
theorem dX8_stepTwo_255 : decode cX8_stepTwo 255 = .ok (.aload_n 0, 1) := by decide +kernel
theorem dX8_stepTwo_256 : decode cX8_stepTwo 256 = .ok (.bipush 27, 2) := by decide +kernel
theorem dX8_stepTwo_258 : decode cX8_stepTwo 258 = .ok (.invokevirtual 53, 3) := by decide +kernel
theorem dX8_stepTwo_261 : decode cX8_stepTwo 261 = .ok (.aload_n 0, 1) := by decide +kernel
theorem dX8_stepTwo_262 : decode cX8_stepTwo 262 = .ok (.bipush 59, 2) := by decide +kernel
theorem dX8_stepTwo_264 : decode cX8_stepTwo 264 = .ok (.invokevirtual 53, 3) := by decide +kernel
theorem dX8_stepTwo_267 : decode cX8_stepTwo 267 = .ok (.iand, 1) := by decide +kernel
theorem dX8_stepTwo_268 : decode cX8_stepTwo 268 = .ok (.ixor, 1) := by decide +kernel
theorem dX8_stepTwo_269 : decode cX8_stepTwo 269 = .ok (.aload_n 0, 1) := by decide +kernel
theorem dX8_stepTwo_270 : decode cX8_stepTwo 270 = .ok (.bipush 40, 2) := by decide +kernel
theorem dX8_stepTwo_272 : decode cX8_stepTwo 272 = .ok (.invokevirtual 53, 3) := by decide +kernel
theorem dX8_stepTwo_275 : decode cX8_stepTwo 275 = .ok (.aload_n 0, 1) := by decide +kernel
theorem dX8_stepTwo_276 : decode cX8_stepTwo 276 = .ok (.bipush 48, 2) := by decide +kernel
theorem dX8_stepTwo_278 : decode cX8_stepTwo 278 = .ok (.invokevirtual 53, 3) := by decide +kernel
theorem dX8_stepTwo_281 : decode cX8_stepTwo 281 = .ok (.iand, 1) := by decide +kernel
theorem dX8_stepTwo_282 : decode cX8_stepTwo 282 = .ok (.ixor, 1) := by decide +kernel
theorem dX8_stepTwo_283 : decode cX8_stepTwo 283 = .ok (.aload_n 0, 1) := by decide +kernel
theorem dX8_stepTwo_284 : decode cX8_stepTwo 284 = .ok (.bipush 61, 2) := by decide +kernel
theorem dX8_stepTwo_286 : decode cX8_stepTwo 286 = .ok (.invokevirtual 53, 3) := by decide +kernel
theorem dX8_stepTwo_289 : decode cX8_stepTwo 289 = .ok (.aload_n 0, 1) := by decide +kernel
theorem dX8_stepTwo_290 : decode cX8_stepTwo 290 = .ok (.bipush 65, 2) := by decide +kernel
theorem dX8_stepTwo_292 : decode cX8_stepTwo 292 = .ok (.invokevirtual 53, 3) := by decide +kernel
theorem dX8_stepTwo_295 : decode cX8_stepTwo 295 = .ok (.iand, 1) := by decide +kernel
theorem dX8_stepTwo_296 : decode cX8_stepTwo 296 = .ok (.ixor, 1) := by decide +kernel
theorem dX8_stepTwo_297 : decode cX8_stepTwo 297 = .ok (.aload_n 0, 1) := by decide +kernel
theorem dX8_stepTwo_298 : decode cX8_stepTwo 298 = .ok (.bipush 68, 2) := by decide +kernel
theorem dX8_stepTwo_300 : decode cX8_stepTwo 300 = .ok (.invokevirtual 53, 3) := by decide +kernel
theorem dX8_stepTwo_303 : decode cX8_stepTwo 303 = .ok (.aload_n 0, 1) := by decide +kernel
theorem dX8_stepTwo_304 : decode cX8_stepTwo 304 = .ok (.bipush 84, 2) := by decide +kernel
theorem dX8_stepTwo_306 : decode cX8_stepTwo 306 = .ok (.invokevirtual 53, 3) := by decide +kernel
theorem dX8_stepTwo_309 : decode cX8_stepTwo 309 = .ok (.iand, 1) := by decide +kernel
theorem dX8_stepTwo_310 : decode cX8_stepTwo 310 = .ok (.ixor, 1) := by decide +kernel
theorem dX8_stepTwo_311 : decode cX8_stepTwo 311 = .ok (.istore 4, 2) := by decide +kernel
theorem dX8_stepTwo_313 : decode cX8_stepTwo 313 = .ok (.iload 4, 2) := by decide +kernel
theorem dX8_stepTwo_315 : decode cX8_stepTwo 315 = .ok (.aload_n 0, 1) := by decide +kernel
theorem dX8_stepTwo_316 : decode cX8_stepTwo 316 = .ok (.bipush 88, 2) := by decide +kernel
theorem dX8_stepTwo_318 : decode cX8_stepTwo 318 = .ok (.invokevirtual 53, 3) := by decide +kernel
theorem dX8_stepTwo_321 : decode cX8_stepTwo 321 = .ok (.aload_n 0, 1) := by decide +kernel
theorem dX8_stepTwo_322 : decode cX8_stepTwo 322 = .ok (.bipush 92, 2) := by decide +kernel
theorem dX8_stepTwo_324 : decode cX8_stepTwo 324 = .ok (.invokevirtual 53, 3) := by decide +kernel
theorem dX8_stepTwo_327 : decode cX8_stepTwo 327 = .ok (.iand, 1) := by decide +kernel
theorem dX8_stepTwo_328 : decode cX8_stepTwo 328 = .ok (.aload_n 0, 1) := by decide +kernel
theorem dX8_stepTwo_329 : decode cX8_stepTwo 329 = .ok (.bipush 93, 2) := by decide +kernel
theorem dX8_stepTwo_331 : decode cX8_stepTwo 331 = .ok (.invokevirtual 53, 3) := by decide +kernel
theorem dX8_stepTwo_334 : decode cX8_stepTwo 334 = .ok (.iand, 1) := by decide +kernel
theorem dX8_stepTwo_335 : decode cX8_stepTwo 335 = .ok (.aload_n 0, 1) := by decide +kernel
theorem dX8_stepTwo_336 : decode cX8_stepTwo 336 = .ok (.bipush 95, 2) := by decide +kernel
theorem dX8_stepTwo_338 : decode cX8_stepTwo 338 = .ok (.invokevirtual 53, 3) := by decide +kernel
theorem dX8_stepTwo_341 : decode cX8_stepTwo 341 = .ok (.iand, 1) := by decide +kernel
theorem dX8_stepTwo_342 : decode cX8_stepTwo 342 = .ok (.ixor, 1) := by decide +kernel
theorem dX8_stepTwo_343 : decode cX8_stepTwo 343 = .ok (.aload_n 0, 1) := by decide +kernel
theorem dX8_stepTwo_344 : decode cX8_stepTwo 344 = .ok (.bipush 22, 2) := by decide +kernel
theorem dX8_stepTwo_346 : decode cX8_stepTwo 346 = .ok (.invokevirtual 53, 3) := by decide +kernel
theorem dX8_stepTwo_349 : decode cX8_stepTwo 349 = .ok (.aload_n 0, 1) := by decide +kernel
theorem dX8_stepTwo_350 : decode cX8_stepTwo 350 = .ok (.bipush 24, 2) := by decide +kernel
theorem dX8_stepTwo_352 : decode cX8_stepTwo 352 = .ok (.invokevirtual 53, 3) := by decide +kernel
theorem dX8_stepTwo_355 : decode cX8_stepTwo 355 = .ok (.iand, 1) := by decide +kernel
theorem dX8_stepTwo_356 : decode cX8_stepTwo 356 = .ok (.aload_n 0, 1) := by decide +kernel
theorem dX8_stepTwo_357 : decode cX8_stepTwo 357 = .ok (.bipush 25, 2) := by decide +kernel
theorem dX8_stepTwo_359 : decode cX8_stepTwo 359 = .ok (.invokevirtual 53, 3) := by decide +kernel
theorem dX8_stepTwo_362 : decode cX8_stepTwo 362 = .ok (.iand, 1) := by decide +kernel
theorem dX8_stepTwo_363 : decode cX8_stepTwo 363 = .ok (.ixor, 1) := by decide +kernel
theorem dX8_stepTwo_364 : decode cX8_stepTwo 364 = .ok (.aload_n 0, 1) := by decide +kernel
theorem dX8_stepTwo_365 : decode cX8_stepTwo 365 = .ok (.bipush 70, 2) := by decide +kernel
theorem dX8_stepTwo_367 : decode cX8_stepTwo 367 = .ok (.invokevirtual 53, 3) := by decide +kernel
theorem dX8_stepTwo_370 : decode cX8_stepTwo 370 = .ok (.aload_n 0, 1) := by decide +kernel
theorem dX8_stepTwo_371 : decode cX8_stepTwo 371 = .ok (.bipush 78, 2) := by decide +kernel
theorem dX8_stepTwo_373 : decode cX8_stepTwo 373 = .ok (.invokevirtual 53, 3) := by decide +kernel
theorem dX8_stepTwo_376 : decode cX8_stepTwo 376 = .ok (.iand, 1) := by decide +kernel
theorem dX8_stepTwo_377 : decode cX8_stepTwo 377 = .ok (.aload_n 0, 1) := by decide +kernel
theorem dX8_stepTwo_378 : decode cX8_stepTwo 378 = .ok (.bipush 82, 2) := by decide +kernel
theorem dX8_stepTwo_380 : decode cX8_stepTwo 380 = .ok (.invokevirtual 53, 3) := by decide +kernel
theorem dX8_stepTwo_383 : decode cX8_stepTwo 383 = .ok (.iand, 1) := by decide +kernel
theorem dX8_stepTwo_384 : decode cX8_stepTwo 384 = .ok (.ixor, 1) := by decide +kernel
theorem dX8_stepTwo_385 : decode cX8_stepTwo 385 = .ok (.istore 4, 2) := by decide +kernel
theorem dX8_stepTwo_387 : decode cX8_stepTwo 387 = .ok (.aload_n 0, 1) := by decide +kernel
theorem dX8_stepTwo_388 : decode cX8_stepTwo 388 = .ok (.iconst 1, 1) := by decide +kernel
theorem dX8_stepTwo_389 : decode cX8_stepTwo 389 = .ok (.iload_n 1, 1) := by decide +kernel
theorem dX8_stepTwo_390 : decode cX8_stepTwo 390 = .ok (.ifCond .eq 9, 3) := by decide +kernel
theorem dX8_stepTwo_393 : decode cX8_stepTwo 393 = .ok (.iload_n 3, 1) := by decide +kernel
theorem dX8_stepTwo_394 : decode cX8_stepTwo 394 = .ok (.iload_n 2, 1) := by decide +kernel
theorem dX8_stepTwo_395 : decode cX8_stepTwo 395 = .ok (.ixor, 1) := by decide +kernel
theorem dX8_stepTwo_396 : decode cX8_stepTwo 396 = .ok (.goto 4, 3) := by decide +kernel
theorem dX8_stepTwo_399 : decode cX8_stepTwo 399 = .ok (.iload_n 3, 1) := by decide +kernel
theorem dX8_stepTwo_400 : decode cX8_stepTwo 400 = .ok (.invokevirtual 59, 3) := by decide +kernel
theorem dX8_stepTwo_403 : decode cX8_stepTwo 403 = .ok (.aload_n 0, 1) := by decide +kernel
theorem dX8_stepTwo_404 : decode cX8_stepTwo 404 = .ok (.iconst 0, 1) := by decide +kernel
theorem dX8_stepTwo_405 : decode cX8_stepTwo 405 = .ok (.iload_n 1, 1) := by decide +kernel
theorem dX8_stepTwo_406 : decode cX8_stepTwo 406 = .ok (.ifCond .eq 10, 3) := by decide +kernel
theorem dX8_stepTwo_409 : decode cX8_stepTwo 409 = .ok (.iload 4, 2) := by decide +kernel
theorem dX8_stepTwo_411 : decode cX8_stepTwo 411 = .ok (.iload_n 2, 1) := by decide +kernel
theorem dX8_stepTwo_412 : decode cX8_stepTwo 412 = .ok (.ixor, 1) := by decide +kernel
theorem dX8_stepTwo_413 : decode cX8_stepTwo 413 = .ok (.goto 5, 3) := by decide +kernel
theorem dX8_stepTwo_416 : decode cX8_stepTwo 416 = .ok (.iload 4, 2) := by decide +kernel
theorem dX8_stepTwo_418 : decode cX8_stepTwo 418 = .ok (.invokevirtual 59, 3) := by decide +kernel
theorem dX8_stepTwo_421 : decode cX8_stepTwo 421 = .ok (.iload_n 2, 1) := by decide +kernel
theorem dX8_stepTwo_422 : decode cX8_stepTwo 422 = .ok (.ireturn, 1) := by decide +kernel
theorem dX8_goes_0 : decode cX8_goes 0 = .ok (.iload_n 1, 1) := by decide +kernel
theorem dX8_goes_1 : decode cX8_goes 1 = .ok (.ifCond .ne 37, 3) := by decide +kernel
theorem dX8_goes_4 : decode cX8_goes 4 = .ok (.aload_n 0, 1) := by decide +kernel
theorem dX8_goes_5 : decode cX8_goes 5 = .ok (.iconst 0, 1) := by decide +kernel
theorem dX8_goes_6 : decode cX8_goes 6 = .ok (.bipush 13, 2) := by decide +kernel
theorem dX8_goes_8 : decode cX8_goes 8 = .ok (.invokevirtual 41, 3) := by decide +kernel
theorem dX8_goes_11 : decode cX8_goes 11 = .ok (.aload_n 0, 1) := by decide +kernel
theorem dX8_goes_12 : decode cX8_goes 12 = .ok (.iconst 0, 1) := by decide +kernel
theorem dX8_goes_13 : decode cX8_goes 13 = .ok (.bipush 16, 2) := by decide +kernel
theorem dX8_goes_15 : decode cX8_goes 15 = .ok (.invokevirtual 41, 3) := by decide +kernel
theorem dX8_goes_18 : decode cX8_goes 18 = .ok (.ixor, 1) := by decide +kernel
theorem dX8_goes_19 : decode cX8_goes 19 = .ok (.aload_n 0, 1) := by decide +kernel
theorem dX8_goes_20 : decode cX8_goes 20 = .ok (.iconst 0, 1) := by decide +kernel
theorem dX8_goes_21 : decode cX8_goes 21 = .ok (.bipush 17, 2) := by decide +kernel
theorem dX8_goes_23 : decode cX8_goes 23 = .ok (.invokevirtual 41, 3) := by decide +kernel
theorem dX8_goes_26 : decode cX8_goes 26 = .ok (.ixor, 1) := by decide +kernel
theorem dX8_goes_27 : decode cX8_goes 27 = .ok (.aload_n 0, 1) := by decide +kernel
theorem dX8_goes_28 : decode cX8_goes 28 = .ok (.iconst 0, 1) := by decide +kernel
theorem dX8_goes_29 : decode cX8_goes 29 = .ok (.bipush 18, 2) := by decide +kernel
theorem dX8_goes_31 : decode cX8_goes 31 = .ok (.invokevirtual 41, 3) := by decide +kernel
theorem dX8_goes_34 : decode cX8_goes 34 = .ok (.ixor, 1) := by decide +kernel
theorem dX8_goes_35 : decode cX8_goes 35 = .ok (.goto 57, 3) := by decide +kernel
theorem dX8_goes_38 : decode cX8_goes 38 = .ok (.iload_n 1, 1) := by decide +kernel
theorem dX8_goes_39 : decode cX8_goes 39 = .ok (.iconst 1, 1) := by decide +kernel
theorem dX8_goes_40 : decode cX8_goes 40 = .ok (.if_icmp .ne 21, 3) := by decide +kernel
theorem dX8_goes_43 : decode cX8_goes 43 = .ok (.aload_n 0, 1) := by decide +kernel
theorem dX8_goes_44 : decode cX8_goes 44 = .ok (.iconst 1, 1) := by decide +kernel
theorem dX8_goes_45 : decode cX8_goes 45 = .ok (.bipush 20, 2) := by decide +kernel
theorem dX8_goes_47 : decode cX8_goes 47 = .ok (.invokevirtual 41, 3) := by decide +kernel
theorem dX8_goes_50 : decode cX8_goes 50 = .ok (.aload_n 0, 1) := by decide +kernel
theorem dX8_goes_51 : decode cX8_goes 51 = .ok (.iconst 1, 1) := by decide +kernel
theorem dX8_goes_52 : decode cX8_goes 52 = .ok (.bipush 21, 2) := by decide +kernel
theorem dX8_goes_54 : decode cX8_goes 54 = .ok (.invokevirtual 41, 3) := by decide +kernel
theorem dX8_goes_57 : decode cX8_goes 57 = .ok (.ixor, 1) := by decide +kernel
theorem dX8_goes_58 : decode cX8_goes 58 = .ok (.goto 34, 3) := by decide +kernel
theorem dX8_goes_61 : decode cX8_goes 61 = .ok (.aload_n 0, 1) := by decide +kernel
theorem dX8_goes_62 : decode cX8_goes 62 = .ok (.iconst 2, 1) := by decide +kernel
theorem dX8_goes_63 : decode cX8_goes 63 = .ok (.bipush 7, 2) := by decide +kernel
theorem dX8_goes_65 : decode cX8_goes 65 = .ok (.invokevirtual 41, 3) := by decide +kernel
theorem dX8_goes_68 : decode cX8_goes 68 = .ok (.aload_n 0, 1) := by decide +kernel
theorem dX8_goes_69 : decode cX8_goes 69 = .ok (.iconst 2, 1) := by decide +kernel
theorem dX8_goes_70 : decode cX8_goes 70 = .ok (.bipush 20, 2) := by decide +kernel
theorem dX8_goes_72 : decode cX8_goes 72 = .ok (.invokevirtual 41, 3) := by decide +kernel
theorem dX8_goes_75 : decode cX8_goes 75 = .ok (.ixor, 1) := by decide +kernel
theorem dX8_goes_76 : decode cX8_goes 76 = .ok (.aload_n 0, 1) := by decide +kernel
theorem dX8_goes_77 : decode cX8_goes 77 = .ok (.iconst 2, 1) := by decide +kernel
theorem dX8_goes_78 : decode cX8_goes 78 = .ok (.bipush 21, 2) := by decide +kernel
theorem dX8_goes_80 : decode cX8_goes 80 = .ok (.invokevirtual 41, 3) := by decide +kernel
theorem dX8_goes_83 : decode cX8_goes 83 = .ok (.ixor, 1) := by decide +kernel
theorem dX8_goes_84 : decode cX8_goes 84 = .ok (.aload_n 0, 1) := by decide +kernel
theorem dX8_goes_85 : decode cX8_goes 85 = .ok (.iconst 2, 1) := by decide +kernel
theorem dX8_goes_86 : decode cX8_goes 86 = .ok (.bipush 22, 2) := by decide +kernel
theorem dX8_goes_88 : decode cX8_goes 88 = .ok (.invokevirtual 41, 3) := by decide +kernel
theorem dX8_goes_91 : decode cX8_goes 91 = .ok (.ixor, 1) := by decide +kernel
theorem dX8_goes_92 : decode cX8_goes 92 = .ok (.istore_n 2, 1) := by decide +kernel
theorem dX8_goes_93 : decode cX8_goes 93 = .ok (.aload_n 0, 1) := by decide +kernel
theorem dX8_goes_94 : decode cX8_goes 94 = .ok (.iload_n 1, 1) := by decide +kernel
theorem dX8_goes_95 : decode cX8_goes 95 = .ok (.iload_n 2, 1) := by decide +kernel
theorem dX8_goes_96 : decode cX8_goes 96 = .ok (.invokevirtual 49, 3) := by decide +kernel
theorem dX8_goes_99 : decode cX8_goes 99 = .ok (.return_, 1) := by decide +kernel
theorem dX8_feed_0 : decode cX8_feed 0 = .ok (.iconst 0, 1) := by decide +kernel
theorem dX8_feed_1 : decode cX8_feed 1 = .ok (.istore_n 2, 1) := by decide +kernel
theorem dX8_feed_2 : decode cX8_feed 2 = .ok (.iload_n 2, 1) := by decide +kernel
theorem dX8_feed_3 : decode cX8_feed 3 = .ok (.iconst 3, 1) := by decide +kernel
theorem dX8_feed_4 : decode cX8_feed 4 = .ok (.if_icmp .ge 28, 3) := by decide +kernel
theorem dX8_feed_7 : decode cX8_feed 7 = .ok (.aload_n 0, 1) := by decide +kernel
theorem dX8_feed_8 : decode cX8_feed 8 = .ok (.iload_n 2, 1) := by decide +kernel
theorem dX8_feed_9 : decode cX8_feed 9 = .ok (.invokevirtual 62, 3) := by decide +kernel
theorem dX8_feed_12 : decode cX8_feed 12 = .ok (.aload_n 0, 1) := by decide +kernel
theorem dX8_feed_13 : decode cX8_feed 13 = .ok (.iload_n 2, 1) := by decide +kernel
theorem dX8_feed_14 : decode cX8_feed 14 = .ok (.iconst 0, 1) := by decide +kernel
theorem dX8_feed_15 : decode cX8_feed 15 = .ok (.aload_n 0, 1) := by decide +kernel
theorem dX8_feed_16 : decode cX8_feed 16 = .ok (.iload_n 2, 1) := by decide +kernel
theorem dX8_feed_17 : decode cX8_feed 17 = .ok (.iconst 0, 1) := by decide +kernel
theorem dX8_feed_18 : decode cX8_feed 18 = .ok (.invokevirtual 41, 3) := by decide +kernel
theorem dX8_feed_21 : decode cX8_feed 21 = .ok (.iload_n 1, 1) := by decide +kernel
theorem dX8_feed_22 : decode cX8_feed 22 = .ok (.ixor, 1) := by decide +kernel
theorem dX8_feed_23 : decode cX8_feed 23 = .ok (.invokevirtual 37, 3) := by decide +kernel
theorem dX8_feed_26 : decode cX8_feed 26 = .ok (.iinc 2 1, 3) := by decide +kernel
theorem dX8_feed_29 : decode cX8_feed 29 = .ok (.goto (-27), 3) := by decide +kernel
theorem dX8_feed_32 : decode cX8_feed 32 = .ok (.return_, 1) := by decide +kernel
theorem dX8_stepStops_0 : decode cX8_stepStops 0 = .ok (.aload_n 0, 1) := by decide +kernel
theorem dX8_stepStops_1 : decode cX8_stepStops 1 = .ok (.iconst 0, 1) := by decide +kernel
theorem dX8_stepStops_2 : decode cX8_stepStops 2 = .ok (.bipush 8, 2) := by decide +kernel
theorem dX8_stepStops_4 : decode cX8_stepStops 4 = .ok (.invokevirtual 41, 3) := by decide +kernel
theorem dX8_stepStops_7 : decode cX8_stepStops 7 = .ok (.istore_n 1, 1) := by decide +kernel
theorem dX8_stepStops_8 : decode cX8_stepStops 8 = .ok (.aload_n 0, 1) := by decide +kernel
theorem dX8_stepStops_9 : decode cX8_stepStops 9 = .ok (.iconst 1, 1) := by decide +kernel
theorem dX8_stepStops_10 : decode cX8_stepStops 10 = .ok (.bipush 10, 2) := by decide +kernel
theorem dX8_stepStops_12 : decode cX8_stepStops 12 = .ok (.invokevirtual 41, 3) := by decide +kernel
theorem dX8_stepStops_15 : decode cX8_stepStops 15 = .ok (.istore_n 2, 1) := by decide +kernel
theorem dX8_stepStops_16 : decode cX8_stepStops 16 = .ok (.aload_n 0, 1) := by decide +kernel
theorem dX8_stepStops_17 : decode cX8_stepStops 17 = .ok (.iconst 2, 1) := by decide +kernel
theorem dX8_stepStops_18 : decode cX8_stepStops 18 = .ok (.bipush 10, 2) := by decide +kernel
theorem dX8_stepStops_20 : decode cX8_stepStops 20 = .ok (.invokevirtual 41, 3) := by decide +kernel
theorem dX8_stepStops_23 : decode cX8_stepStops 23 = .ok (.istore_n 3, 1) := by decide +kernel
theorem dX8_stepStops_24 : decode cX8_stepStops 24 = .ok (.iload_n 1, 1) := by decide +kernel
theorem dX8_stepStops_25 : decode cX8_stepStops 25 = .ok (.iload_n 2, 1) := by decide +kernel
theorem dX8_stepStops_26 : decode cX8_stepStops 26 = .ok (.iadd, 1) := by decide +kernel
theorem dX8_stepStops_27 : decode cX8_stepStops 27 = .ok (.iload_n 3, 1) := by decide +kernel
theorem dX8_stepStops_28 : decode cX8_stepStops 28 = .ok (.iadd, 1) := by decide +kernel
theorem dX8_stepStops_29 : decode cX8_stepStops 29 = .ok (.iconst 1, 1) := by decide +kernel
theorem dX8_stepStops_30 : decode cX8_stepStops 30 = .ok (.if_icmp .le 7, 3) := by decide +kernel
theorem dX8_stepStops_33 : decode cX8_stepStops 33 = .ok (.iconst 1, 1) := by decide +kernel
theorem dX8_stepStops_34 : decode cX8_stepStops 34 = .ok (.goto 4, 3) := by decide +kernel
theorem dX8_stepStops_37 : decode cX8_stepStops 37 = .ok (.iconst 0, 1) := by decide +kernel
theorem dX8_stepStops_38 : decode cX8_stepStops 38 = .ok (.istore 4, 2) := by decide +kernel
theorem dX8_stepStops_40 : decode cX8_stepStops 40 = .ok (.iload_n 1, 1) := by decide +kernel
theorem dX8_stepStops_41 : decode cX8_stepStops 41 = .ok (.iload 4, 2) := by decide +kernel
theorem dX8_stepStops_43 : decode cX8_stepStops 43 = .ok (.if_icmp .ne 8, 3) := by decide +kernel
theorem dX8_stepStops_46 : decode cX8_stepStops 46 = .ok (.aload_n 0, 1) := by decide +kernel
theorem dX8_stepStops_47 : decode cX8_stepStops 47 = .ok (.iconst 0, 1) := by decide +kernel
theorem dX8_stepStops_48 : decode cX8_stepStops 48 = .ok (.invokevirtual 62, 3) := by decide +kernel
theorem dX8_stepStops_51 : decode cX8_stepStops 51 = .ok (.iload_n 2, 1) := by decide +kernel
theorem dX8_stepStops_52 : decode cX8_stepStops 52 = .ok (.iload 4, 2) := by decide +kernel
theorem dX8_stepStops_54 : decode cX8_stepStops 54 = .ok (.if_icmp .ne 8, 3) := by decide +kernel
theorem dX8_stepStops_57 : decode cX8_stepStops 57 = .ok (.aload_n 0, 1) := by decide +kernel
theorem dX8_stepStops_58 : decode cX8_stepStops 58 = .ok (.iconst 1, 1) := by decide +kernel
theorem dX8_stepStops_59 : decode cX8_stepStops 59 = .ok (.invokevirtual 62, 3) := by decide +kernel
theorem dX8_stepStops_62 : decode cX8_stepStops 62 = .ok (.iload_n 3, 1) := by decide +kernel
theorem dX8_stepStops_63 : decode cX8_stepStops 63 = .ok (.iload 4, 2) := by decide +kernel
theorem dX8_stepStops_65 : decode cX8_stepStops 65 = .ok (.if_icmp .ne 8, 3) := by decide +kernel
theorem dX8_stepStops_68 : decode cX8_stepStops 68 = .ok (.aload_n 0, 1) := by decide +kernel
theorem dX8_stepStops_69 : decode cX8_stepStops 69 = .ok (.iconst 2, 1) := by decide +kernel
theorem dX8_stepStops_70 : decode cX8_stepStops 70 = .ok (.invokevirtual 62, 3) := by decide +kernel
theorem dX8_stepStops_73 : decode cX8_stepStops 73 = .ok (.aload_n 0, 1) := by decide +kernel
theorem dX8_stepStops_74 : decode cX8_stepStops 74 = .ok (.iconst 0, 1) := by decide +kernel
theorem dX8_stepStops_75 : decode cX8_stepStops 75 = .ok (.bipush 18, 2) := by decide +kernel
theorem dX8_stepStops_77 : decode cX8_stepStops 77 = .ok (.invokevirtual 41, 3) := by decide +kernel
theorem dX8_stepStops_80 : decode cX8_stepStops 80 = .ok (.aload_n 0, 1) := by decide +kernel
theorem dX8_stepStops_81 : decode cX8_stepStops 81 = .ok (.iconst 1, 1) := by decide +kernel
theorem dX8_stepStops_82 : decode cX8_stepStops 82 = .ok (.bipush 21, 2) := by decide +kernel
theorem dX8_stepStops_84 : decode cX8_stepStops 84 = .ok (.invokevirtual 41, 3) := by decide +kernel
theorem dX8_stepStops_87 : decode cX8_stepStops 87 = .ok (.ixor, 1) := by decide +kernel
theorem dX8_stepStops_88 : decode cX8_stepStops 88 = .ok (.aload_n 0, 1) := by decide +kernel
theorem dX8_stepStops_89 : decode cX8_stepStops 89 = .ok (.iconst 2, 1) := by decide +kernel
theorem dX8_stepStops_90 : decode cX8_stepStops 90 = .ok (.bipush 22, 2) := by decide +kernel
theorem dX8_stepStops_92 : decode cX8_stepStops 92 = .ok (.invokevirtual 41, 3) := by decide +kernel
theorem dX8_stepStops_95 : decode cX8_stepStops 95 = .ok (.ixor, 1) := by decide +kernel
theorem dX8_stepStops_96 : decode cX8_stepStops 96 = .ok (.ireturn, 1) := by decide +kernel
theorem dX8_exchange_0 : decode cX8_exchange 0 = .ok (.aload_n 0, 1) := by decide +kernel
theorem dX8_exchange_1 : decode cX8_exchange 1 = .ok (.getfield 26, 3) := by decide +kernel
theorem dX8_exchange_4 : decode cX8_exchange 4 = .ok (.iload_n 1, 1) := by decide +kernel
theorem dX8_exchange_5 : decode cX8_exchange 5 = .ok (.iaload, 1) := by decide +kernel
theorem dX8_exchange_6 : decode cX8_exchange 6 = .ok (.istore_n 3, 1) := by decide +kernel
theorem dX8_exchange_7 : decode cX8_exchange 7 = .ok (.aload_n 0, 1) := by decide +kernel
theorem dX8_exchange_8 : decode cX8_exchange 8 = .ok (.getfield 26, 3) := by decide +kernel
theorem dX8_exchange_11 : decode cX8_exchange 11 = .ok (.iload_n 1, 1) := by decide +kernel
theorem dX8_exchange_12 : decode cX8_exchange 12 = .ok (.aload_n 0, 1) := by decide +kernel
theorem dX8_exchange_13 : decode cX8_exchange 13 = .ok (.getfield 26, 3) := by decide +kernel
theorem dX8_exchange_16 : decode cX8_exchange 16 = .ok (.iload_n 2, 1) := by decide +kernel
theorem dX8_exchange_17 : decode cX8_exchange 17 = .ok (.iaload, 1) := by decide +kernel
theorem dX8_exchange_18 : decode cX8_exchange 18 = .ok (.iastore, 1) := by decide +kernel
theorem dX8_exchange_19 : decode cX8_exchange 19 = .ok (.aload_n 0, 1) := by decide +kernel
theorem dX8_exchange_20 : decode cX8_exchange 20 = .ok (.getfield 26, 3) := by decide +kernel
theorem dX8_exchange_23 : decode cX8_exchange 23 = .ok (.iload_n 2, 1) := by decide +kernel
theorem dX8_exchange_24 : decode cX8_exchange 24 = .ok (.iload_n 3, 1) := by decide +kernel
theorem dX8_exchange_25 : decode cX8_exchange 25 = .ok (.iastore, 1) := by decide +kernel
theorem dX8_exchange_26 : decode cX8_exchange 26 = .ok (.return_, 1) := by decide +kernel
theorem dX8_stepByte_0 : decode cX8_stepByte 0 = .ok (.aload_n 0, 1) := by decide +kernel
theorem dX8_stepByte_1 : decode cX8_stepByte 1 = .ok (.aload_n 0, 1) := by decide +kernel
theorem dX8_stepByte_2 : decode cX8_stepByte 2 = .ok (.getfield 66, 3) := by decide +kernel
theorem dX8_stepByte_5 : decode cX8_stepByte 5 = .ok (.iconst 1, 1) := by decide +kernel
theorem dX8_stepByte_6 : decode cX8_stepByte 6 = .ok (.iadd, 1) := by decide +kernel
theorem dX8_stepByte_7 : decode cX8_stepByte 7 = .ok (.sipush 255, 3) := by decide +kernel
theorem dX8_stepByte_10 : decode cX8_stepByte 10 = .ok (.iand, 1) := by decide +kernel
theorem dX8_stepByte_11 : decode cX8_stepByte 11 = .ok (.putfield 66, 3) := by decide +kernel
theorem dX8_stepByte_14 : decode cX8_stepByte 14 = .ok (.aload_n 0, 1) := by decide +kernel
theorem dX8_stepByte_15 : decode cX8_stepByte 15 = .ok (.aload_n 0, 1) := by decide +kernel
theorem dX8_stepByte_16 : decode cX8_stepByte 16 = .ok (.getfield 69, 3) := by decide +kernel
theorem dX8_stepByte_19 : decode cX8_stepByte 19 = .ok (.aload_n 0, 1) := by decide +kernel
theorem dX8_stepByte_20 : decode cX8_stepByte 20 = .ok (.getfield 26, 3) := by decide +kernel
theorem dX8_stepByte_23 : decode cX8_stepByte 23 = .ok (.aload_n 0, 1) := by decide +kernel
theorem dX8_stepByte_24 : decode cX8_stepByte 24 = .ok (.getfield 66, 3) := by decide +kernel
theorem dX8_stepByte_27 : decode cX8_stepByte 27 = .ok (.iaload, 1) := by decide +kernel
theorem dX8_stepByte_28 : decode cX8_stepByte 28 = .ok (.iadd, 1) := by decide +kernel
theorem dX8_stepByte_29 : decode cX8_stepByte 29 = .ok (.sipush 255, 3) := by decide +kernel
theorem dX8_stepByte_32 : decode cX8_stepByte 32 = .ok (.iand, 1) := by decide +kernel
theorem dX8_stepByte_33 : decode cX8_stepByte 33 = .ok (.putfield 69, 3) := by decide +kernel
theorem dX8_stepByte_36 : decode cX8_stepByte 36 = .ok (.aload_n 0, 1) := by decide +kernel
theorem dX8_stepByte_37 : decode cX8_stepByte 37 = .ok (.aload_n 0, 1) := by decide +kernel
theorem dX8_stepByte_38 : decode cX8_stepByte 38 = .ok (.getfield 66, 3) := by decide +kernel
theorem dX8_stepByte_41 : decode cX8_stepByte 41 = .ok (.aload_n 0, 1) := by decide +kernel
theorem dX8_stepByte_42 : decode cX8_stepByte 42 = .ok (.getfield 69, 3) := by decide +kernel
theorem dX8_stepByte_45 : decode cX8_stepByte 45 = .ok (.invokevirtual 72, 3) := by decide +kernel
theorem dX8_stepByte_48 : decode cX8_stepByte 48 = .ok (.aload_n 0, 1) := by decide +kernel
theorem dX8_stepByte_49 : decode cX8_stepByte 49 = .ok (.getfield 26, 3) := by decide +kernel
theorem dX8_stepByte_52 : decode cX8_stepByte 52 = .ok (.aload_n 0, 1) := by decide +kernel
theorem dX8_stepByte_53 : decode cX8_stepByte 53 = .ok (.getfield 26, 3) := by decide +kernel
theorem dX8_stepByte_56 : decode cX8_stepByte 56 = .ok (.aload_n 0, 1) := by decide +kernel
theorem dX8_stepByte_57 : decode cX8_stepByte 57 = .ok (.getfield 66, 3) := by decide +kernel
theorem dX8_stepByte_60 : decode cX8_stepByte 60 = .ok (.iaload, 1) := by decide +kernel
theorem dX8_stepByte_61 : decode cX8_stepByte 61 = .ok (.aload_n 0, 1) := by decide +kernel
theorem dX8_stepByte_62 : decode cX8_stepByte 62 = .ok (.getfield 26, 3) := by decide +kernel
theorem dX8_stepByte_65 : decode cX8_stepByte 65 = .ok (.aload_n 0, 1) := by decide +kernel
theorem dX8_stepByte_66 : decode cX8_stepByte 66 = .ok (.getfield 69, 3) := by decide +kernel
theorem dX8_stepByte_69 : decode cX8_stepByte 69 = .ok (.iaload, 1) := by decide +kernel
theorem dX8_stepByte_70 : decode cX8_stepByte 70 = .ok (.iadd, 1) := by decide +kernel
theorem dX8_stepByte_71 : decode cX8_stepByte 71 = .ok (.sipush 255, 3) := by decide +kernel
theorem dX8_stepByte_74 : decode cX8_stepByte 74 = .ok (.iand, 1) := by decide +kernel
theorem dX8_stepByte_75 : decode cX8_stepByte 75 = .ok (.iaload, 1) := by decide +kernel
theorem dX8_stepByte_76 : decode cX8_stepByte 76 = .ok (.ireturn, 1) := by decide +kernel
theorem dX8_fits_0 : decode cX8_fits 0 = .ok (.iload_n 1, 1) := by decide +kernel
theorem dX8_fits_1 : decode cX8_fits 1 = .ok (.ifCond .ne 29, 3) := by decide +kernel
theorem dX8_fits_4 : decode cX8_fits 4 = .ok (.aload_n 0, 1) := by decide +kernel
theorem dX8_fits_5 : decode cX8_fits 5 = .ok (.getfield 29, 3) := by decide +kernel
theorem dX8_fits_8 : decode cX8_fits 8 = .ok (.bipush 10, 2) := by decide +kernel
theorem dX8_fits_10 : decode cX8_fits 10 = .ok (.if_icmp .ne 16, 3) := by decide +kernel
theorem dX8_fits_13 : decode cX8_fits 13 = .ok (.aload_n 0, 1) := by decide +kernel
theorem dX8_fits_14 : decode cX8_fits 14 = .ok (.getfield 34, 3) := by decide +kernel
theorem dX8_fits_17 : decode cX8_fits 17 = .ok (.bipush 10, 2) := by decide +kernel
theorem dX8_fits_19 : decode cX8_fits 19 = .ok (.if_icmp .ne 7, 3) := by decide +kernel
theorem dX8_fits_22 : decode cX8_fits 22 = .ok (.iconst 1, 1) := by decide +kernel
theorem dX8_fits_23 : decode cX8_fits 23 = .ok (.goto 93, 3) := by decide +kernel
theorem dX8_fits_26 : decode cX8_fits 26 = .ok (.iconst 0, 1) := by decide +kernel
theorem dX8_fits_27 : decode cX8_fits 27 = .ok (.goto 89, 3) := by decide +kernel
theorem dX8_fits_30 : decode cX8_fits 30 = .ok (.iload_n 1, 1) := by decide +kernel
theorem dX8_fits_31 : decode cX8_fits 31 = .ok (.iconst 1, 1) := by decide +kernel
theorem dX8_fits_32 : decode cX8_fits 32 = .ok (.if_icmp .ne 29, 3) := by decide +kernel
theorem dX8_fits_35 : decode cX8_fits 35 = .ok (.aload_n 0, 1) := by decide +kernel
theorem dX8_fits_36 : decode cX8_fits 36 = .ok (.getfield 29, 3) := by decide +kernel
theorem dX8_fits_39 : decode cX8_fits 39 = .ok (.bipush 16, 2) := by decide +kernel
theorem dX8_fits_41 : decode cX8_fits 41 = .ok (.if_icmp .ne 16, 3) := by decide +kernel
theorem dX8_fits_44 : decode cX8_fits 44 = .ok (.aload_n 0, 1) := by decide +kernel
theorem dX8_fits_45 : decode cX8_fits 45 = .ok (.getfield 34, 3) := by decide +kernel
theorem dX8_fits_48 : decode cX8_fits 48 = .ok (.bipush 12, 2) := by decide +kernel
theorem dX8_fits_50 : decode cX8_fits 50 = .ok (.if_icmp .ne 7, 3) := by decide +kernel
theorem dX8_fits_53 : decode cX8_fits 53 = .ok (.iconst 1, 1) := by decide +kernel
theorem dX8_fits_54 : decode cX8_fits 54 = .ok (.goto 62, 3) := by decide +kernel
theorem dX8_fits_57 : decode cX8_fits 57 = .ok (.iconst 0, 1) := by decide +kernel
theorem dX8_fits_58 : decode cX8_fits 58 = .ok (.goto 58, 3) := by decide +kernel
theorem dX8_fits_61 : decode cX8_fits 61 = .ok (.iload_n 1, 1) := by decide +kernel
theorem dX8_fits_62 : decode cX8_fits 62 = .ok (.iconst 2, 1) := by decide +kernel
theorem dX8_fits_63 : decode cX8_fits 63 = .ok (.if_icmp .ne 28, 3) := by decide +kernel
theorem dX8_fits_66 : decode cX8_fits 66 = .ok (.aload_n 0, 1) := by decide +kernel
theorem dX8_fits_67 : decode cX8_fits 67 = .ok (.getfield 29, 3) := by decide +kernel
theorem dX8_fits_70 : decode cX8_fits 70 = .ok (.bipush 8, 2) := by decide +kernel
theorem dX8_fits_72 : decode cX8_fits 72 = .ok (.if_icmp .ne 15, 3) := by decide +kernel
theorem dX8_fits_75 : decode cX8_fits 75 = .ok (.aload_n 0, 1) := by decide +kernel
theorem dX8_fits_76 : decode cX8_fits 76 = .ok (.getfield 34, 3) := by decide +kernel
theorem dX8_fits_79 : decode cX8_fits 79 = .ok (.iconst 3, 1) := by decide +kernel
theorem dX8_fits_80 : decode cX8_fits 80 = .ok (.if_icmp .ne 7, 3) := by decide +kernel
theorem dX8_fits_83 : decode cX8_fits 83 = .ok (.iconst 1, 1) := by decide +kernel
theorem dX8_fits_84 : decode cX8_fits 84 = .ok (.goto 32, 3) := by decide +kernel
theorem dX8_fits_87 : decode cX8_fits 87 = .ok (.iconst 0, 1) := by decide +kernel
theorem dX8_fits_88 : decode cX8_fits 88 = .ok (.goto 28, 3) := by decide +kernel
theorem dX8_fits_91 : decode cX8_fits 91 = .ok (.iload_n 1, 1) := by decide +kernel
theorem dX8_fits_92 : decode cX8_fits 92 = .ok (.iconst 3, 1) := by decide +kernel
theorem dX8_fits_93 : decode cX8_fits 93 = .ok (.if_icmp .ne 22, 3) := by decide +kernel
theorem dX8_fits_96 : decode cX8_fits 96 = .ok (.aload_n 0, 1) := by decide +kernel
theorem dX8_fits_97 : decode cX8_fits 97 = .ok (.getfield 29, 3) := by decide +kernel
theorem dX8_fits_100 : decode cX8_fits 100 = .ok (.iconst 5, 1) := by decide +kernel
theorem dX8_fits_101 : decode cX8_fits 101 = .ok (.if_icmp .lt 14, 3) := by decide +kernel
theorem dX8_fits_104 : decode cX8_fits 104 = .ok (.aload_n 0, 1) := by decide +kernel
theorem dX8_fits_105 : decode cX8_fits 105 = .ok (.getfield 34, 3) := by decide +kernel
theorem dX8_fits_108 : decode cX8_fits 108 = .ok (.ifCond .ne 7, 3) := by decide +kernel
theorem dX8_fits_111 : decode cX8_fits 111 = .ok (.iconst 1, 1) := by decide +kernel
theorem dX8_fits_112 : decode cX8_fits 112 = .ok (.goto 4, 3) := by decide +kernel
theorem dX8_fits_115 : decode cX8_fits 115 = .ok (.iconst 0, 1) := by decide +kernel
theorem dX8_fits_116 : decode cX8_fits 116 = .ok (.ireturn, 1) := by decide +kernel
theorem dX8_begin_0 : decode cX8_begin 0 = .ok (.aload_n 0, 1) := by decide +kernel
theorem dX8_begin_1 : decode cX8_begin 1 = .ok (.iload_n 1, 1) := by decide +kernel
theorem dX8_begin_2 : decode cX8_begin 2 = .ok (.invokevirtual 75, 3) := by decide +kernel
theorem dX8_begin_5 : decode cX8_begin 5 = .ok (.ifCond .ne 5, 3) := by decide +kernel
theorem dX8_begin_8 : decode cX8_begin 8 = .ok (.iconst 0, 1) := by decide +kernel
theorem dX8_begin_9 : decode cX8_begin 9 = .ok (.ireturn, 1) := by decide +kernel
theorem dX8_begin_10 : decode cX8_begin 10 = .ok (.aload_n 0, 1) := by decide +kernel
theorem dX8_begin_11 : decode cX8_begin 11 = .ok (.iload_n 1, 1) := by decide +kernel
theorem dX8_begin_12 : decode cX8_begin 12 = .ok (.putfield 16, 3) := by decide +kernel
theorem dX8_begin_15 : decode cX8_begin 15 = .ok (.aload_n 0, 1) := by decide +kernel
theorem dX8_begin_16 : decode cX8_begin 16 = .ok (.iconst 0, 1) := by decide +kernel
theorem dX8_begin_17 : decode cX8_begin 17 = .ok (.putfield 79, 3) := by decide +kernel
theorem dX8_begin_20 : decode cX8_begin 20 = .ok (.aload_n 0, 1) := by decide +kernel
theorem dX8_begin_21 : decode cX8_begin 21 = .ok (.invokevirtual 82, 3) := by decide +kernel
theorem dX8_begin_24 : decode cX8_begin 24 = .ok (.iload_n 1, 1) := by decide +kernel
theorem dX8_begin_25 : decode cX8_begin 25 = .ok (.ifCond .ne 10, 3) := by decide +kernel
theorem dX8_begin_28 : decode cX8_begin 28 = .ok (.aload_n 0, 1) := by decide +kernel
theorem dX8_begin_29 : decode cX8_begin 29 = .ok (.invokevirtual 85, 3) := by decide +kernel
theorem dX8_begin_32 : decode cX8_begin 32 = .ok (.goto 31, 3) := by decide +kernel
theorem dX8_begin_35 : decode cX8_begin 35 = .ok (.iload_n 1, 1) := by decide +kernel
theorem dX8_begin_36 : decode cX8_begin 36 = .ok (.iconst 1, 1) := by decide +kernel
theorem dX8_begin_37 : decode cX8_begin 37 = .ok (.if_icmp .ne 10, 3) := by decide +kernel
theorem dX8_begin_40 : decode cX8_begin 40 = .ok (.aload_n 0, 1) := by decide +kernel
theorem dX8_begin_41 : decode cX8_begin 41 = .ok (.invokevirtual 88, 3) := by decide +kernel
theorem dX8_begin_44 : decode cX8_begin 44 = .ok (.goto 19, 3) := by decide +kernel
theorem dX8_begin_47 : decode cX8_begin 47 = .ok (.iload_n 1, 1) := by decide +kernel
theorem dX8_begin_48 : decode cX8_begin 48 = .ok (.iconst 2, 1) := by decide +kernel
theorem dX8_begin_49 : decode cX8_begin 49 = .ok (.if_icmp .ne 10, 3) := by decide +kernel
theorem dX8_begin_52 : decode cX8_begin 52 = .ok (.aload_n 0, 1) := by decide +kernel
theorem dX8_begin_53 : decode cX8_begin 53 = .ok (.invokevirtual 91, 3) := by decide +kernel
theorem dX8_begin_56 : decode cX8_begin 56 = .ok (.goto 7, 3) := by decide +kernel
theorem dX8_begin_59 : decode cX8_begin 59 = .ok (.aload_n 0, 1) := by decide +kernel
theorem dX8_begin_60 : decode cX8_begin 60 = .ok (.invokevirtual 94, 3) := by decide +kernel
theorem dX8_begin_63 : decode cX8_begin 63 = .ok (.aload_n 0, 1) := by decide +kernel
theorem dX8_begin_64 : decode cX8_begin 64 = .ok (.iconst 0, 1) := by decide +kernel
theorem dX8_begin_65 : decode cX8_begin 65 = .ok (.putfield 29, 3) := by decide +kernel
theorem dX8_begin_68 : decode cX8_begin 68 = .ok (.aload_n 0, 1) := by decide +kernel
theorem dX8_begin_69 : decode cX8_begin 69 = .ok (.iconst 0, 1) := by decide +kernel
theorem dX8_begin_70 : decode cX8_begin 70 = .ok (.putfield 34, 3) := by decide +kernel
theorem dX8_begin_73 : decode cX8_begin 73 = .ok (.iconst 1, 1) := by decide +kernel
theorem dX8_begin_74 : decode cX8_begin 74 = .ok (.ireturn, 1) := by decide +kernel
theorem dX8_beginRings_0 : decode cX8_beginRings 0 = .ok (.iconst 0, 1) := by decide +kernel
theorem dX8_beginRings_1 : decode cX8_beginRings 1 = .ok (.istore_n 1, 1) := by decide +kernel
theorem dX8_beginRings_2 : decode cX8_beginRings 2 = .ok (.iload_n 1, 1) := by decide +kernel
theorem dX8_beginRings_3 : decode cX8_beginRings 3 = .ok (.bipush 80, 2) := by decide +kernel
theorem dX8_beginRings_5 : decode cX8_beginRings 5 = .ok (.if_icmp .ge 31, 3) := by decide +kernel
theorem dX8_beginRings_8 : decode cX8_beginRings 8 = .ok (.aload_n 0, 1) := by decide +kernel
theorem dX8_beginRings_9 : decode cX8_beginRings 9 = .ok (.iconst 0, 1) := by decide +kernel
theorem dX8_beginRings_10 : decode cX8_beginRings 10 = .ok (.iload_n 1, 1) := by decide +kernel
theorem dX8_beginRings_11 : decode cX8_beginRings 11 = .ok (.aload_n 0, 1) := by decide +kernel
theorem dX8_beginRings_12 : decode cX8_beginRings 12 = .ok (.iload_n 1, 1) := by decide +kernel
theorem dX8_beginRings_13 : decode cX8_beginRings 13 = .ok (.invokevirtual 97, 3) := by decide +kernel
theorem dX8_beginRings_16 : decode cX8_beginRings 16 = .ok (.invokevirtual 37, 3) := by decide +kernel
theorem dX8_beginRings_19 : decode cX8_beginRings 19 = .ok (.aload_n 0, 1) := by decide +kernel
theorem dX8_beginRings_20 : decode cX8_beginRings 20 = .ok (.iconst 1, 1) := by decide +kernel
theorem dX8_beginRings_21 : decode cX8_beginRings 21 = .ok (.iload_n 1, 1) := by decide +kernel
theorem dX8_beginRings_22 : decode cX8_beginRings 22 = .ok (.aload_n 0, 1) := by decide +kernel
theorem dX8_beginRings_23 : decode cX8_beginRings 23 = .ok (.iload_n 1, 1) := by decide +kernel
theorem dX8_beginRings_24 : decode cX8_beginRings 24 = .ok (.invokevirtual 100, 3) := by decide +kernel
theorem dX8_beginRings_27 : decode cX8_beginRings 27 = .ok (.invokevirtual 37, 3) := by decide +kernel
theorem dX8_beginRings_30 : decode cX8_beginRings 30 = .ok (.iinc 1 1, 3) := by decide +kernel
theorem dX8_beginRings_33 : decode cX8_beginRings 33 = .ok (.goto (-31), 3) := by decide +kernel
theorem dX8_beginRings_36 : decode cX8_beginRings 36 = .ok (.bipush 108, 2) := by decide +kernel
theorem dX8_beginRings_38 : decode cX8_beginRings 38 = .ok (.istore_n 1, 1) := by decide +kernel
theorem dX8_beginRings_39 : decode cX8_beginRings 39 = .ok (.iload_n 1, 1) := by decide +kernel
theorem dX8_beginRings_40 : decode cX8_beginRings 40 = .ok (.bipush 111, 2) := by decide +kernel
theorem dX8_beginRings_42 : decode cX8_beginRings 42 = .ok (.if_icmp .ge 16, 3) := by decide +kernel
theorem dX8_beginRings_45 : decode cX8_beginRings 45 = .ok (.aload_n 0, 1) := by decide +kernel
theorem dX8_beginRings_46 : decode cX8_beginRings 46 = .ok (.iconst 2, 1) := by decide +kernel
theorem dX8_beginRings_47 : decode cX8_beginRings 47 = .ok (.iload_n 1, 1) := by decide +kernel
theorem dX8_beginRings_48 : decode cX8_beginRings 48 = .ok (.iconst 1, 1) := by decide +kernel
theorem dX8_beginRings_49 : decode cX8_beginRings 49 = .ok (.invokevirtual 37, 3) := by decide +kernel
theorem dX8_beginRings_52 : decode cX8_beginRings 52 = .ok (.iinc 1 1, 3) := by decide +kernel
theorem dX8_beginRings_55 : decode cX8_beginRings 55 = .ok (.goto (-16), 3) := by decide +kernel
theorem dX8_beginRings_58 : decode cX8_beginRings 58 = .ok (.iconst 0, 1) := by decide +kernel
theorem dX8_beginRings_59 : decode cX8_beginRings 59 = .ok (.istore_n 1, 1) := by decide +kernel
theorem dX8_beginRings_60 : decode cX8_beginRings 60 = .ok (.iload_n 1, 1) := by decide +kernel
theorem dX8_beginRings_61 : decode cX8_beginRings 61 = .ok (.sipush 1152, 3) := by decide +kernel
theorem dX8_beginRings_64 : decode cX8_beginRings 64 = .ok (.if_icmp .ge 14, 3) := by decide +kernel
theorem dX8_beginRings_67 : decode cX8_beginRings 67 = .ok (.aload_n 0, 1) := by decide +kernel
theorem dX8_beginRings_68 : decode cX8_beginRings 68 = .ok (.invokevirtual 103, 3) := by decide +kernel
theorem dX8_beginRings_71 : decode cX8_beginRings 71 = .ok (.pop, 1) := by decide +kernel
theorem dX8_beginRings_72 : decode cX8_beginRings 72 = .ok (.iinc 1 1, 3) := by decide +kernel
theorem dX8_beginRings_75 : decode cX8_beginRings 75 = .ok (.goto (-15), 3) := by decide +kernel
theorem dX8_beginRings_78 : decode cX8_beginRings 78 = .ok (.return_, 1) := by decide +kernel
theorem dX8_beginTwo_0 : decode cX8_beginTwo 0 = .ok (.iconst 0, 1) := by decide +kernel
theorem dX8_beginTwo_1 : decode cX8_beginTwo 1 = .ok (.istore_n 1, 1) := by decide +kernel
theorem dX8_beginTwo_2 : decode cX8_beginTwo 2 = .ok (.iload_n 1, 1) := by decide +kernel
theorem dX8_beginTwo_3 : decode cX8_beginTwo 3 = .ok (.sipush 128, 3) := by decide +kernel
theorem dX8_beginTwo_6 : decode cX8_beginTwo 6 = .ok (.if_icmp .ge 51, 3) := by decide +kernel
theorem dX8_beginTwo_9 : decode cX8_beginTwo 9 = .ok (.aload_n 0, 1) := by decide +kernel
theorem dX8_beginTwo_10 : decode cX8_beginTwo 10 = .ok (.iconst 0, 1) := by decide +kernel
theorem dX8_beginTwo_11 : decode cX8_beginTwo 11 = .ok (.iload_n 1, 1) := by decide +kernel
theorem dX8_beginTwo_12 : decode cX8_beginTwo 12 = .ok (.aload_n 0, 1) := by decide +kernel
theorem dX8_beginTwo_13 : decode cX8_beginTwo 13 = .ok (.iload_n 1, 1) := by decide +kernel
theorem dX8_beginTwo_14 : decode cX8_beginTwo 14 = .ok (.invokevirtual 97, 3) := by decide +kernel
theorem dX8_beginTwo_17 : decode cX8_beginTwo 17 = .ok (.invokevirtual 37, 3) := by decide +kernel
theorem dX8_beginTwo_20 : decode cX8_beginTwo 20 = .ok (.aload_n 0, 1) := by decide +kernel
theorem dX8_beginTwo_21 : decode cX8_beginTwo 21 = .ok (.iconst 1, 1) := by decide +kernel
theorem dX8_beginTwo_22 : decode cX8_beginTwo 22 = .ok (.iload_n 1, 1) := by decide +kernel
theorem dX8_beginTwo_23 : decode cX8_beginTwo 23 = .ok (.iload_n 1, 1) := by decide +kernel
theorem dX8_beginTwo_24 : decode cX8_beginTwo 24 = .ok (.bipush 96, 2) := by decide +kernel
theorem dX8_beginTwo_26 : decode cX8_beginTwo 26 = .ok (.if_icmp .ge 11, 3) := by decide +kernel
theorem dX8_beginTwo_29 : decode cX8_beginTwo 29 = .ok (.aload_n 0, 1) := by decide +kernel
theorem dX8_beginTwo_30 : decode cX8_beginTwo 30 = .ok (.iload_n 1, 1) := by decide +kernel
theorem dX8_beginTwo_31 : decode cX8_beginTwo 31 = .ok (.invokevirtual 100, 3) := by decide +kernel
theorem dX8_beginTwo_34 : decode cX8_beginTwo 34 = .ok (.goto 14, 3) := by decide +kernel
theorem dX8_beginTwo_37 : decode cX8_beginTwo 37 = .ok (.iload_n 1, 1) := by decide +kernel
theorem dX8_beginTwo_38 : decode cX8_beginTwo 38 = .ok (.bipush 127, 2) := by decide +kernel
theorem dX8_beginTwo_40 : decode cX8_beginTwo 40 = .ok (.if_icmp .ge 7, 3) := by decide +kernel
theorem dX8_beginTwo_43 : decode cX8_beginTwo 43 = .ok (.iconst 1, 1) := by decide +kernel
theorem dX8_beginTwo_44 : decode cX8_beginTwo 44 = .ok (.goto 4, 3) := by decide +kernel
theorem dX8_beginTwo_47 : decode cX8_beginTwo 47 = .ok (.iconst 0, 1) := by decide +kernel
theorem dX8_beginTwo_48 : decode cX8_beginTwo 48 = .ok (.invokevirtual 37, 3) := by decide +kernel
theorem dX8_beginTwo_51 : decode cX8_beginTwo 51 = .ok (.iinc 1 1, 3) := by decide +kernel
theorem dX8_beginTwo_54 : decode cX8_beginTwo 54 = .ok (.goto (-52), 3) := by decide +kernel
theorem dX8_beginTwo_57 : decode cX8_beginTwo 57 = .ok (.iconst 0, 1) := by decide +kernel
theorem dX8_beginTwo_58 : decode cX8_beginTwo 58 = .ok (.istore_n 1, 1) := by decide +kernel
theorem dX8_beginTwo_59 : decode cX8_beginTwo 59 = .ok (.iload_n 1, 1) := by decide +kernel
theorem dX8_beginTwo_60 : decode cX8_beginTwo 60 = .ok (.sipush 256, 3) := by decide +kernel
theorem dX8_beginTwo_63 : decode cX8_beginTwo 63 = .ok (.if_icmp .ge 15, 3) := by decide +kernel
theorem dX8_beginTwo_66 : decode cX8_beginTwo 66 = .ok (.aload_n 0, 1) := by decide +kernel
theorem dX8_beginTwo_67 : decode cX8_beginTwo 67 = .ok (.iconst 1, 1) := by decide +kernel
theorem dX8_beginTwo_68 : decode cX8_beginTwo 68 = .ok (.invokevirtual 107, 3) := by decide +kernel
theorem dX8_beginTwo_71 : decode cX8_beginTwo 71 = .ok (.pop, 1) := by decide +kernel
theorem dX8_beginTwo_72 : decode cX8_beginTwo 72 = .ok (.iinc 1 1, 3) := by decide +kernel
theorem dX8_beginTwo_75 : decode cX8_beginTwo 75 = .ok (.goto (-16), 3) := by decide +kernel
theorem dX8_beginTwo_78 : decode cX8_beginTwo 78 = .ok (.return_, 1) := by decide +kernel
theorem dX8_beginStops_0 : decode cX8_beginStops 0 = .ok (.iconst 0, 1) := by decide +kernel
theorem dX8_beginStops_1 : decode cX8_beginStops 1 = .ok (.istore_n 1, 1) := by decide +kernel
theorem dX8_beginStops_2 : decode cX8_beginStops 2 = .ok (.iload_n 1, 1) := by decide +kernel
theorem dX8_beginStops_3 : decode cX8_beginStops 3 = .ok (.bipush 64, 2) := by decide +kernel
theorem dX8_beginStops_5 : decode cX8_beginStops 5 = .ok (.if_icmp .ge 18, 3) := by decide +kernel
theorem dX8_beginStops_8 : decode cX8_beginStops 8 = .ok (.aload_n 0, 1) := by decide +kernel
theorem dX8_beginStops_9 : decode cX8_beginStops 9 = .ok (.aload_n 0, 1) := by decide +kernel
theorem dX8_beginStops_10 : decode cX8_beginStops 10 = .ok (.iload_n 1, 1) := by decide +kernel
theorem dX8_beginStops_11 : decode cX8_beginStops 11 = .ok (.invokevirtual 97, 3) := by decide +kernel
theorem dX8_beginStops_14 : decode cX8_beginStops 14 = .ok (.invokevirtual 111, 3) := by decide +kernel
theorem dX8_beginStops_17 : decode cX8_beginStops 17 = .ok (.iinc 1 1, 3) := by decide +kernel
theorem dX8_beginStops_20 : decode cX8_beginStops 20 = .ok (.goto (-18), 3) := by decide +kernel
theorem dX8_beginStops_23 : decode cX8_beginStops 23 = .ok (.iconst 2, 1) := by decide +kernel
theorem dX8_beginStops_24 : decode cX8_beginStops 24 = .ok (.istore_n 1, 1) := by decide +kernel
theorem dX8_beginStops_25 : decode cX8_beginStops 25 = .ok (.iload_n 1, 1) := by decide +kernel
theorem dX8_beginStops_26 : decode cX8_beginStops 26 = .ok (.bipush 24, 2) := by decide +kernel
theorem dX8_beginStops_28 : decode cX8_beginStops 28 = .ok (.if_icmp .ge 18, 3) := by decide +kernel
theorem dX8_beginStops_31 : decode cX8_beginStops 31 = .ok (.aload_n 0, 1) := by decide +kernel
theorem dX8_beginStops_32 : decode cX8_beginStops 32 = .ok (.aload_n 0, 1) := by decide +kernel
theorem dX8_beginStops_33 : decode cX8_beginStops 33 = .ok (.iload_n 1, 1) := by decide +kernel
theorem dX8_beginStops_34 : decode cX8_beginStops 34 = .ok (.invokevirtual 100, 3) := by decide +kernel
theorem dX8_beginStops_37 : decode cX8_beginStops 37 = .ok (.invokevirtual 111, 3) := by decide +kernel
theorem dX8_beginStops_40 : decode cX8_beginStops 40 = .ok (.iinc 1 1, 3) := by decide +kernel
theorem dX8_beginStops_43 : decode cX8_beginStops 43 = .ok (.goto (-18), 3) := by decide +kernel
theorem dX8_beginStops_46 : decode cX8_beginStops 46 = .ok (.iconst 0, 1) := by decide +kernel
theorem dX8_beginStops_47 : decode cX8_beginStops 47 = .ok (.istore_n 1, 1) := by decide +kernel
theorem dX8_beginStops_48 : decode cX8_beginStops 48 = .ok (.iload_n 1, 1) := by decide +kernel
theorem dX8_beginStops_49 : decode cX8_beginStops 49 = .ok (.bipush 100, 2) := by decide +kernel
theorem dX8_beginStops_51 : decode cX8_beginStops 51 = .ok (.if_icmp .ge 14, 3) := by decide +kernel
theorem dX8_beginStops_54 : decode cX8_beginStops 54 = .ok (.aload_n 0, 1) := by decide +kernel
theorem dX8_beginStops_55 : decode cX8_beginStops 55 = .ok (.invokevirtual 114, 3) := by decide +kernel
theorem dX8_beginStops_58 : decode cX8_beginStops 58 = .ok (.pop, 1) := by decide +kernel
theorem dX8_beginStops_59 : decode cX8_beginStops 59 = .ok (.iinc 1 1, 3) := by decide +kernel
theorem dX8_beginStops_62 : decode cX8_beginStops 62 = .ok (.goto (-14), 3) := by decide +kernel
theorem dX8_beginStops_65 : decode cX8_beginStops 65 = .ok (.return_, 1) := by decide +kernel
theorem dX8_beginRow_0 : decode cX8_beginRow 0 = .ok (.iconst 0, 1) := by decide +kernel
theorem dX8_beginRow_1 : decode cX8_beginRow 1 = .ok (.istore_n 1, 1) := by decide +kernel
theorem dX8_beginRow_2 : decode cX8_beginRow 2 = .ok (.iload_n 1, 1) := by decide +kernel
theorem dX8_beginRow_3 : decode cX8_beginRow 3 = .ok (.sipush 256, 3) := by decide +kernel
theorem dX8_beginRow_6 : decode cX8_beginRow 6 = .ok (.if_icmp .ge 16, 3) := by decide +kernel
theorem dX8_beginRow_9 : decode cX8_beginRow 9 = .ok (.aload_n 0, 1) := by decide +kernel
theorem dX8_beginRow_10 : decode cX8_beginRow 10 = .ok (.getfield 26, 3) := by decide +kernel
theorem dX8_beginRow_13 : decode cX8_beginRow 13 = .ok (.iload_n 1, 1) := by decide +kernel
theorem dX8_beginRow_14 : decode cX8_beginRow 14 = .ok (.iload_n 1, 1) := by decide +kernel
theorem dX8_beginRow_15 : decode cX8_beginRow 15 = .ok (.iastore, 1) := by decide +kernel
theorem dX8_beginRow_16 : decode cX8_beginRow 16 = .ok (.iinc 1 1, 3) := by decide +kernel
theorem dX8_beginRow_19 : decode cX8_beginRow 19 = .ok (.goto (-17), 3) := by decide +kernel
theorem dX8_beginRow_22 : decode cX8_beginRow 22 = .ok (.aload_n 0, 1) := by decide +kernel
theorem dX8_beginRow_23 : decode cX8_beginRow 23 = .ok (.iconst 0, 1) := by decide +kernel
theorem dX8_beginRow_24 : decode cX8_beginRow 24 = .ok (.putfield 69, 3) := by decide +kernel
theorem dX8_beginRow_27 : decode cX8_beginRow 27 = .ok (.iconst 0, 1) := by decide +kernel
theorem dX8_beginRow_28 : decode cX8_beginRow 28 = .ok (.istore_n 1, 1) := by decide +kernel
theorem dX8_beginRow_29 : decode cX8_beginRow 29 = .ok (.iload_n 1, 1) := by decide +kernel
theorem dX8_beginRow_30 : decode cX8_beginRow 30 = .ok (.sipush 256, 3) := by decide +kernel
theorem dX8_beginRow_33 : decode cX8_beginRow 33 = .ok (.if_icmp .ge 49, 3) := by decide +kernel
theorem dX8_beginRow_36 : decode cX8_beginRow 36 = .ok (.aload_n 0, 1) := by decide +kernel
theorem dX8_beginRow_37 : decode cX8_beginRow 37 = .ok (.aload_n 0, 1) := by decide +kernel
theorem dX8_beginRow_38 : decode cX8_beginRow 38 = .ok (.getfield 69, 3) := by decide +kernel
theorem dX8_beginRow_41 : decode cX8_beginRow 41 = .ok (.aload_n 0, 1) := by decide +kernel
theorem dX8_beginRow_42 : decode cX8_beginRow 42 = .ok (.getfield 26, 3) := by decide +kernel
theorem dX8_beginRow_45 : decode cX8_beginRow 45 = .ok (.iload_n 1, 1) := by decide +kernel
theorem dX8_beginRow_46 : decode cX8_beginRow 46 = .ok (.iaload, 1) := by decide +kernel
theorem dX8_beginRow_47 : decode cX8_beginRow 47 = .ok (.iadd, 1) := by decide +kernel
theorem dX8_beginRow_48 : decode cX8_beginRow 48 = .ok (.aload_n 0, 1) := by decide +kernel
theorem dX8_beginRow_49 : decode cX8_beginRow 49 = .ok (.getfield 7, 3) := by decide +kernel
theorem dX8_beginRow_52 : decode cX8_beginRow 52 = .ok (.iload_n 1, 1) := by decide +kernel
theorem dX8_beginRow_53 : decode cX8_beginRow 53 = .ok (.aload_n 0, 1) := by decide +kernel
theorem dX8_beginRow_54 : decode cX8_beginRow 54 = .ok (.getfield 29, 3) := by decide +kernel
theorem dX8_beginRow_57 : decode cX8_beginRow 57 = .ok (.irem, 1) := by decide +kernel
theorem dX8_beginRow_58 : decode cX8_beginRow 58 = .ok (.iaload, 1) := by decide +kernel
theorem dX8_beginRow_59 : decode cX8_beginRow 59 = .ok (.iadd, 1) := by decide +kernel
theorem dX8_beginRow_60 : decode cX8_beginRow 60 = .ok (.sipush 255, 3) := by decide +kernel
theorem dX8_beginRow_63 : decode cX8_beginRow 63 = .ok (.iand, 1) := by decide +kernel
theorem dX8_beginRow_64 : decode cX8_beginRow 64 = .ok (.putfield 69, 3) := by decide +kernel
theorem dX8_beginRow_67 : decode cX8_beginRow 67 = .ok (.aload_n 0, 1) := by decide +kernel
theorem dX8_beginRow_68 : decode cX8_beginRow 68 = .ok (.iload_n 1, 1) := by decide +kernel
theorem dX8_beginRow_69 : decode cX8_beginRow 69 = .ok (.aload_n 0, 1) := by decide +kernel
theorem dX8_beginRow_70 : decode cX8_beginRow 70 = .ok (.getfield 69, 3) := by decide +kernel
theorem dX8_beginRow_73 : decode cX8_beginRow 73 = .ok (.invokevirtual 72, 3) := by decide +kernel
theorem dX8_beginRow_76 : decode cX8_beginRow 76 = .ok (.iinc 1 1, 3) := by decide +kernel
theorem dX8_beginRow_79 : decode cX8_beginRow 79 = .ok (.goto (-50), 3) := by decide +kernel
theorem dX8_beginRow_82 : decode cX8_beginRow 82 = .ok (.aload_n 0, 1) := by decide +kernel
theorem dX8_beginRow_83 : decode cX8_beginRow 83 = .ok (.iconst 0, 1) := by decide +kernel
theorem dX8_beginRow_84 : decode cX8_beginRow 84 = .ok (.putfield 66, 3) := by decide +kernel
theorem dX8_beginRow_87 : decode cX8_beginRow 87 = .ok (.aload_n 0, 1) := by decide +kernel
theorem dX8_beginRow_88 : decode cX8_beginRow 88 = .ok (.iconst 0, 1) := by decide +kernel
theorem dX8_beginRow_89 : decode cX8_beginRow 89 = .ok (.putfield 69, 3) := by decide +kernel
theorem dX8_beginRow_92 : decode cX8_beginRow 92 = .ok (.aload_n 0, 1) := by decide +kernel
theorem dX8_beginRow_93 : decode cX8_beginRow 93 = .ok (.iconst 0, 1) := by decide +kernel
theorem dX8_beginRow_94 : decode cX8_beginRow 94 = .ok (.putfield 117, 3) := by decide +kernel
theorem dX8_beginRow_97 : decode cX8_beginRow 97 = .ok (.return_, 1) := by decide +kernel
theorem dX8_next_0 : decode cX8_next 0 = .ok (.aload_n 0, 1) := by decide +kernel
theorem dX8_next_1 : decode cX8_next 1 = .ok (.dup, 1) := by decide +kernel
theorem dX8_next_2 : decode cX8_next 2 = .ok (.getfield 79, 3) := by decide +kernel
theorem dX8_next_5 : decode cX8_next 5 = .ok (.iconst 1, 1) := by decide +kernel
theorem dX8_next_6 : decode cX8_next 6 = .ok (.iadd, 1) := by decide +kernel
theorem dX8_next_7 : decode cX8_next 7 = .ok (.putfield 79, 3) := by decide +kernel
theorem dX8_next_10 : decode cX8_next 10 = .ok (.aload_n 0, 1) := by decide +kernel
theorem dX8_next_11 : decode cX8_next 11 = .ok (.getfield 16, 3) := by decide +kernel
theorem dX8_next_14 : decode cX8_next 14 = .ok (.ifCond .ne 8, 3) := by decide +kernel
theorem dX8_next_17 : decode cX8_next 17 = .ok (.aload_n 0, 1) := by decide +kernel
theorem dX8_next_18 : decode cX8_next 18 = .ok (.invokevirtual 103, 3) := by decide +kernel
theorem dX8_next_21 : decode cX8_next 21 = .ok (.ireturn, 1) := by decide +kernel
theorem dX8_next_22 : decode cX8_next 22 = .ok (.aload_n 0, 1) := by decide +kernel
theorem dX8_next_23 : decode cX8_next 23 = .ok (.getfield 16, 3) := by decide +kernel
theorem dX8_next_26 : decode cX8_next 26 = .ok (.iconst 1, 1) := by decide +kernel
theorem dX8_next_27 : decode cX8_next 27 = .ok (.if_icmp .ne 9, 3) := by decide +kernel
theorem dX8_next_30 : decode cX8_next 30 = .ok (.aload_n 0, 1) := by decide +kernel
theorem dX8_next_31 : decode cX8_next 31 = .ok (.iconst 0, 1) := by decide +kernel
theorem dX8_next_32 : decode cX8_next 32 = .ok (.invokevirtual 107, 3) := by decide +kernel
theorem dX8_next_35 : decode cX8_next 35 = .ok (.ireturn, 1) := by decide +kernel
theorem dX8_next_36 : decode cX8_next 36 = .ok (.aload_n 0, 1) := by decide +kernel
theorem dX8_next_37 : decode cX8_next 37 = .ok (.getfield 16, 3) := by decide +kernel
theorem dX8_next_40 : decode cX8_next 40 = .ok (.iconst 2, 1) := by decide +kernel
theorem dX8_next_41 : decode cX8_next 41 = .ok (.if_icmp .ne 8, 3) := by decide +kernel
theorem dX8_next_44 : decode cX8_next 44 = .ok (.aload_n 0, 1) := by decide +kernel
theorem dX8_next_45 : decode cX8_next 45 = .ok (.invokevirtual 114, 3) := by decide +kernel
theorem dX8_next_48 : decode cX8_next 48 = .ok (.ireturn, 1) := by decide +kernel
theorem dX8_next_49 : decode cX8_next 49 = .ok (.aload_n 0, 1) := by decide +kernel
theorem dX8_next_50 : decode cX8_next 50 = .ok (.getfield 117, 3) := by decide +kernel
theorem dX8_next_53 : decode cX8_next 53 = .ok (.ifCond .ne 17, 3) := by decide +kernel
theorem dX8_next_56 : decode cX8_next 56 = .ok (.aload_n 0, 1) := by decide +kernel
theorem dX8_next_57 : decode cX8_next 57 = .ok (.aload_n 0, 1) := by decide +kernel
theorem dX8_next_58 : decode cX8_next 58 = .ok (.invokevirtual 120, 3) := by decide +kernel
theorem dX8_next_61 : decode cX8_next 61 = .ok (.putfield 123, 3) := by decide +kernel
theorem dX8_next_64 : decode cX8_next 64 = .ok (.aload_n 0, 1) := by decide +kernel
theorem dX8_next_65 : decode cX8_next 65 = .ok (.bipush 8, 2) := by decide +kernel
theorem dX8_next_67 : decode cX8_next 67 = .ok (.putfield 117, 3) := by decide +kernel
theorem dX8_next_70 : decode cX8_next 70 = .ok (.aload_n 0, 1) := by decide +kernel
theorem dX8_next_71 : decode cX8_next 71 = .ok (.dup, 1) := by decide +kernel
theorem dX8_next_72 : decode cX8_next 72 = .ok (.getfield 117, 3) := by decide +kernel
theorem dX8_next_75 : decode cX8_next 75 = .ok (.iconst 1, 1) := by decide +kernel
theorem dX8_next_76 : decode cX8_next 76 = .ok (.isub, 1) := by decide +kernel
theorem dX8_next_77 : decode cX8_next 77 = .ok (.putfield 117, 3) := by decide +kernel
theorem dX8_next_80 : decode cX8_next 80 = .ok (.aload_n 0, 1) := by decide +kernel
theorem dX8_next_81 : decode cX8_next 81 = .ok (.getfield 123, 3) := by decide +kernel
theorem dX8_next_84 : decode cX8_next 84 = .ok (.aload_n 0, 1) := by decide +kernel
theorem dX8_next_85 : decode cX8_next 85 = .ok (.getfield 117, 3) := by decide +kernel
theorem dX8_next_88 : decode cX8_next 88 = .ok (.ishr, 1) := by decide +kernel
theorem dX8_next_89 : decode cX8_next 89 = .ok (.iconst 1, 1) := by decide +kernel
theorem dX8_next_90 : decode cX8_next 90 = .ok (.iand, 1) := by decide +kernel
theorem dX8_next_91 : decode cX8_next 91 = .ok (.ireturn, 1) := by decide +kernel
theorem dX8_bits_0 : decode cX8_bits 0 = .ok (.aload_n 0, 1) := by decide +kernel
theorem dX8_bits_1 : decode cX8_bits 1 = .ok (.lconst 0, 1) := by decide +kernel
theorem dX8_bits_2 : decode cX8_bits 2 = .ok (.iload_n 1, 1) := by decide +kernel
theorem dX8_bits_3 : decode cX8_bits 3 = .ok (.invokevirtual 126, 3) := by decide +kernel
theorem dX8_bits_6 : decode cX8_bits 6 = .ok (.lreturn, 1) := by decide +kernel
theorem dX8_skip_0 : decode cX8_skip 0 = .ok (.aload_n 0, 1) := by decide +kernel
theorem dX8_skip_1 : decode cX8_skip 1 = .ok (.getfield 16, 3) := by decide +kernel
theorem dX8_skip_4 : decode cX8_skip 4 = .ok (.ifCond .lt 14, 3) := by decide +kernel
theorem dX8_skip_7 : decode cX8_skip 7 = .ok (.iload_n 1, 1) := by decide +kernel
theorem dX8_skip_8 : decode cX8_skip 8 = .ok (.ifCond .lt 10, 3) := by decide +kernel
theorem dX8_skip_11 : decode cX8_skip 11 = .ok (.iload_n 1, 1) := by decide +kernel
theorem dX8_skip_12 : decode cX8_skip 12 = .ok (.sipush 5000, 3) := by decide +kernel
theorem dX8_skip_15 : decode cX8_skip 15 = .ok (.if_icmp .le 5, 3) := by decide +kernel
theorem dX8_skip_18 : decode cX8_skip 18 = .ok (.iconst 0, 1) := by decide +kernel
theorem dX8_skip_19 : decode cX8_skip 19 = .ok (.ireturn, 1) := by decide +kernel
theorem dX8_skip_20 : decode cX8_skip 20 = .ok (.iconst 0, 1) := by decide +kernel
theorem dX8_skip_21 : decode cX8_skip 21 = .ok (.istore_n 2, 1) := by decide +kernel
theorem dX8_skip_22 : decode cX8_skip 22 = .ok (.iload_n 2, 1) := by decide +kernel
theorem dX8_skip_23 : decode cX8_skip 23 = .ok (.iload_n 1, 1) := by decide +kernel
theorem dX8_skip_24 : decode cX8_skip 24 = .ok (.if_icmp .ge 14, 3) := by decide +kernel
theorem dX8_skip_27 : decode cX8_skip 27 = .ok (.aload_n 0, 1) := by decide +kernel
theorem dX8_skip_28 : decode cX8_skip 28 = .ok (.invokevirtual 130, 3) := by decide +kernel
theorem dX8_skip_31 : decode cX8_skip 31 = .ok (.pop, 1) := by decide +kernel
theorem dX8_skip_32 : decode cX8_skip 32 = .ok (.iinc 2 1, 3) := by decide +kernel
theorem dX8_skip_35 : decode cX8_skip 35 = .ok (.goto (-13), 3) := by decide +kernel
theorem dX8_skip_38 : decode cX8_skip 38 = .ok (.iconst 1, 1) := by decide +kernel
theorem dX8_skip_39 : decode cX8_skip 39 = .ok (.ireturn, 1) := by decide +kernel
theorem dX8_mix_0 : decode cX8_mix 0 = .ok (.aload_n 0, 1) := by decide +kernel
theorem dX8_mix_1 : decode cX8_mix 1 = .ok (.getfield 16, 3) := by decide +kernel
theorem dX8_mix_4 : decode cX8_mix 4 = .ok (.ifCond .lt 14, 3) := by decide +kernel
theorem dX8_mix_7 : decode cX8_mix 7 = .ok (.iload_n 3, 1) := by decide +kernel
theorem dX8_mix_8 : decode cX8_mix 8 = .ok (.iconst 1, 1) := by decide +kernel
theorem dX8_mix_9 : decode cX8_mix 9 = .ok (.if_icmp .lt 9, 3) := by decide +kernel
theorem dX8_mix_12 : decode cX8_mix 12 = .ok (.iload_n 3, 1) := by decide +kernel
theorem dX8_mix_13 : decode cX8_mix 13 = .ok (.bipush 64, 2) := by decide +kernel
theorem dX8_mix_15 : decode cX8_mix 15 = .ok (.if_icmp .le 5, 3) := by decide +kernel
theorem dX8_mix_18 : decode cX8_mix 18 = .ok (.lconst 0, 1) := by decide +kernel
theorem dX8_mix_19 : decode cX8_mix 19 = .ok (.lreturn, 1) := by decide +kernel
theorem dX8_mix_20 : decode cX8_mix 20 = .ok (.lconst 0, 1) := by decide +kernel
theorem dX8_mix_21 : decode cX8_mix 21 = .ok (.lstore 4, 2) := by decide +kernel
theorem dX8_mix_23 : decode cX8_mix 23 = .ok (.iload_n 3, 1) := by decide +kernel
theorem dX8_mix_24 : decode cX8_mix 24 = .ok (.iconst 1, 1) := by decide +kernel
theorem dX8_mix_25 : decode cX8_mix 25 = .ok (.isub, 1) := by decide +kernel
theorem dX8_mix_26 : decode cX8_mix 26 = .ok (.istore 6, 2) := by decide +kernel
theorem dX8_mix_28 : decode cX8_mix 28 = .ok (.iload 6, 2) := by decide +kernel
theorem dX8_mix_30 : decode cX8_mix 30 = .ok (.ifCond .lt 28, 3) := by decide +kernel
theorem dX8_mix_33 : decode cX8_mix 33 = .ok (.lload 4, 2) := by decide +kernel
theorem dX8_mix_35 : decode cX8_mix 35 = .ok (.iconst 1, 1) := by decide +kernel
theorem dX8_mix_36 : decode cX8_mix 36 = .ok (.lshl, 1) := by decide +kernel
theorem dX8_mix_37 : decode cX8_mix 37 = .ok (.lload_n 1, 1) := by decide +kernel
theorem dX8_mix_38 : decode cX8_mix 38 = .ok (.iload 6, 2) := by decide +kernel
theorem dX8_mix_40 : decode cX8_mix 40 = .ok (.lshr, 1) := by decide +kernel
theorem dX8_mix_41 : decode cX8_mix 41 = .ok (.lconst 1, 1) := by decide +kernel
theorem dX8_mix_42 : decode cX8_mix 42 = .ok (.land, 1) := by decide +kernel
theorem dX8_mix_43 : decode cX8_mix 43 = .ok (.aload_n 0, 1) := by decide +kernel
theorem dX8_mix_44 : decode cX8_mix 44 = .ok (.invokevirtual 130, 3) := by decide +kernel
theorem dX8_mix_47 : decode cX8_mix 47 = .ok (.i2l, 1) := by decide +kernel
theorem dX8_mix_48 : decode cX8_mix 48 = .ok (.lxor, 1) := by decide +kernel
theorem dX8_mix_49 : decode cX8_mix 49 = .ok (.lor, 1) := by decide +kernel
theorem dX8_mix_50 : decode cX8_mix 50 = .ok (.lstore 4, 2) := by decide +kernel
theorem dX8_mix_52 : decode cX8_mix 52 = .ok (.iinc 6 (-1), 3) := by decide +kernel
theorem dX8_mix_55 : decode cX8_mix 55 = .ok (.goto (-27), 3) := by decide +kernel
theorem dX8_mix_58 : decode cX8_mix 58 = .ok (.lload 4, 2) := by decide +kernel
theorem dX8_mix_60 : decode cX8_mix 60 = .ok (.lreturn, 1) := by decide +kernel
theorem dX8_count_0 : decode cX8_count 0 = .ok (.iload_n 1, 1) := by decide +kernel
theorem dX8_count_1 : decode cX8_count 1 = .ok (.ifCond .ne 10, 3) := by decide +kernel
theorem dX8_count_4 : decode cX8_count 4 = .ok (.aload_n 0, 1) := by decide +kernel
theorem dX8_count_5 : decode cX8_count 5 = .ok (.getfield 29, 3) := by decide +kernel
theorem dX8_count_8 : decode cX8_count 8 = .ok (.goto 40, 3) := by decide +kernel
theorem dX8_count_11 : decode cX8_count 11 = .ok (.iload_n 1, 1) := by decide +kernel
theorem dX8_count_12 : decode cX8_count 12 = .ok (.iconst 1, 1) := by decide +kernel
theorem dX8_count_13 : decode cX8_count 13 = .ok (.if_icmp .ne 10, 3) := by decide +kernel
theorem dX8_count_16 : decode cX8_count 16 = .ok (.aload_n 0, 1) := by decide +kernel
theorem dX8_count_17 : decode cX8_count 17 = .ok (.getfield 34, 3) := by decide +kernel
theorem dX8_count_20 : decode cX8_count 20 = .ok (.goto 28, 3) := by decide +kernel
theorem dX8_count_23 : decode cX8_count 23 = .ok (.iload_n 1, 1) := by decide +kernel
theorem dX8_count_24 : decode cX8_count 24 = .ok (.iconst 2, 1) := by decide +kernel
theorem dX8_count_25 : decode cX8_count 25 = .ok (.if_icmp .ne 10, 3) := by decide +kernel
theorem dX8_count_28 : decode cX8_count 28 = .ok (.aload_n 0, 1) := by decide +kernel
theorem dX8_count_29 : decode cX8_count 29 = .ok (.getfield 16, 3) := by decide +kernel
theorem dX8_count_32 : decode cX8_count 32 = .ok (.goto 16, 3) := by decide +kernel
theorem dX8_count_35 : decode cX8_count 35 = .ok (.iload_n 1, 1) := by decide +kernel
theorem dX8_count_36 : decode cX8_count 36 = .ok (.iconst 3, 1) := by decide +kernel
theorem dX8_count_37 : decode cX8_count 37 = .ok (.if_icmp .ne 10, 3) := by decide +kernel
theorem dX8_count_40 : decode cX8_count 40 = .ok (.aload_n 0, 1) := by decide +kernel
theorem dX8_count_41 : decode cX8_count 41 = .ok (.getfield 79, 3) := by decide +kernel
theorem dX8_count_44 : decode cX8_count 44 = .ok (.goto 4, 3) := by decide +kernel
theorem dX8_count_47 : decode cX8_count 47 = .ok (.iconst (-1), 1) := by decide +kernel
theorem dX8_count_48 : decode cX8_count 48 = .ok (.ireturn, 1) := by decide +kernel
theorem dL_law_0 : decode cL_law 0 = .ok (.new 7, 3) := by decide +kernel
theorem dL_law_3 : decode cL_law 3 = .ok (.dup, 1) := by decide +kernel
theorem dL_law_4 : decode cL_law 4 = .ok (.invokespecial 9, 3) := by decide +kernel
theorem dL_law_7 : decode cL_law 7 = .ok (.astore_n 1, 1) := by decide +kernel
theorem dL_law_8 : decode cL_law 8 = .ok (.new 10, 3) := by decide +kernel
theorem dL_law_11 : decode cL_law 11 = .ok (.dup, 1) := by decide +kernel
theorem dL_law_12 : decode cL_law 12 = .ok (.invokespecial 12, 3) := by decide +kernel
theorem dL_law_15 : decode cL_law 15 = .ok (.astore_n 2, 1) := by decide +kernel
theorem dL_law_16 : decode cL_law 16 = .ok (.iconst 0, 1) := by decide +kernel
theorem dL_law_17 : decode cL_law 17 = .ok (.istore_n 3, 1) := by decide +kernel
theorem dL_law_18 : decode cL_law 18 = .ok (.iload_n 3, 1) := by decide +kernel
theorem dL_law_19 : decode cL_law 19 = .ok (.aload_n 0, 1) := by decide +kernel
theorem dL_law_20 : decode cL_law 20 = .ok (.arraylength, 1) := by decide +kernel
theorem dL_law_21 : decode cL_law 21 = .ok (.iconst 4, 1) := by decide +kernel
theorem dL_law_22 : decode cL_law 22 = .ok (.isub, 1) := by decide +kernel
theorem dL_law_23 : decode cL_law 23 = .ok (.if_icmp .gt 342, 3) := by decide +kernel
theorem dL_law_26 : decode cL_law 26 = .ok (.aload_n 0, 1) := by decide +kernel
theorem dL_law_27 : decode cL_law 27 = .ok (.iload_n 3, 1) := by decide +kernel
theorem dL_law_28 : decode cL_law 28 = .ok (.iaload, 1) := by decide +kernel
theorem dL_law_29 : decode cL_law 29 = .ok (.bipush 7, 2) := by decide +kernel
theorem dL_law_31 : decode cL_law 31 = .ok (.iand, 1) := by decide +kernel
theorem dL_law_32 : decode cL_law 32 = .ok (.tableswitch 327 0 6 #[44, 107, 170, 193, 217, 240, 304], 44) := by decide +kernel
theorem dL_law_76 : decode cL_law 76 = .ok (.aload_n 1, 1) := by decide +kernel
theorem dL_law_77 : decode cL_law 77 = .ok (.aload_n 0, 1) := by decide +kernel
theorem dL_law_78 : decode cL_law 78 = .ok (.iload_n 3, 1) := by decide +kernel
theorem dL_law_79 : decode cL_law 79 = .ok (.iconst 1, 1) := by decide +kernel
theorem dL_law_80 : decode cL_law 80 = .ok (.iadd, 1) := by decide +kernel
theorem dL_law_81 : decode cL_law 81 = .ok (.iaload, 1) := by decide +kernel
theorem dL_law_82 : decode cL_law 82 = .ok (.i2l, 1) := by decide +kernel
theorem dL_law_83 : decode cL_law 83 = .ok (.bipush 32, 2) := by decide +kernel
theorem dL_law_85 : decode cL_law 85 = .ok (.lshl, 1) := by decide +kernel
theorem dL_law_86 : decode cL_law 86 = .ok (.aload_n 0, 1) := by decide +kernel
theorem dL_law_87 : decode cL_law 87 = .ok (.iload_n 3, 1) := by decide +kernel
theorem dL_law_88 : decode cL_law 88 = .ok (.iconst 2, 1) := by decide +kernel
theorem dL_law_89 : decode cL_law 89 = .ok (.iadd, 1) := by decide +kernel
theorem dL_law_90 : decode cL_law 90 = .ok (.iaload, 1) := by decide +kernel
theorem dL_law_91 : decode cL_law 91 = .ok (.i2l, 1) := by decide +kernel
theorem dL_law_92 : decode cL_law 92 = .ok (.ldc2_w 13, 3) := by decide +kernel
theorem dL_law_95 : decode cL_law 95 = .ok (.land, 1) := by decide +kernel
theorem dL_law_96 : decode cL_law 96 = .ok (.lor, 1) := by decide +kernel
theorem dL_law_97 : decode cL_law 97 = .ok (.aload_n 0, 1) := by decide +kernel
theorem dL_law_98 : decode cL_law 98 = .ok (.iload_n 3, 1) := by decide +kernel
theorem dL_law_99 : decode cL_law 99 = .ok (.iconst 3, 1) := by decide +kernel
theorem dL_law_100 : decode cL_law 100 = .ok (.iadd, 1) := by decide +kernel
theorem dL_law_101 : decode cL_law 101 = .ok (.iaload, 1) := by decide +kernel
theorem dL_law_102 : decode cL_law 102 = .ok (.invokevirtual 15, 3) := by decide +kernel
theorem dL_law_105 : decode cL_law 105 = .ok (.aload_n 2, 1) := by decide +kernel
theorem dL_law_106 : decode cL_law 106 = .ok (.aload_n 0, 1) := by decide +kernel
theorem dL_law_107 : decode cL_law 107 = .ok (.iload_n 3, 1) := by decide +kernel
theorem dL_law_108 : decode cL_law 108 = .ok (.iconst 1, 1) := by decide +kernel
theorem dL_law_109 : decode cL_law 109 = .ok (.iadd, 1) := by decide +kernel
theorem dL_law_110 : decode cL_law 110 = .ok (.iaload, 1) := by decide +kernel
theorem dL_law_111 : decode cL_law 111 = .ok (.i2l, 1) := by decide +kernel
theorem dL_law_112 : decode cL_law 112 = .ok (.bipush 32, 2) := by decide +kernel
theorem dL_law_114 : decode cL_law 114 = .ok (.lshl, 1) := by decide +kernel
theorem dL_law_115 : decode cL_law 115 = .ok (.aload_n 0, 1) := by decide +kernel
theorem dL_law_116 : decode cL_law 116 = .ok (.iload_n 3, 1) := by decide +kernel
theorem dL_law_117 : decode cL_law 117 = .ok (.iconst 2, 1) := by decide +kernel
theorem dL_law_118 : decode cL_law 118 = .ok (.iadd, 1) := by decide +kernel
theorem dL_law_119 : decode cL_law 119 = .ok (.iaload, 1) := by decide +kernel
theorem dL_law_120 : decode cL_law 120 = .ok (.i2l, 1) := by decide +kernel
theorem dL_law_121 : decode cL_law 121 = .ok (.ldc2_w 13, 3) := by decide +kernel
theorem dL_law_124 : decode cL_law 124 = .ok (.land, 1) := by decide +kernel
theorem dL_law_125 : decode cL_law 125 = .ok (.lor, 1) := by decide +kernel
theorem dL_law_126 : decode cL_law 126 = .ok (.aload_n 0, 1) := by decide +kernel
theorem dL_law_127 : decode cL_law 127 = .ok (.iload_n 3, 1) := by decide +kernel
theorem dL_law_128 : decode cL_law 128 = .ok (.iconst 3, 1) := by decide +kernel
theorem dL_law_129 : decode cL_law 129 = .ok (.iadd, 1) := by decide +kernel
theorem dL_law_130 : decode cL_law 130 = .ok (.iaload, 1) := by decide +kernel
theorem dL_law_131 : decode cL_law 131 = .ok (.invokevirtual 19, 3) := by decide +kernel
theorem dL_law_134 : decode cL_law 134 = .ok (.if_icmp .eq 225, 3) := by decide +kernel
theorem dL_law_137 : decode cL_law 137 = .ok (.iconst 0, 1) := by decide +kernel
theorem dL_law_138 : decode cL_law 138 = .ok (.ireturn, 1) := by decide +kernel
theorem dL_law_139 : decode cL_law 139 = .ok (.aload_n 1, 1) := by decide +kernel
theorem dL_law_140 : decode cL_law 140 = .ok (.aload_n 0, 1) := by decide +kernel
theorem dL_law_141 : decode cL_law 141 = .ok (.iload_n 3, 1) := by decide +kernel
theorem dL_law_142 : decode cL_law 142 = .ok (.iconst 1, 1) := by decide +kernel
theorem dL_law_143 : decode cL_law 143 = .ok (.iadd, 1) := by decide +kernel
theorem dL_law_144 : decode cL_law 144 = .ok (.iaload, 1) := by decide +kernel
theorem dL_law_145 : decode cL_law 145 = .ok (.i2l, 1) := by decide +kernel
theorem dL_law_146 : decode cL_law 146 = .ok (.bipush 32, 2) := by decide +kernel
theorem dL_law_148 : decode cL_law 148 = .ok (.lshl, 1) := by decide +kernel
theorem dL_law_149 : decode cL_law 149 = .ok (.aload_n 0, 1) := by decide +kernel
theorem dL_law_150 : decode cL_law 150 = .ok (.iload_n 3, 1) := by decide +kernel
theorem dL_law_151 : decode cL_law 151 = .ok (.iconst 2, 1) := by decide +kernel
theorem dL_law_152 : decode cL_law 152 = .ok (.iadd, 1) := by decide +kernel
theorem dL_law_153 : decode cL_law 153 = .ok (.iaload, 1) := by decide +kernel
theorem dL_law_154 : decode cL_law 154 = .ok (.i2l, 1) := by decide +kernel
theorem dL_law_155 : decode cL_law 155 = .ok (.ldc2_w 13, 3) := by decide +kernel
theorem dL_law_158 : decode cL_law 158 = .ok (.land, 1) := by decide +kernel
theorem dL_law_159 : decode cL_law 159 = .ok (.lor, 1) := by decide +kernel
theorem dL_law_160 : decode cL_law 160 = .ok (.aload_n 0, 1) := by decide +kernel
theorem dL_law_161 : decode cL_law 161 = .ok (.iload_n 3, 1) := by decide +kernel
theorem dL_law_162 : decode cL_law 162 = .ok (.iconst 3, 1) := by decide +kernel
theorem dL_law_163 : decode cL_law 163 = .ok (.iadd, 1) := by decide +kernel
theorem dL_law_164 : decode cL_law 164 = .ok (.iaload, 1) := by decide +kernel
theorem dL_law_165 : decode cL_law 165 = .ok (.invokevirtual 20, 3) := by decide +kernel
theorem dL_law_168 : decode cL_law 168 = .ok (.aload_n 2, 1) := by decide +kernel
theorem dL_law_169 : decode cL_law 169 = .ok (.aload_n 0, 1) := by decide +kernel
theorem dL_law_170 : decode cL_law 170 = .ok (.iload_n 3, 1) := by decide +kernel
theorem dL_law_171 : decode cL_law 171 = .ok (.iconst 1, 1) := by decide +kernel
theorem dL_law_172 : decode cL_law 172 = .ok (.iadd, 1) := by decide +kernel
theorem dL_law_173 : decode cL_law 173 = .ok (.iaload, 1) := by decide +kernel
theorem dL_law_174 : decode cL_law 174 = .ok (.i2l, 1) := by decide +kernel
theorem dL_law_175 : decode cL_law 175 = .ok (.bipush 32, 2) := by decide +kernel
theorem dL_law_177 : decode cL_law 177 = .ok (.lshl, 1) := by decide +kernel
theorem dL_law_178 : decode cL_law 178 = .ok (.aload_n 0, 1) := by decide +kernel
theorem dL_law_179 : decode cL_law 179 = .ok (.iload_n 3, 1) := by decide +kernel
theorem dL_law_180 : decode cL_law 180 = .ok (.iconst 2, 1) := by decide +kernel
theorem dL_law_181 : decode cL_law 181 = .ok (.iadd, 1) := by decide +kernel
theorem dL_law_182 : decode cL_law 182 = .ok (.iaload, 1) := by decide +kernel
theorem dL_law_183 : decode cL_law 183 = .ok (.i2l, 1) := by decide +kernel
theorem dL_law_184 : decode cL_law 184 = .ok (.ldc2_w 13, 3) := by decide +kernel
theorem dL_law_187 : decode cL_law 187 = .ok (.land, 1) := by decide +kernel
theorem dL_law_188 : decode cL_law 188 = .ok (.lor, 1) := by decide +kernel
theorem dL_law_189 : decode cL_law 189 = .ok (.aload_n 0, 1) := by decide +kernel
theorem dL_law_190 : decode cL_law 190 = .ok (.iload_n 3, 1) := by decide +kernel
theorem dL_law_191 : decode cL_law 191 = .ok (.iconst 3, 1) := by decide +kernel
theorem dL_law_192 : decode cL_law 192 = .ok (.iadd, 1) := by decide +kernel
theorem dL_law_193 : decode cL_law 193 = .ok (.iaload, 1) := by decide +kernel
theorem dL_law_194 : decode cL_law 194 = .ok (.invokevirtual 23, 3) := by decide +kernel
theorem dL_law_197 : decode cL_law 197 = .ok (.if_icmp .eq 162, 3) := by decide +kernel
theorem dL_law_200 : decode cL_law 200 = .ok (.iconst 0, 1) := by decide +kernel
theorem dL_law_201 : decode cL_law 201 = .ok (.ireturn, 1) := by decide +kernel
theorem dL_law_202 : decode cL_law 202 = .ok (.aload_n 1, 1) := by decide +kernel
theorem dL_law_203 : decode cL_law 203 = .ok (.aload_n 0, 1) := by decide +kernel
theorem dL_law_204 : decode cL_law 204 = .ok (.iload_n 3, 1) := by decide +kernel
theorem dL_law_205 : decode cL_law 205 = .ok (.iconst 1, 1) := by decide +kernel
theorem dL_law_206 : decode cL_law 206 = .ok (.iadd, 1) := by decide +kernel
theorem dL_law_207 : decode cL_law 207 = .ok (.iaload, 1) := by decide +kernel
theorem dL_law_208 : decode cL_law 208 = .ok (.invokevirtual 24, 3) := by decide +kernel
theorem dL_law_211 : decode cL_law 211 = .ok (.aload_n 2, 1) := by decide +kernel
theorem dL_law_212 : decode cL_law 212 = .ok (.aload_n 0, 1) := by decide +kernel
theorem dL_law_213 : decode cL_law 213 = .ok (.iload_n 3, 1) := by decide +kernel
theorem dL_law_214 : decode cL_law 214 = .ok (.iconst 1, 1) := by decide +kernel
theorem dL_law_215 : decode cL_law 215 = .ok (.iadd, 1) := by decide +kernel
theorem dL_law_216 : decode cL_law 216 = .ok (.iaload, 1) := by decide +kernel
theorem dL_law_217 : decode cL_law 217 = .ok (.invokevirtual 28, 3) := by decide +kernel
theorem dL_law_220 : decode cL_law 220 = .ok (.if_icmp .eq 139, 3) := by decide +kernel
theorem dL_law_223 : decode cL_law 223 = .ok (.iconst 0, 1) := by decide +kernel
theorem dL_law_224 : decode cL_law 224 = .ok (.ireturn, 1) := by decide +kernel
theorem dL_law_225 : decode cL_law 225 = .ok (.aload_n 1, 1) := by decide +kernel
theorem dL_law_226 : decode cL_law 226 = .ok (.aload_n 0, 1) := by decide +kernel
theorem dL_law_227 : decode cL_law 227 = .ok (.iload_n 3, 1) := by decide +kernel
theorem dL_law_228 : decode cL_law 228 = .ok (.iconst 1, 1) := by decide +kernel
theorem dL_law_229 : decode cL_law 229 = .ok (.iadd, 1) := by decide +kernel
theorem dL_law_230 : decode cL_law 230 = .ok (.iaload, 1) := by decide +kernel
theorem dL_law_231 : decode cL_law 231 = .ok (.invokevirtual 29, 3) := by decide +kernel
theorem dL_law_234 : decode cL_law 234 = .ok (.aload_n 2, 1) := by decide +kernel
theorem dL_law_235 : decode cL_law 235 = .ok (.aload_n 0, 1) := by decide +kernel
theorem dL_law_236 : decode cL_law 236 = .ok (.iload_n 3, 1) := by decide +kernel
theorem dL_law_237 : decode cL_law 237 = .ok (.iconst 1, 1) := by decide +kernel
theorem dL_law_238 : decode cL_law 238 = .ok (.iadd, 1) := by decide +kernel
theorem dL_law_239 : decode cL_law 239 = .ok (.iaload, 1) := by decide +kernel
theorem dL_law_240 : decode cL_law 240 = .ok (.invokevirtual 33, 3) := by decide +kernel
theorem dL_law_243 : decode cL_law 243 = .ok (.lcmp, 1) := by decide +kernel
theorem dL_law_244 : decode cL_law 244 = .ok (.ifCond .eq 115, 3) := by decide +kernel
theorem dL_law_247 : decode cL_law 247 = .ok (.iconst 0, 1) := by decide +kernel
theorem dL_law_248 : decode cL_law 248 = .ok (.ireturn, 1) := by decide +kernel
theorem dL_law_249 : decode cL_law 249 = .ok (.aload_n 1, 1) := by decide +kernel
theorem dL_law_250 : decode cL_law 250 = .ok (.aload_n 0, 1) := by decide +kernel
theorem dL_law_251 : decode cL_law 251 = .ok (.iload_n 3, 1) := by decide +kernel
theorem dL_law_252 : decode cL_law 252 = .ok (.iconst 1, 1) := by decide +kernel
theorem dL_law_253 : decode cL_law 253 = .ok (.iadd, 1) := by decide +kernel
theorem dL_law_254 : decode cL_law 254 = .ok (.iaload, 1) := by decide +kernel
theorem dL_law_255 : decode cL_law 255 = .ok (.invokevirtual 34, 3) := by decide +kernel
theorem dL_law_258 : decode cL_law 258 = .ok (.aload_n 2, 1) := by decide +kernel
theorem dL_law_259 : decode cL_law 259 = .ok (.aload_n 0, 1) := by decide +kernel
theorem dL_law_260 : decode cL_law 260 = .ok (.iload_n 3, 1) := by decide +kernel
theorem dL_law_261 : decode cL_law 261 = .ok (.iconst 1, 1) := by decide +kernel
theorem dL_law_262 : decode cL_law 262 = .ok (.iadd, 1) := by decide +kernel
theorem dL_law_263 : decode cL_law 263 = .ok (.iaload, 1) := by decide +kernel
theorem dL_law_264 : decode cL_law 264 = .ok (.invokevirtual 37, 3) := by decide +kernel
theorem dL_law_267 : decode cL_law 267 = .ok (.if_icmp .eq 92, 3) := by decide +kernel
theorem dL_law_270 : decode cL_law 270 = .ok (.iconst 0, 1) := by decide +kernel
theorem dL_law_271 : decode cL_law 271 = .ok (.ireturn, 1) := by decide +kernel
theorem dL_law_272 : decode cL_law 272 = .ok (.aload_n 1, 1) := by decide +kernel
theorem dL_law_273 : decode cL_law 273 = .ok (.aload_n 0, 1) := by decide +kernel
theorem dL_law_274 : decode cL_law 274 = .ok (.iload_n 3, 1) := by decide +kernel
theorem dL_law_275 : decode cL_law 275 = .ok (.iconst 1, 1) := by decide +kernel
theorem dL_law_276 : decode cL_law 276 = .ok (.iadd, 1) := by decide +kernel
theorem dL_law_277 : decode cL_law 277 = .ok (.iaload, 1) := by decide +kernel
theorem dL_law_278 : decode cL_law 278 = .ok (.i2l, 1) := by decide +kernel
theorem dL_law_279 : decode cL_law 279 = .ok (.bipush 32, 2) := by decide +kernel
theorem dL_law_281 : decode cL_law 281 = .ok (.lshl, 1) := by decide +kernel
theorem dL_law_282 : decode cL_law 282 = .ok (.aload_n 0, 1) := by decide +kernel
theorem dL_law_283 : decode cL_law 283 = .ok (.iload_n 3, 1) := by decide +kernel
theorem dL_law_284 : decode cL_law 284 = .ok (.iconst 2, 1) := by decide +kernel
theorem dL_law_285 : decode cL_law 285 = .ok (.iadd, 1) := by decide +kernel
theorem dL_law_286 : decode cL_law 286 = .ok (.iaload, 1) := by decide +kernel
theorem dL_law_287 : decode cL_law 287 = .ok (.i2l, 1) := by decide +kernel
theorem dL_law_288 : decode cL_law 288 = .ok (.ldc2_w 13, 3) := by decide +kernel
theorem dL_law_291 : decode cL_law 291 = .ok (.land, 1) := by decide +kernel
theorem dL_law_292 : decode cL_law 292 = .ok (.lor, 1) := by decide +kernel
theorem dL_law_293 : decode cL_law 293 = .ok (.aload_n 0, 1) := by decide +kernel
theorem dL_law_294 : decode cL_law 294 = .ok (.iload_n 3, 1) := by decide +kernel
theorem dL_law_295 : decode cL_law 295 = .ok (.iconst 3, 1) := by decide +kernel
theorem dL_law_296 : decode cL_law 296 = .ok (.iadd, 1) := by decide +kernel
theorem dL_law_297 : decode cL_law 297 = .ok (.iaload, 1) := by decide +kernel
theorem dL_law_298 : decode cL_law 298 = .ok (.invokevirtual 38, 3) := by decide +kernel
theorem dL_law_301 : decode cL_law 301 = .ok (.aload_n 2, 1) := by decide +kernel
theorem dL_law_302 : decode cL_law 302 = .ok (.aload_n 0, 1) := by decide +kernel
theorem dL_law_303 : decode cL_law 303 = .ok (.iload_n 3, 1) := by decide +kernel
theorem dL_law_304 : decode cL_law 304 = .ok (.iconst 1, 1) := by decide +kernel
theorem dL_law_305 : decode cL_law 305 = .ok (.iadd, 1) := by decide +kernel
theorem dL_law_306 : decode cL_law 306 = .ok (.iaload, 1) := by decide +kernel
theorem dL_law_307 : decode cL_law 307 = .ok (.i2l, 1) := by decide +kernel
theorem dL_law_308 : decode cL_law 308 = .ok (.bipush 32, 2) := by decide +kernel
theorem dL_law_310 : decode cL_law 310 = .ok (.lshl, 1) := by decide +kernel
theorem dL_law_311 : decode cL_law 311 = .ok (.aload_n 0, 1) := by decide +kernel
theorem dL_law_312 : decode cL_law 312 = .ok (.iload_n 3, 1) := by decide +kernel
theorem dL_law_313 : decode cL_law 313 = .ok (.iconst 2, 1) := by decide +kernel
theorem dL_law_314 : decode cL_law 314 = .ok (.iadd, 1) := by decide +kernel
theorem dL_law_315 : decode cL_law 315 = .ok (.iaload, 1) := by decide +kernel
theorem dL_law_316 : decode cL_law 316 = .ok (.i2l, 1) := by decide +kernel
theorem dL_law_317 : decode cL_law 317 = .ok (.ldc2_w 13, 3) := by decide +kernel
theorem dL_law_320 : decode cL_law 320 = .ok (.land, 1) := by decide +kernel
theorem dL_law_321 : decode cL_law 321 = .ok (.lor, 1) := by decide +kernel
theorem dL_law_322 : decode cL_law 322 = .ok (.aload_n 0, 1) := by decide +kernel
theorem dL_law_323 : decode cL_law 323 = .ok (.iload_n 3, 1) := by decide +kernel
theorem dL_law_324 : decode cL_law 324 = .ok (.iconst 3, 1) := by decide +kernel
theorem dL_law_325 : decode cL_law 325 = .ok (.iadd, 1) := by decide +kernel
theorem dL_law_326 : decode cL_law 326 = .ok (.iaload, 1) := by decide +kernel
theorem dL_law_327 : decode cL_law 327 = .ok (.invokevirtual 42, 3) := by decide +kernel
theorem dL_law_330 : decode cL_law 330 = .ok (.lcmp, 1) := by decide +kernel
theorem dL_law_331 : decode cL_law 331 = .ok (.ifCond .eq 28, 3) := by decide +kernel
theorem dL_law_334 : decode cL_law 334 = .ok (.iconst 0, 1) := by decide +kernel
theorem dL_law_335 : decode cL_law 335 = .ok (.ireturn, 1) := by decide +kernel
theorem dL_law_336 : decode cL_law 336 = .ok (.aload_n 1, 1) := by decide +kernel
theorem dL_law_337 : decode cL_law 337 = .ok (.aload_n 0, 1) := by decide +kernel
theorem dL_law_338 : decode cL_law 338 = .ok (.iload_n 3, 1) := by decide +kernel
theorem dL_law_339 : decode cL_law 339 = .ok (.iconst 1, 1) := by decide +kernel
theorem dL_law_340 : decode cL_law 340 = .ok (.iadd, 1) := by decide +kernel
theorem dL_law_341 : decode cL_law 341 = .ok (.iaload, 1) := by decide +kernel
theorem dL_law_342 : decode cL_law 342 = .ok (.invokevirtual 43, 3) := by decide +kernel
theorem dL_law_345 : decode cL_law 345 = .ok (.aload_n 2, 1) := by decide +kernel
theorem dL_law_346 : decode cL_law 346 = .ok (.aload_n 0, 1) := by decide +kernel
theorem dL_law_347 : decode cL_law 347 = .ok (.iload_n 3, 1) := by decide +kernel
theorem dL_law_348 : decode cL_law 348 = .ok (.iconst 1, 1) := by decide +kernel
theorem dL_law_349 : decode cL_law 349 = .ok (.iadd, 1) := by decide +kernel
theorem dL_law_350 : decode cL_law 350 = .ok (.iaload, 1) := by decide +kernel
theorem dL_law_351 : decode cL_law 351 = .ok (.invokevirtual 47, 3) := by decide +kernel
theorem dL_law_354 : decode cL_law 354 = .ok (.if_icmp .eq 5, 3) := by decide +kernel
theorem dL_law_357 : decode cL_law 357 = .ok (.iconst 0, 1) := by decide +kernel
theorem dL_law_358 : decode cL_law 358 = .ok (.ireturn, 1) := by decide +kernel
theorem dL_law_359 : decode cL_law 359 = .ok (.iinc 3 4, 3) := by decide +kernel
theorem dL_law_362 : decode cL_law 362 = .ok (.goto (-344), 3) := by decide +kernel
theorem dL_law_365 : decode cL_law 365 = .ok (.iconst 1, 1) := by decide +kernel
theorem dL_law_366 : decode cL_law 366 = .ok (.ireturn, 1) := by decide +kernel
