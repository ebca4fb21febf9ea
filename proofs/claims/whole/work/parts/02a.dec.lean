theorem dX0_init_0 : decode cX0_init 0 = .ok (.aload_n 0, 1) := by decide +kernel
theorem dX0_init_1 : decode cX0_init 1 = .ok (.iload_n 1, 1) := by decide +kernel
theorem dX0_init_2 : decode cX0_init 2 = .ok (.invokespecial 1, 3) := by decide +kernel
theorem dX0_init_5 : decode cX0_init 5 = .ok (.return_, 1) := by decide +kernel
theorem dX0_reads_0 : decode cX0_reads 0 = .ok (.iload_n 1, 1) := by decide +kernel
theorem dX0_reads_1 : decode cX0_reads 1 = .ok (.bipush 20, 2) := by decide +kernel
theorem dX0_reads_3 : decode cX0_reads 3 = .ok (.iload_n 3, 1) := by decide +kernel
theorem dX0_reads_4 : decode cX0_reads 4 = .ok (.imul, 1) := by decide +kernel
theorem dX0_reads_5 : decode cX0_reads 5 = .ok (.bipush 20, 2) := by decide +kernel
theorem dX0_reads_7 : decode cX0_reads 7 = .ok (.iadd, 1) := by decide +kernel
theorem dX0_reads_8 : decode cX0_reads 8 = .ok (.if_icmp .gt 7, 3) := by decide +kernel
theorem dX0_reads_11 : decode cX0_reads 11 = .ok (.iconst 1, 1) := by decide +kernel
theorem dX0_reads_12 : decode cX0_reads 12 = .ok (.goto 4, 3) := by decide +kernel
theorem dX0_reads_15 : decode cX0_reads 15 = .ok (.iconst 0, 1) := by decide +kernel
theorem dX0_reads_16 : decode cX0_reads 16 = .ok (.ireturn, 1) := by decide +kernel
theorem dX0_stampOn_0 : decode cX0_stampOn 0 = .ok (.aload_n 0, 1) := by decide +kernel
theorem dX0_stampOn_1 : decode cX0_stampOn 1 = .ok (.iload_n 1, 1) := by decide +kernel
theorem dX0_stampOn_2 : decode cX0_stampOn 2 = .ok (.iload_n 2, 1) := by decide +kernel
theorem dX0_stampOn_3 : decode cX0_stampOn 3 = .ok (.invokespecial 7, 3) := by decide +kernel
theorem dX0_stampOn_6 : decode cX0_stampOn 6 = .ok (.iload_n 2, 1) := by decide +kernel
theorem dX0_stampOn_7 : decode cX0_stampOn 7 = .ok (.isub, 1) := by decide +kernel
theorem dX0_stampOn_8 : decode cX0_stampOn 8 = .ok (.ireturn, 1) := by decide +kernel
theorem dX0_roomBy_0 : decode cX0_roomBy 0 = .ok (.iconst 1, 1) := by decide +kernel
theorem dX0_roomBy_1 : decode cX0_roomBy 1 = .ok (.iload_n 1, 1) := by decide +kernel
theorem dX0_roomBy_2 : decode cX0_roomBy 2 = .ok (.iconst 2, 1) := by decide +kernel
theorem dX0_roomBy_3 : decode cX0_roomBy 3 = .ok (.idiv, 1) := by decide +kernel
theorem dX0_roomBy_4 : decode cX0_roomBy 4 = .ok (.iadd, 1) := by decide +kernel
theorem dX0_roomBy_5 : decode cX0_roomBy 5 = .ok (.ireturn, 1) := by decide +kernel
theorem dX1_init_0 : decode cX1_init 0 = .ok (.aload_n 0, 1) := by decide +kernel
theorem dX1_init_1 : decode cX1_init 1 = .ok (.iload_n 1, 1) := by decide +kernel
theorem dX1_init_2 : decode cX1_init 2 = .ok (.invokespecial 1, 3) := by decide +kernel
theorem dX1_init_5 : decode cX1_init 5 = .ok (.return_, 1) := by decide +kernel
theorem dX1_reads_0 : decode cX1_reads 0 = .ok (.iconst 1, 1) := by decide +kernel
theorem dX1_reads_1 : decode cX1_reads 1 = .ok (.ireturn, 1) := by decide +kernel
theorem dX2_init_0 : decode cX2_init 0 = .ok (.aload_n 0, 1) := by decide +kernel
theorem dX2_init_1 : decode cX2_init 1 = .ok (.invokespecial 3, 3) := by decide +kernel
theorem dX2_init_4 : decode cX2_init 4 = .ok (.aload_n 0, 1) := by decide +kernel
theorem dX2_init_5 : decode cX2_init 5 = .ok (.new 9, 3) := by decide +kernel
theorem dX2_init_8 : decode cX2_init 8 = .ok (.dup, 1) := by decide +kernel
theorem dX2_init_9 : decode cX2_init 9 = .ok (.iconst 0, 1) := by decide +kernel
theorem dX2_init_10 : decode cX2_init 10 = .ok (.invokespecial 11, 3) := by decide +kernel
theorem dX2_init_13 : decode cX2_init 13 = .ok (.putfield 14, 3) := by decide +kernel
theorem dX2_init_16 : decode cX2_init 16 = .ok (.aload_n 0, 1) := by decide +kernel
theorem dX2_init_17 : decode cX2_init 17 = .ok (.bipush 8, 2) := by decide +kernel
theorem dX2_init_19 : decode cX2_init 19 = .ok (.newarray .int, 2) := by decide +kernel
theorem dX2_init_21 : decode cX2_init 21 = .ok (.putfield 20, 3) := by decide +kernel
theorem dX2_init_24 : decode cX2_init 24 = .ok (.aload_n 0, 1) := by decide +kernel
theorem dX2_init_25 : decode cX2_init 25 = .ok (.bipush 8, 2) := by decide +kernel
theorem dX2_init_27 : decode cX2_init 27 = .ok (.newarray .int, 2) := by decide +kernel
theorem dX2_init_29 : decode cX2_init 29 = .ok (.putfield 24, 3) := by decide +kernel
theorem dX2_init_32 : decode cX2_init 32 = .ok (.return_, 1) := by decide +kernel
theorem dX2_begin_0 : decode cX2_begin 0 = .ok (.aload_n 0, 1) := by decide +kernel
theorem dX2_begin_1 : decode cX2_begin 1 = .ok (.aload_n 1, 1) := by decide +kernel
theorem dX2_begin_2 : decode cX2_begin 2 = .ok (.putfield 14, 3) := by decide +kernel
theorem dX2_begin_5 : decode cX2_begin 5 = .ok (.aload_n 0, 1) := by decide +kernel
theorem dX2_begin_6 : decode cX2_begin 6 = .ok (.iload_n 2, 1) := by decide +kernel
theorem dX2_begin_7 : decode cX2_begin 7 = .ok (.putfield 27, 3) := by decide +kernel
theorem dX2_begin_10 : decode cX2_begin 10 = .ok (.aload_n 0, 1) := by decide +kernel
theorem dX2_begin_11 : decode cX2_begin 11 = .ok (.iload_n 3, 1) := by decide +kernel
theorem dX2_begin_12 : decode cX2_begin 12 = .ok (.putfield 31, 3) := by decide +kernel
theorem dX2_begin_15 : decode cX2_begin 15 = .ok (.iconst 0, 1) := by decide +kernel
theorem dX2_begin_16 : decode cX2_begin 16 = .ok (.istore 4, 2) := by decide +kernel
theorem dX2_begin_18 : decode cX2_begin 18 = .ok (.iload 4, 2) := by decide +kernel
theorem dX2_begin_20 : decode cX2_begin 20 = .ok (.bipush 8, 2) := by decide +kernel
theorem dX2_begin_22 : decode cX2_begin 22 = .ok (.if_icmp .ge 15, 3) := by decide +kernel
theorem dX2_begin_25 : decode cX2_begin 25 = .ok (.aload_n 0, 1) := by decide +kernel
theorem dX2_begin_26 : decode cX2_begin 26 = .ok (.iload 4, 2) := by decide +kernel
theorem dX2_begin_28 : decode cX2_begin 28 = .ok (.invokevirtual 34, 3) := by decide +kernel
theorem dX2_begin_31 : decode cX2_begin 31 = .ok (.iinc 4 1, 3) := by decide +kernel
theorem dX2_begin_34 : decode cX2_begin 34 = .ok (.goto (-16), 3) := by decide +kernel
theorem dX2_begin_37 : decode cX2_begin 37 = .ok (.return_, 1) := by decide +kernel
theorem dX2_become_0 : decode cX2_become 0 = .ok (.aload_n 0, 1) := by decide +kernel
theorem dX2_become_1 : decode cX2_become 1 = .ok (.aload_n 1, 1) := by decide +kernel
theorem dX2_become_2 : decode cX2_become 2 = .ok (.getfield 14, 3) := by decide +kernel
theorem dX2_become_5 : decode cX2_become 5 = .ok (.putfield 14, 3) := by decide +kernel
theorem dX2_become_8 : decode cX2_become 8 = .ok (.aload_n 0, 1) := by decide +kernel
theorem dX2_become_9 : decode cX2_become 9 = .ok (.aload_n 1, 1) := by decide +kernel
theorem dX2_become_10 : decode cX2_become 10 = .ok (.getfield 27, 3) := by decide +kernel
theorem dX2_become_13 : decode cX2_become 13 = .ok (.putfield 27, 3) := by decide +kernel
theorem dX2_become_16 : decode cX2_become 16 = .ok (.aload_n 0, 1) := by decide +kernel
theorem dX2_become_17 : decode cX2_become 17 = .ok (.aload_n 1, 1) := by decide +kernel
theorem dX2_become_18 : decode cX2_become 18 = .ok (.getfield 31, 3) := by decide +kernel
theorem dX2_become_21 : decode cX2_become 21 = .ok (.putfield 31, 3) := by decide +kernel
theorem dX2_become_24 : decode cX2_become 24 = .ok (.aload_n 0, 1) := by decide +kernel
theorem dX2_become_25 : decode cX2_become 25 = .ok (.aload_n 1, 1) := by decide +kernel
theorem dX2_become_26 : decode cX2_become 26 = .ok (.getfield 37, 3) := by decide +kernel
theorem dX2_become_29 : decode cX2_become 29 = .ok (.putfield 37, 3) := by decide +kernel
theorem dX2_become_32 : decode cX2_become 32 = .ok (.aload_n 1, 1) := by decide +kernel
theorem dX2_become_33 : decode cX2_become 33 = .ok (.getfield 20, 3) := by decide +kernel
theorem dX2_become_36 : decode cX2_become 36 = .ok (.iconst 0, 1) := by decide +kernel
theorem dX2_become_37 : decode cX2_become 37 = .ok (.aload_n 0, 1) := by decide +kernel
theorem dX2_become_38 : decode cX2_become 38 = .ok (.getfield 20, 3) := by decide +kernel
theorem dX2_become_41 : decode cX2_become 41 = .ok (.iconst 0, 1) := by decide +kernel
theorem dX2_become_42 : decode cX2_become 42 = .ok (.bipush 8, 2) := by decide +kernel
theorem dX2_become_44 : decode cX2_become 44 = .ok (.invokestatic 40, 3) := by decide +kernel
theorem dX2_become_47 : decode cX2_become 47 = .ok (.aload_n 1, 1) := by decide +kernel
theorem dX2_become_48 : decode cX2_become 48 = .ok (.getfield 24, 3) := by decide +kernel
theorem dX2_become_51 : decode cX2_become 51 = .ok (.iconst 0, 1) := by decide +kernel
theorem dX2_become_52 : decode cX2_become 52 = .ok (.aload_n 0, 1) := by decide +kernel
theorem dX2_become_53 : decode cX2_become 53 = .ok (.getfield 24, 3) := by decide +kernel
theorem dX2_become_56 : decode cX2_become 56 = .ok (.iconst 0, 1) := by decide +kernel
theorem dX2_become_57 : decode cX2_become 57 = .ok (.bipush 8, 2) := by decide +kernel
theorem dX2_become_59 : decode cX2_become 59 = .ok (.invokestatic 40, 3) := by decide +kernel
theorem dX2_become_62 : decode cX2_become 62 = .ok (.return_, 1) := by decide +kernel
theorem dX2_readsOn_0 : decode cX2_readsOn 0 = .ok (.aload_n 0, 1) := by decide +kernel
theorem dX2_readsOn_1 : decode cX2_readsOn 1 = .ok (.getfield 14, 3) := by decide +kernel
theorem dX2_readsOn_4 : decode cX2_readsOn 4 = .ok (.iload_n 1, 1) := by decide +kernel
theorem dX2_readsOn_5 : decode cX2_readsOn 5 = .ok (.aload_n 0, 1) := by decide +kernel
theorem dX2_readsOn_6 : decode cX2_readsOn 6 = .ok (.getfield 31, 3) := by decide +kernel
theorem dX2_readsOn_9 : decode cX2_readsOn 9 = .ok (.isub, 1) := by decide +kernel
theorem dX2_readsOn_10 : decode cX2_readsOn 10 = .ok (.iload_n 1, 1) := by decide +kernel
theorem dX2_readsOn_11 : decode cX2_readsOn 11 = .ok (.aload_n 0, 1) := by decide +kernel
theorem dX2_readsOn_12 : decode cX2_readsOn 12 = .ok (.getfield 27, 3) := by decide +kernel
theorem dX2_readsOn_15 : decode cX2_readsOn 15 = .ok (.invokevirtual 46, 3) := by decide +kernel
theorem dX2_readsOn_18 : decode cX2_readsOn 18 = .ok (.ireturn, 1) := by decide +kernel
theorem dX2_takesIn_0 : decode cX2_takesIn 0 = .ok (.aload_n 0, 1) := by decide +kernel
theorem dX2_takesIn_1 : decode cX2_takesIn 1 = .ok (.getfield 37, 3) := by decide +kernel
theorem dX2_takesIn_4 : decode cX2_takesIn 4 = .ok (.iload_n 1, 1) := by decide +kernel
theorem dX2_takesIn_5 : decode cX2_takesIn 5 = .ok (.invokestatic 50, 3) := by decide +kernel
theorem dX2_takesIn_8 : decode cX2_takesIn 8 = .ok (.ifCond .ne 24, 3) := by decide +kernel
theorem dX2_takesIn_11 : decode cX2_takesIn 11 = .ok (.aload_n 0, 1) := by decide +kernel
theorem dX2_takesIn_12 : decode cX2_takesIn 12 = .ok (.getfield 37, 3) := by decide +kernel
theorem dX2_takesIn_15 : decode cX2_takesIn 15 = .ok (.invokestatic 54, 3) := by decide +kernel
theorem dX2_takesIn_18 : decode cX2_takesIn 18 = .ok (.aload_n 0, 1) := by decide +kernel
theorem dX2_takesIn_19 : decode cX2_takesIn 19 = .ok (.getfield 14, 3) := by decide +kernel
theorem dX2_takesIn_22 : decode cX2_takesIn 22 = .ok (.aload_n 0, 1) := by decide +kernel
theorem dX2_takesIn_23 : decode cX2_takesIn 23 = .ok (.getfield 27, 3) := by decide +kernel
theorem dX2_takesIn_26 : decode cX2_takesIn 26 = .ok (.invokevirtual 60, 3) := by decide +kernel
theorem dX2_takesIn_29 : decode cX2_takesIn 29 = .ok (.if_icmp .ge 7, 3) := by decide +kernel
theorem dX2_takesIn_32 : decode cX2_takesIn 32 = .ok (.iconst 1, 1) := by decide +kernel
theorem dX2_takesIn_33 : decode cX2_takesIn 33 = .ok (.goto 4, 3) := by decide +kernel
theorem dX2_takesIn_36 : decode cX2_takesIn 36 = .ok (.iconst 0, 1) := by decide +kernel
theorem dX2_takesIn_37 : decode cX2_takesIn 37 = .ok (.ireturn, 1) := by decide +kernel
theorem dX2_put_0 : decode cX2_put 0 = .ok (.aload_n 0, 1) := by decide +kernel
theorem dX2_put_1 : decode cX2_put 1 = .ok (.getfield 20, 3) := by decide +kernel
theorem dX2_put_4 : decode cX2_put 4 = .ok (.iload_n 1, 1) := by decide +kernel
theorem dX2_put_5 : decode cX2_put 5 = .ok (.aload_n 0, 1) := by decide +kernel
theorem dX2_put_6 : decode cX2_put 6 = .ok (.getfield 14, 3) := by decide +kernel
theorem dX2_put_9 : decode cX2_put 9 = .ok (.iload_n 2, 1) := by decide +kernel
theorem dX2_put_10 : decode cX2_put 10 = .ok (.invokevirtual 63, 3) := by decide +kernel
theorem dX2_put_13 : decode cX2_put 13 = .ok (.iastore, 1) := by decide +kernel
theorem dX2_put_14 : decode cX2_put 14 = .ok (.aload_n 0, 1) := by decide +kernel
theorem dX2_put_15 : decode cX2_put 15 = .ok (.getfield 24, 3) := by decide +kernel
theorem dX2_put_18 : decode cX2_put 18 = .ok (.iload_n 1, 1) := by decide +kernel
theorem dX2_put_19 : decode cX2_put 19 = .ok (.iload_n 3, 1) := by decide +kernel
theorem dX2_put_20 : decode cX2_put 20 = .ok (.iastore, 1) := by decide +kernel
theorem dX2_put_21 : decode cX2_put 21 = .ok (.aload_n 0, 1) := by decide +kernel
theorem dX2_put_22 : decode cX2_put 22 = .ok (.dup, 1) := by decide +kernel
theorem dX2_put_23 : decode cX2_put 23 = .ok (.getfield 37, 3) := by decide +kernel
theorem dX2_put_26 : decode cX2_put 26 = .ok (.iconst 1, 1) := by decide +kernel
theorem dX2_put_27 : decode cX2_put 27 = .ok (.iload_n 1, 1) := by decide +kernel
theorem dX2_put_28 : decode cX2_put 28 = .ok (.ishl, 1) := by decide +kernel
theorem dX2_put_29 : decode cX2_put 29 = .ok (.ior, 1) := by decide +kernel
theorem dX2_put_30 : decode cX2_put 30 = .ok (.putfield 37, 3) := by decide +kernel
theorem dX2_put_33 : decode cX2_put 33 = .ok (.return_, 1) := by decide +kernel
theorem dX2_drop_0 : decode cX2_drop 0 = .ok (.aload_n 0, 1) := by decide +kernel
theorem dX2_drop_1 : decode cX2_drop 1 = .ok (.getfield 20, 3) := by decide +kernel
theorem dX2_drop_4 : decode cX2_drop 4 = .ok (.iload_n 1, 1) := by decide +kernel
theorem dX2_drop_5 : decode cX2_drop 5 = .ok (.iconst (-1), 1) := by decide +kernel
theorem dX2_drop_6 : decode cX2_drop 6 = .ok (.iastore, 1) := by decide +kernel
theorem dX2_drop_7 : decode cX2_drop 7 = .ok (.aload_n 0, 1) := by decide +kernel
theorem dX2_drop_8 : decode cX2_drop 8 = .ok (.getfield 24, 3) := by decide +kernel
theorem dX2_drop_11 : decode cX2_drop 11 = .ok (.iload_n 1, 1) := by decide +kernel
theorem dX2_drop_12 : decode cX2_drop 12 = .ok (.bipush (-100), 2) := by decide +kernel
theorem dX2_drop_14 : decode cX2_drop 14 = .ok (.iastore, 1) := by decide +kernel
theorem dX2_drop_15 : decode cX2_drop 15 = .ok (.aload_n 0, 1) := by decide +kernel
theorem dX2_drop_16 : decode cX2_drop 16 = .ok (.aload_n 0, 1) := by decide +kernel
theorem dX2_drop_17 : decode cX2_drop 17 = .ok (.getfield 37, 3) := by decide +kernel
theorem dX2_drop_20 : decode cX2_drop 20 = .ok (.iload_n 1, 1) := by decide +kernel
theorem dX2_drop_21 : decode cX2_drop 21 = .ok (.invokestatic 66, 3) := by decide +kernel
theorem dX2_drop_24 : decode cX2_drop 24 = .ok (.putfield 37, 3) := by decide +kernel
theorem dX2_drop_27 : decode cX2_drop 27 = .ok (.return_, 1) := by decide +kernel
theorem dX3_init_0 : decode cX3_init 0 = .ok (.aload_n 0, 1) := by decide +kernel
theorem dX3_init_1 : decode cX3_init 1 = .ok (.invokespecial 3, 3) := by decide +kernel
theorem dX3_init_4 : decode cX3_init 4 = .ok (.aload_n 0, 1) := by decide +kernel
theorem dX3_init_5 : decode cX3_init 5 = .ok (.iload_n 1, 1) := by decide +kernel
theorem dX3_init_6 : decode cX3_init 6 = .ok (.putfield 9, 3) := by decide +kernel
theorem dX3_init_9 : decode cX3_init 9 = .ok (.return_, 1) := by decide +kernel
theorem dX3_reads_0 : decode cX3_reads 0 = .ok (.iload_n 1, 1) := by decide +kernel
theorem dX3_reads_1 : decode cX3_reads 1 = .ok (.sipush 300, 3) := by decide +kernel
theorem dX3_reads_4 : decode cX3_reads 4 = .ok (.if_icmp .gt 7, 3) := by decide +kernel
theorem dX3_reads_7 : decode cX3_reads 7 = .ok (.iconst 1, 1) := by decide +kernel
theorem dX3_reads_8 : decode cX3_reads 8 = .ok (.goto 4, 3) := by decide +kernel
theorem dX3_reads_11 : decode cX3_reads 11 = .ok (.iconst 0, 1) := by decide +kernel
theorem dX3_reads_12 : decode cX3_reads 12 = .ok (.ireturn, 1) := by decide +kernel
theorem dX3_stampOn_0 : decode cX3_stampOn 0 = .ok (.iload_n 1, 1) := by decide +kernel
theorem dX3_stampOn_1 : decode cX3_stampOn 1 = .ok (.ireturn, 1) := by decide +kernel
theorem dX3_keeps_0 : decode cX3_keeps 0 = .ok (.iload_n 1, 1) := by decide +kernel
theorem dX3_keeps_1 : decode cX3_keeps 1 = .ok (.ireturn, 1) := by decide +kernel
theorem dX3_roomBy_0 : decode cX3_roomBy 0 = .ok (.bipush 8, 2) := by decide +kernel
theorem dX3_roomBy_2 : decode cX3_roomBy 2 = .ok (.ireturn, 1) := by decide +kernel
theorem dX4_init_0 : decode cX4_init 0 = .ok (.aload_n 0, 1) := by decide +kernel
theorem dX4_init_1 : decode cX4_init 1 = .ok (.iload_n 1, 1) := by decide +kernel
theorem dX4_init_2 : decode cX4_init 2 = .ok (.invokespecial 1, 3) := by decide +kernel
theorem dX4_init_5 : decode cX4_init 5 = .ok (.return_, 1) := by decide +kernel
theorem dX4_reads_0 : decode cX4_reads 0 = .ok (.aload_n 0, 1) := by decide +kernel
theorem dX4_reads_1 : decode cX4_reads 1 = .ok (.iload_n 1, 1) := by decide +kernel
theorem dX4_reads_2 : decode cX4_reads 2 = .ok (.iload_n 2, 1) := by decide +kernel
theorem dX4_reads_3 : decode cX4_reads 3 = .ok (.iload_n 3, 1) := by decide +kernel
theorem dX4_reads_4 : decode cX4_reads 4 = .ok (.invokespecial 7, 3) := by decide +kernel
theorem dX4_reads_7 : decode cX4_reads 7 = .ok (.ifCond .eq 13, 3) := by decide +kernel
theorem dX4_reads_10 : decode cX4_reads 10 = .ok (.iload_n 1, 1) := by decide +kernel
theorem dX4_reads_11 : decode cX4_reads 11 = .ok (.iconst 2, 1) := by decide +kernel
theorem dX4_reads_12 : decode cX4_reads 12 = .ok (.irem, 1) := by decide +kernel
theorem dX4_reads_13 : decode cX4_reads 13 = .ok (.ifCond .ne 7, 3) := by decide +kernel
theorem dX4_reads_16 : decode cX4_reads 16 = .ok (.iconst 1, 1) := by decide +kernel
theorem dX4_reads_17 : decode cX4_reads 17 = .ok (.goto 4, 3) := by decide +kernel
theorem dX4_reads_20 : decode cX4_reads 20 = .ok (.iconst 0, 1) := by decide +kernel
theorem dX4_reads_21 : decode cX4_reads 21 = .ok (.ireturn, 1) := by decide +kernel
theorem dX4_stampOn_0 : decode cX4_stampOn 0 = .ok (.aload_n 0, 1) := by decide +kernel
theorem dX4_stampOn_1 : decode cX4_stampOn 1 = .ok (.iload_n 1, 1) := by decide +kernel
theorem dX4_stampOn_2 : decode cX4_stampOn 2 = .ok (.iload_n 2, 1) := by decide +kernel
theorem dX4_stampOn_3 : decode cX4_stampOn 3 = .ok (.invokespecial 11, 3) := by decide +kernel
theorem dX4_stampOn_6 : decode cX4_stampOn 6 = .ok (.iconst 2, 1) := by decide +kernel
theorem dX4_stampOn_7 : decode cX4_stampOn 7 = .ok (.idiv, 1) := by decide +kernel
theorem dX4_stampOn_8 : decode cX4_stampOn 8 = .ok (.ireturn, 1) := by decide +kernel
theorem dX4_keeps_0 : decode cX4_keeps 0 = .ok (.iload_n 1, 1) := by decide +kernel
theorem dX4_keeps_1 : decode cX4_keeps 1 = .ok (.sipush 899, 3) := by decide +kernel
theorem dX4_keeps_4 : decode cX4_keeps 4 = .ok (.invokestatic 15, 3) := by decide +kernel
theorem dX4_keeps_7 : decode cX4_keeps 7 = .ok (.ireturn, 1) := by decide +kernel
theorem dX5_init_0 : decode cX5_init 0 = .ok (.aload_n 0, 1) := by decide +kernel
theorem dX5_init_1 : decode cX5_init 1 = .ok (.iload_n 1, 1) := by decide +kernel
theorem dX5_init_2 : decode cX5_init 2 = .ok (.invokespecial 1, 3) := by decide +kernel
theorem dX5_init_5 : decode cX5_init 5 = .ok (.return_, 1) := by decide +kernel
theorem dX5_reads_0 : decode cX5_reads 0 = .ok (.iconst 1, 1) := by decide +kernel
theorem dX5_reads_1 : decode cX5_reads 1 = .ok (.ireturn, 1) := by decide +kernel
theorem dX5_stampOn_0 : decode cX5_stampOn 0 = .ok (.iconst 0, 1) := by decide +kernel
theorem dX5_stampOn_1 : decode cX5_stampOn 1 = .ok (.ireturn, 1) := by decide +kernel
theorem dX5_keeps_0 : decode cX5_keeps 0 = .ok (.iload_n 1, 1) := by decide +kernel
theorem dX5_keeps_1 : decode cX5_keeps 1 = .ok (.iload_n 1, 1) := by decide +kernel
theorem dX5_keeps_2 : decode cX5_keeps 2 = .ok (.bipush 10, 2) := by decide +kernel
theorem dX5_keeps_4 : decode cX5_keeps 4 = .ok (.irem, 1) := by decide +kernel
theorem dX5_keeps_5 : decode cX5_keeps 5 = .ok (.isub, 1) := by decide +kernel
theorem dX5_keeps_6 : decode cX5_keeps 6 = .ok (.ireturn, 1) := by decide +kernel
theorem dX5_roomBy_0 : decode cX5_roomBy 0 = .ok (.iload_n 1, 1) := by decide +kernel
theorem dX5_roomBy_1 : decode cX5_roomBy 1 = .ok (.ireturn, 1) := by decide +kernel
theorem dX6_init_0 : decode cX6_init 0 = .ok (.aload_n 0, 1) := by decide +kernel
theorem dX6_init_1 : decode cX6_init 1 = .ok (.invokespecial 3, 3) := by decide +kernel
theorem dX6_init_4 : decode cX6_init 4 = .ok (.aload_n 0, 1) := by decide +kernel
theorem dX6_init_5 : decode cX6_init 5 = .ok (.sipush 160, 3) := by decide +kernel
theorem dX6_init_8 : decode cX6_init 8 = .ok (.newarray .int, 2) := by decide +kernel
theorem dX6_init_10 : decode cX6_init 10 = .ok (.putfield 9, 3) := by decide +kernel
theorem dX6_init_13 : decode cX6_init 13 = .ok (.aload_n 0, 1) := by decide +kernel
theorem dX6_init_14 : decode cX6_init 14 = .ok (.iconst 3, 1) := by decide +kernel
theorem dX6_init_15 : decode cX6_init 15 = .ok (.newarray .int, 2) := by decide +kernel
theorem dX6_init_17 : decode cX6_init 17 = .ok (.putfield 15, 3) := by decide +kernel
theorem dX6_init_20 : decode cX6_init 20 = .ok (.aload_n 0, 1) := by decide +kernel
theorem dX6_init_21 : decode cX6_init 21 = .ok (.bipush 6, 2) := by decide +kernel
theorem dX6_init_23 : decode cX6_init 23 = .ok (.newarray .int, 2) := by decide +kernel
theorem dX6_init_25 : decode cX6_init 25 = .ok (.putfield 18, 3) := by decide +kernel
theorem dX6_init_28 : decode cX6_init 28 = .ok (.aload_n 0, 1) := by decide +kernel
theorem dX6_init_29 : decode cX6_init 29 = .ok (.bipush 32, 2) := by decide +kernel
theorem dX6_init_31 : decode cX6_init 31 = .ok (.newarray .int, 2) := by decide +kernel
theorem dX6_init_33 : decode cX6_init 33 = .ok (.putfield 21, 3) := by decide +kernel
theorem dX6_init_36 : decode cX6_init 36 = .ok (.return_, 1) := by decide +kernel
theorem dX6_clear_0 : decode cX6_clear 0 = .ok (.aload_n 0, 1) := by decide +kernel
theorem dX6_clear_1 : decode cX6_clear 1 = .ok (.iconst 0, 1) := by decide +kernel
theorem dX6_clear_2 : decode cX6_clear 2 = .ok (.putfield 24, 3) := by decide +kernel
theorem dX6_clear_5 : decode cX6_clear 5 = .ok (.return_, 1) := by decide +kernel
theorem dX6_become_0 : decode cX6_become 0 = .ok (.aload_n 0, 1) := by decide +kernel
theorem dX6_become_1 : decode cX6_become 1 = .ok (.aload_n 1, 1) := by decide +kernel
theorem dX6_become_2 : decode cX6_become 2 = .ok (.getfield 24, 3) := by decide +kernel
theorem dX6_become_5 : decode cX6_become 5 = .ok (.putfield 24, 3) := by decide +kernel
theorem dX6_become_8 : decode cX6_become 8 = .ok (.aload_n 1, 1) := by decide +kernel
theorem dX6_become_9 : decode cX6_become 9 = .ok (.getfield 9, 3) := by decide +kernel
theorem dX6_become_12 : decode cX6_become 12 = .ok (.iconst 0, 1) := by decide +kernel
theorem dX6_become_13 : decode cX6_become 13 = .ok (.aload_n 0, 1) := by decide +kernel
theorem dX6_become_14 : decode cX6_become 14 = .ok (.getfield 9, 3) := by decide +kernel
theorem dX6_become_17 : decode cX6_become 17 = .ok (.iconst 0, 1) := by decide +kernel
theorem dX6_become_18 : decode cX6_become 18 = .ok (.sipush 160, 3) := by decide +kernel
theorem dX6_become_21 : decode cX6_become 21 = .ok (.invokestatic 28, 3) := by decide +kernel
theorem dX6_become_24 : decode cX6_become 24 = .ok (.aload_n 1, 1) := by decide +kernel
theorem dX6_become_25 : decode cX6_become 25 = .ok (.getfield 15, 3) := by decide +kernel
theorem dX6_become_28 : decode cX6_become 28 = .ok (.iconst 0, 1) := by decide +kernel
theorem dX6_become_29 : decode cX6_become 29 = .ok (.aload_n 0, 1) := by decide +kernel
theorem dX6_become_30 : decode cX6_become 30 = .ok (.getfield 15, 3) := by decide +kernel
theorem dX6_become_33 : decode cX6_become 33 = .ok (.iconst 0, 1) := by decide +kernel
theorem dX6_become_34 : decode cX6_become 34 = .ok (.iconst 3, 1) := by decide +kernel
theorem dX6_become_35 : decode cX6_become 35 = .ok (.invokestatic 28, 3) := by decide +kernel
theorem dX6_become_38 : decode cX6_become 38 = .ok (.return_, 1) := by decide +kernel
theorem dX6_add_0 : decode cX6_add 0 = .ok (.aload_n 0, 1) := by decide +kernel
theorem dX6_add_1 : decode cX6_add 1 = .ok (.getfield 24, 3) := by decide +kernel
theorem dX6_add_4 : decode cX6_add 4 = .ok (.aload_n 0, 1) := by decide +kernel
theorem dX6_add_5 : decode cX6_add 5 = .ok (.getfield 9, 3) := by decide +kernel
theorem dX6_add_8 : decode cX6_add 8 = .ok (.arraylength, 1) := by decide +kernel
theorem dX6_add_9 : decode cX6_add 9 = .ok (.if_icmp .ge 23, 3) := by decide +kernel
theorem dX6_add_12 : decode cX6_add 12 = .ok (.aload_n 0, 1) := by decide +kernel
theorem dX6_add_13 : decode cX6_add 13 = .ok (.getfield 9, 3) := by decide +kernel
theorem dX6_add_16 : decode cX6_add 16 = .ok (.aload_n 0, 1) := by decide +kernel
theorem dX6_add_17 : decode cX6_add 17 = .ok (.getfield 24, 3) := by decide +kernel
theorem dX6_add_20 : decode cX6_add 20 = .ok (.iload_n 1, 1) := by decide +kernel
theorem dX6_add_21 : decode cX6_add 21 = .ok (.iastore, 1) := by decide +kernel
theorem dX6_add_22 : decode cX6_add 22 = .ok (.aload_n 0, 1) := by decide +kernel
theorem dX6_add_23 : decode cX6_add 23 = .ok (.dup, 1) := by decide +kernel
theorem dX6_add_24 : decode cX6_add 24 = .ok (.getfield 24, 3) := by decide +kernel
theorem dX6_add_27 : decode cX6_add 27 = .ok (.iconst 1, 1) := by decide +kernel
theorem dX6_add_28 : decode cX6_add 28 = .ok (.iadd, 1) := by decide +kernel
theorem dX6_add_29 : decode cX6_add 29 = .ok (.putfield 24, 3) := by decide +kernel
theorem dX6_add_32 : decode cX6_add 32 = .ok (.return_, 1) := by decide +kernel
theorem dX6_endPart_0 : decode cX6_endPart 0 = .ok (.aload_n 0, 1) := by decide +kernel
theorem dX6_endPart_1 : decode cX6_endPart 1 = .ok (.getfield 15, 3) := by decide +kernel
theorem dX6_endPart_4 : decode cX6_endPart 4 = .ok (.iload_n 1, 1) := by decide +kernel
theorem dX6_endPart_5 : decode cX6_endPart 5 = .ok (.aload_n 0, 1) := by decide +kernel
theorem dX6_endPart_6 : decode cX6_endPart 6 = .ok (.getfield 24, 3) := by decide +kernel
theorem dX6_endPart_9 : decode cX6_endPart 9 = .ok (.iastore, 1) := by decide +kernel
theorem dX6_endPart_10 : decode cX6_endPart 10 = .ok (.return_, 1) := by decide +kernel
theorem dX6_takes_0 : decode cX6_takes 0 = .ok (.aload_n 0, 1) := by decide +kernel
theorem dX6_takes_1 : decode cX6_takes 1 = .ok (.getfield 18, 3) := by decide +kernel
theorem dX6_takes_4 : decode cX6_takes 4 = .ok (.iconst 0, 1) := by decide +kernel
theorem dX6_takes_5 : decode cX6_takes 5 = .ok (.iload_n 1, 1) := by decide +kernel
theorem dX6_takes_6 : decode cX6_takes 6 = .ok (.iastore, 1) := by decide +kernel
theorem dX6_takes_7 : decode cX6_takes 7 = .ok (.aload_n 0, 1) := by decide +kernel
theorem dX6_takes_8 : decode cX6_takes 8 = .ok (.getfield 18, 3) := by decide +kernel
theorem dX6_takes_11 : decode cX6_takes 11 = .ok (.iconst 1, 1) := by decide +kernel
theorem dX6_takes_12 : decode cX6_takes 12 = .ok (.iload_n 2, 1) := by decide +kernel
theorem dX6_takes_13 : decode cX6_takes 13 = .ok (.iastore, 1) := by decide +kernel
theorem dX6_takes_14 : decode cX6_takes 14 = .ok (.aload_n 0, 1) := by decide +kernel
theorem dX6_takes_15 : decode cX6_takes 15 = .ok (.getfield 18, 3) := by decide +kernel
theorem dX6_takes_18 : decode cX6_takes 18 = .ok (.iconst 2, 1) := by decide +kernel
theorem dX6_takes_19 : decode cX6_takes 19 = .ok (.iload_n 3, 1) := by decide +kernel
theorem dX6_takes_20 : decode cX6_takes 20 = .ok (.iastore, 1) := by decide +kernel
theorem dX6_takes_21 : decode cX6_takes 21 = .ok (.aload_n 0, 1) := by decide +kernel
theorem dX6_takes_22 : decode cX6_takes 22 = .ok (.iload 4, 2) := by decide +kernel
theorem dX6_takes_24 : decode cX6_takes 24 = .ok (.iload 5, 2) := by decide +kernel
theorem dX6_takes_26 : decode cX6_takes 26 = .ok (.iload 6, 2) := by decide +kernel
theorem dX6_takes_28 : decode cX6_takes 28 = .ok (.invokevirtual 34, 3) := by decide +kernel
theorem dX6_takes_31 : decode cX6_takes 31 = .ok (.aload_n 0, 1) := by decide +kernel
theorem dX6_takes_32 : decode cX6_takes 32 = .ok (.iconst 0, 1) := by decide +kernel
theorem dX6_takes_33 : decode cX6_takes 33 = .ok (.invokevirtual 38, 3) := by decide +kernel
theorem dX6_takes_36 : decode cX6_takes 36 = .ok (.ifCond .eq 7, 3) := by decide +kernel
theorem dX6_takes_39 : decode cX6_takes 39 = .ok (.iconst 1, 1) := by decide +kernel
theorem dX6_takes_40 : decode cX6_takes 40 = .ok (.goto 4, 3) := by decide +kernel
theorem dX6_takes_43 : decode cX6_takes 43 = .ok (.iconst 0, 1) := by decide +kernel
theorem dX6_takes_44 : decode cX6_takes 44 = .ok (.ireturn, 1) := by decide +kernel
theorem dX6_likelihood_0 : decode cX6_likelihood 0 = .ok (.aload_n 0, 1) := by decide +kernel
theorem dX6_likelihood_1 : decode cX6_likelihood 1 = .ok (.invokevirtual 42, 3) := by decide +kernel
theorem dX6_likelihood_4 : decode cX6_likelihood 4 = .ok (.aload_n 0, 1) := by decide +kernel
theorem dX6_likelihood_5 : decode cX6_likelihood 5 = .ok (.iload_n 1, 1) := by decide +kernel
theorem dX6_likelihood_6 : decode cX6_likelihood 6 = .ok (.iconst 0, 1) := by decide +kernel
theorem dX6_likelihood_7 : decode cX6_likelihood 7 = .ok (.iload_n 2, 1) := by decide +kernel
theorem dX6_likelihood_8 : decode cX6_likelihood 8 = .ok (.invokevirtual 34, 3) := by decide +kernel
theorem dX6_likelihood_11 : decode cX6_likelihood 11 = .ok (.iconst 0, 1) := by decide +kernel
theorem dX6_likelihood_12 : decode cX6_likelihood 12 = .ok (.bipush 100, 2) := by decide +kernel
theorem dX6_likelihood_14 : decode cX6_likelihood 14 = .ok (.aload_n 0, 1) := by decide +kernel
theorem dX6_likelihood_15 : decode cX6_likelihood 15 = .ok (.iconst 1, 1) := by decide +kernel
theorem dX6_likelihood_16 : decode cX6_likelihood 16 = .ok (.invokevirtual 38, 3) := by decide +kernel
theorem dX6_likelihood_19 : decode cX6_likelihood 19 = .ok (.invokestatic 45, 3) := by decide +kernel
theorem dX6_likelihood_22 : decode cX6_likelihood 22 = .ok (.invokestatic 51, 3) := by decide +kernel
theorem dX6_likelihood_25 : decode cX6_likelihood 25 = .ok (.ireturn, 1) := by decide +kernel
theorem dX6_worth_0 : decode cX6_worth 0 = .ok (.aload_n 0, 1) := by decide +kernel
theorem dX6_worth_1 : decode cX6_worth 1 = .ok (.invokevirtual 42, 3) := by decide +kernel
theorem dX6_worth_4 : decode cX6_worth 4 = .ok (.aload_n 0, 1) := by decide +kernel
theorem dX6_worth_5 : decode cX6_worth 5 = .ok (.iconst 0, 1) := by decide +kernel
theorem dX6_worth_6 : decode cX6_worth 6 = .ok (.iload_n 1, 1) := by decide +kernel
theorem dX6_worth_7 : decode cX6_worth 7 = .ok (.iload_n 2, 1) := by decide +kernel
theorem dX6_worth_8 : decode cX6_worth 8 = .ok (.invokevirtual 34, 3) := by decide +kernel
theorem dX6_worth_11 : decode cX6_worth 11 = .ok (.iconst 0, 1) := by decide +kernel
theorem dX6_worth_12 : decode cX6_worth 12 = .ok (.bipush 99, 2) := by decide +kernel
theorem dX6_worth_14 : decode cX6_worth 14 = .ok (.aload_n 0, 1) := by decide +kernel
theorem dX6_worth_15 : decode cX6_worth 15 = .ok (.iconst 2, 1) := by decide +kernel
theorem dX6_worth_16 : decode cX6_worth 16 = .ok (.invokevirtual 38, 3) := by decide +kernel
theorem dX6_worth_19 : decode cX6_worth 19 = .ok (.invokestatic 45, 3) := by decide +kernel
theorem dX6_worth_22 : decode cX6_worth 22 = .ok (.invokestatic 51, 3) := by decide +kernel
theorem dX6_worth_25 : decode cX6_worth 25 = .ok (.ireturn, 1) := by decide +kernel
theorem dX6_nameNothingThere_0 : decode cX6_nameNothingThere 0 = .ok (.aload_n 0, 1) := by decide +kernel
theorem dX6_nameNothingThere_1 : decode cX6_nameNothingThere 1 = .ok (.getfield 18, 3) := by decide +kernel
theorem dX6_nameNothingThere_4 : decode cX6_nameNothingThere 4 = .ok (.iconst 0, 1) := by decide +kernel
theorem dX6_nameNothingThere_5 : decode cX6_nameNothingThere 5 = .ok (.iconst 0, 1) := by decide +kernel
theorem dX6_nameNothingThere_6 : decode cX6_nameNothingThere 6 = .ok (.iastore, 1) := by decide +kernel
theorem dX6_nameNothingThere_7 : decode cX6_nameNothingThere 7 = .ok (.aload_n 0, 1) := by decide +kernel
theorem dX6_nameNothingThere_8 : decode cX6_nameNothingThere 8 = .ok (.getfield 18, 3) := by decide +kernel
theorem dX6_nameNothingThere_11 : decode cX6_nameNothingThere 11 = .ok (.iconst 1, 1) := by decide +kernel
theorem dX6_nameNothingThere_12 : decode cX6_nameNothingThere 12 = .ok (.iconst 0, 1) := by decide +kernel
theorem dX6_nameNothingThere_13 : decode cX6_nameNothingThere 13 = .ok (.iastore, 1) := by decide +kernel
theorem dX6_nameNothingThere_14 : decode cX6_nameNothingThere 14 = .ok (.aload_n 0, 1) := by decide +kernel
theorem dX6_nameNothingThere_15 : decode cX6_nameNothingThere 15 = .ok (.getfield 18, 3) := by decide +kernel
theorem dX6_nameNothingThere_18 : decode cX6_nameNothingThere 18 = .ok (.iconst 2, 1) := by decide +kernel
theorem dX6_nameNothingThere_19 : decode cX6_nameNothingThere 19 = .ok (.iconst 0, 1) := by decide +kernel
theorem dX6_nameNothingThere_20 : decode cX6_nameNothingThere 20 = .ok (.iastore, 1) := by decide +kernel
theorem dX6_nameNothingThere_21 : decode cX6_nameNothingThere 21 = .ok (.return_, 1) := by decide +kernel
theorem dX6_nameRest_0 : decode cX6_nameRest 0 = .ok (.aload_n 0, 1) := by decide +kernel
theorem dX6_nameRest_1 : decode cX6_nameRest 1 = .ok (.getfield 18, 3) := by decide +kernel
theorem dX6_nameRest_4 : decode cX6_nameRest 4 = .ok (.iconst 3, 1) := by decide +kernel
theorem dX6_nameRest_5 : decode cX6_nameRest 5 = .ok (.iload_n 1, 1) := by decide +kernel
theorem dX6_nameRest_6 : decode cX6_nameRest 6 = .ok (.iastore, 1) := by decide +kernel
theorem dX6_nameRest_7 : decode cX6_nameRest 7 = .ok (.aload_n 0, 1) := by decide +kernel
theorem dX6_nameRest_8 : decode cX6_nameRest 8 = .ok (.getfield 18, 3) := by decide +kernel
theorem dX6_nameRest_11 : decode cX6_nameRest 11 = .ok (.iconst 4, 1) := by decide +kernel
theorem dX6_nameRest_12 : decode cX6_nameRest 12 = .ok (.iload_n 2, 1) := by decide +kernel
theorem dX6_nameRest_13 : decode cX6_nameRest 13 = .ok (.iastore, 1) := by decide +kernel
theorem dX6_nameRest_14 : decode cX6_nameRest 14 = .ok (.aload_n 0, 1) := by decide +kernel
theorem dX6_nameRest_15 : decode cX6_nameRest 15 = .ok (.getfield 18, 3) := by decide +kernel
theorem dX6_nameRest_18 : decode cX6_nameRest 18 = .ok (.iconst 5, 1) := by decide +kernel
theorem dX6_nameRest_19 : decode cX6_nameRest 19 = .ok (.iload_n 3, 1) := by decide +kernel
theorem dX6_nameRest_20 : decode cX6_nameRest 20 = .ok (.iastore, 1) := by decide +kernel
theorem dX6_nameRest_21 : decode cX6_nameRest 21 = .ok (.return_, 1) := by decide +kernel
theorem dX6_answer_0 : decode cX6_answer 0 = .ok (.aload_n 0, 1) := by decide +kernel
theorem dX6_answer_1 : decode cX6_answer 1 = .ok (.iconst 0, 1) := by decide +kernel
theorem dX6_answer_2 : decode cX6_answer 2 = .ok (.putfield 54, 3) := by decide +kernel
theorem dX6_answer_5 : decode cX6_answer 5 = .ok (.iload_n 1, 1) := by decide +kernel
theorem dX6_answer_6 : decode cX6_answer 6 = .ok (.ifCond .ne 7, 3) := by decide +kernel
theorem dX6_answer_9 : decode cX6_answer 9 = .ok (.iconst 0, 1) := by decide +kernel
theorem dX6_answer_10 : decode cX6_answer 10 = .ok (.goto 11, 3) := by decide +kernel
theorem dX6_answer_13 : decode cX6_answer 13 = .ok (.aload_n 0, 1) := by decide +kernel
theorem dX6_answer_14 : decode cX6_answer 14 = .ok (.getfield 15, 3) := by decide +kernel
theorem dX6_answer_17 : decode cX6_answer 17 = .ok (.iload_n 1, 1) := by decide +kernel
theorem dX6_answer_18 : decode cX6_answer 18 = .ok (.iconst 1, 1) := by decide +kernel
theorem dX6_answer_19 : decode cX6_answer 19 = .ok (.isub, 1) := by decide +kernel
theorem dX6_answer_20 : decode cX6_answer 20 = .ok (.iaload, 1) := by decide +kernel
theorem dX6_answer_21 : decode cX6_answer 21 = .ok (.istore_n 2, 1) := by decide +kernel
theorem dX6_answer_22 : decode cX6_answer 22 = .ok (.iload_n 2, 1) := by decide +kernel
theorem dX6_answer_23 : decode cX6_answer 23 = .ok (.istore_n 3, 1) := by decide +kernel
theorem dX6_answer_24 : decode cX6_answer 24 = .ok (.iload_n 3, 1) := by decide +kernel
theorem dX6_answer_25 : decode cX6_answer 25 = .ok (.aload_n 0, 1) := by decide +kernel
theorem dX6_answer_26 : decode cX6_answer 26 = .ok (.getfield 15, 3) := by decide +kernel
theorem dX6_answer_29 : decode cX6_answer 29 = .ok (.iload_n 1, 1) := by decide +kernel
theorem dX6_answer_30 : decode cX6_answer 30 = .ok (.iaload, 1) := by decide +kernel
theorem dX6_answer_31 : decode cX6_answer 31 = .ok (.if_icmp .ge 85, 3) := by decide +kernel
theorem dX6_answer_34 : decode cX6_answer 34 = .ok (.iload_n 3, 1) := by decide +kernel
theorem dX6_answer_35 : decode cX6_answer 35 = .ok (.aload_n 0, 1) := by decide +kernel
theorem dX6_answer_36 : decode cX6_answer 36 = .ok (.getfield 9, 3) := by decide +kernel
theorem dX6_answer_39 : decode cX6_answer 39 = .ok (.arraylength, 1) := by decide +kernel
theorem dX6_answer_40 : decode cX6_answer 40 = .ok (.if_icmp .ge 76, 3) := by decide +kernel
theorem dX6_answer_43 : decode cX6_answer 43 = .ok (.aload_n 0, 1) := by decide +kernel
theorem dX6_answer_44 : decode cX6_answer 44 = .ok (.getfield 9, 3) := by decide +kernel
theorem dX6_answer_47 : decode cX6_answer 47 = .ok (.iload_n 3, 1) := by decide +kernel
theorem dX6_answer_48 : decode cX6_answer 48 = .ok (.iaload, 1) := by decide +kernel
theorem dX6_answer_49 : decode cX6_answer 49 = .ok (.istore 4, 2) := by decide +kernel
theorem dX6_answer_51 : decode cX6_answer 51 = .ok (.iload 4, 2) := by decide +kernel
theorem dX6_answer_53 : decode cX6_answer 53 = .ok (.ifCond .lt 12, 3) := by decide +kernel
theorem dX6_answer_56 : decode cX6_answer 56 = .ok (.aload_n 0, 1) := by decide +kernel
theorem dX6_answer_57 : decode cX6_answer 57 = .ok (.iload 4, 2) := by decide +kernel
theorem dX6_answer_59 : decode cX6_answer 59 = .ok (.invokevirtual 57, 3) := by decide +kernel
theorem dX6_answer_62 : decode cX6_answer 62 = .ok (.goto 48, 3) := by decide +kernel
theorem dX6_answer_65 : decode cX6_answer 65 = .ok (.iload 4, 2) := by decide +kernel
theorem dX6_answer_67 : decode cX6_answer 67 = .ok (.bipush (-6), 2) := by decide +kernel
theorem dX6_answer_69 : decode cX6_answer 69 = .ok (.if_icmp .lt 19, 3) := by decide +kernel
theorem dX6_answer_72 : decode cX6_answer 72 = .ok (.aload_n 0, 1) := by decide +kernel
theorem dX6_answer_73 : decode cX6_answer 73 = .ok (.aload_n 0, 1) := by decide +kernel
theorem dX6_answer_74 : decode cX6_answer 74 = .ok (.getfield 18, 3) := by decide +kernel
theorem dX6_answer_77 : decode cX6_answer 77 = .ok (.iconst (-1), 1) := by decide +kernel
theorem dX6_answer_78 : decode cX6_answer 78 = .ok (.iload 4, 2) := by decide +kernel
theorem dX6_answer_80 : decode cX6_answer 80 = .ok (.isub, 1) := by decide +kernel
theorem dX6_answer_81 : decode cX6_answer 81 = .ok (.iaload, 1) := by decide +kernel
theorem dX6_answer_82 : decode cX6_answer 82 = .ok (.invokevirtual 57, 3) := by decide +kernel
theorem dX6_answer_85 : decode cX6_answer 85 = .ok (.goto 25, 3) := by decide +kernel
theorem dX6_answer_88 : decode cX6_answer 88 = .ok (.iload 4, 2) := by decide +kernel
theorem dX6_answer_90 : decode cX6_answer 90 = .ok (.bipush (-8), 2) := by decide +kernel
theorem dX6_answer_92 : decode cX6_answer 92 = .ok (.if_icmp .lt 12, 3) := by decide +kernel
theorem dX6_answer_95 : decode cX6_answer 95 = .ok (.aload_n 0, 1) := by decide +kernel
theorem dX6_answer_96 : decode cX6_answer 96 = .ok (.iload 4, 2) := by decide +kernel
theorem dX6_answer_98 : decode cX6_answer 98 = .ok (.invokevirtual 61, 3) := by decide +kernel
theorem dX6_answer_101 : decode cX6_answer 101 = .ok (.goto 9, 3) := by decide +kernel
theorem dX6_answer_104 : decode cX6_answer 104 = .ok (.aload_n 0, 1) := by decide +kernel
theorem dX6_answer_105 : decode cX6_answer 105 = .ok (.iload 4, 2) := by decide +kernel
theorem dX6_answer_107 : decode cX6_answer 107 = .ok (.invokevirtual 64, 3) := by decide +kernel
theorem dX6_answer_110 : decode cX6_answer 110 = .ok (.iinc 3 1, 3) := by decide +kernel
theorem dX6_answer_113 : decode cX6_answer 113 = .ok (.goto (-89), 3) := by decide +kernel
theorem dX6_answer_116 : decode cX6_answer 116 = .ok (.aload_n 0, 1) := by decide +kernel
theorem dX6_answer_117 : decode cX6_answer 117 = .ok (.getfield 54, 3) := by decide +kernel
theorem dX6_answer_120 : decode cX6_answer 120 = .ok (.ifCond .le 17, 3) := by decide +kernel
theorem dX6_answer_123 : decode cX6_answer 123 = .ok (.aload_n 0, 1) := by decide +kernel
theorem dX6_answer_124 : decode cX6_answer 124 = .ok (.getfield 21, 3) := by decide +kernel
theorem dX6_answer_127 : decode cX6_answer 127 = .ok (.aload_n 0, 1) := by decide +kernel
theorem dX6_answer_128 : decode cX6_answer 128 = .ok (.getfield 54, 3) := by decide +kernel
theorem dX6_answer_131 : decode cX6_answer 131 = .ok (.iconst 1, 1) := by decide +kernel
theorem dX6_answer_132 : decode cX6_answer 132 = .ok (.isub, 1) := by decide +kernel
theorem dX6_answer_133 : decode cX6_answer 133 = .ok (.iaload, 1) := by decide +kernel
theorem dX6_answer_134 : decode cX6_answer 134 = .ok (.goto 4, 3) := by decide +kernel
theorem dX6_answer_137 : decode cX6_answer 137 = .ok (.iconst 0, 1) := by decide +kernel
theorem dX6_answer_138 : decode cX6_answer 138 = .ok (.ireturn, 1) := by decide +kernel
theorem dX6_push_0 : decode cX6_push 0 = .ok (.aload_n 0, 1) := by decide +kernel
theorem dX6_push_1 : decode cX6_push 1 = .ok (.getfield 54, 3) := by decide +kernel
theorem dX6_push_4 : decode cX6_push 4 = .ok (.aload_n 0, 1) := by decide +kernel
theorem dX6_push_5 : decode cX6_push 5 = .ok (.getfield 21, 3) := by decide +kernel
theorem dX6_push_8 : decode cX6_push 8 = .ok (.arraylength, 1) := by decide +kernel
theorem dX6_push_9 : decode cX6_push 9 = .ok (.if_icmp .ge 23, 3) := by decide +kernel
theorem dX6_push_12 : decode cX6_push 12 = .ok (.aload_n 0, 1) := by decide +kernel
theorem dX6_push_13 : decode cX6_push 13 = .ok (.getfield 21, 3) := by decide +kernel
theorem dX6_push_16 : decode cX6_push 16 = .ok (.aload_n 0, 1) := by decide +kernel
theorem dX6_push_17 : decode cX6_push 17 = .ok (.getfield 54, 3) := by decide +kernel
theorem dX6_push_20 : decode cX6_push 20 = .ok (.iload_n 1, 1) := by decide +kernel
theorem dX6_push_21 : decode cX6_push 21 = .ok (.iastore, 1) := by decide +kernel
theorem dX6_push_22 : decode cX6_push 22 = .ok (.aload_n 0, 1) := by decide +kernel
theorem dX6_push_23 : decode cX6_push 23 = .ok (.dup, 1) := by decide +kernel
theorem dX6_push_24 : decode cX6_push 24 = .ok (.getfield 54, 3) := by decide +kernel
theorem dX6_push_27 : decode cX6_push 27 = .ok (.iconst 1, 1) := by decide +kernel
theorem dX6_push_28 : decode cX6_push 28 = .ok (.iadd, 1) := by decide +kernel
theorem dX6_push_29 : decode cX6_push 29 = .ok (.putfield 54, 3) := by decide +kernel
theorem dX6_push_32 : decode cX6_push 32 = .ok (.return_, 1) := by decide +kernel
theorem dX6_turnTop_0 : decode cX6_turnTop 0 = .ok (.aload_n 0, 1) := by decide +kernel
theorem dX6_turnTop_1 : decode cX6_turnTop 1 = .ok (.getfield 54, 3) := by decide +kernel
theorem dX6_turnTop_4 : decode cX6_turnTop 4 = .ok (.ifCond .le 48, 3) := by decide +kernel
theorem dX6_turnTop_7 : decode cX6_turnTop 7 = .ok (.aload_n 0, 1) := by decide +kernel
theorem dX6_turnTop_8 : decode cX6_turnTop 8 = .ok (.getfield 21, 3) := by decide +kernel
theorem dX6_turnTop_11 : decode cX6_turnTop 11 = .ok (.aload_n 0, 1) := by decide +kernel
theorem dX6_turnTop_12 : decode cX6_turnTop 12 = .ok (.getfield 54, 3) := by decide +kernel
theorem dX6_turnTop_15 : decode cX6_turnTop 15 = .ok (.iconst 1, 1) := by decide +kernel
theorem dX6_turnTop_16 : decode cX6_turnTop 16 = .ok (.isub, 1) := by decide +kernel
theorem dX6_turnTop_17 : decode cX6_turnTop 17 = .ok (.iaload, 1) := by decide +kernel
theorem dX6_turnTop_18 : decode cX6_turnTop 18 = .ok (.istore_n 2, 1) := by decide +kernel
theorem dX6_turnTop_19 : decode cX6_turnTop 19 = .ok (.iload_n 2, 1) := by decide +kernel
theorem dX6_turnTop_20 : decode cX6_turnTop 20 = .ok (.ifCond .ne 7, 3) := by decide +kernel
theorem dX6_turnTop_23 : decode cX6_turnTop 23 = .ok (.iconst 1, 1) := by decide +kernel
theorem dX6_turnTop_24 : decode cX6_turnTop 24 = .ok (.goto 4, 3) := by decide +kernel
theorem dX6_turnTop_27 : decode cX6_turnTop 27 = .ok (.iconst 0, 1) := by decide +kernel
theorem dX6_turnTop_28 : decode cX6_turnTop 28 = .ok (.istore_n 3, 1) := by decide +kernel
theorem dX6_turnTop_29 : decode cX6_turnTop 29 = .ok (.aload_n 0, 1) := by decide +kernel
theorem dX6_turnTop_30 : decode cX6_turnTop 30 = .ok (.getfield 21, 3) := by decide +kernel
theorem dX6_turnTop_33 : decode cX6_turnTop 33 = .ok (.aload_n 0, 1) := by decide +kernel
theorem dX6_turnTop_34 : decode cX6_turnTop 34 = .ok (.getfield 54, 3) := by decide +kernel
theorem dX6_turnTop_37 : decode cX6_turnTop 37 = .ok (.iconst 1, 1) := by decide +kernel
theorem dX6_turnTop_38 : decode cX6_turnTop 38 = .ok (.isub, 1) := by decide +kernel
theorem dX6_turnTop_39 : decode cX6_turnTop 39 = .ok (.iload_n 1, 1) := by decide +kernel
theorem dX6_turnTop_40 : decode cX6_turnTop 40 = .ok (.bipush (-7), 2) := by decide +kernel
theorem dX6_turnTop_42 : decode cX6_turnTop 42 = .ok (.if_icmp .ne 8, 3) := by decide +kernel
theorem dX6_turnTop_45 : decode cX6_turnTop 45 = .ok (.iload_n 2, 1) := by decide +kernel
theorem dX6_turnTop_46 : decode cX6_turnTop 46 = .ok (.ineg, 1) := by decide +kernel
theorem dX6_turnTop_47 : decode cX6_turnTop 47 = .ok (.goto 4, 3) := by decide +kernel
theorem dX6_turnTop_50 : decode cX6_turnTop 50 = .ok (.iload_n 3, 1) := by decide +kernel
theorem dX6_turnTop_51 : decode cX6_turnTop 51 = .ok (.iastore, 1) := by decide +kernel
theorem dX6_turnTop_52 : decode cX6_turnTop 52 = .ok (.return_, 1) := by decide +kernel
theorem dX6_joinTwo_0 : decode cX6_joinTwo 0 = .ok (.aload_n 0, 1) := by decide +kernel
theorem dX6_joinTwo_1 : decode cX6_joinTwo 1 = .ok (.getfield 54, 3) := by decide +kernel
theorem dX6_joinTwo_4 : decode cX6_joinTwo 4 = .ok (.iconst 2, 1) := by decide +kernel
theorem dX6_joinTwo_5 : decode cX6_joinTwo 5 = .ok (.if_icmp .ge 4, 3) := by decide +kernel
theorem dX6_joinTwo_8 : decode cX6_joinTwo 8 = .ok (.return_, 1) := by decide +kernel
theorem dX6_joinTwo_9 : decode cX6_joinTwo 9 = .ok (.aload_n 0, 1) := by decide +kernel
theorem dX6_joinTwo_10 : decode cX6_joinTwo 10 = .ok (.getfield 21, 3) := by decide +kernel
theorem dX6_joinTwo_13 : decode cX6_joinTwo 13 = .ok (.aload_n 0, 1) := by decide +kernel
theorem dX6_joinTwo_14 : decode cX6_joinTwo 14 = .ok (.getfield 54, 3) := by decide +kernel
theorem dX6_joinTwo_17 : decode cX6_joinTwo 17 = .ok (.iconst 2, 1) := by decide +kernel
theorem dX6_joinTwo_18 : decode cX6_joinTwo 18 = .ok (.isub, 1) := by decide +kernel
theorem dX6_joinTwo_19 : decode cX6_joinTwo 19 = .ok (.iaload, 1) := by decide +kernel
theorem dX6_joinTwo_20 : decode cX6_joinTwo 20 = .ok (.istore_n 2, 1) := by decide +kernel
theorem dX6_joinTwo_21 : decode cX6_joinTwo 21 = .ok (.aload_n 0, 1) := by decide +kernel
theorem dX6_joinTwo_22 : decode cX6_joinTwo 22 = .ok (.getfield 21, 3) := by decide +kernel
theorem dX6_joinTwo_25 : decode cX6_joinTwo 25 = .ok (.aload_n 0, 1) := by decide +kernel
theorem dX6_joinTwo_26 : decode cX6_joinTwo 26 = .ok (.getfield 54, 3) := by decide +kernel
theorem dX6_joinTwo_29 : decode cX6_joinTwo 29 = .ok (.iconst 1, 1) := by decide +kernel
theorem dX6_joinTwo_30 : decode cX6_joinTwo 30 = .ok (.isub, 1) := by decide +kernel
theorem dX6_joinTwo_31 : decode cX6_joinTwo 31 = .ok (.iaload, 1) := by decide +kernel
theorem dX6_joinTwo_32 : decode cX6_joinTwo 32 = .ok (.istore_n 3, 1) := by decide +kernel
theorem dX6_joinTwo_33 : decode cX6_joinTwo 33 = .ok (.iload_n 1, 1) := by decide +kernel
theorem dX6_joinTwo_34 : decode cX6_joinTwo 34 = .ok (.tableswitch 110 (-14) (-9) #[92, 77, 62, 54, 46, 38], 38) := by decide +kernel
theorem dX6_joinTwo_72 : decode cX6_joinTwo 72 = .ok (.iload_n 2, 1) := by decide +kernel
theorem dX6_joinTwo_73 : decode cX6_joinTwo 73 = .ok (.iload_n 3, 1) := by decide +kernel
theorem dX6_joinTwo_74 : decode cX6_joinTwo 74 = .ok (.imul, 1) := by decide +kernel
theorem dX6_joinTwo_75 : decode cX6_joinTwo 75 = .ok (.istore 4, 2) := by decide +kernel
theorem dX6_joinTwo_77 : decode cX6_joinTwo 77 = .ok (.goto 82, 3) := by decide +kernel
theorem dX6_joinTwo_80 : decode cX6_joinTwo 80 = .ok (.iload_n 2, 1) := by decide +kernel
theorem dX6_joinTwo_81 : decode cX6_joinTwo 81 = .ok (.iload_n 3, 1) := by decide +kernel
theorem dX6_joinTwo_82 : decode cX6_joinTwo 82 = .ok (.iadd, 1) := by decide +kernel
theorem dX6_joinTwo_83 : decode cX6_joinTwo 83 = .ok (.istore 4, 2) := by decide +kernel
theorem dX6_joinTwo_85 : decode cX6_joinTwo 85 = .ok (.goto 74, 3) := by decide +kernel
theorem dX6_joinTwo_88 : decode cX6_joinTwo 88 = .ok (.iload_n 2, 1) := by decide +kernel
theorem dX6_joinTwo_89 : decode cX6_joinTwo 89 = .ok (.iload_n 3, 1) := by decide +kernel
theorem dX6_joinTwo_90 : decode cX6_joinTwo 90 = .ok (.isub, 1) := by decide +kernel
theorem dX6_joinTwo_91 : decode cX6_joinTwo 91 = .ok (.istore 4, 2) := by decide +kernel
theorem dX6_joinTwo_93 : decode cX6_joinTwo 93 = .ok (.goto 66, 3) := by decide +kernel
theorem dX6_joinTwo_96 : decode cX6_joinTwo 96 = .ok (.iload_n 2, 1) := by decide +kernel
theorem dX6_joinTwo_97 : decode cX6_joinTwo 97 = .ok (.iload_n 3, 1) := by decide +kernel
theorem dX6_joinTwo_98 : decode cX6_joinTwo 98 = .ok (.if_icmp .ge 7, 3) := by decide +kernel
theorem dX6_joinTwo_101 : decode cX6_joinTwo 101 = .ok (.iconst 1, 1) := by decide +kernel
theorem dX6_joinTwo_102 : decode cX6_joinTwo 102 = .ok (.goto 4, 3) := by decide +kernel
theorem dX6_joinTwo_105 : decode cX6_joinTwo 105 = .ok (.iconst 0, 1) := by decide +kernel
theorem dX6_joinTwo_106 : decode cX6_joinTwo 106 = .ok (.istore 4, 2) := by decide +kernel
theorem dX6_joinTwo_108 : decode cX6_joinTwo 108 = .ok (.goto 51, 3) := by decide +kernel
theorem dX6_joinTwo_111 : decode cX6_joinTwo 111 = .ok (.iload_n 2, 1) := by decide +kernel
theorem dX6_joinTwo_112 : decode cX6_joinTwo 112 = .ok (.iload_n 3, 1) := by decide +kernel
theorem dX6_joinTwo_113 : decode cX6_joinTwo 113 = .ok (.if_icmp .ne 7, 3) := by decide +kernel
theorem dX6_joinTwo_116 : decode cX6_joinTwo 116 = .ok (.iconst 1, 1) := by decide +kernel
theorem dX6_joinTwo_117 : decode cX6_joinTwo 117 = .ok (.goto 4, 3) := by decide +kernel
theorem dX6_joinTwo_120 : decode cX6_joinTwo 120 = .ok (.iconst 0, 1) := by decide +kernel
theorem dX6_joinTwo_121 : decode cX6_joinTwo 121 = .ok (.istore 4, 2) := by decide +kernel
theorem dX6_joinTwo_123 : decode cX6_joinTwo 123 = .ok (.goto 36, 3) := by decide +kernel
theorem dX6_joinTwo_126 : decode cX6_joinTwo 126 = .ok (.iload_n 2, 1) := by decide +kernel
theorem dX6_joinTwo_127 : decode cX6_joinTwo 127 = .ok (.ifCond .eq 11, 3) := by decide +kernel
theorem dX6_joinTwo_130 : decode cX6_joinTwo 130 = .ok (.iload_n 3, 1) := by decide +kernel
theorem dX6_joinTwo_131 : decode cX6_joinTwo 131 = .ok (.ifCond .eq 7, 3) := by decide +kernel
theorem dX6_joinTwo_134 : decode cX6_joinTwo 134 = .ok (.iconst 1, 1) := by decide +kernel
theorem dX6_joinTwo_135 : decode cX6_joinTwo 135 = .ok (.goto 4, 3) := by decide +kernel
theorem dX6_joinTwo_138 : decode cX6_joinTwo 138 = .ok (.iconst 0, 1) := by decide +kernel
theorem dX6_joinTwo_139 : decode cX6_joinTwo 139 = .ok (.istore 4, 2) := by decide +kernel
theorem dX6_joinTwo_141 : decode cX6_joinTwo 141 = .ok (.goto 18, 3) := by decide +kernel
theorem dX6_joinTwo_144 : decode cX6_joinTwo 144 = .ok (.iload_n 2, 1) := by decide +kernel
theorem dX6_joinTwo_145 : decode cX6_joinTwo 145 = .ok (.ifCond .ne 7, 3) := by decide +kernel
theorem dX6_joinTwo_148 : decode cX6_joinTwo 148 = .ok (.iload_n 3, 1) := by decide +kernel
theorem dX6_joinTwo_149 : decode cX6_joinTwo 149 = .ok (.ifCond .eq 7, 3) := by decide +kernel
theorem dX6_joinTwo_152 : decode cX6_joinTwo 152 = .ok (.iconst 1, 1) := by decide +kernel
theorem dX6_joinTwo_153 : decode cX6_joinTwo 153 = .ok (.goto 4, 3) := by decide +kernel
theorem dX6_joinTwo_156 : decode cX6_joinTwo 156 = .ok (.iconst 0, 1) := by decide +kernel
theorem dX6_joinTwo_157 : decode cX6_joinTwo 157 = .ok (.istore 4, 2) := by decide +kernel
theorem dX6_joinTwo_159 : decode cX6_joinTwo 159 = .ok (.aload_n 0, 1) := by decide +kernel
theorem dX6_joinTwo_160 : decode cX6_joinTwo 160 = .ok (.dup, 1) := by decide +kernel
theorem dX6_joinTwo_161 : decode cX6_joinTwo 161 = .ok (.getfield 54, 3) := by decide +kernel
theorem dX6_joinTwo_164 : decode cX6_joinTwo 164 = .ok (.iconst 1, 1) := by decide +kernel
theorem dX6_joinTwo_165 : decode cX6_joinTwo 165 = .ok (.isub, 1) := by decide +kernel
theorem dX6_joinTwo_166 : decode cX6_joinTwo 166 = .ok (.putfield 54, 3) := by decide +kernel
theorem dX6_joinTwo_169 : decode cX6_joinTwo 169 = .ok (.aload_n 0, 1) := by decide +kernel
theorem dX6_joinTwo_170 : decode cX6_joinTwo 170 = .ok (.getfield 21, 3) := by decide +kernel
theorem dX6_joinTwo_173 : decode cX6_joinTwo 173 = .ok (.aload_n 0, 1) := by decide +kernel
theorem dX6_joinTwo_174 : decode cX6_joinTwo 174 = .ok (.getfield 54, 3) := by decide +kernel
theorem dX6_joinTwo_177 : decode cX6_joinTwo 177 = .ok (.iconst 1, 1) := by decide +kernel
theorem dX6_joinTwo_178 : decode cX6_joinTwo 178 = .ok (.isub, 1) := by decide +kernel
theorem dX6_joinTwo_179 : decode cX6_joinTwo 179 = .ok (.iload 4, 2) := by decide +kernel
theorem dX6_joinTwo_181 : decode cX6_joinTwo 181 = .ok (.iastore, 1) := by decide +kernel
theorem dX6_joinTwo_182 : decode cX6_joinTwo 182 = .ok (.return_, 1) := by decide +kernel
theorem dX7_init_0 : decode cX7_init 0 = .ok (.aload_n 0, 1) := by decide +kernel
theorem dX7_init_1 : decode cX7_init 1 = .ok (.iload_n 1, 1) := by decide +kernel
theorem dX7_init_2 : decode cX7_init 2 = .ok (.invokespecial 1, 3) := by decide +kernel
theorem dX7_init_5 : decode cX7_init 5 = .ok (.return_, 1) := by decide +kernel
theorem dX7_reads_0 : decode cX7_reads 0 = .ok (.aload_n 0, 1) := by decide +kernel
theorem dX7_reads_1 : decode cX7_reads 1 = .ok (.iload_n 1, 1) := by decide +kernel
theorem dX7_reads_2 : decode cX7_reads 2 = .ok (.iload_n 2, 1) := by decide +kernel
theorem dX7_reads_3 : decode cX7_reads 3 = .ok (.iload_n 3, 1) := by decide +kernel
theorem dX7_reads_4 : decode cX7_reads 4 = .ok (.invokespecial 7, 3) := by decide +kernel
theorem dX7_reads_7 : decode cX7_reads 7 = .ok (.ifCond .eq 15, 3) := by decide +kernel
theorem dX7_reads_10 : decode cX7_reads 10 = .ok (.iload_n 2, 1) := by decide +kernel
theorem dX7_reads_11 : decode cX7_reads 11 = .ok (.bipush 7, 2) := by decide +kernel
theorem dX7_reads_13 : decode cX7_reads 13 = .ok (.irem, 1) := by decide +kernel
theorem dX7_reads_14 : decode cX7_reads 14 = .ok (.iload_n 3, 1) := by decide +kernel
theorem dX7_reads_15 : decode cX7_reads 15 = .ok (.if_icmp .eq 7, 3) := by decide +kernel
theorem dX7_reads_18 : decode cX7_reads 18 = .ok (.iconst 1, 1) := by decide +kernel
theorem dX7_reads_19 : decode cX7_reads 19 = .ok (.goto 4, 3) := by decide +kernel
theorem dX7_reads_22 : decode cX7_reads 22 = .ok (.iconst 0, 1) := by decide +kernel
theorem dX7_reads_23 : decode cX7_reads 23 = .ok (.ireturn, 1) := by decide +kernel
theorem dX7_stampOn_0 : decode cX7_stampOn 0 = .ok (.aload_n 0, 1) := by decide +kernel
theorem dX7_stampOn_1 : decode cX7_stampOn 1 = .ok (.iload_n 1, 1) := by decide +kernel
theorem dX7_stampOn_2 : decode cX7_stampOn 2 = .ok (.iload_n 2, 1) := by decide +kernel
theorem dX7_stampOn_3 : decode cX7_stampOn 3 = .ok (.invokespecial 11, 3) := by decide +kernel
theorem dX7_stampOn_6 : decode cX7_stampOn 6 = .ok (.iconst 1, 1) := by decide +kernel
theorem dX7_stampOn_7 : decode cX7_stampOn 7 = .ok (.iadd, 1) := by decide +kernel
theorem dX7_stampOn_8 : decode cX7_stampOn 8 = .ok (.ireturn, 1) := by decide +kernel
theorem dX8_init_0 : decode cX8_init 0 = .ok (.aload_n 0, 1) := by decide +kernel
theorem dX8_init_1 : decode cX8_init 1 = .ok (.invokespecial 3, 3) := by decide +kernel
theorem dX8_init_4 : decode cX8_init 4 = .ok (.aload_n 0, 1) := by decide +kernel
theorem dX8_init_5 : decode cX8_init 5 = .ok (.bipush 40, 2) := by decide +kernel
theorem dX8_init_7 : decode cX8_init 7 = .ok (.newarray .int, 2) := by decide +kernel
theorem dX8_init_9 : decode cX8_init 9 = .ok (.putfield 9, 3) := by decide +kernel
theorem dX8_init_12 : decode cX8_init 12 = .ok (.aload_n 0, 1) := by decide +kernel
theorem dX8_init_13 : decode cX8_init 13 = .ok (.iconst (-1), 1) := by decide +kernel
theorem dX8_init_14 : decode cX8_init 14 = .ok (.putfield 15, 3) := by decide +kernel
theorem dX8_init_17 : decode cX8_init 17 = .ok (.return_, 1) := by decide +kernel
theorem dX8_become_0 : decode cX8_become 0 = .ok (.aload_n 0, 1) := by decide +kernel
theorem dX8_become_1 : decode cX8_become 1 = .ok (.iload_n 1, 1) := by decide +kernel
theorem dX8_become_2 : decode cX8_become 2 = .ok (.putfield 15, 3) := by decide +kernel
theorem dX8_become_5 : decode cX8_become 5 = .ok (.aload_n 0, 1) := by decide +kernel
theorem dX8_become_6 : decode cX8_become 6 = .ok (.iload_n 2, 1) := by decide +kernel
theorem dX8_become_7 : decode cX8_become 7 = .ok (.putfield 19, 3) := by decide +kernel
theorem dX8_become_10 : decode cX8_become 10 = .ok (.aload_n 0, 1) := by decide +kernel
theorem dX8_become_11 : decode cX8_become 11 = .ok (.getfield 9, 3) := by decide +kernel
theorem dX8_become_14 : decode cX8_become 14 = .ok (.iconst 0, 1) := by decide +kernel
theorem dX8_become_15 : decode cX8_become 15 = .ok (.invokestatic 22, 3) := by decide +kernel
theorem dX8_become_18 : decode cX8_become 18 = .ok (.return_, 1) := by decide +kernel
theorem dX8_isMissing_0 : decode cX8_isMissing 0 = .ok (.aload_n 0, 1) := by decide +kernel
theorem dX8_isMissing_1 : decode cX8_isMissing 1 = .ok (.getfield 15, 3) := by decide +kernel
theorem dX8_isMissing_4 : decode cX8_isMissing 4 = .ok (.iconst (-1), 1) := by decide +kernel
theorem dX8_isMissing_5 : decode cX8_isMissing 5 = .ok (.if_icmp .ne 7, 3) := by decide +kernel
theorem dX8_isMissing_8 : decode cX8_isMissing 8 = .ok (.iconst 1, 1) := by decide +kernel
theorem dX8_isMissing_9 : decode cX8_isMissing 9 = .ok (.goto 4, 3) := by decide +kernel
theorem dX8_isMissing_12 : decode cX8_isMissing 12 = .ok (.iconst 0, 1) := by decide +kernel
theorem dX8_isMissing_13 : decode cX8_isMissing 13 = .ok (.ireturn, 1) := by decide +kernel
theorem dX8_has_0 : decode cX8_has 0 = .ok (.iload_n 1, 1) := by decide +kernel
theorem dX8_has_1 : decode cX8_has 1 = .ok (.ifCond .lt 15, 3) := by decide +kernel
theorem dX8_has_4 : decode cX8_has 4 = .ok (.iload_n 1, 1) := by decide +kernel
theorem dX8_has_5 : decode cX8_has 5 = .ok (.aload_n 0, 1) := by decide +kernel
theorem dX8_has_6 : decode cX8_has 6 = .ok (.getfield 19, 3) := by decide +kernel
theorem dX8_has_9 : decode cX8_has 9 = .ok (.if_icmp .ge 7, 3) := by decide +kernel
theorem dX8_has_12 : decode cX8_has 12 = .ok (.iconst 1, 1) := by decide +kernel
theorem dX8_has_13 : decode cX8_has 13 = .ok (.goto 4, 3) := by decide +kernel
theorem dX8_has_16 : decode cX8_has 16 = .ok (.iconst 0, 1) := by decide +kernel
theorem dX8_has_17 : decode cX8_has 17 = .ok (.ireturn, 1) := by decide +kernel
theorem dX8_hasPart_0 : decode cX8_hasPart 0 = .ok (.iload_n 2, 1) := by decide +kernel
theorem dX8_hasPart_1 : decode cX8_hasPart 1 = .ok (.ifCond .lt 21, 3) := by decide +kernel
theorem dX8_hasPart_4 : decode cX8_hasPart 4 = .ok (.iload_n 1, 1) := by decide +kernel
theorem dX8_hasPart_5 : decode cX8_hasPart 5 = .ok (.ifCond .lt 17, 3) := by decide +kernel
theorem dX8_hasPart_8 : decode cX8_hasPart 8 = .ok (.iload_n 1, 1) := by decide +kernel
theorem dX8_hasPart_9 : decode cX8_hasPart 9 = .ok (.aload_n 0, 1) := by decide +kernel
theorem dX8_hasPart_10 : decode cX8_hasPart 10 = .ok (.getfield 19, 3) := by decide +kernel
theorem dX8_hasPart_13 : decode cX8_hasPart 13 = .ok (.iload_n 2, 1) := by decide +kernel
theorem dX8_hasPart_14 : decode cX8_hasPart 14 = .ok (.isub, 1) := by decide +kernel
theorem dX8_hasPart_15 : decode cX8_hasPart 15 = .ok (.if_icmp .gt 7, 3) := by decide +kernel
theorem dX8_hasPart_18 : decode cX8_hasPart 18 = .ok (.iconst 1, 1) := by decide +kernel
theorem dX8_hasPart_19 : decode cX8_hasPart 19 = .ok (.goto 4, 3) := by decide +kernel
theorem dX8_hasPart_22 : decode cX8_hasPart 22 = .ok (.iconst 0, 1) := by decide +kernel
theorem dX8_hasPart_23 : decode cX8_hasPart 23 = .ok (.ireturn, 1) := by decide +kernel
theorem dX8_put_0 : decode cX8_put 0 = .ok (.aload_n 0, 1) := by decide +kernel
theorem dX8_put_1 : decode cX8_put 1 = .ok (.getfield 15, 3) := by decide +kernel
theorem dX8_put_4 : decode cX8_put 4 = .ok (.ifCond .ne 14, 3) := by decide +kernel
theorem dX8_put_7 : decode cX8_put 7 = .ok (.aload_n 0, 1) := by decide +kernel
theorem dX8_put_8 : decode cX8_put 8 = .ok (.getfield 9, 3) := by decide +kernel
theorem dX8_put_11 : decode cX8_put 11 = .ok (.iload_n 1, 1) := by decide +kernel
theorem dX8_put_12 : decode cX8_put 12 = .ok (.iload_n 2, 1) := by decide +kernel
theorem dX8_put_13 : decode cX8_put 13 = .ok (.i2b, 1) := by decide +kernel
theorem dX8_put_14 : decode cX8_put 14 = .ok (.iastore, 1) := by decide +kernel
theorem dX8_put_15 : decode cX8_put 15 = .ok (.goto 23, 3) := by decide +kernel
theorem dX8_put_18 : decode cX8_put 18 = .ok (.aload_n 0, 1) := by decide +kernel
theorem dX8_put_19 : decode cX8_put 19 = .ok (.getfield 9, 3) := by decide +kernel
theorem dX8_put_22 : decode cX8_put 22 = .ok (.iload_n 1, 1) := by decide +kernel
theorem dX8_put_23 : decode cX8_put 23 = .ok (.aload_n 0, 1) := by decide +kernel
theorem dX8_put_24 : decode cX8_put 24 = .ok (.getfield 15, 3) := by decide +kernel
theorem dX8_put_27 : decode cX8_put 27 = .ok (.iconst 1, 1) := by decide +kernel
theorem dX8_put_28 : decode cX8_put 28 = .ok (.if_icmp .ne 8, 3) := by decide +kernel
theorem dX8_put_31 : decode cX8_put 31 = .ok (.iload_n 2, 1) := by decide +kernel
theorem dX8_put_32 : decode cX8_put 32 = .ok (.i2s, 1) := by decide +kernel
theorem dX8_put_33 : decode cX8_put 33 = .ok (.goto 4, 3) := by decide +kernel
theorem dX8_put_36 : decode cX8_put 36 = .ok (.iload_n 2, 1) := by decide +kernel
theorem dX8_put_37 : decode cX8_put 37 = .ok (.iastore, 1) := by decide +kernel
theorem dX8_put_38 : decode cX8_put 38 = .ok (.return_, 1) := by decide +kernel
theorem dX9_init_0 : decode cX9_init 0 = .ok (.aload_n 0, 1) := by decide +kernel
theorem dX9_init_1 : decode cX9_init 1 = .ok (.invokespecial 3, 3) := by decide +kernel
theorem dX9_init_4 : decode cX9_init 4 = .ok (.aload_n 0, 1) := by decide +kernel
theorem dX9_init_5 : decode cX9_init 5 = .ok (.sipush 160, 3) := by decide +kernel
theorem dX9_init_8 : decode cX9_init 8 = .ok (.newarray .int, 2) := by decide +kernel
theorem dX9_init_10 : decode cX9_init 10 = .ok (.putfield 9, 3) := by decide +kernel
theorem dX9_init_13 : decode cX9_init 13 = .ok (.aload_n 0, 1) := by decide +kernel
theorem dX9_init_14 : decode cX9_init 14 = .ok (.new 15, 3) := by decide +kernel
theorem dX9_init_17 : decode cX9_init 17 = .ok (.dup, 1) := by decide +kernel
theorem dX9_init_18 : decode cX9_init 18 = .ok (.invokespecial 17, 3) := by decide +kernel
theorem dX9_init_21 : decode cX9_init 21 = .ok (.putfield 18, 3) := by decide +kernel
theorem dX9_init_24 : decode cX9_init 24 = .ok (.return_, 1) := by decide +kernel
theorem dX9_add_0 : decode cX9_add 0 = .ok (.aload_n 0, 1) := by decide +kernel
theorem dX9_add_1 : decode cX9_add 1 = .ok (.getfield 22, 3) := by decide +kernel
theorem dX9_add_4 : decode cX9_add 4 = .ok (.aload_n 0, 1) := by decide +kernel
theorem dX9_add_5 : decode cX9_add 5 = .ok (.getfield 9, 3) := by decide +kernel
theorem dX9_add_8 : decode cX9_add 8 = .ok (.arraylength, 1) := by decide +kernel
theorem dX9_add_9 : decode cX9_add 9 = .ok (.if_icmp .lt 5, 3) := by decide +kernel
theorem dX9_add_12 : decode cX9_add 12 = .ok (.iconst 0, 1) := by decide +kernel
theorem dX9_add_13 : decode cX9_add 13 = .ok (.ireturn, 1) := by decide +kernel
theorem dX9_add_14 : decode cX9_add 14 = .ok (.aload_n 0, 1) := by decide +kernel
theorem dX9_add_15 : decode cX9_add 15 = .ok (.getfield 9, 3) := by decide +kernel
theorem dX9_add_18 : decode cX9_add 18 = .ok (.aload_n 0, 1) := by decide +kernel
theorem dX9_add_19 : decode cX9_add 19 = .ok (.getfield 22, 3) := by decide +kernel
theorem dX9_add_22 : decode cX9_add 22 = .ok (.iload_n 1, 1) := by decide +kernel
theorem dX9_add_23 : decode cX9_add 23 = .ok (.iastore, 1) := by decide +kernel
theorem dX9_add_24 : decode cX9_add 24 = .ok (.aload_n 0, 1) := by decide +kernel
theorem dX9_add_25 : decode cX9_add 25 = .ok (.dup, 1) := by decide +kernel
theorem dX9_add_26 : decode cX9_add 26 = .ok (.getfield 22, 3) := by decide +kernel
theorem dX9_add_29 : decode cX9_add 29 = .ok (.iconst 1, 1) := by decide +kernel
theorem dX9_add_30 : decode cX9_add 30 = .ok (.iadd, 1) := by decide +kernel
theorem dX9_add_31 : decode cX9_add 31 = .ok (.putfield 22, 3) := by decide +kernel
theorem dX9_add_34 : decode cX9_add 34 = .ok (.iconst 1, 1) := by decide +kernel
theorem dX9_add_35 : decode cX9_add 35 = .ok (.ireturn, 1) := by decide +kernel
theorem dX9_clear_0 : decode cX9_clear 0 = .ok (.aload_n 0, 1) := by decide +kernel
theorem dX9_clear_1 : decode cX9_clear 1 = .ok (.iconst 0, 1) := by decide +kernel
theorem dX9_clear_2 : decode cX9_clear 2 = .ok (.putfield 22, 3) := by decide +kernel
theorem dX9_clear_5 : decode cX9_clear 5 = .ok (.return_, 1) := by decide +kernel
theorem dX9_read_0 : decode cX9_read 0 = .ok (.aload_n 0, 1) := by decide +kernel
theorem dX9_read_1 : decode cX9_read 1 = .ok (.getfield 18, 3) := by decide +kernel
theorem dX9_read_4 : decode cX9_read 4 = .ok (.invokevirtual 26, 3) := by decide +kernel
theorem dX9_read_7 : decode cX9_read 7 = .ok (.aload_n 0, 1) := by decide +kernel
theorem dX9_read_8 : decode cX9_read 8 = .ok (.iconst 0, 1) := by decide +kernel
theorem dX9_read_9 : decode cX9_read 9 = .ok (.putfield 29, 3) := by decide +kernel
theorem dX9_read_12 : decode cX9_read 12 = .ok (.aload_n 0, 1) := by decide +kernel
theorem dX9_read_13 : decode cX9_read 13 = .ok (.invokevirtual 32, 3) := by decide +kernel
theorem dX9_read_16 : decode cX9_read 16 = .ok (.iconst 0, 1) := by decide +kernel
theorem dX9_read_17 : decode cX9_read 17 = .ok (.istore_n 1, 1) := by decide +kernel
theorem dX9_read_18 : decode cX9_read 18 = .ok (.iload_n 1, 1) := by decide +kernel
theorem dX9_read_19 : decode cX9_read 19 = .ok (.iconst 3, 1) := by decide +kernel
theorem dX9_read_20 : decode cX9_read 20 = .ok (.if_icmp .ge 63, 3) := by decide +kernel
theorem dX9_read_23 : decode cX9_read 23 = .ok (.aload_n 0, 1) := by decide +kernel
theorem dX9_read_24 : decode cX9_read 24 = .ok (.getfield 35, 3) := by decide +kernel
theorem dX9_read_27 : decode cX9_read 27 = .ok (.iconst 4, 1) := by decide +kernel
theorem dX9_read_28 : decode cX9_read 28 = .ok (.iload_n 1, 1) := by decide +kernel
theorem dX9_read_29 : decode cX9_read 29 = .ok (.iadd, 1) := by decide +kernel
theorem dX9_read_30 : decode cX9_read 30 = .ok (.if_icmp .eq 8, 3) := by decide +kernel
theorem dX9_read_33 : decode cX9_read 33 = .ok (.aload_n 0, 1) := by decide +kernel
theorem dX9_read_34 : decode cX9_read 34 = .ok (.getfield 38, 3) := by decide +kernel
theorem dX9_read_37 : decode cX9_read 37 = .ok (.ireturn, 1) := by decide +kernel
theorem dX9_read_38 : decode cX9_read 38 = .ok (.aload_n 0, 1) := by decide +kernel
theorem dX9_read_39 : decode cX9_read 39 = .ok (.invokevirtual 32, 3) := by decide +kernel
theorem dX9_read_42 : decode cX9_read 42 = .ok (.aload_n 0, 1) := by decide +kernel
theorem dX9_read_43 : decode cX9_read 43 = .ok (.iconst 0, 1) := by decide +kernel
theorem dX9_read_44 : decode cX9_read 44 = .ok (.iconst 0, 1) := by decide +kernel
theorem dX9_read_45 : decode cX9_read 45 = .ok (.invokevirtual 41, 3) := by decide +kernel
theorem dX9_read_48 : decode cX9_read 48 = .ok (.ifCond .eq 12, 3) := by decide +kernel
theorem dX9_read_51 : decode cX9_read 51 = .ok (.aload_n 0, 1) := by decide +kernel
theorem dX9_read_52 : decode cX9_read 52 = .ok (.getfield 35, 3) := by decide +kernel
theorem dX9_read_55 : decode cX9_read 55 = .ok (.bipush 59, 2) := by decide +kernel
theorem dX9_read_57 : decode cX9_read 57 = .ok (.if_icmp .eq 8, 3) := by decide +kernel
theorem dX9_read_60 : decode cX9_read 60 = .ok (.aload_n 0, 1) := by decide +kernel
theorem dX9_read_61 : decode cX9_read 61 = .ok (.getfield 38, 3) := by decide +kernel
theorem dX9_read_64 : decode cX9_read 64 = .ok (.ireturn, 1) := by decide +kernel
theorem dX9_read_65 : decode cX9_read 65 = .ok (.aload_n 0, 1) := by decide +kernel
theorem dX9_read_66 : decode cX9_read 66 = .ok (.getfield 18, 3) := by decide +kernel
theorem dX9_read_69 : decode cX9_read 69 = .ok (.iload_n 1, 1) := by decide +kernel
theorem dX9_read_70 : decode cX9_read 70 = .ok (.invokevirtual 45, 3) := by decide +kernel
theorem dX9_read_73 : decode cX9_read 73 = .ok (.aload_n 0, 1) := by decide +kernel
theorem dX9_read_74 : decode cX9_read 74 = .ok (.invokevirtual 32, 3) := by decide +kernel
theorem dX9_read_77 : decode cX9_read 77 = .ok (.iinc 1 1, 3) := by decide +kernel
theorem dX9_read_80 : decode cX9_read 80 = .ok (.goto (-62), 3) := by decide +kernel
theorem dX9_read_83 : decode cX9_read 83 = .ok (.aload_n 0, 1) := by decide +kernel
theorem dX9_read_84 : decode cX9_read 84 = .ok (.getfield 35, 3) := by decide +kernel
theorem dX9_read_87 : decode cX9_read 87 = .ok (.ifCond .ne 7, 3) := by decide +kernel
theorem dX9_read_90 : decode cX9_read 90 = .ok (.iconst (-1), 1) := by decide +kernel
theorem dX9_read_91 : decode cX9_read 91 = .ok (.goto 7, 3) := by decide +kernel
theorem dX9_read_94 : decode cX9_read 94 = .ok (.aload_n 0, 1) := by decide +kernel
theorem dX9_read_95 : decode cX9_read 95 = .ok (.getfield 38, 3) := by decide +kernel
theorem dX9_read_98 : decode cX9_read 98 = .ok (.ireturn, 1) := by decide +kernel
theorem dX9_readLevel_0 : decode cX9_readLevel 0 = .ok (.iload_n 1, 1) := by decide +kernel
theorem dX9_readLevel_1 : decode cX9_readLevel 1 = .ok (.iconst 5, 1) := by decide +kernel
theorem dX9_readLevel_2 : decode cX9_readLevel 2 = .ok (.if_icmp .lt 9, 3) := by decide +kernel
theorem dX9_readLevel_5 : decode cX9_readLevel 5 = .ok (.aload_n 0, 1) := by decide +kernel
theorem dX9_readLevel_6 : decode cX9_readLevel 6 = .ok (.iload_n 2, 1) := by decide +kernel
theorem dX9_readLevel_7 : decode cX9_readLevel 7 = .ok (.invokevirtual 49, 3) := by decide +kernel
theorem dX9_readLevel_10 : decode cX9_readLevel 10 = .ok (.ireturn, 1) := by decide +kernel
theorem dX9_readLevel_11 : decode cX9_readLevel 11 = .ok (.iload_n 1, 1) := by decide +kernel
theorem dX9_readLevel_12 : decode cX9_readLevel 12 = .ok (.iconst 2, 1) := by decide +kernel
theorem dX9_readLevel_13 : decode cX9_readLevel 13 = .ok (.if_icmp .ne 18, 3) := by decide +kernel
theorem dX9_readLevel_16 : decode cX9_readLevel 16 = .ok (.aload_n 0, 1) := by decide +kernel
theorem dX9_readLevel_17 : decode cX9_readLevel 17 = .ok (.getfield 35, 3) := by decide +kernel
theorem dX9_readLevel_20 : decode cX9_readLevel 20 = .ok (.bipush 9, 2) := by decide +kernel
theorem dX9_readLevel_22 : decode cX9_readLevel 22 = .ok (.if_icmp .ne 9, 3) := by decide +kernel
theorem dX9_readLevel_25 : decode cX9_readLevel 25 = .ok (.aload_n 0, 1) := by decide +kernel
theorem dX9_readLevel_26 : decode cX9_readLevel 26 = .ok (.iload_n 2, 1) := by decide +kernel
theorem dX9_readLevel_27 : decode cX9_readLevel 27 = .ok (.invokevirtual 53, 3) := by decide +kernel
theorem dX9_readLevel_30 : decode cX9_readLevel 30 = .ok (.ireturn, 1) := by decide +kernel
theorem dX9_readLevel_31 : decode cX9_readLevel 31 = .ok (.aload_n 0, 1) := by decide +kernel
theorem dX9_readLevel_32 : decode cX9_readLevel 32 = .ok (.iload_n 1, 1) := by decide +kernel
theorem dX9_readLevel_33 : decode cX9_readLevel 33 = .ok (.iconst 1, 1) := by decide +kernel
theorem dX9_readLevel_34 : decode cX9_readLevel 34 = .ok (.iadd, 1) := by decide +kernel
theorem dX9_readLevel_35 : decode cX9_readLevel 35 = .ok (.iload_n 2, 1) := by decide +kernel
theorem dX9_readLevel_36 : decode cX9_readLevel 36 = .ok (.invokevirtual 41, 3) := by decide +kernel
theorem dX9_readLevel_39 : decode cX9_readLevel 39 = .ok (.istore_n 3, 1) := by decide +kernel
theorem dX9_readLevel_40 : decode cX9_readLevel 40 = .ok (.iload_n 1, 1) := by decide +kernel
theorem dX9_readLevel_41 : decode cX9_readLevel 41 = .ok (.iconst 2, 1) := by decide +kernel
theorem dX9_readLevel_42 : decode cX9_readLevel 42 = .ok (.if_icmp .ne 7, 3) := by decide +kernel
theorem dX9_readLevel_45 : decode cX9_readLevel 45 = .ok (.iconst 1, 1) := by decide +kernel
theorem dX9_readLevel_46 : decode cX9_readLevel 46 = .ok (.goto 6, 3) := by decide +kernel
theorem dX9_readLevel_49 : decode cX9_readLevel 49 = .ok (.sipush 160, 3) := by decide +kernel
theorem dX9_readLevel_52 : decode cX9_readLevel 52 = .ok (.istore 4, 2) := by decide +kernel
theorem dX9_readLevel_54 : decode cX9_readLevel 54 = .ok (.iconst 0, 1) := by decide +kernel
theorem dX9_readLevel_55 : decode cX9_readLevel 55 = .ok (.istore 5, 2) := by decide +kernel
theorem dX9_readLevel_57 : decode cX9_readLevel 57 = .ok (.iload 5, 2) := by decide +kernel
theorem dX9_readLevel_59 : decode cX9_readLevel 59 = .ok (.iload 4, 2) := by decide +kernel
theorem dX9_readLevel_61 : decode cX9_readLevel 61 = .ok (.if_icmp .ge 51, 3) := by decide +kernel
theorem dX9_readLevel_64 : decode cX9_readLevel 64 = .ok (.iload_n 3, 1) := by decide +kernel
theorem dX9_readLevel_65 : decode cX9_readLevel 65 = .ok (.ifCond .eq 47, 3) := by decide +kernel
theorem dX9_readLevel_68 : decode cX9_readLevel 68 = .ok (.aload_n 0, 1) := by decide +kernel
theorem dX9_readLevel_69 : decode cX9_readLevel 69 = .ok (.iload_n 1, 1) := by decide +kernel
theorem dX9_readLevel_70 : decode cX9_readLevel 70 = .ok (.invokevirtual 56, 3) := by decide +kernel
theorem dX9_readLevel_73 : decode cX9_readLevel 73 = .ok (.iconst (-1), 1) := by decide +kernel
theorem dX9_readLevel_74 : decode cX9_readLevel 74 = .ok (.if_icmp .eq 38, 3) := by decide +kernel
theorem dX9_readLevel_77 : decode cX9_readLevel 77 = .ok (.aload_n 0, 1) := by decide +kernel
theorem dX9_readLevel_78 : decode cX9_readLevel 78 = .ok (.iload_n 1, 1) := by decide +kernel
theorem dX9_readLevel_79 : decode cX9_readLevel 79 = .ok (.invokevirtual 56, 3) := by decide +kernel
theorem dX9_readLevel_82 : decode cX9_readLevel 82 = .ok (.istore 6, 2) := by decide +kernel
theorem dX9_readLevel_84 : decode cX9_readLevel 84 = .ok (.aload_n 0, 1) := by decide +kernel
theorem dX9_readLevel_85 : decode cX9_readLevel 85 = .ok (.invokevirtual 32, 3) := by decide +kernel
theorem dX9_readLevel_88 : decode cX9_readLevel 88 = .ok (.aload_n 0, 1) := by decide +kernel
theorem dX9_readLevel_89 : decode cX9_readLevel 89 = .ok (.iload_n 1, 1) := by decide +kernel
theorem dX9_readLevel_90 : decode cX9_readLevel 90 = .ok (.iconst 1, 1) := by decide +kernel
theorem dX9_readLevel_91 : decode cX9_readLevel 91 = .ok (.iadd, 1) := by decide +kernel
theorem dX9_readLevel_92 : decode cX9_readLevel 92 = .ok (.iload_n 2, 1) := by decide +kernel
theorem dX9_readLevel_93 : decode cX9_readLevel 93 = .ok (.invokevirtual 41, 3) := by decide +kernel
theorem dX9_readLevel_96 : decode cX9_readLevel 96 = .ok (.istore_n 3, 1) := by decide +kernel
theorem dX9_readLevel_97 : decode cX9_readLevel 97 = .ok (.aload_n 0, 1) := by decide +kernel
theorem dX9_readLevel_98 : decode cX9_readLevel 98 = .ok (.getfield 18, 3) := by decide +kernel
theorem dX9_readLevel_101 : decode cX9_readLevel 101 = .ok (.iload 6, 2) := by decide +kernel
theorem dX9_readLevel_103 : decode cX9_readLevel 103 = .ok (.invokevirtual 60, 3) := by decide +kernel
theorem dX9_readLevel_106 : decode cX9_readLevel 106 = .ok (.iinc 5 1, 3) := by decide +kernel
theorem dX9_readLevel_109 : decode cX9_readLevel 109 = .ok (.goto (-52), 3) := by decide +kernel
theorem dX9_readLevel_112 : decode cX9_readLevel 112 = .ok (.iload_n 3, 1) := by decide +kernel
theorem dX9_readLevel_113 : decode cX9_readLevel 113 = .ok (.ireturn, 1) := by decide +kernel
theorem dX9_readDenied_0 : decode cX9_readDenied 0 = .ok (.iload_n 1, 1) := by decide +kernel
theorem dX9_readDenied_1 : decode cX9_readDenied 1 = .ok (.iconst 5, 1) := by decide +kernel
theorem dX9_readDenied_2 : decode cX9_readDenied 2 = .ok (.if_icmp .lt 5, 3) := by decide +kernel
theorem dX9_readDenied_5 : decode cX9_readDenied 5 = .ok (.iconst 0, 1) := by decide +kernel
theorem dX9_readDenied_6 : decode cX9_readDenied 6 = .ok (.ireturn, 1) := by decide +kernel
theorem dX9_readDenied_7 : decode cX9_readDenied 7 = .ok (.aload_n 0, 1) := by decide +kernel
theorem dX9_readDenied_8 : decode cX9_readDenied 8 = .ok (.invokevirtual 32, 3) := by decide +kernel
theorem dX9_readDenied_11 : decode cX9_readDenied 11 = .ok (.aload_n 0, 1) := by decide +kernel
theorem dX9_readDenied_12 : decode cX9_readDenied 12 = .ok (.iconst 2, 1) := by decide +kernel
theorem dX9_readDenied_13 : decode cX9_readDenied 13 = .ok (.iload_n 1, 1) := by decide +kernel
theorem dX9_readDenied_14 : decode cX9_readDenied 14 = .ok (.iconst 1, 1) := by decide +kernel
theorem dX9_readDenied_15 : decode cX9_readDenied 15 = .ok (.iadd, 1) := by decide +kernel
theorem dX9_readDenied_16 : decode cX9_readDenied 16 = .ok (.invokevirtual 41, 3) := by decide +kernel
theorem dX9_readDenied_19 : decode cX9_readDenied 19 = .ok (.istore_n 2, 1) := by decide +kernel
theorem dX9_readDenied_20 : decode cX9_readDenied 20 = .ok (.aload_n 0, 1) := by decide +kernel
theorem dX9_readDenied_21 : decode cX9_readDenied 21 = .ok (.getfield 18, 3) := by decide +kernel
theorem dX9_readDenied_24 : decode cX9_readDenied 24 = .ok (.bipush (-8), 2) := by decide +kernel
theorem dX9_readDenied_26 : decode cX9_readDenied 26 = .ok (.invokevirtual 60, 3) := by decide +kernel
theorem dX9_readDenied_29 : decode cX9_readDenied 29 = .ok (.iload_n 2, 1) := by decide +kernel
theorem dX9_readDenied_30 : decode cX9_readDenied 30 = .ok (.ireturn, 1) := by decide +kernel
theorem dX9_readOne_0 : decode cX9_readOne 0 = .ok (.aload_n 0, 1) := by decide +kernel
theorem dX9_readOne_1 : decode cX9_readOne 1 = .ok (.getfield 35, 3) := by decide +kernel
theorem dX9_readOne_4 : decode cX9_readOne 4 = .ok (.iconst 2, 1) := by decide +kernel
theorem dX9_readOne_5 : decode cX9_readOne 5 = .ok (.if_icmp .eq 11, 3) := by decide +kernel
theorem dX9_readOne_8 : decode cX9_readOne 8 = .ok (.aload_n 0, 1) := by decide +kernel
theorem dX9_readOne_9 : decode cX9_readOne 9 = .ok (.getfield 35, 3) := by decide +kernel
theorem dX9_readOne_12 : decode cX9_readOne 12 = .ok (.iconst 3, 1) := by decide +kernel
theorem dX9_readOne_13 : decode cX9_readOne 13 = .ok (.if_icmp .ne 37, 3) := by decide +kernel
theorem dX9_readOne_16 : decode cX9_readOne 16 = .ok (.aload_n 0, 1) := by decide +kernel
theorem dX9_readOne_17 : decode cX9_readOne 17 = .ok (.getfield 18, 3) := by decide +kernel
theorem dX9_readOne_20 : decode cX9_readOne 20 = .ok (.aload_n 0, 1) := by decide +kernel
theorem dX9_readOne_21 : decode cX9_readOne 21 = .ok (.getfield 35, 3) := by decide +kernel
theorem dX9_readOne_24 : decode cX9_readOne 24 = .ok (.iconst 2, 1) := by decide +kernel
theorem dX9_readOne_25 : decode cX9_readOne 25 = .ok (.if_icmp .ne 10, 3) := by decide +kernel
theorem dX9_readOne_28 : decode cX9_readOne 28 = .ok (.aload_n 0, 1) := by decide +kernel
theorem dX9_readOne_29 : decode cX9_readOne 29 = .ok (.getfield 63, 3) := by decide +kernel
theorem dX9_readOne_32 : decode cX9_readOne 32 = .ok (.goto 9, 3) := by decide +kernel
theorem dX9_readOne_35 : decode cX9_readOne 35 = .ok (.iconst (-1), 1) := by decide +kernel
theorem dX9_readOne_36 : decode cX9_readOne 36 = .ok (.aload_n 0, 1) := by decide +kernel
theorem dX9_readOne_37 : decode cX9_readOne 37 = .ok (.getfield 63, 3) := by decide +kernel
theorem dX9_readOne_40 : decode cX9_readOne 40 = .ok (.isub, 1) := by decide +kernel
theorem dX9_readOne_41 : decode cX9_readOne 41 = .ok (.invokevirtual 60, 3) := by decide +kernel
theorem dX9_readOne_44 : decode cX9_readOne 44 = .ok (.aload_n 0, 1) := by decide +kernel
theorem dX9_readOne_45 : decode cX9_readOne 45 = .ok (.invokevirtual 32, 3) := by decide +kernel
theorem dX9_readOne_48 : decode cX9_readOne 48 = .ok (.iconst 1, 1) := by decide +kernel
theorem dX9_readOne_49 : decode cX9_readOne 49 = .ok (.ireturn, 1) := by decide +kernel
theorem dX9_readOne_50 : decode cX9_readOne 50 = .ok (.aload_n 0, 1) := by decide +kernel
theorem dX9_readOne_51 : decode cX9_readOne 51 = .ok (.getfield 35, 3) := by decide +kernel
theorem dX9_readOne_54 : decode cX9_readOne 54 = .ok (.bipush 40, 2) := by decide +kernel
theorem dX9_readOne_56 : decode cX9_readOne 56 = .ok (.if_icmp .eq 12, 3) := by decide +kernel
theorem dX9_readOne_59 : decode cX9_readOne 59 = .ok (.aload_n 0, 1) := by decide +kernel
theorem dX9_readOne_60 : decode cX9_readOne 60 = .ok (.getfield 35, 3) := by decide +kernel
theorem dX9_readOne_63 : decode cX9_readOne 63 = .ok (.bipush 45, 2) := by decide +kernel
theorem dX9_readOne_65 : decode cX9_readOne 65 = .ok (.if_icmp .ne 8, 3) := by decide +kernel
theorem dX9_readOne_68 : decode cX9_readOne 68 = .ok (.iload_n 1, 1) := by decide +kernel
theorem dX9_readOne_69 : decode cX9_readOne 69 = .ok (.iconst 5, 1) := by decide +kernel
theorem dX9_readOne_70 : decode cX9_readOne 70 = .ok (.if_icmp .lt 5, 3) := by decide +kernel
theorem dX9_readOne_73 : decode cX9_readOne 73 = .ok (.iconst 0, 1) := by decide +kernel
theorem dX9_readOne_74 : decode cX9_readOne 74 = .ok (.ireturn, 1) := by decide +kernel
theorem dX9_readOne_75 : decode cX9_readOne 75 = .ok (.aload_n 0, 1) := by decide +kernel
theorem dX9_readOne_76 : decode cX9_readOne 76 = .ok (.getfield 35, 3) := by decide +kernel
theorem dX9_readOne_79 : decode cX9_readOne 79 = .ok (.bipush 40, 2) := by decide +kernel
theorem dX9_readOne_81 : decode cX9_readOne 81 = .ok (.if_icmp .ne 7, 3) := by decide +kernel
theorem dX9_readOne_84 : decode cX9_readOne 84 = .ok (.iconst 1, 1) := by decide +kernel
theorem dX9_readOne_85 : decode cX9_readOne 85 = .ok (.goto 4, 3) := by decide +kernel
theorem dX9_readOne_88 : decode cX9_readOne 88 = .ok (.iconst 0, 1) := by decide +kernel
theorem dX9_readOne_89 : decode cX9_readOne 89 = .ok (.istore_n 2, 1) := by decide +kernel
theorem dX9_readOne_90 : decode cX9_readOne 90 = .ok (.aload_n 0, 1) := by decide +kernel
theorem dX9_readOne_91 : decode cX9_readOne 91 = .ok (.invokevirtual 32, 3) := by decide +kernel
theorem dX9_readOne_94 : decode cX9_readOne 94 = .ok (.iload_n 2, 1) := by decide +kernel
theorem dX9_readOne_95 : decode cX9_readOne 95 = .ok (.ifCond .ne 22, 3) := by decide +kernel
theorem dX9_readOne_98 : decode cX9_readOne 98 = .ok (.aload_n 0, 1) := by decide +kernel
theorem dX9_readOne_99 : decode cX9_readOne 99 = .ok (.iload_n 1, 1) := by decide +kernel
theorem dX9_readOne_100 : decode cX9_readOne 100 = .ok (.iconst 1, 1) := by decide +kernel
theorem dX9_readOne_101 : decode cX9_readOne 101 = .ok (.iadd, 1) := by decide +kernel
theorem dX9_readOne_102 : decode cX9_readOne 102 = .ok (.invokevirtual 49, 3) := by decide +kernel
theorem dX9_readOne_105 : decode cX9_readOne 105 = .ok (.istore_n 3, 1) := by decide +kernel
theorem dX9_readOne_106 : decode cX9_readOne 106 = .ok (.aload_n 0, 1) := by decide +kernel
theorem dX9_readOne_107 : decode cX9_readOne 107 = .ok (.getfield 18, 3) := by decide +kernel
theorem dX9_readOne_110 : decode cX9_readOne 110 = .ok (.bipush (-7), 2) := by decide +kernel
theorem dX9_readOne_112 : decode cX9_readOne 112 = .ok (.invokevirtual 60, 3) := by decide +kernel
theorem dX9_readOne_115 : decode cX9_readOne 115 = .ok (.iload_n 3, 1) := by decide +kernel
theorem dX9_readOne_116 : decode cX9_readOne 116 = .ok (.ireturn, 1) := by decide +kernel
theorem dX9_readOne_117 : decode cX9_readOne 117 = .ok (.aload_n 0, 1) := by decide +kernel
theorem dX9_readOne_118 : decode cX9_readOne 118 = .ok (.iconst 0, 1) := by decide +kernel
theorem dX9_readOne_119 : decode cX9_readOne 119 = .ok (.iload_n 1, 1) := by decide +kernel
theorem dX9_readOne_120 : decode cX9_readOne 120 = .ok (.iconst 1, 1) := by decide +kernel
theorem dX9_readOne_121 : decode cX9_readOne 121 = .ok (.iadd, 1) := by decide +kernel
theorem dX9_readOne_122 : decode cX9_readOne 122 = .ok (.invokevirtual 41, 3) := by decide +kernel
theorem dX9_readOne_125 : decode cX9_readOne 125 = .ok (.ifCond .eq 12, 3) := by decide +kernel
theorem dX9_readOne_128 : decode cX9_readOne 128 = .ok (.aload_n 0, 1) := by decide +kernel
theorem dX9_readOne_129 : decode cX9_readOne 129 = .ok (.getfield 35, 3) := by decide +kernel
theorem dX9_readOne_132 : decode cX9_readOne 132 = .ok (.bipush 41, 2) := by decide +kernel
theorem dX9_readOne_134 : decode cX9_readOne 134 = .ok (.if_icmp .eq 5, 3) := by decide +kernel
theorem dX9_readOne_137 : decode cX9_readOne 137 = .ok (.iconst 0, 1) := by decide +kernel
theorem dX9_readOne_138 : decode cX9_readOne 138 = .ok (.ireturn, 1) := by decide +kernel
theorem dX9_readOne_139 : decode cX9_readOne 139 = .ok (.aload_n 0, 1) := by decide +kernel
theorem dX9_readOne_140 : decode cX9_readOne 140 = .ok (.invokevirtual 32, 3) := by decide +kernel
theorem dX9_readOne_143 : decode cX9_readOne 143 = .ok (.iconst 1, 1) := by decide +kernel
theorem dX9_readOne_144 : decode cX9_readOne 144 = .ok (.ireturn, 1) := by decide +kernel
theorem dX9_stepOn_0 : decode cX9_stepOn 0 = .ok (.aload_n 0, 1) := by decide +kernel
theorem dX9_stepOn_1 : decode cX9_stepOn 1 = .ok (.getfield 35, 3) := by decide +kernel
theorem dX9_stepOn_4 : decode cX9_stepOn 4 = .ok (.lookupswitch 151 #[(7, 68), (8, 79), (42, 139), (43, 115), (45, 127), (60, 91), (61, 103)], 68) := by decide +kernel
theorem dX9_stepOn_72 : decode cX9_stepOn 72 = .ok (.iload_n 1, 1) := by decide +kernel
theorem dX9_stepOn_73 : decode cX9_stepOn 73 = .ok (.ifCond .ne 8, 3) := by decide +kernel
theorem dX9_stepOn_76 : decode cX9_stepOn 76 = .ok (.bipush (-15), 2) := by decide +kernel
theorem dX9_stepOn_78 : decode cX9_stepOn 78 = .ok (.goto 4, 3) := by decide +kernel
theorem dX9_stepOn_81 : decode cX9_stepOn 81 = .ok (.iconst (-1), 1) := by decide +kernel
theorem dX9_stepOn_82 : decode cX9_stepOn 82 = .ok (.ireturn, 1) := by decide +kernel
theorem dX9_stepOn_83 : decode cX9_stepOn 83 = .ok (.iload_n 1, 1) := by decide +kernel
theorem dX9_stepOn_84 : decode cX9_stepOn 84 = .ok (.iconst 1, 1) := by decide +kernel
theorem dX9_stepOn_85 : decode cX9_stepOn 85 = .ok (.if_icmp .ne 8, 3) := by decide +kernel
theorem dX9_stepOn_88 : decode cX9_stepOn 88 = .ok (.bipush (-14), 2) := by decide +kernel
theorem dX9_stepOn_90 : decode cX9_stepOn 90 = .ok (.goto 4, 3) := by decide +kernel
theorem dX9_stepOn_93 : decode cX9_stepOn 93 = .ok (.iconst (-1), 1) := by decide +kernel
theorem dX9_stepOn_94 : decode cX9_stepOn 94 = .ok (.ireturn, 1) := by decide +kernel
theorem dX9_stepOn_95 : decode cX9_stepOn 95 = .ok (.iload_n 1, 1) := by decide +kernel
theorem dX9_stepOn_96 : decode cX9_stepOn 96 = .ok (.iconst 2, 1) := by decide +kernel
theorem dX9_stepOn_97 : decode cX9_stepOn 97 = .ok (.if_icmp .ne 8, 3) := by decide +kernel
theorem dX9_stepOn_100 : decode cX9_stepOn 100 = .ok (.bipush (-12), 2) := by decide +kernel
theorem dX9_stepOn_102 : decode cX9_stepOn 102 = .ok (.goto 4, 3) := by decide +kernel
theorem dX9_stepOn_105 : decode cX9_stepOn 105 = .ok (.iconst (-1), 1) := by decide +kernel
theorem dX9_stepOn_106 : decode cX9_stepOn 106 = .ok (.ireturn, 1) := by decide +kernel
theorem dX9_stepOn_107 : decode cX9_stepOn 107 = .ok (.iload_n 1, 1) := by decide +kernel
theorem dX9_stepOn_108 : decode cX9_stepOn 108 = .ok (.iconst 2, 1) := by decide +kernel
theorem dX9_stepOn_109 : decode cX9_stepOn 109 = .ok (.if_icmp .ne 8, 3) := by decide +kernel
theorem dX9_stepOn_112 : decode cX9_stepOn 112 = .ok (.bipush (-13), 2) := by decide +kernel
theorem dX9_stepOn_114 : decode cX9_stepOn 114 = .ok (.goto 4, 3) := by decide +kernel
theorem dX9_stepOn_117 : decode cX9_stepOn 117 = .ok (.iconst (-1), 1) := by decide +kernel
theorem dX9_stepOn_118 : decode cX9_stepOn 118 = .ok (.ireturn, 1) := by decide +kernel
theorem dX9_stepOn_119 : decode cX9_stepOn 119 = .ok (.iload_n 1, 1) := by decide +kernel
theorem dX9_stepOn_120 : decode cX9_stepOn 120 = .ok (.iconst 3, 1) := by decide +kernel
theorem dX9_stepOn_121 : decode cX9_stepOn 121 = .ok (.if_icmp .ne 8, 3) := by decide +kernel
theorem dX9_stepOn_124 : decode cX9_stepOn 124 = .ok (.bipush (-10), 2) := by decide +kernel
theorem dX9_stepOn_126 : decode cX9_stepOn 126 = .ok (.goto 4, 3) := by decide +kernel
theorem dX9_stepOn_129 : decode cX9_stepOn 129 = .ok (.iconst (-1), 1) := by decide +kernel
theorem dX9_stepOn_130 : decode cX9_stepOn 130 = .ok (.ireturn, 1) := by decide +kernel
theorem dX9_stepOn_131 : decode cX9_stepOn 131 = .ok (.iload_n 1, 1) := by decide +kernel
theorem dX9_stepOn_132 : decode cX9_stepOn 132 = .ok (.iconst 3, 1) := by decide +kernel
theorem dX9_stepOn_133 : decode cX9_stepOn 133 = .ok (.if_icmp .ne 8, 3) := by decide +kernel
theorem dX9_stepOn_136 : decode cX9_stepOn 136 = .ok (.bipush (-11), 2) := by decide +kernel
theorem dX9_stepOn_138 : decode cX9_stepOn 138 = .ok (.goto 4, 3) := by decide +kernel
theorem dX9_stepOn_141 : decode cX9_stepOn 141 = .ok (.iconst (-1), 1) := by decide +kernel
theorem dX9_stepOn_142 : decode cX9_stepOn 142 = .ok (.ireturn, 1) := by decide +kernel
theorem dX9_stepOn_143 : decode cX9_stepOn 143 = .ok (.iload_n 1, 1) := by decide +kernel
theorem dX9_stepOn_144 : decode cX9_stepOn 144 = .ok (.iconst 4, 1) := by decide +kernel
theorem dX9_stepOn_145 : decode cX9_stepOn 145 = .ok (.if_icmp .ne 8, 3) := by decide +kernel
theorem dX9_stepOn_148 : decode cX9_stepOn 148 = .ok (.bipush (-9), 2) := by decide +kernel
theorem dX9_stepOn_150 : decode cX9_stepOn 150 = .ok (.goto 4, 3) := by decide +kernel
theorem dX9_stepOn_153 : decode cX9_stepOn 153 = .ok (.iconst (-1), 1) := by decide +kernel
theorem dX9_stepOn_154 : decode cX9_stepOn 154 = .ok (.ireturn, 1) := by decide +kernel
theorem dX9_stepOn_155 : decode cX9_stepOn 155 = .ok (.iconst (-1), 1) := by decide +kernel
theorem dX9_stepOn_156 : decode cX9_stepOn 156 = .ok (.ireturn, 1) := by decide +kernel
theorem dX9_advance_0 : decode cX9_advance 0 = .ok (.aload_n 0, 1) := by decide +kernel
theorem dX9_advance_1 : decode cX9_advance 1 = .ok (.getfield 29, 3) := by decide +kernel
theorem dX9_advance_4 : decode cX9_advance 4 = .ok (.aload_n 0, 1) := by decide +kernel
theorem dX9_advance_5 : decode cX9_advance 5 = .ok (.getfield 22, 3) := by decide +kernel
theorem dX9_advance_8 : decode cX9_advance 8 = .ok (.if_icmp .ge 44, 3) := by decide +kernel
theorem dX9_advance_11 : decode cX9_advance 11 = .ok (.aload_n 0, 1) := by decide +kernel
theorem dX9_advance_12 : decode cX9_advance 12 = .ok (.getfield 9, 3) := by decide +kernel
theorem dX9_advance_15 : decode cX9_advance 15 = .ok (.aload_n 0, 1) := by decide +kernel
theorem dX9_advance_16 : decode cX9_advance 16 = .ok (.getfield 29, 3) := by decide +kernel
theorem dX9_advance_19 : decode cX9_advance 19 = .ok (.iaload, 1) := by decide +kernel
theorem dX9_advance_20 : decode cX9_advance 20 = .ok (.bipush 32, 2) := by decide +kernel
theorem dX9_advance_22 : decode cX9_advance 22 = .ok (.if_icmp .eq 17, 3) := by decide +kernel
theorem dX9_advance_25 : decode cX9_advance 25 = .ok (.aload_n 0, 1) := by decide +kernel
theorem dX9_advance_26 : decode cX9_advance 26 = .ok (.getfield 9, 3) := by decide +kernel
theorem dX9_advance_29 : decode cX9_advance 29 = .ok (.aload_n 0, 1) := by decide +kernel
theorem dX9_advance_30 : decode cX9_advance 30 = .ok (.getfield 29, 3) := by decide +kernel
theorem dX9_advance_33 : decode cX9_advance 33 = .ok (.iaload, 1) := by decide +kernel
theorem dX9_advance_34 : decode cX9_advance 34 = .ok (.bipush 10, 2) := by decide +kernel
theorem dX9_advance_36 : decode cX9_advance 36 = .ok (.if_icmp .ne 16, 3) := by decide +kernel
theorem dX9_advance_39 : decode cX9_advance 39 = .ok (.aload_n 0, 1) := by decide +kernel
theorem dX9_advance_40 : decode cX9_advance 40 = .ok (.dup, 1) := by decide +kernel
theorem dX9_advance_41 : decode cX9_advance 41 = .ok (.getfield 29, 3) := by decide +kernel
theorem dX9_advance_44 : decode cX9_advance 44 = .ok (.iconst 1, 1) := by decide +kernel
theorem dX9_advance_45 : decode cX9_advance 45 = .ok (.iadd, 1) := by decide +kernel
theorem dX9_advance_46 : decode cX9_advance 46 = .ok (.putfield 29, 3) := by decide +kernel
theorem dX9_advance_49 : decode cX9_advance 49 = .ok (.goto (-49), 3) := by decide +kernel
theorem dX9_advance_52 : decode cX9_advance 52 = .ok (.aload_n 0, 1) := by decide +kernel
theorem dX9_advance_53 : decode cX9_advance 53 = .ok (.aload_n 0, 1) := by decide +kernel
theorem dX9_advance_54 : decode cX9_advance 54 = .ok (.getfield 29, 3) := by decide +kernel
theorem dX9_advance_57 : decode cX9_advance 57 = .ok (.putfield 38, 3) := by decide +kernel
theorem dX9_advance_60 : decode cX9_advance 60 = .ok (.aload_n 0, 1) := by decide +kernel
theorem dX9_advance_61 : decode cX9_advance 61 = .ok (.getfield 29, 3) := by decide +kernel
theorem dX9_advance_64 : decode cX9_advance 64 = .ok (.aload_n 0, 1) := by decide +kernel
theorem dX9_advance_65 : decode cX9_advance 65 = .ok (.getfield 22, 3) := by decide +kernel
theorem dX9_advance_68 : decode cX9_advance 68 = .ok (.if_icmp .lt 11, 3) := by decide +kernel
theorem dX9_advance_71 : decode cX9_advance 71 = .ok (.aload_n 0, 1) := by decide +kernel
theorem dX9_advance_72 : decode cX9_advance 72 = .ok (.iconst 0, 1) := by decide +kernel
theorem dX9_advance_73 : decode cX9_advance 73 = .ok (.putfield 35, 3) := by decide +kernel
theorem dX9_advance_76 : decode cX9_advance 76 = .ok (.goto 89, 3) := by decide +kernel
theorem dX9_advance_79 : decode cX9_advance 79 = .ok (.aload_n 0, 1) := by decide +kernel
theorem dX9_advance_80 : decode cX9_advance 80 = .ok (.getfield 9, 3) := by decide +kernel
theorem dX9_advance_83 : decode cX9_advance 83 = .ok (.aload_n 0, 1) := by decide +kernel
theorem dX9_advance_84 : decode cX9_advance 84 = .ok (.getfield 29, 3) := by decide +kernel
theorem dX9_advance_87 : decode cX9_advance 87 = .ok (.iaload, 1) := by decide +kernel
theorem dX9_advance_88 : decode cX9_advance 88 = .ok (.invokestatic 66, 3) := by decide +kernel
theorem dX9_advance_91 : decode cX9_advance 91 = .ok (.ifCond .eq 10, 3) := by decide +kernel
theorem dX9_advance_94 : decode cX9_advance 94 = .ok (.aload_n 0, 1) := by decide +kernel
theorem dX9_advance_95 : decode cX9_advance 95 = .ok (.invokevirtual 69, 3) := by decide +kernel
theorem dX9_advance_98 : decode cX9_advance 98 = .ok (.goto 67, 3) := by decide +kernel
theorem dX9_advance_101 : decode cX9_advance 101 = .ok (.aload_n 0, 1) := by decide +kernel
theorem dX9_advance_102 : decode cX9_advance 102 = .ok (.getfield 9, 3) := by decide +kernel
theorem dX9_advance_105 : decode cX9_advance 105 = .ok (.aload_n 0, 1) := by decide +kernel
theorem dX9_advance_106 : decode cX9_advance 106 = .ok (.getfield 29, 3) := by decide +kernel
theorem dX9_advance_109 : decode cX9_advance 109 = .ok (.iaload, 1) := by decide +kernel
theorem dX9_advance_110 : decode cX9_advance 110 = .ok (.invokestatic 72, 3) := by decide +kernel
theorem dX9_advance_113 : decode cX9_advance 113 = .ok (.ifCond .eq 10, 3) := by decide +kernel
theorem dX9_advance_116 : decode cX9_advance 116 = .ok (.aload_n 0, 1) := by decide +kernel
theorem dX9_advance_117 : decode cX9_advance 117 = .ok (.invokevirtual 75, 3) := by decide +kernel
theorem dX9_advance_120 : decode cX9_advance 120 = .ok (.goto 45, 3) := by decide +kernel
theorem dX9_advance_123 : decode cX9_advance 123 = .ok (.aload_n 0, 1) := by decide +kernel
theorem dX9_advance_124 : decode cX9_advance 124 = .ok (.aload_n 0, 1) := by decide +kernel
theorem dX9_advance_125 : decode cX9_advance 125 = .ok (.getfield 9, 3) := by decide +kernel
theorem dX9_advance_128 : decode cX9_advance 128 = .ok (.aload_n 0, 1) := by decide +kernel
theorem dX9_advance_129 : decode cX9_advance 129 = .ok (.getfield 29, 3) := by decide +kernel
theorem dX9_advance_132 : decode cX9_advance 132 = .ok (.iaload, 1) := by decide +kernel
theorem dX9_advance_133 : decode cX9_advance 133 = .ok (.invokestatic 78, 3) := by decide +kernel
theorem dX9_advance_136 : decode cX9_advance 136 = .ok (.ifCond .eq 15, 3) := by decide +kernel
theorem dX9_advance_139 : decode cX9_advance 139 = .ok (.aload_n 0, 1) := by decide +kernel
theorem dX9_advance_140 : decode cX9_advance 140 = .ok (.getfield 9, 3) := by decide +kernel
theorem dX9_advance_143 : decode cX9_advance 143 = .ok (.aload_n 0, 1) := by decide +kernel
theorem dX9_advance_144 : decode cX9_advance 144 = .ok (.getfield 29, 3) := by decide +kernel
theorem dX9_advance_147 : decode cX9_advance 147 = .ok (.iaload, 1) := by decide +kernel
theorem dX9_advance_148 : decode cX9_advance 148 = .ok (.goto 4, 3) := by decide +kernel
theorem dX9_advance_151 : decode cX9_advance 151 = .ok (.iconst 1, 1) := by decide +kernel
theorem dX9_advance_152 : decode cX9_advance 152 = .ok (.putfield 35, 3) := by decide +kernel
theorem dX9_advance_155 : decode cX9_advance 155 = .ok (.aload_n 0, 1) := by decide +kernel
theorem dX9_advance_156 : decode cX9_advance 156 = .ok (.dup, 1) := by decide +kernel
theorem dX9_advance_157 : decode cX9_advance 157 = .ok (.getfield 29, 3) := by decide +kernel
theorem dX9_advance_160 : decode cX9_advance 160 = .ok (.iconst 1, 1) := by decide +kernel
theorem dX9_advance_161 : decode cX9_advance 161 = .ok (.iadd, 1) := by decide +kernel
theorem dX9_advance_162 : decode cX9_advance 162 = .ok (.putfield 29, 3) := by decide +kernel
theorem dX9_advance_165 : decode cX9_advance 165 = .ok (.return_, 1) := by decide +kernel
theorem dX9_readWord_0 : decode cX9_readWord 0 = .ok (.aload_n 0, 1) := by decide +kernel
theorem dX9_readWord_1 : decode cX9_readWord 1 = .ok (.getfield 29, 3) := by decide +kernel
theorem dX9_readWord_4 : decode cX9_readWord 4 = .ok (.aload_n 0, 1) := by decide +kernel
theorem dX9_readWord_5 : decode cX9_readWord 5 = .ok (.getfield 22, 3) := by decide +kernel
theorem dX9_readWord_8 : decode cX9_readWord 8 = .ok (.if_icmp .ge 31, 3) := by decide +kernel
theorem dX9_readWord_11 : decode cX9_readWord 11 = .ok (.aload_n 0, 1) := by decide +kernel
theorem dX9_readWord_12 : decode cX9_readWord 12 = .ok (.getfield 9, 3) := by decide +kernel
theorem dX9_readWord_15 : decode cX9_readWord 15 = .ok (.aload_n 0, 1) := by decide +kernel
theorem dX9_readWord_16 : decode cX9_readWord 16 = .ok (.getfield 29, 3) := by decide +kernel
theorem dX9_readWord_19 : decode cX9_readWord 19 = .ok (.iaload, 1) := by decide +kernel
theorem dX9_readWord_20 : decode cX9_readWord 20 = .ok (.invokestatic 66, 3) := by decide +kernel
theorem dX9_readWord_23 : decode cX9_readWord 23 = .ok (.ifCond .eq 16, 3) := by decide +kernel
theorem dX9_readWord_26 : decode cX9_readWord 26 = .ok (.aload_n 0, 1) := by decide +kernel
theorem dX9_readWord_27 : decode cX9_readWord 27 = .ok (.dup, 1) := by decide +kernel
theorem dX9_readWord_28 : decode cX9_readWord 28 = .ok (.getfield 29, 3) := by decide +kernel
theorem dX9_readWord_31 : decode cX9_readWord 31 = .ok (.iconst 1, 1) := by decide +kernel
theorem dX9_readWord_32 : decode cX9_readWord 32 = .ok (.iadd, 1) := by decide +kernel
theorem dX9_readWord_33 : decode cX9_readWord 33 = .ok (.putfield 29, 3) := by decide +kernel
theorem dX9_readWord_36 : decode cX9_readWord 36 = .ok (.goto (-36), 3) := by decide +kernel
theorem dX9_readWord_39 : decode cX9_readWord 39 = .ok (.aload_n 0, 1) := by decide +kernel
theorem dX9_readWord_40 : decode cX9_readWord 40 = .ok (.invokevirtual 81, 3) := by decide +kernel
theorem dX9_readWord_43 : decode cX9_readWord 43 = .ok (.istore_n 1, 1) := by decide +kernel
theorem dX9_readWord_44 : decode cX9_readWord 44 = .ok (.iload_n 1, 1) := by decide +kernel
theorem dX9_readWord_45 : decode cX9_readWord 45 = .ok (.bipush 6, 2) := by decide +kernel
theorem dX9_readWord_47 : decode cX9_readWord 47 = .ok (.if_icmp .lt 19, 3) := by decide +kernel
theorem dX9_readWord_50 : decode cX9_readWord 50 = .ok (.aload_n 0, 1) := by decide +kernel
theorem dX9_readWord_51 : decode cX9_readWord 51 = .ok (.iconst 3, 1) := by decide +kernel
theorem dX9_readWord_52 : decode cX9_readWord 52 = .ok (.putfield 35, 3) := by decide +kernel
theorem dX9_readWord_55 : decode cX9_readWord 55 = .ok (.aload_n 0, 1) := by decide +kernel
theorem dX9_readWord_56 : decode cX9_readWord 56 = .ok (.iload_n 1, 1) := by decide +kernel
theorem dX9_readWord_57 : decode cX9_readWord 57 = .ok (.bipush 6, 2) := by decide +kernel
theorem dX9_readWord_59 : decode cX9_readWord 59 = .ok (.isub, 1) := by decide +kernel
theorem dX9_readWord_60 : decode cX9_readWord 60 = .ok (.putfield 63, 3) := by decide +kernel
theorem dX9_readWord_63 : decode cX9_readWord 63 = .ok (.goto 19, 3) := by decide +kernel
theorem dX9_readWord_66 : decode cX9_readWord 66 = .ok (.aload_n 0, 1) := by decide +kernel
theorem dX9_readWord_67 : decode cX9_readWord 67 = .ok (.iload_n 1, 1) := by decide +kernel
theorem dX9_readWord_68 : decode cX9_readWord 68 = .ok (.iconst (-1), 1) := by decide +kernel
theorem dX9_readWord_69 : decode cX9_readWord 69 = .ok (.if_icmp .ne 7, 3) := by decide +kernel
theorem dX9_readWord_72 : decode cX9_readWord 72 = .ok (.iconst 1, 1) := by decide +kernel
theorem dX9_readWord_73 : decode cX9_readWord 73 = .ok (.goto 6, 3) := by decide +kernel
theorem dX9_readWord_76 : decode cX9_readWord 76 = .ok (.iconst 4, 1) := by decide +kernel
theorem dX9_readWord_77 : decode cX9_readWord 77 = .ok (.iload_n 1, 1) := by decide +kernel
theorem dX9_readWord_78 : decode cX9_readWord 78 = .ok (.iadd, 1) := by decide +kernel
theorem dX9_readWord_79 : decode cX9_readWord 79 = .ok (.putfield 35, 3) := by decide +kernel
theorem dX9_readWord_82 : decode cX9_readWord 82 = .ok (.return_, 1) := by decide +kernel
theorem dX9_readNumber_0 : decode cX9_readNumber 0 = .ok (.aload_n 0, 1) := by decide +kernel
theorem dX9_readNumber_1 : decode cX9_readNumber 1 = .ok (.iconst 0, 1) := by decide +kernel
theorem dX9_readNumber_2 : decode cX9_readNumber 2 = .ok (.putfield 63, 3) := by decide +kernel
theorem dX9_readNumber_5 : decode cX9_readNumber 5 = .ok (.iconst 0, 1) := by decide +kernel
theorem dX9_readNumber_6 : decode cX9_readNumber 6 = .ok (.istore_n 1, 1) := by decide +kernel
theorem dX9_readNumber_7 : decode cX9_readNumber 7 = .ok (.aload_n 0, 1) := by decide +kernel
theorem dX9_readNumber_8 : decode cX9_readNumber 8 = .ok (.getfield 29, 3) := by decide +kernel
theorem dX9_readNumber_11 : decode cX9_readNumber 11 = .ok (.aload_n 0, 1) := by decide +kernel
theorem dX9_readNumber_12 : decode cX9_readNumber 12 = .ok (.getfield 22, 3) := by decide +kernel
theorem dX9_readNumber_15 : decode cX9_readNumber 15 = .ok (.if_icmp .ge 58, 3) := by decide +kernel
theorem dX9_readNumber_18 : decode cX9_readNumber 18 = .ok (.aload_n 0, 1) := by decide +kernel
theorem dX9_readNumber_19 : decode cX9_readNumber 19 = .ok (.getfield 9, 3) := by decide +kernel
theorem dX9_readNumber_22 : decode cX9_readNumber 22 = .ok (.aload_n 0, 1) := by decide +kernel
theorem dX9_readNumber_23 : decode cX9_readNumber 23 = .ok (.getfield 29, 3) := by decide +kernel
theorem dX9_readNumber_26 : decode cX9_readNumber 26 = .ok (.iaload, 1) := by decide +kernel
theorem dX9_readNumber_27 : decode cX9_readNumber 27 = .ok (.invokestatic 72, 3) := by decide +kernel
theorem dX9_readNumber_30 : decode cX9_readNumber 30 = .ok (.ifCond .eq 43, 3) := by decide +kernel
theorem dX9_readNumber_33 : decode cX9_readNumber 33 = .ok (.aload_n 0, 1) := by decide +kernel
theorem dX9_readNumber_34 : decode cX9_readNumber 34 = .ok (.aload_n 0, 1) := by decide +kernel
theorem dX9_readNumber_35 : decode cX9_readNumber 35 = .ok (.getfield 63, 3) := by decide +kernel
theorem dX9_readNumber_38 : decode cX9_readNumber 38 = .ok (.bipush 10, 2) := by decide +kernel
theorem dX9_readNumber_40 : decode cX9_readNumber 40 = .ok (.imul, 1) := by decide +kernel
theorem dX9_readNumber_41 : decode cX9_readNumber 41 = .ok (.aload_n 0, 1) := by decide +kernel
theorem dX9_readNumber_42 : decode cX9_readNumber 42 = .ok (.getfield 9, 3) := by decide +kernel
theorem dX9_readNumber_45 : decode cX9_readNumber 45 = .ok (.aload_n 0, 1) := by decide +kernel
theorem dX9_readNumber_46 : decode cX9_readNumber 46 = .ok (.getfield 29, 3) := by decide +kernel
theorem dX9_readNumber_49 : decode cX9_readNumber 49 = .ok (.iaload, 1) := by decide +kernel
theorem dX9_readNumber_50 : decode cX9_readNumber 50 = .ok (.iadd, 1) := by decide +kernel
theorem dX9_readNumber_51 : decode cX9_readNumber 51 = .ok (.bipush 48, 2) := by decide +kernel
theorem dX9_readNumber_53 : decode cX9_readNumber 53 = .ok (.isub, 1) := by decide +kernel
theorem dX9_readNumber_54 : decode cX9_readNumber 54 = .ok (.putfield 63, 3) := by decide +kernel
theorem dX9_readNumber_57 : decode cX9_readNumber 57 = .ok (.iinc 1 1, 3) := by decide +kernel
theorem dX9_readNumber_60 : decode cX9_readNumber 60 = .ok (.aload_n 0, 1) := by decide +kernel
theorem dX9_readNumber_61 : decode cX9_readNumber 61 = .ok (.dup, 1) := by decide +kernel
theorem dX9_readNumber_62 : decode cX9_readNumber 62 = .ok (.getfield 29, 3) := by decide +kernel
theorem dX9_readNumber_65 : decode cX9_readNumber 65 = .ok (.iconst 1, 1) := by decide +kernel
theorem dX9_readNumber_66 : decode cX9_readNumber 66 = .ok (.iadd, 1) := by decide +kernel
theorem dX9_readNumber_67 : decode cX9_readNumber 67 = .ok (.putfield 29, 3) := by decide +kernel
theorem dX9_readNumber_70 : decode cX9_readNumber 70 = .ok (.goto (-63), 3) := by decide +kernel
theorem dX9_readNumber_73 : decode cX9_readNumber 73 = .ok (.aload_n 0, 1) := by decide +kernel
theorem dX9_readNumber_74 : decode cX9_readNumber 74 = .ok (.iload_n 1, 1) := by decide +kernel
theorem dX9_readNumber_75 : decode cX9_readNumber 75 = .ok (.iconst 4, 1) := by decide +kernel
theorem dX9_readNumber_76 : decode cX9_readNumber 76 = .ok (.if_icmp .le 7, 3) := by decide +kernel
theorem dX9_readNumber_79 : decode cX9_readNumber 79 = .ok (.iconst 1, 1) := by decide +kernel
theorem dX9_readNumber_80 : decode cX9_readNumber 80 = .ok (.goto 4, 3) := by decide +kernel
theorem dX9_readNumber_83 : decode cX9_readNumber 83 = .ok (.iconst 2, 1) := by decide +kernel
theorem dX9_readNumber_84 : decode cX9_readNumber 84 = .ok (.putfield 35, 3) := by decide +kernel
theorem dX9_readNumber_87 : decode cX9_readNumber 87 = .ok (.return_, 1) := by decide +kernel
theorem dX9_wordIndex_0 : decode cX9_wordIndex 0 = .ok (.iconst 0, 1) := by decide +kernel
theorem dX9_wordIndex_1 : decode cX9_wordIndex 1 = .ok (.istore_n 1, 1) := by decide +kernel
theorem dX9_wordIndex_2 : decode cX9_wordIndex 2 = .ok (.iconst 0, 1) := by decide +kernel
theorem dX9_wordIndex_3 : decode cX9_wordIndex 3 = .ok (.istore_n 2, 1) := by decide +kernel
theorem dX9_wordIndex_4 : decode cX9_wordIndex 4 = .ok (.iconst 0, 1) := by decide +kernel
theorem dX9_wordIndex_5 : decode cX9_wordIndex 5 = .ok (.istore_n 3, 1) := by decide +kernel
theorem dX9_wordIndex_6 : decode cX9_wordIndex 6 = .ok (.iload_n 3, 1) := by decide +kernel
theorem dX9_wordIndex_7 : decode cX9_wordIndex 7 = .ok (.ldc 85, 2) := by decide +kernel
theorem dX9_wordIndex_9 : decode cX9_wordIndex 9 = .ok (.invokevirtual 87, 3) := by decide +kernel
theorem dX9_wordIndex_12 : decode cX9_wordIndex 12 = .ok (.if_icmp .ge 38, 3) := by decide +kernel
theorem dX9_wordIndex_15 : decode cX9_wordIndex 15 = .ok (.ldc 85, 2) := by decide +kernel
theorem dX9_wordIndex_17 : decode cX9_wordIndex 17 = .ok (.iload_n 3, 1) := by decide +kernel
theorem dX9_wordIndex_18 : decode cX9_wordIndex 18 = .ok (.invokevirtual 92, 3) := by decide +kernel
theorem dX9_wordIndex_21 : decode cX9_wordIndex 21 = .ok (.bipush 32, 2) := by decide +kernel
theorem dX9_wordIndex_23 : decode cX9_wordIndex 23 = .ok (.if_icmp .ne 21, 3) := by decide +kernel
theorem dX9_wordIndex_26 : decode cX9_wordIndex 26 = .ok (.aload_n 0, 1) := by decide +kernel
theorem dX9_wordIndex_27 : decode cX9_wordIndex 27 = .ok (.iload_n 2, 1) := by decide +kernel
theorem dX9_wordIndex_28 : decode cX9_wordIndex 28 = .ok (.iload_n 3, 1) := by decide +kernel
theorem dX9_wordIndex_29 : decode cX9_wordIndex 29 = .ok (.invokevirtual 96, 3) := by decide +kernel
theorem dX9_wordIndex_32 : decode cX9_wordIndex 32 = .ok (.ifCond .eq 5, 3) := by decide +kernel
theorem dX9_wordIndex_35 : decode cX9_wordIndex 35 = .ok (.iload_n 1, 1) := by decide +kernel
theorem dX9_wordIndex_36 : decode cX9_wordIndex 36 = .ok (.ireturn, 1) := by decide +kernel
theorem dX9_wordIndex_37 : decode cX9_wordIndex 37 = .ok (.iinc 1 1, 3) := by decide +kernel
theorem dX9_wordIndex_40 : decode cX9_wordIndex 40 = .ok (.iload_n 3, 1) := by decide +kernel
theorem dX9_wordIndex_41 : decode cX9_wordIndex 41 = .ok (.iconst 1, 1) := by decide +kernel
theorem dX9_wordIndex_42 : decode cX9_wordIndex 42 = .ok (.iadd, 1) := by decide +kernel
theorem dX9_wordIndex_43 : decode cX9_wordIndex 43 = .ok (.istore_n 2, 1) := by decide +kernel
theorem dX9_wordIndex_44 : decode cX9_wordIndex 44 = .ok (.iinc 3 1, 3) := by decide +kernel
theorem dX9_wordIndex_47 : decode cX9_wordIndex 47 = .ok (.goto (-41), 3) := by decide +kernel
theorem dX9_wordIndex_50 : decode cX9_wordIndex 50 = .ok (.iconst (-1), 1) := by decide +kernel
theorem dX9_wordIndex_51 : decode cX9_wordIndex 51 = .ok (.ireturn, 1) := by decide +kernel
theorem dX9_isSpelled_0 : decode cX9_isSpelled 0 = .ok (.iload_n 2, 1) := by decide +kernel
theorem dX9_isSpelled_1 : decode cX9_isSpelled 1 = .ok (.iload_n 1, 1) := by decide +kernel
theorem dX9_isSpelled_2 : decode cX9_isSpelled 2 = .ok (.isub, 1) := by decide +kernel
theorem dX9_isSpelled_3 : decode cX9_isSpelled 3 = .ok (.aload_n 0, 1) := by decide +kernel
theorem dX9_isSpelled_4 : decode cX9_isSpelled 4 = .ok (.getfield 29, 3) := by decide +kernel
theorem dX9_isSpelled_7 : decode cX9_isSpelled 7 = .ok (.aload_n 0, 1) := by decide +kernel
theorem dX9_isSpelled_8 : decode cX9_isSpelled 8 = .ok (.getfield 38, 3) := by decide +kernel
theorem dX9_isSpelled_11 : decode cX9_isSpelled 11 = .ok (.isub, 1) := by decide +kernel
theorem dX9_isSpelled_12 : decode cX9_isSpelled 12 = .ok (.if_icmp .eq 5, 3) := by decide +kernel
theorem dX9_isSpelled_15 : decode cX9_isSpelled 15 = .ok (.iconst 0, 1) := by decide +kernel
theorem dX9_isSpelled_16 : decode cX9_isSpelled 16 = .ok (.ireturn, 1) := by decide +kernel
theorem dX9_isSpelled_17 : decode cX9_isSpelled 17 = .ok (.iload_n 1, 1) := by decide +kernel
theorem dX9_isSpelled_18 : decode cX9_isSpelled 18 = .ok (.istore_n 3, 1) := by decide +kernel
theorem dX9_isSpelled_19 : decode cX9_isSpelled 19 = .ok (.iload_n 3, 1) := by decide +kernel
theorem dX9_isSpelled_20 : decode cX9_isSpelled 20 = .ok (.iload_n 2, 1) := by decide +kernel
theorem dX9_isSpelled_21 : decode cX9_isSpelled 21 = .ok (.if_icmp .ge 33, 3) := by decide +kernel
theorem dX9_isSpelled_24 : decode cX9_isSpelled 24 = .ok (.ldc 85, 2) := by decide +kernel
theorem dX9_isSpelled_26 : decode cX9_isSpelled 26 = .ok (.iload_n 3, 1) := by decide +kernel
theorem dX9_isSpelled_27 : decode cX9_isSpelled 27 = .ok (.invokevirtual 92, 3) := by decide +kernel
theorem dX9_isSpelled_30 : decode cX9_isSpelled 30 = .ok (.aload_n 0, 1) := by decide +kernel
theorem dX9_isSpelled_31 : decode cX9_isSpelled 31 = .ok (.getfield 9, 3) := by decide +kernel
theorem dX9_isSpelled_34 : decode cX9_isSpelled 34 = .ok (.aload_n 0, 1) := by decide +kernel
theorem dX9_isSpelled_35 : decode cX9_isSpelled 35 = .ok (.getfield 38, 3) := by decide +kernel
theorem dX9_isSpelled_38 : decode cX9_isSpelled 38 = .ok (.iload_n 3, 1) := by decide +kernel
theorem dX9_isSpelled_39 : decode cX9_isSpelled 39 = .ok (.iadd, 1) := by decide +kernel
theorem dX9_isSpelled_40 : decode cX9_isSpelled 40 = .ok (.iload_n 1, 1) := by decide +kernel
theorem dX9_isSpelled_41 : decode cX9_isSpelled 41 = .ok (.isub, 1) := by decide +kernel
theorem dX9_isSpelled_42 : decode cX9_isSpelled 42 = .ok (.iaload, 1) := by decide +kernel
theorem dX9_isSpelled_43 : decode cX9_isSpelled 43 = .ok (.if_icmp .eq 5, 3) := by decide +kernel
theorem dX9_isSpelled_46 : decode cX9_isSpelled 46 = .ok (.iconst 0, 1) := by decide +kernel
theorem dX9_isSpelled_47 : decode cX9_isSpelled 47 = .ok (.ireturn, 1) := by decide +kernel
theorem dX9_isSpelled_48 : decode cX9_isSpelled 48 = .ok (.iinc 3 1, 3) := by decide +kernel
theorem dX9_isSpelled_51 : decode cX9_isSpelled 51 = .ok (.goto (-32), 3) := by decide +kernel
theorem dX9_isSpelled_54 : decode cX9_isSpelled 54 = .ok (.iconst 1, 1) := by decide +kernel
theorem dX9_isSpelled_55 : decode cX9_isSpelled 55 = .ok (.ireturn, 1) := by decide +kernel
theorem dX9_isLetter_0 : decode cX9_isLetter 0 = .ok (.iload_n 0, 1) := by decide +kernel
theorem dX9_isLetter_1 : decode cX9_isLetter 1 = .ok (.bipush 97, 2) := by decide +kernel
theorem dX9_isLetter_3 : decode cX9_isLetter 3 = .ok (.if_icmp .lt 13, 3) := by decide +kernel
theorem dX9_isLetter_6 : decode cX9_isLetter 6 = .ok (.iload_n 0, 1) := by decide +kernel
theorem dX9_isLetter_7 : decode cX9_isLetter 7 = .ok (.bipush 122, 2) := by decide +kernel
theorem dX9_isLetter_9 : decode cX9_isLetter 9 = .ok (.if_icmp .gt 7, 3) := by decide +kernel
theorem dX9_isLetter_12 : decode cX9_isLetter 12 = .ok (.iconst 1, 1) := by decide +kernel
theorem dX9_isLetter_13 : decode cX9_isLetter 13 = .ok (.goto 4, 3) := by decide +kernel
theorem dX9_isLetter_16 : decode cX9_isLetter 16 = .ok (.iconst 0, 1) := by decide +kernel
theorem dX9_isLetter_17 : decode cX9_isLetter 17 = .ok (.ireturn, 1) := by decide +kernel
theorem dX9_isDigit_0 : decode cX9_isDigit 0 = .ok (.iload_n 0, 1) := by decide +kernel
theorem dX9_isDigit_1 : decode cX9_isDigit 1 = .ok (.bipush 48, 2) := by decide +kernel
theorem dX9_isDigit_3 : decode cX9_isDigit 3 = .ok (.if_icmp .lt 13, 3) := by decide +kernel
theorem dX9_isDigit_6 : decode cX9_isDigit 6 = .ok (.iload_n 0, 1) := by decide +kernel
theorem dX9_isDigit_7 : decode cX9_isDigit 7 = .ok (.bipush 57, 2) := by decide +kernel
theorem dX9_isDigit_9 : decode cX9_isDigit 9 = .ok (.if_icmp .gt 7, 3) := by decide +kernel
theorem dX9_isDigit_12 : decode cX9_isDigit 12 = .ok (.iconst 1, 1) := by decide +kernel
theorem dX9_isDigit_13 : decode cX9_isDigit 13 = .ok (.goto 4, 3) := by decide +kernel
theorem dX9_isDigit_16 : decode cX9_isDigit 16 = .ok (.iconst 0, 1) := by decide +kernel
theorem dX9_isDigit_17 : decode cX9_isDigit 17 = .ok (.ireturn, 1) := by decide +kernel
theorem dX9_isSign_0 : decode cX9_isSign 0 = .ok (.iload_n 0, 1) := by decide +kernel
theorem dX9_isSign_1 : decode cX9_isSign 1 = .ok (.tableswitch 105 40 61 #[103, 103, 103, 103, 105, 103, 105, 105, 105, 105, 105, 105, 105, 105, 105, 105, 105, 105, 105, 103, 103, 103], 103) := by decide +kernel
theorem dX9_isSign_104 : decode cX9_isSign 104 = .ok (.iconst 1, 1) := by decide +kernel
theorem dX9_isSign_105 : decode cX9_isSign 105 = .ok (.ireturn, 1) := by decide +kernel
theorem dX9_isSign_106 : decode cX9_isSign 106 = .ok (.iconst 0, 1) := by decide +kernel
theorem dX9_isSign_107 : decode cX9_isSign 107 = .ok (.ireturn, 1) := by decide +kernel
theorem dX10_init_0 : decode cX10_init 0 = .ok (.aload_n 0, 1) := by decide +kernel
theorem dX10_init_1 : decode cX10_init 1 = .ok (.invokespecial 3, 3) := by decide +kernel
theorem dX10_init_4 : decode cX10_init 4 = .ok (.aload_n 0, 1) := by decide +kernel
theorem dX10_init_5 : decode cX10_init 5 = .ok (.bipush 6, 2) := by decide +kernel
theorem dX10_init_7 : decode cX10_init 7 = .ok (.anewarray 9, 3) := by decide +kernel
theorem dX10_init_10 : decode cX10_init 10 = .ok (.putfield 11, 3) := by decide +kernel
theorem dX10_init_13 : decode cX10_init 13 = .ok (.iconst 0, 1) := by decide +kernel
theorem dX10_init_14 : decode cX10_init 14 = .ok (.istore_n 1, 1) := by decide +kernel
theorem dX10_init_15 : decode cX10_init 15 = .ok (.iload_n 1, 1) := by decide +kernel
theorem dX10_init_16 : decode cX10_init 16 = .ok (.bipush 6, 2) := by decide +kernel
theorem dX10_init_18 : decode cX10_init 18 = .ok (.if_icmp .ge 22, 3) := by decide +kernel
theorem dX10_init_21 : decode cX10_init 21 = .ok (.aload_n 0, 1) := by decide +kernel
theorem dX10_init_22 : decode cX10_init 22 = .ok (.getfield 11, 3) := by decide +kernel
theorem dX10_init_25 : decode cX10_init 25 = .ok (.iload_n 1, 1) := by decide +kernel
theorem dX10_init_26 : decode cX10_init 26 = .ok (.new 9, 3) := by decide +kernel
theorem dX10_init_29 : decode cX10_init 29 = .ok (.dup, 1) := by decide +kernel
theorem dX10_init_30 : decode cX10_init 30 = .ok (.invokespecial 17, 3) := by decide +kernel
theorem dX10_init_33 : decode cX10_init 33 = .ok (.aastore, 1) := by decide +kernel
theorem dX10_init_34 : decode cX10_init 34 = .ok (.iinc 1 1, 3) := by decide +kernel
theorem dX10_init_37 : decode cX10_init 37 = .ok (.goto (-22), 3) := by decide +kernel
theorem dX10_init_40 : decode cX10_init 40 = .ok (.return_, 1) := by decide +kernel
theorem dX10_become_0 : decode cX10_become 0 = .ok (.aload_n 0, 1) := by decide +kernel
theorem dX10_become_1 : decode cX10_become 1 = .ok (.aload_n 1, 1) := by decide +kernel
theorem dX10_become_2 : decode cX10_become 2 = .ok (.getfield 18, 3) := by decide +kernel
theorem dX10_become_5 : decode cX10_become 5 = .ok (.putfield 18, 3) := by decide +kernel
theorem dX10_become_8 : decode cX10_become 8 = .ok (.aload_n 0, 1) := by decide +kernel
theorem dX10_become_9 : decode cX10_become 9 = .ok (.aload_n 1, 1) := by decide +kernel
theorem dX10_become_10 : decode cX10_become 10 = .ok (.getfield 22, 3) := by decide +kernel
theorem dX10_become_13 : decode cX10_become 13 = .ok (.putfield 22, 3) := by decide +kernel
theorem dX10_become_16 : decode cX10_become 16 = .ok (.aload_n 0, 1) := by decide +kernel
theorem dX10_become_17 : decode cX10_become 17 = .ok (.aload_n 1, 1) := by decide +kernel
theorem dX10_become_18 : decode cX10_become 18 = .ok (.getfield 25, 3) := by decide +kernel
theorem dX10_become_21 : decode cX10_become 21 = .ok (.putfield 25, 3) := by decide +kernel
theorem dX10_become_24 : decode cX10_become 24 = .ok (.iconst 0, 1) := by decide +kernel
theorem dX10_become_25 : decode cX10_become 25 = .ok (.istore_n 2, 1) := by decide +kernel
theorem dX10_become_26 : decode cX10_become 26 = .ok (.iload_n 2, 1) := by decide +kernel
theorem dX10_become_27 : decode cX10_become 27 = .ok (.bipush 6, 2) := by decide +kernel
theorem dX10_become_29 : decode cX10_become 29 = .ok (.if_icmp .ge 24, 3) := by decide +kernel
theorem dX10_become_32 : decode cX10_become 32 = .ok (.aload_n 0, 1) := by decide +kernel
theorem dX10_become_33 : decode cX10_become 33 = .ok (.getfield 11, 3) := by decide +kernel
theorem dX10_become_36 : decode cX10_become 36 = .ok (.iload_n 2, 1) := by decide +kernel
theorem dX10_become_37 : decode cX10_become 37 = .ok (.aaload, 1) := by decide +kernel
theorem dX10_become_38 : decode cX10_become 38 = .ok (.aload_n 1, 1) := by decide +kernel
theorem dX10_become_39 : decode cX10_become 39 = .ok (.getfield 11, 3) := by decide +kernel
theorem dX10_become_42 : decode cX10_become 42 = .ok (.iload_n 2, 1) := by decide +kernel
theorem dX10_become_43 : decode cX10_become 43 = .ok (.aaload, 1) := by decide +kernel
theorem dX10_become_44 : decode cX10_become 44 = .ok (.invokevirtual 28, 3) := by decide +kernel
theorem dX10_become_47 : decode cX10_become 47 = .ok (.iinc 2 1, 3) := by decide +kernel
theorem dX10_become_50 : decode cX10_become 50 = .ok (.goto (-24), 3) := by decide +kernel
theorem dX10_become_53 : decode cX10_become 53 = .ok (.return_, 1) := by decide +kernel
theorem dX10_has_0 : decode cX10_has 0 = .ok (.iload_n 1, 1) := by decide +kernel
theorem dX10_has_1 : decode cX10_has 1 = .ok (.ifCond .lt 15, 3) := by decide +kernel
theorem dX10_has_4 : decode cX10_has 4 = .ok (.iload_n 1, 1) := by decide +kernel
theorem dX10_has_5 : decode cX10_has 5 = .ok (.aload_n 0, 1) := by decide +kernel
theorem dX10_has_6 : decode cX10_has 6 = .ok (.getfield 25, 3) := by decide +kernel
theorem dX10_has_9 : decode cX10_has 9 = .ok (.if_icmp .ge 7, 3) := by decide +kernel
theorem dX10_has_12 : decode cX10_has 12 = .ok (.iconst 1, 1) := by decide +kernel
theorem dX10_has_13 : decode cX10_has 13 = .ok (.goto 4, 3) := by decide +kernel
theorem dX10_has_16 : decode cX10_has 16 = .ok (.iconst 0, 1) := by decide +kernel
theorem dX10_has_17 : decode cX10_has 17 = .ok (.ireturn, 1) := by decide +kernel
theorem dX10_readers_0 : decode cX10_readers 0 = .ok (.iconst 0, 1) := by decide +kernel
theorem dX10_readers_1 : decode cX10_readers 1 = .ok (.istore_n 1, 1) := by decide +kernel
theorem dX10_readers_2 : decode cX10_readers 2 = .ok (.iconst 0, 1) := by decide +kernel
theorem dX10_readers_3 : decode cX10_readers 3 = .ok (.istore_n 2, 1) := by decide +kernel
theorem dX10_readers_4 : decode cX10_readers 4 = .ok (.iload_n 2, 1) := by decide +kernel
theorem dX10_readers_5 : decode cX10_readers 5 = .ok (.aload_n 0, 1) := by decide +kernel
theorem dX10_readers_6 : decode cX10_readers 6 = .ok (.getfield 25, 3) := by decide +kernel
theorem dX10_readers_9 : decode cX10_readers 9 = .ok (.if_icmp .ge 31, 3) := by decide +kernel
theorem dX10_readers_12 : decode cX10_readers 12 = .ok (.aload_n 0, 1) := by decide +kernel
theorem dX10_readers_13 : decode cX10_readers 13 = .ok (.getfield 11, 3) := by decide +kernel
theorem dX10_readers_16 : decode cX10_readers 16 = .ok (.iload_n 2, 1) := by decide +kernel
theorem dX10_readers_17 : decode cX10_readers 17 = .ok (.aaload, 1) := by decide +kernel
theorem dX10_readers_18 : decode cX10_readers 18 = .ok (.aload_n 0, 1) := by decide +kernel
theorem dX10_readers_19 : decode cX10_readers 19 = .ok (.getfield 18, 3) := by decide +kernel
theorem dX10_readers_22 : decode cX10_readers 22 = .ok (.invokevirtual 32, 3) := by decide +kernel
theorem dX10_readers_25 : decode cX10_readers 25 = .ok (.ifCond .eq 9, 3) := by decide +kernel
theorem dX10_readers_28 : decode cX10_readers 28 = .ok (.iload_n 1, 1) := by decide +kernel
theorem dX10_readers_29 : decode cX10_readers 29 = .ok (.iconst 1, 1) := by decide +kernel
theorem dX10_readers_30 : decode cX10_readers 30 = .ok (.iload_n 2, 1) := by decide +kernel
theorem dX10_readers_31 : decode cX10_readers 31 = .ok (.ishl, 1) := by decide +kernel
theorem dX10_readers_32 : decode cX10_readers 32 = .ok (.ior, 1) := by decide +kernel
theorem dX10_readers_33 : decode cX10_readers 33 = .ok (.istore_n 1, 1) := by decide +kernel
theorem dX10_readers_34 : decode cX10_readers 34 = .ok (.iinc 2 1, 3) := by decide +kernel
theorem dX10_readers_37 : decode cX10_readers 37 = .ok (.goto (-33), 3) := by decide +kernel
theorem dX10_readers_40 : decode cX10_readers 40 = .ok (.iload_n 1, 1) := by decide +kernel
theorem dX10_readers_41 : decode cX10_readers 41 = .ok (.ireturn, 1) := by decide +kernel
theorem dX10_filesOn_0 : decode cX10_filesOn 0 = .ok (.iconst 0, 1) := by decide +kernel
theorem dX10_filesOn_1 : decode cX10_filesOn 1 = .ok (.istore_n 2, 1) := by decide +kernel
theorem dX10_filesOn_2 : decode cX10_filesOn 2 = .ok (.iconst 0, 1) := by decide +kernel
theorem dX10_filesOn_3 : decode cX10_filesOn 3 = .ok (.istore_n 3, 1) := by decide +kernel
theorem dX10_filesOn_4 : decode cX10_filesOn 4 = .ok (.iload_n 3, 1) := by decide +kernel
theorem dX10_filesOn_5 : decode cX10_filesOn 5 = .ok (.aload_n 0, 1) := by decide +kernel
theorem dX10_filesOn_6 : decode cX10_filesOn 6 = .ok (.getfield 25, 3) := by decide +kernel
theorem dX10_filesOn_9 : decode cX10_filesOn 9 = .ok (.if_icmp .ge 29, 3) := by decide +kernel
theorem dX10_filesOn_12 : decode cX10_filesOn 12 = .ok (.iload_n 1, 1) := by decide +kernel
theorem dX10_filesOn_13 : decode cX10_filesOn 13 = .ok (.iload_n 3, 1) := by decide +kernel
theorem dX10_filesOn_14 : decode cX10_filesOn 14 = .ok (.invokestatic 36, 3) := by decide +kernel
theorem dX10_filesOn_17 : decode cX10_filesOn 17 = .ok (.ifCond .eq 15, 3) := by decide +kernel
theorem dX10_filesOn_20 : decode cX10_filesOn 20 = .ok (.iload_n 2, 1) := by decide +kernel
theorem dX10_filesOn_21 : decode cX10_filesOn 21 = .ok (.aload_n 0, 1) := by decide +kernel
theorem dX10_filesOn_22 : decode cX10_filesOn 22 = .ok (.getfield 11, 3) := by decide +kernel
theorem dX10_filesOn_25 : decode cX10_filesOn 25 = .ok (.iload_n 3, 1) := by decide +kernel
theorem dX10_filesOn_26 : decode cX10_filesOn 26 = .ok (.aaload, 1) := by decide +kernel
theorem dX10_filesOn_27 : decode cX10_filesOn 27 = .ok (.getfield 40, 3) := by decide +kernel
theorem dX10_filesOn_30 : decode cX10_filesOn 30 = .ok (.ior, 1) := by decide +kernel
theorem dX10_filesOn_31 : decode cX10_filesOn 31 = .ok (.istore_n 2, 1) := by decide +kernel
theorem dX10_filesOn_32 : decode cX10_filesOn 32 = .ok (.iinc 3 1, 3) := by decide +kernel
theorem dX10_filesOn_35 : decode cX10_filesOn 35 = .ok (.goto (-31), 3) := by decide +kernel
theorem dX10_filesOn_38 : decode cX10_filesOn 38 = .ok (.iload_n 2, 1) := by decide +kernel
theorem dX10_filesOn_39 : decode cX10_filesOn 39 = .ok (.ireturn, 1) := by decide +kernel
theorem dX10_holders_0 : decode cX10_holders 0 = .ok (.aload_n 0, 1) := by decide +kernel
theorem dX10_holders_1 : decode cX10_holders 1 = .ok (.aload_n 0, 1) := by decide +kernel
theorem dX10_holders_2 : decode cX10_holders 2 = .ok (.invokevirtual 43, 3) := by decide +kernel
theorem dX10_holders_5 : decode cX10_holders 5 = .ok (.iload_n 1, 1) := by decide +kernel
theorem dX10_holders_6 : decode cX10_holders 6 = .ok (.invokevirtual 47, 3) := by decide +kernel
theorem dX10_holders_9 : decode cX10_holders 9 = .ok (.ireturn, 1) := by decide +kernel
theorem dX10_holdersAmong_0 : decode cX10_holdersAmong 0 = .ok (.iload_n 1, 1) := by decide +kernel
theorem dX10_holdersAmong_1 : decode cX10_holdersAmong 1 = .ok (.istore_n 3, 1) := by decide +kernel
theorem dX10_holdersAmong_2 : decode cX10_holdersAmong 2 = .ok (.iconst 0, 1) := by decide +kernel
theorem dX10_holdersAmong_3 : decode cX10_holdersAmong 3 = .ok (.istore 4, 2) := by decide +kernel
theorem dX10_holdersAmong_5 : decode cX10_holdersAmong 5 = .ok (.iload 4, 2) := by decide +kernel
theorem dX10_holdersAmong_7 : decode cX10_holdersAmong 7 = .ok (.aload_n 0, 1) := by decide +kernel
theorem dX10_holdersAmong_8 : decode cX10_holdersAmong 8 = .ok (.getfield 25, 3) := by decide +kernel
theorem dX10_holdersAmong_11 : decode cX10_holdersAmong 11 = .ok (.if_icmp .ge 33, 3) := by decide +kernel
theorem dX10_holdersAmong_14 : decode cX10_holdersAmong 14 = .ok (.aload_n 0, 1) := by decide +kernel
theorem dX10_holdersAmong_15 : decode cX10_holdersAmong 15 = .ok (.getfield 11, 3) := by decide +kernel
theorem dX10_holdersAmong_18 : decode cX10_holdersAmong 18 = .ok (.iload 4, 2) := by decide +kernel
theorem dX10_holdersAmong_20 : decode cX10_holdersAmong 20 = .ok (.aaload, 1) := by decide +kernel
theorem dX10_holdersAmong_21 : decode cX10_holdersAmong 21 = .ok (.getfield 40, 3) := by decide +kernel
theorem dX10_holdersAmong_24 : decode cX10_holdersAmong 24 = .ok (.iload_n 2, 1) := by decide +kernel
theorem dX10_holdersAmong_25 : decode cX10_holdersAmong 25 = .ok (.invokestatic 36, 3) := by decide +kernel
theorem dX10_holdersAmong_28 : decode cX10_holdersAmong 28 = .ok (.ifCond .ne 10, 3) := by decide +kernel
theorem dX10_holdersAmong_31 : decode cX10_holdersAmong 31 = .ok (.iload_n 3, 1) := by decide +kernel
theorem dX10_holdersAmong_32 : decode cX10_holdersAmong 32 = .ok (.iload 4, 2) := by decide +kernel
theorem dX10_holdersAmong_34 : decode cX10_holdersAmong 34 = .ok (.invokestatic 51, 3) := by decide +kernel
theorem dX10_holdersAmong_37 : decode cX10_holdersAmong 37 = .ok (.istore_n 3, 1) := by decide +kernel
theorem dX10_holdersAmong_38 : decode cX10_holdersAmong 38 = .ok (.iinc 4 1, 3) := by decide +kernel
theorem dX10_holdersAmong_41 : decode cX10_holdersAmong 41 = .ok (.goto (-36), 3) := by decide +kernel
theorem dX10_holdersAmong_44 : decode cX10_holdersAmong 44 = .ok (.iload_n 3, 1) := by decide +kernel
theorem dX10_holdersAmong_45 : decode cX10_holdersAmong 45 = .ok (.ireturn, 1) := by decide +kernel
theorem dX10_newestHolder_0 : decode cX10_newestHolder 0 = .ok (.aload_n 0, 1) := by decide +kernel
theorem dX10_newestHolder_1 : decode cX10_newestHolder 1 = .ok (.iload_n 1, 1) := by decide +kernel
theorem dX10_newestHolder_2 : decode cX10_newestHolder 2 = .ok (.invokevirtual 54, 3) := by decide +kernel
theorem dX10_newestHolder_5 : decode cX10_newestHolder 5 = .ok (.istore_n 2, 1) := by decide +kernel
theorem dX10_newestHolder_6 : decode cX10_newestHolder 6 = .ok (.iconst (-1), 1) := by decide +kernel
theorem dX10_newestHolder_7 : decode cX10_newestHolder 7 = .ok (.istore_n 3, 1) := by decide +kernel
theorem dX10_newestHolder_8 : decode cX10_newestHolder 8 = .ok (.iconst 0, 1) := by decide +kernel
theorem dX10_newestHolder_9 : decode cX10_newestHolder 9 = .ok (.istore 4, 2) := by decide +kernel
theorem dX10_newestHolder_11 : decode cX10_newestHolder 11 = .ok (.iload 4, 2) := by decide +kernel
theorem dX10_newestHolder_13 : decode cX10_newestHolder 13 = .ok (.aload_n 0, 1) := by decide +kernel
theorem dX10_newestHolder_14 : decode cX10_newestHolder 14 = .ok (.getfield 25, 3) := by decide +kernel
theorem dX10_newestHolder_17 : decode cX10_newestHolder 17 = .ok (.if_icmp .ge 52, 3) := by decide +kernel
theorem dX10_newestHolder_20 : decode cX10_newestHolder 20 = .ok (.iload_n 2, 1) := by decide +kernel
theorem dX10_newestHolder_21 : decode cX10_newestHolder 21 = .ok (.iload 4, 2) := by decide +kernel
theorem dX10_newestHolder_23 : decode cX10_newestHolder 23 = .ok (.invokestatic 36, 3) := by decide +kernel
theorem dX10_newestHolder_26 : decode cX10_newestHolder 26 = .ok (.ifCond .eq 37, 3) := by decide +kernel
theorem dX10_newestHolder_29 : decode cX10_newestHolder 29 = .ok (.iload_n 3, 1) := by decide +kernel
theorem dX10_newestHolder_30 : decode cX10_newestHolder 30 = .ok (.iconst (-1), 1) := by decide +kernel
theorem dX10_newestHolder_31 : decode cX10_newestHolder 31 = .ok (.if_icmp .eq 29, 3) := by decide +kernel
theorem dX10_newestHolder_34 : decode cX10_newestHolder 34 = .ok (.aload_n 0, 1) := by decide +kernel
theorem dX10_newestHolder_35 : decode cX10_newestHolder 35 = .ok (.getfield 11, 3) := by decide +kernel
theorem dX10_newestHolder_38 : decode cX10_newestHolder 38 = .ok (.iload 4, 2) := by decide +kernel
theorem dX10_newestHolder_40 : decode cX10_newestHolder 40 = .ok (.aaload, 1) := by decide +kernel
theorem dX10_newestHolder_41 : decode cX10_newestHolder 41 = .ok (.getfield 58, 3) := by decide +kernel
theorem dX10_newestHolder_44 : decode cX10_newestHolder 44 = .ok (.iload_n 1, 1) := by decide +kernel
theorem dX10_newestHolder_45 : decode cX10_newestHolder 45 = .ok (.iaload, 1) := by decide +kernel
theorem dX10_newestHolder_46 : decode cX10_newestHolder 46 = .ok (.aload_n 0, 1) := by decide +kernel
theorem dX10_newestHolder_47 : decode cX10_newestHolder 47 = .ok (.getfield 11, 3) := by decide +kernel
theorem dX10_newestHolder_50 : decode cX10_newestHolder 50 = .ok (.iload_n 3, 1) := by decide +kernel
theorem dX10_newestHolder_51 : decode cX10_newestHolder 51 = .ok (.aaload, 1) := by decide +kernel
theorem dX10_newestHolder_52 : decode cX10_newestHolder 52 = .ok (.getfield 58, 3) := by decide +kernel
theorem dX10_newestHolder_55 : decode cX10_newestHolder 55 = .ok (.iload_n 1, 1) := by decide +kernel
theorem dX10_newestHolder_56 : decode cX10_newestHolder 56 = .ok (.iaload, 1) := by decide +kernel
theorem dX10_newestHolder_57 : decode cX10_newestHolder 57 = .ok (.if_icmp .le 6, 3) := by decide +kernel
theorem dX10_newestHolder_60 : decode cX10_newestHolder 60 = .ok (.iload 4, 2) := by decide +kernel
theorem dX10_newestHolder_62 : decode cX10_newestHolder 62 = .ok (.istore_n 3, 1) := by decide +kernel
theorem dX10_newestHolder_63 : decode cX10_newestHolder 63 = .ok (.iinc 4 1, 3) := by decide +kernel
theorem dX10_newestHolder_66 : decode cX10_newestHolder 66 = .ok (.goto (-55), 3) := by decide +kernel
theorem dX10_newestHolder_69 : decode cX10_newestHolder 69 = .ok (.iload_n 3, 1) := by decide +kernel
theorem dX10_newestHolder_70 : decode cX10_newestHolder 70 = .ok (.ireturn, 1) := by decide +kernel
theorem dX10_differing_0 : decode cX10_differing 0 = .ok (.aload_n 0, 1) := by decide +kernel
theorem dX10_differing_1 : decode cX10_differing 1 = .ok (.invokevirtual 43, 3) := by decide +kernel
theorem dX10_differing_4 : decode cX10_differing 4 = .ok (.istore_n 1, 1) := by decide +kernel
theorem dX10_differing_5 : decode cX10_differing 5 = .ok (.iconst 0, 1) := by decide +kernel
theorem dX10_differing_6 : decode cX10_differing 6 = .ok (.istore_n 2, 1) := by decide +kernel
theorem dX10_differing_7 : decode cX10_differing 7 = .ok (.iconst 0, 1) := by decide +kernel
theorem dX10_differing_8 : decode cX10_differing 8 = .ok (.istore_n 3, 1) := by decide +kernel
theorem dX10_differing_9 : decode cX10_differing 9 = .ok (.iload_n 3, 1) := by decide +kernel
theorem dX10_differing_10 : decode cX10_differing 10 = .ok (.bipush 8, 2) := by decide +kernel
theorem dX10_differing_12 : decode cX10_differing 12 = .ok (.if_icmp .ge 29, 3) := by decide +kernel
theorem dX10_differing_15 : decode cX10_differing 15 = .ok (.aload_n 0, 1) := by decide +kernel
theorem dX10_differing_16 : decode cX10_differing 16 = .ok (.iload_n 3, 1) := by decide +kernel
theorem dX10_differing_17 : decode cX10_differing 17 = .ok (.aload_n 0, 1) := by decide +kernel
theorem dX10_differing_18 : decode cX10_differing 18 = .ok (.iload_n 1, 1) := by decide +kernel
theorem dX10_differing_19 : decode cX10_differing 19 = .ok (.iload_n 3, 1) := by decide +kernel
theorem dX10_differing_20 : decode cX10_differing 20 = .ok (.invokevirtual 47, 3) := by decide +kernel
theorem dX10_differing_23 : decode cX10_differing 23 = .ok (.invokevirtual 62, 3) := by decide +kernel
theorem dX10_differing_26 : decode cX10_differing 26 = .ok (.ifCond .eq 9, 3) := by decide +kernel
theorem dX10_differing_29 : decode cX10_differing 29 = .ok (.iload_n 2, 1) := by decide +kernel
theorem dX10_differing_30 : decode cX10_differing 30 = .ok (.iconst 1, 1) := by decide +kernel
theorem dX10_differing_31 : decode cX10_differing 31 = .ok (.iload_n 3, 1) := by decide +kernel
theorem dX10_differing_32 : decode cX10_differing 32 = .ok (.ishl, 1) := by decide +kernel
theorem dX10_differing_33 : decode cX10_differing 33 = .ok (.ior, 1) := by decide +kernel
theorem dX10_differing_34 : decode cX10_differing 34 = .ok (.istore_n 2, 1) := by decide +kernel
theorem dX10_differing_35 : decode cX10_differing 35 = .ok (.iinc 3 1, 3) := by decide +kernel
theorem dX10_differing_38 : decode cX10_differing 38 = .ok (.goto (-29), 3) := by decide +kernel
theorem dX10_differing_41 : decode cX10_differing 41 = .ok (.iload_n 2, 1) := by decide +kernel
theorem dX10_differing_42 : decode cX10_differing 42 = .ok (.ireturn, 1) := by decide +kernel
theorem dX10_areUnlike_0 : decode cX10_areUnlike 0 = .ok (.iconst (-1), 1) := by decide +kernel
theorem dX10_areUnlike_1 : decode cX10_areUnlike 1 = .ok (.istore_n 3, 1) := by decide +kernel
theorem dX10_areUnlike_2 : decode cX10_areUnlike 2 = .ok (.iconst 0, 1) := by decide +kernel
theorem dX10_areUnlike_3 : decode cX10_areUnlike 3 = .ok (.istore 4, 2) := by decide +kernel
theorem dX10_areUnlike_5 : decode cX10_areUnlike 5 = .ok (.iload 4, 2) := by decide +kernel
theorem dX10_areUnlike_7 : decode cX10_areUnlike 7 = .ok (.aload_n 0, 1) := by decide +kernel
theorem dX10_areUnlike_8 : decode cX10_areUnlike 8 = .ok (.getfield 25, 3) := by decide +kernel
theorem dX10_areUnlike_11 : decode cX10_areUnlike 11 = .ok (.if_icmp .ge 57, 3) := by decide +kernel
theorem dX10_areUnlike_14 : decode cX10_areUnlike 14 = .ok (.iload_n 2, 1) := by decide +kernel
theorem dX10_areUnlike_15 : decode cX10_areUnlike 15 = .ok (.iload 4, 2) := by decide +kernel
theorem dX10_areUnlike_17 : decode cX10_areUnlike 17 = .ok (.invokestatic 36, 3) := by decide +kernel
theorem dX10_areUnlike_20 : decode cX10_areUnlike 20 = .ok (.ifCond .eq 42, 3) := by decide +kernel
theorem dX10_areUnlike_23 : decode cX10_areUnlike 23 = .ok (.iload_n 3, 1) := by decide +kernel
theorem dX10_areUnlike_24 : decode cX10_areUnlike 24 = .ok (.iconst (-1), 1) := by decide +kernel
theorem dX10_areUnlike_25 : decode cX10_areUnlike 25 = .ok (.if_icmp .ne 19, 3) := by decide +kernel
theorem dX10_areUnlike_28 : decode cX10_areUnlike 28 = .ok (.aload_n 0, 1) := by decide +kernel
theorem dX10_areUnlike_29 : decode cX10_areUnlike 29 = .ok (.getfield 11, 3) := by decide +kernel
theorem dX10_areUnlike_32 : decode cX10_areUnlike 32 = .ok (.iload 4, 2) := by decide +kernel
theorem dX10_areUnlike_34 : decode cX10_areUnlike 34 = .ok (.aaload, 1) := by decide +kernel
theorem dX10_areUnlike_35 : decode cX10_areUnlike 35 = .ok (.getfield 65, 3) := by decide +kernel
theorem dX10_areUnlike_38 : decode cX10_areUnlike 38 = .ok (.iload_n 1, 1) := by decide +kernel
theorem dX10_areUnlike_39 : decode cX10_areUnlike 39 = .ok (.iaload, 1) := by decide +kernel
theorem dX10_areUnlike_40 : decode cX10_areUnlike 40 = .ok (.istore_n 3, 1) := by decide +kernel
theorem dX10_areUnlike_41 : decode cX10_areUnlike 41 = .ok (.goto 21, 3) := by decide +kernel
theorem dX10_areUnlike_44 : decode cX10_areUnlike 44 = .ok (.iload_n 3, 1) := by decide +kernel
theorem dX10_areUnlike_45 : decode cX10_areUnlike 45 = .ok (.aload_n 0, 1) := by decide +kernel
theorem dX10_areUnlike_46 : decode cX10_areUnlike 46 = .ok (.getfield 11, 3) := by decide +kernel
theorem dX10_areUnlike_49 : decode cX10_areUnlike 49 = .ok (.iload 4, 2) := by decide +kernel
theorem dX10_areUnlike_51 : decode cX10_areUnlike 51 = .ok (.aaload, 1) := by decide +kernel
theorem dX10_areUnlike_52 : decode cX10_areUnlike 52 = .ok (.getfield 65, 3) := by decide +kernel
theorem dX10_areUnlike_55 : decode cX10_areUnlike 55 = .ok (.iload_n 1, 1) := by decide +kernel
theorem dX10_areUnlike_56 : decode cX10_areUnlike 56 = .ok (.iaload, 1) := by decide +kernel
theorem dX10_areUnlike_57 : decode cX10_areUnlike 57 = .ok (.if_icmp .eq 5, 3) := by decide +kernel
theorem dX10_areUnlike_60 : decode cX10_areUnlike 60 = .ok (.iconst 1, 1) := by decide +kernel
theorem dX10_areUnlike_61 : decode cX10_areUnlike 61 = .ok (.ireturn, 1) := by decide +kernel
theorem dX10_areUnlike_62 : decode cX10_areUnlike 62 = .ok (.iinc 4 1, 3) := by decide +kernel
theorem dX10_areUnlike_65 : decode cX10_areUnlike 65 = .ok (.goto (-60), 3) := by decide +kernel
theorem dX10_areUnlike_68 : decode cX10_areUnlike 68 = .ok (.iconst 0, 1) := by decide +kernel
theorem dX10_areUnlike_69 : decode cX10_areUnlike 69 = .ok (.ireturn, 1) := by decide +kernel
theorem dX10_safe_0 : decode cX10_safe 0 = .ok (.aload_n 0, 1) := by decide +kernel
theorem dX10_safe_1 : decode cX10_safe 1 = .ok (.invokevirtual 43, 3) := by decide +kernel
theorem dX10_safe_4 : decode cX10_safe 4 = .ok (.istore_n 2, 1) := by decide +kernel
theorem dX10_safe_5 : decode cX10_safe 5 = .ok (.iconst 0, 1) := by decide +kernel
theorem dX10_safe_6 : decode cX10_safe 6 = .ok (.istore_n 3, 1) := by decide +kernel
theorem dX10_safe_7 : decode cX10_safe 7 = .ok (.iconst 0, 1) := by decide +kernel
theorem dX10_safe_8 : decode cX10_safe 8 = .ok (.istore 4, 2) := by decide +kernel
theorem dX10_safe_10 : decode cX10_safe 10 = .ok (.iload 4, 2) := by decide +kernel
theorem dX10_safe_12 : decode cX10_safe 12 = .ok (.bipush 8, 2) := by decide +kernel
theorem dX10_safe_14 : decode cX10_safe 14 = .ok (.if_icmp .ge 30, 3) := by decide +kernel
theorem dX10_safe_17 : decode cX10_safe 17 = .ok (.aload_n 0, 1) := by decide +kernel
theorem dX10_safe_18 : decode cX10_safe 18 = .ok (.iload_n 2, 1) := by decide +kernel
theorem dX10_safe_19 : decode cX10_safe 19 = .ok (.iload 4, 2) := by decide +kernel
theorem dX10_safe_21 : decode cX10_safe 21 = .ok (.invokevirtual 47, 3) := by decide +kernel
theorem dX10_safe_24 : decode cX10_safe 24 = .ok (.invokestatic 68, 3) := by decide +kernel
theorem dX10_safe_27 : decode cX10_safe 27 = .ok (.iload_n 1, 1) := by decide +kernel
theorem dX10_safe_28 : decode cX10_safe 28 = .ok (.if_icmp .lt 10, 3) := by decide +kernel
theorem dX10_safe_31 : decode cX10_safe 31 = .ok (.iload_n 3, 1) := by decide +kernel
theorem dX10_safe_32 : decode cX10_safe 32 = .ok (.iconst 1, 1) := by decide +kernel
theorem dX10_safe_33 : decode cX10_safe 33 = .ok (.iload 4, 2) := by decide +kernel
theorem dX10_safe_35 : decode cX10_safe 35 = .ok (.ishl, 1) := by decide +kernel
theorem dX10_safe_36 : decode cX10_safe 36 = .ok (.ior, 1) := by decide +kernel
theorem dX10_safe_37 : decode cX10_safe 37 = .ok (.istore_n 3, 1) := by decide +kernel
theorem dX10_safe_38 : decode cX10_safe 38 = .ok (.iinc 4 1, 3) := by decide +kernel
theorem dX10_safe_41 : decode cX10_safe 41 = .ok (.goto (-31), 3) := by decide +kernel
theorem dX10_safe_44 : decode cX10_safe 44 = .ok (.iload_n 3, 1) := by decide +kernel
theorem dX10_safe_45 : decode cX10_safe 45 = .ok (.ireturn, 1) := by decide +kernel
theorem dX10_lost_0 : decode cX10_lost 0 = .ok (.aload_n 0, 1) := by decide +kernel
theorem dX10_lost_1 : decode cX10_lost 1 = .ok (.invokevirtual 43, 3) := by decide +kernel
theorem dX10_lost_4 : decode cX10_lost 4 = .ok (.istore_n 1, 1) := by decide +kernel
theorem dX10_lost_5 : decode cX10_lost 5 = .ok (.aload_n 0, 1) := by decide +kernel
theorem dX10_lost_6 : decode cX10_lost 6 = .ok (.iload_n 1, 1) := by decide +kernel
theorem dX10_lost_7 : decode cX10_lost 7 = .ok (.iconst (-1), 1) := by decide +kernel
theorem dX10_lost_8 : decode cX10_lost 8 = .ok (.ixor, 1) := by decide +kernel
theorem dX10_lost_9 : decode cX10_lost 9 = .ok (.invokevirtual 73, 3) := by decide +kernel
theorem dX10_lost_12 : decode cX10_lost 12 = .ok (.aload_n 0, 1) := by decide +kernel
theorem dX10_lost_13 : decode cX10_lost 13 = .ok (.iload_n 1, 1) := by decide +kernel
theorem dX10_lost_14 : decode cX10_lost 14 = .ok (.invokevirtual 73, 3) := by decide +kernel
theorem dX10_lost_17 : decode cX10_lost 17 = .ok (.iconst (-1), 1) := by decide +kernel
theorem dX10_lost_18 : decode cX10_lost 18 = .ok (.ixor, 1) := by decide +kernel
theorem dX10_lost_19 : decode cX10_lost 19 = .ok (.iand, 1) := by decide +kernel
theorem dX10_lost_20 : decode cX10_lost 20 = .ok (.ireturn, 1) := by decide +kernel
theorem dX10_contentCount_0 : decode cX10_contentCount 0 = .ok (.iconst 0, 1) := by decide +kernel
theorem dX10_contentCount_1 : decode cX10_contentCount 1 = .ok (.istore_n 1, 1) := by decide +kernel
theorem dX10_contentCount_2 : decode cX10_contentCount 2 = .ok (.iconst 0, 1) := by decide +kernel
theorem dX10_contentCount_3 : decode cX10_contentCount 3 = .ok (.istore_n 2, 1) := by decide +kernel
theorem dX10_contentCount_4 : decode cX10_contentCount 4 = .ok (.iload_n 2, 1) := by decide +kernel
theorem dX10_contentCount_5 : decode cX10_contentCount 5 = .ok (.aload_n 0, 1) := by decide +kernel
theorem dX10_contentCount_6 : decode cX10_contentCount 6 = .ok (.getfield 25, 3) := by decide +kernel
theorem dX10_contentCount_9 : decode cX10_contentCount 9 = .ok (.if_icmp .ge 24, 3) := by decide +kernel
theorem dX10_contentCount_12 : decode cX10_contentCount 12 = .ok (.iload_n 1, 1) := by decide +kernel
theorem dX10_contentCount_13 : decode cX10_contentCount 13 = .ok (.aload_n 0, 1) := by decide +kernel
theorem dX10_contentCount_14 : decode cX10_contentCount 14 = .ok (.getfield 11, 3) := by decide +kernel
theorem dX10_contentCount_17 : decode cX10_contentCount 17 = .ok (.iload_n 2, 1) := by decide +kernel
theorem dX10_contentCount_18 : decode cX10_contentCount 18 = .ok (.aaload, 1) := by decide +kernel
theorem dX10_contentCount_19 : decode cX10_contentCount 19 = .ok (.getfield 40, 3) := by decide +kernel
theorem dX10_contentCount_22 : decode cX10_contentCount 22 = .ok (.invokestatic 68, 3) := by decide +kernel
theorem dX10_contentCount_25 : decode cX10_contentCount 25 = .ok (.iadd, 1) := by decide +kernel
theorem dX10_contentCount_26 : decode cX10_contentCount 26 = .ok (.istore_n 1, 1) := by decide +kernel
theorem dX10_contentCount_27 : decode cX10_contentCount 27 = .ok (.iinc 2 1, 3) := by decide +kernel
theorem dX10_contentCount_30 : decode cX10_contentCount 30 = .ok (.goto (-26), 3) := by decide +kernel
theorem dX10_contentCount_33 : decode cX10_contentCount 33 = .ok (.iload_n 1, 1) := by decide +kernel
theorem dX10_contentCount_34 : decode cX10_contentCount 34 = .ok (.ireturn, 1) := by decide +kernel
theorem dX10_canCopy_0 : decode cX10_canCopy 0 = .ok (.aload_n 0, 1) := by decide +kernel
theorem dX10_canCopy_1 : decode cX10_canCopy 1 = .ok (.getfield 11, 3) := by decide +kernel
theorem dX10_canCopy_4 : decode cX10_canCopy 4 = .ok (.iload_n 1, 1) := by decide +kernel
theorem dX10_canCopy_5 : decode cX10_canCopy 5 = .ok (.aaload, 1) := by decide +kernel
theorem dX10_canCopy_6 : decode cX10_canCopy 6 = .ok (.aload_n 0, 1) := by decide +kernel
theorem dX10_canCopy_7 : decode cX10_canCopy 7 = .ok (.getfield 18, 3) := by decide +kernel
theorem dX10_canCopy_10 : decode cX10_canCopy 10 = .ok (.invokevirtual 32, 3) := by decide +kernel
theorem dX10_canCopy_13 : decode cX10_canCopy 13 = .ok (.ifCond .eq 23, 3) := by decide +kernel
theorem dX10_canCopy_16 : decode cX10_canCopy 16 = .ok (.aload_n 0, 1) := by decide +kernel
theorem dX10_canCopy_17 : decode cX10_canCopy 17 = .ok (.getfield 11, 3) := by decide +kernel
theorem dX10_canCopy_20 : decode cX10_canCopy 20 = .ok (.iload_n 2, 1) := by decide +kernel
theorem dX10_canCopy_21 : decode cX10_canCopy 21 = .ok (.aaload, 1) := by decide +kernel
theorem dX10_canCopy_22 : decode cX10_canCopy 22 = .ok (.aload_n 0, 1) := by decide +kernel
theorem dX10_canCopy_23 : decode cX10_canCopy 23 = .ok (.getfield 18, 3) := by decide +kernel
theorem dX10_canCopy_26 : decode cX10_canCopy 26 = .ok (.invokevirtual 32, 3) := by decide +kernel
theorem dX10_canCopy_29 : decode cX10_canCopy 29 = .ok (.ifCond .eq 7, 3) := by decide +kernel
theorem dX10_canCopy_32 : decode cX10_canCopy 32 = .ok (.iconst 1, 1) := by decide +kernel
theorem dX10_canCopy_33 : decode cX10_canCopy 33 = .ok (.goto 4, 3) := by decide +kernel
theorem dX10_canCopy_36 : decode cX10_canCopy 36 = .ok (.iconst 0, 1) := by decide +kernel
theorem dX10_canCopy_37 : decode cX10_canCopy 37 = .ok (.ireturn, 1) := by decide +kernel
theorem dX10_copyOnto_0 : decode cX10_copyOnto 0 = .ok (.aload_n 0, 1) := by decide +kernel
theorem dX10_copyOnto_1 : decode cX10_copyOnto 1 = .ok (.getfield 11, 3) := by decide +kernel
theorem dX10_copyOnto_4 : decode cX10_copyOnto 4 = .ok (.iload_n 1, 1) := by decide +kernel
theorem dX10_copyOnto_5 : decode cX10_copyOnto 5 = .ok (.aaload, 1) := by decide +kernel
theorem dX10_copyOnto_6 : decode cX10_copyOnto 6 = .ok (.astore 4, 2) := by decide +kernel
theorem dX10_copyOnto_8 : decode cX10_copyOnto 8 = .ok (.aload_n 0, 1) := by decide +kernel
theorem dX10_copyOnto_9 : decode cX10_copyOnto 9 = .ok (.getfield 11, 3) := by decide +kernel
theorem dX10_copyOnto_12 : decode cX10_copyOnto 12 = .ok (.iload_n 2, 1) := by decide +kernel
theorem dX10_copyOnto_13 : decode cX10_copyOnto 13 = .ok (.aaload, 1) := by decide +kernel
theorem dX10_copyOnto_14 : decode cX10_copyOnto 14 = .ok (.astore 5, 2) := by decide +kernel
theorem dX10_copyOnto_16 : decode cX10_copyOnto 16 = .ok (.iconst 0, 1) := by decide +kernel
theorem dX10_copyOnto_17 : decode cX10_copyOnto 17 = .ok (.istore 6, 2) := by decide +kernel
theorem dX10_copyOnto_19 : decode cX10_copyOnto 19 = .ok (.iconst 0, 1) := by decide +kernel
theorem dX10_copyOnto_20 : decode cX10_copyOnto 20 = .ok (.istore 7, 2) := by decide +kernel
theorem dX10_copyOnto_22 : decode cX10_copyOnto 22 = .ok (.iload 7, 2) := by decide +kernel
theorem dX10_copyOnto_24 : decode cX10_copyOnto 24 = .ok (.bipush 8, 2) := by decide +kernel
theorem dX10_copyOnto_26 : decode cX10_copyOnto 26 = .ok (.if_icmp .ge 120, 3) := by decide +kernel
theorem dX10_copyOnto_29 : decode cX10_copyOnto 29 = .ok (.aload 4, 2) := by decide +kernel
theorem dX10_copyOnto_31 : decode cX10_copyOnto 31 = .ok (.getfield 40, 3) := by decide +kernel
theorem dX10_copyOnto_34 : decode cX10_copyOnto 34 = .ok (.iload 7, 2) := by decide +kernel
theorem dX10_copyOnto_36 : decode cX10_copyOnto 36 = .ok (.invokestatic 36, 3) := by decide +kernel
theorem dX10_copyOnto_39 : decode cX10_copyOnto 39 = .ok (.ifCond .eq 101, 3) := by decide +kernel
theorem dX10_copyOnto_42 : decode cX10_copyOnto 42 = .ok (.aload 5, 2) := by decide +kernel
theorem dX10_copyOnto_44 : decode cX10_copyOnto 44 = .ok (.iload 7, 2) := by decide +kernel
theorem dX10_copyOnto_46 : decode cX10_copyOnto 46 = .ok (.invokevirtual 76, 3) := by decide +kernel
theorem dX10_copyOnto_49 : decode cX10_copyOnto 49 = .ok (.ifCond .eq 91, 3) := by decide +kernel
theorem dX10_copyOnto_52 : decode cX10_copyOnto 52 = .ok (.aload 4, 2) := by decide +kernel
theorem dX10_copyOnto_54 : decode cX10_copyOnto 54 = .ok (.getfield 65, 3) := by decide +kernel
theorem dX10_copyOnto_57 : decode cX10_copyOnto 57 = .ok (.iload 7, 2) := by decide +kernel
theorem dX10_copyOnto_59 : decode cX10_copyOnto 59 = .ok (.iaload, 1) := by decide +kernel
theorem dX10_copyOnto_60 : decode cX10_copyOnto 60 = .ok (.aload 5, 2) := by decide +kernel
theorem dX10_copyOnto_62 : decode cX10_copyOnto 62 = .ok (.getfield 65, 3) := by decide +kernel
theorem dX10_copyOnto_65 : decode cX10_copyOnto 65 = .ok (.iload 7, 2) := by decide +kernel
theorem dX10_copyOnto_67 : decode cX10_copyOnto 67 = .ok (.iaload, 1) := by decide +kernel
theorem dX10_copyOnto_68 : decode cX10_copyOnto 68 = .ok (.if_icmp .ne 7, 3) := by decide +kernel
theorem dX10_copyOnto_71 : decode cX10_copyOnto 71 = .ok (.iconst 1, 1) := by decide +kernel
theorem dX10_copyOnto_72 : decode cX10_copyOnto 72 = .ok (.goto 4, 3) := by decide +kernel
theorem dX10_copyOnto_75 : decode cX10_copyOnto 75 = .ok (.iconst 0, 1) := by decide +kernel
theorem dX10_copyOnto_76 : decode cX10_copyOnto 76 = .ok (.istore 8, 2) := by decide +kernel
theorem dX10_copyOnto_78 : decode cX10_copyOnto 78 = .ok (.aload_n 3, 1) := by decide +kernel
theorem dX10_copyOnto_79 : decode cX10_copyOnto 79 = .ok (.aload 5, 2) := by decide +kernel
theorem dX10_copyOnto_81 : decode cX10_copyOnto 81 = .ok (.getfield 58, 3) := by decide +kernel
theorem dX10_copyOnto_84 : decode cX10_copyOnto 84 = .ok (.iload 7, 2) := by decide +kernel
theorem dX10_copyOnto_86 : decode cX10_copyOnto 86 = .ok (.iaload, 1) := by decide +kernel
theorem dX10_copyOnto_87 : decode cX10_copyOnto 87 = .ok (.aload 4, 2) := by decide +kernel
theorem dX10_copyOnto_89 : decode cX10_copyOnto 89 = .ok (.getfield 58, 3) := by decide +kernel
theorem dX10_copyOnto_92 : decode cX10_copyOnto 92 = .ok (.iload 7, 2) := by decide +kernel
theorem dX10_copyOnto_94 : decode cX10_copyOnto 94 = .ok (.iaload, 1) := by decide +kernel
theorem dX10_copyOnto_95 : decode cX10_copyOnto 95 = .ok (.iload 8, 2) := by decide +kernel
theorem dX10_copyOnto_97 : decode cX10_copyOnto 97 = .ok (.aload 5, 2) := by decide +kernel
theorem dX10_copyOnto_99 : decode cX10_copyOnto 99 = .ok (.getfield 79, 3) := by decide +kernel
theorem dX10_copyOnto_102 : decode cX10_copyOnto 102 = .ok (.iload 7, 2) := by decide +kernel
theorem dX10_copyOnto_104 : decode cX10_copyOnto 104 = .ok (.aload_n 0, 1) := by decide +kernel
theorem dX10_copyOnto_105 : decode cX10_copyOnto 105 = .ok (.getfield 18, 3) := by decide +kernel
theorem dX10_copyOnto_108 : decode cX10_copyOnto 108 = .ok (.invokevirtual 82, 3) := by decide +kernel
theorem dX10_copyOnto_111 : decode cX10_copyOnto 111 = .ok (.ifCond .eq 29, 3) := by decide +kernel
theorem dX10_copyOnto_114 : decode cX10_copyOnto 114 = .ok (.aload 5, 2) := by decide +kernel
theorem dX10_copyOnto_116 : decode cX10_copyOnto 116 = .ok (.iload 7, 2) := by decide +kernel
theorem dX10_copyOnto_118 : decode cX10_copyOnto 118 = .ok (.aload 4, 2) := by decide +kernel
theorem dX10_copyOnto_120 : decode cX10_copyOnto 120 = .ok (.getfield 65, 3) := by decide +kernel
theorem dX10_copyOnto_123 : decode cX10_copyOnto 123 = .ok (.iload 7, 2) := by decide +kernel
theorem dX10_copyOnto_125 : decode cX10_copyOnto 125 = .ok (.iaload, 1) := by decide +kernel
theorem dX10_copyOnto_126 : decode cX10_copyOnto 126 = .ok (.aload 4, 2) := by decide +kernel
theorem dX10_copyOnto_128 : decode cX10_copyOnto 128 = .ok (.getfield 58, 3) := by decide +kernel
theorem dX10_copyOnto_131 : decode cX10_copyOnto 131 = .ok (.iload 7, 2) := by decide +kernel
theorem dX10_copyOnto_133 : decode cX10_copyOnto 133 = .ok (.iaload, 1) := by decide +kernel
theorem dX10_copyOnto_134 : decode cX10_copyOnto 134 = .ok (.invokevirtual 88, 3) := by decide +kernel
theorem dX10_copyOnto_137 : decode cX10_copyOnto 137 = .ok (.iinc 6 1, 3) := by decide +kernel
theorem dX10_copyOnto_140 : decode cX10_copyOnto 140 = .ok (.iinc 7 1, 3) := by decide +kernel
theorem dX10_copyOnto_143 : decode cX10_copyOnto 143 = .ok (.goto (-121), 3) := by decide +kernel
theorem dX10_copyOnto_146 : decode cX10_copyOnto 146 = .ok (.iload 6, 2) := by decide +kernel
theorem dX10_copyOnto_148 : decode cX10_copyOnto 148 = .ok (.ireturn, 1) := by decide +kernel
theorem dX11_init_0 : decode cX11_init 0 = .ok (.aload_n 0, 1) := by decide +kernel
theorem dX11_init_1 : decode cX11_init 1 = .ok (.invokespecial 1, 3) := by decide +kernel
theorem dX11_init_4 : decode cX11_init 4 = .ok (.aload_n 0, 1) := by decide +kernel
theorem dX11_init_5 : decode cX11_init 5 = .ok (.bipush 6, 2) := by decide +kernel
theorem dX11_init_7 : decode cX11_init 7 = .ok (.anewarray 9, 3) := by decide +kernel
theorem dX11_init_10 : decode cX11_init 10 = .ok (.putfield 11, 3) := by decide +kernel
theorem dX11_init_13 : decode cX11_init 13 = .ok (.aload_n 0, 1) := by decide +kernel
theorem dX11_init_14 : decode cX11_init 14 = .ok (.bipush 6, 2) := by decide +kernel
theorem dX11_init_16 : decode cX11_init 16 = .ok (.anewarray 15, 3) := by decide +kernel
theorem dX11_init_19 : decode cX11_init 19 = .ok (.putfield 17, 3) := by decide +kernel
theorem dX11_init_22 : decode cX11_init 22 = .ok (.aload_n 0, 1) := by decide +kernel
theorem dX11_init_23 : decode cX11_init 23 = .ok (.iconst 4, 1) := by decide +kernel
theorem dX11_init_24 : decode cX11_init 24 = .ok (.anewarray 21, 3) := by decide +kernel
theorem dX11_init_27 : decode cX11_init 27 = .ok (.putfield 23, 3) := by decide +kernel
theorem dX11_init_30 : decode cX11_init 30 = .ok (.aload_n 0, 1) := by decide +kernel
theorem dX11_init_31 : decode cX11_init 31 = .ok (.new 27, 3) := by decide +kernel
theorem dX11_init_34 : decode cX11_init 34 = .ok (.dup, 1) := by decide +kernel
theorem dX11_init_35 : decode cX11_init 35 = .ok (.invokespecial 29, 3) := by decide +kernel
theorem dX11_init_38 : decode cX11_init 38 = .ok (.putfield 30, 3) := by decide +kernel
theorem dX11_init_41 : decode cX11_init 41 = .ok (.aload_n 0, 1) := by decide +kernel
theorem dX11_init_42 : decode cX11_init 42 = .ok (.new 34, 3) := by decide +kernel
theorem dX11_init_45 : decode cX11_init 45 = .ok (.dup, 1) := by decide +kernel
theorem dX11_init_46 : decode cX11_init 46 = .ok (.invokespecial 36, 3) := by decide +kernel
theorem dX11_init_49 : decode cX11_init 49 = .ok (.putfield 37, 3) := by decide +kernel
theorem dX11_init_52 : decode cX11_init 52 = .ok (.aload_n 0, 1) := by decide +kernel
theorem dX11_init_53 : decode cX11_init 53 = .ok (.new 34, 3) := by decide +kernel
theorem dX11_init_56 : decode cX11_init 56 = .ok (.dup, 1) := by decide +kernel
theorem dX11_init_57 : decode cX11_init 57 = .ok (.invokespecial 36, 3) := by decide +kernel
theorem dX11_init_60 : decode cX11_init 60 = .ok (.putfield 41, 3) := by decide +kernel
theorem dX11_init_63 : decode cX11_init 63 = .ok (.aload_n 0, 1) := by decide +kernel
theorem dX11_init_64 : decode cX11_init 64 = .ok (.new 34, 3) := by decide +kernel
theorem dX11_init_67 : decode cX11_init 67 = .ok (.dup, 1) := by decide +kernel
theorem dX11_init_68 : decode cX11_init 68 = .ok (.invokespecial 36, 3) := by decide +kernel
theorem dX11_init_71 : decode cX11_init 71 = .ok (.putfield 44, 3) := by decide +kernel
theorem dX11_init_74 : decode cX11_init 74 = .ok (.aload_n 0, 1) := by decide +kernel
theorem dX11_init_75 : decode cX11_init 75 = .ok (.iconst 3, 1) := by decide +kernel
theorem dX11_init_76 : decode cX11_init 76 = .ok (.anewarray 47, 3) := by decide +kernel
theorem dX11_init_79 : decode cX11_init 79 = .ok (.putfield 49, 3) := by decide +kernel
theorem dX11_init_82 : decode cX11_init 82 = .ok (.aload_n 0, 1) := by decide +kernel
theorem dX11_init_83 : decode cX11_init 83 = .ok (.iconst 1, 1) := by decide +kernel
theorem dX11_init_84 : decode cX11_init 84 = .ok (.putfield 53, 3) := by decide +kernel
theorem dX11_init_87 : decode cX11_init 87 = .ok (.aload_n 0, 1) := by decide +kernel
theorem dX11_init_88 : decode cX11_init 88 = .ok (.iconst 0, 1) := by decide +kernel
theorem dX11_init_89 : decode cX11_init 89 = .ok (.putfield 57, 3) := by decide +kernel
theorem dX11_init_92 : decode cX11_init 92 = .ok (.aload_n 0, 1) := by decide +kernel
theorem dX11_init_93 : decode cX11_init 93 = .ok (.getfield 11, 3) := by decide +kernel
theorem dX11_init_96 : decode cX11_init 96 = .ok (.iconst 0, 1) := by decide +kernel
theorem dX11_init_97 : decode cX11_init 97 = .ok (.new 9, 3) := by decide +kernel
theorem dX11_init_100 : decode cX11_init 100 = .ok (.dup, 1) := by decide +kernel
theorem dX11_init_101 : decode cX11_init 101 = .ok (.iconst 0, 1) := by decide +kernel
theorem dX11_init_102 : decode cX11_init 102 = .ok (.invokespecial 61, 3) := by decide +kernel
theorem dX11_init_105 : decode cX11_init 105 = .ok (.aastore, 1) := by decide +kernel
theorem dX11_init_106 : decode cX11_init 106 = .ok (.aload_n 0, 1) := by decide +kernel
theorem dX11_init_107 : decode cX11_init 107 = .ok (.getfield 11, 3) := by decide +kernel
theorem dX11_init_110 : decode cX11_init 110 = .ok (.iconst 1, 1) := by decide +kernel
theorem dX11_init_111 : decode cX11_init 111 = .ok (.new 64, 3) := by decide +kernel
theorem dX11_init_114 : decode cX11_init 114 = .ok (.dup, 1) := by decide +kernel
theorem dX11_init_115 : decode cX11_init 115 = .ok (.iconst 1, 1) := by decide +kernel
theorem dX11_init_116 : decode cX11_init 116 = .ok (.invokespecial 66, 3) := by decide +kernel
theorem dX11_init_119 : decode cX11_init 119 = .ok (.aastore, 1) := by decide +kernel
theorem dX11_init_120 : decode cX11_init 120 = .ok (.aload_n 0, 1) := by decide +kernel
theorem dX11_init_121 : decode cX11_init 121 = .ok (.getfield 11, 3) := by decide +kernel
theorem dX11_init_124 : decode cX11_init 124 = .ok (.iconst 2, 1) := by decide +kernel
theorem dX11_init_125 : decode cX11_init 125 = .ok (.new 67, 3) := by decide +kernel
theorem dX11_init_128 : decode cX11_init 128 = .ok (.dup, 1) := by decide +kernel
theorem dX11_init_129 : decode cX11_init 129 = .ok (.iconst 2, 1) := by decide +kernel
theorem dX11_init_130 : decode cX11_init 130 = .ok (.invokespecial 69, 3) := by decide +kernel
theorem dX11_init_133 : decode cX11_init 133 = .ok (.aastore, 1) := by decide +kernel
theorem dX11_init_134 : decode cX11_init 134 = .ok (.aload_n 0, 1) := by decide +kernel
theorem dX11_init_135 : decode cX11_init 135 = .ok (.getfield 11, 3) := by decide +kernel
theorem dX11_init_138 : decode cX11_init 138 = .ok (.iconst 3, 1) := by decide +kernel
theorem dX11_init_139 : decode cX11_init 139 = .ok (.new 70, 3) := by decide +kernel
theorem dX11_init_142 : decode cX11_init 142 = .ok (.dup, 1) := by decide +kernel
theorem dX11_init_143 : decode cX11_init 143 = .ok (.iconst 3, 1) := by decide +kernel
theorem dX11_init_144 : decode cX11_init 144 = .ok (.invokespecial 72, 3) := by decide +kernel
theorem dX11_init_147 : decode cX11_init 147 = .ok (.aastore, 1) := by decide +kernel
theorem dX11_init_148 : decode cX11_init 148 = .ok (.aload_n 0, 1) := by decide +kernel
theorem dX11_init_149 : decode cX11_init 149 = .ok (.getfield 11, 3) := by decide +kernel
theorem dX11_init_152 : decode cX11_init 152 = .ok (.iconst 4, 1) := by decide +kernel
theorem dX11_init_153 : decode cX11_init 153 = .ok (.new 73, 3) := by decide +kernel
theorem dX11_init_156 : decode cX11_init 156 = .ok (.dup, 1) := by decide +kernel
theorem dX11_init_157 : decode cX11_init 157 = .ok (.iconst 4, 1) := by decide +kernel
theorem dX11_init_158 : decode cX11_init 158 = .ok (.invokespecial 75, 3) := by decide +kernel
theorem dX11_init_161 : decode cX11_init 161 = .ok (.aastore, 1) := by decide +kernel
theorem dX11_init_162 : decode cX11_init 162 = .ok (.aload_n 0, 1) := by decide +kernel
theorem dX11_init_163 : decode cX11_init 163 = .ok (.getfield 11, 3) := by decide +kernel
theorem dX11_init_166 : decode cX11_init 166 = .ok (.iconst 5, 1) := by decide +kernel
theorem dX11_init_167 : decode cX11_init 167 = .ok (.new 76, 3) := by decide +kernel
theorem dX11_init_170 : decode cX11_init 170 = .ok (.dup, 1) := by decide +kernel
theorem dX11_init_171 : decode cX11_init 171 = .ok (.iconst 5, 1) := by decide +kernel
theorem dX11_init_172 : decode cX11_init 172 = .ok (.invokespecial 78, 3) := by decide +kernel
theorem dX11_init_175 : decode cX11_init 175 = .ok (.aastore, 1) := by decide +kernel
theorem dX11_init_176 : decode cX11_init 176 = .ok (.iconst 0, 1) := by decide +kernel
theorem dX11_init_177 : decode cX11_init 177 = .ok (.istore_n 1, 1) := by decide +kernel
theorem dX11_init_178 : decode cX11_init 178 = .ok (.iload_n 1, 1) := by decide +kernel
theorem dX11_init_179 : decode cX11_init 179 = .ok (.bipush 6, 2) := by decide +kernel
theorem dX11_init_181 : decode cX11_init 181 = .ok (.if_icmp .ge 22, 3) := by decide +kernel
theorem dX11_init_184 : decode cX11_init 184 = .ok (.aload_n 0, 1) := by decide +kernel
theorem dX11_init_185 : decode cX11_init 185 = .ok (.getfield 17, 3) := by decide +kernel
theorem dX11_init_188 : decode cX11_init 188 = .ok (.iload_n 1, 1) := by decide +kernel
theorem dX11_init_189 : decode cX11_init 189 = .ok (.new 15, 3) := by decide +kernel
theorem dX11_init_192 : decode cX11_init 192 = .ok (.dup, 1) := by decide +kernel
theorem dX11_init_193 : decode cX11_init 193 = .ok (.invokespecial 79, 3) := by decide +kernel
theorem dX11_init_196 : decode cX11_init 196 = .ok (.aastore, 1) := by decide +kernel
theorem dX11_init_197 : decode cX11_init 197 = .ok (.iinc 1 1, 3) := by decide +kernel
theorem dX11_init_200 : decode cX11_init 200 = .ok (.goto (-22), 3) := by decide +kernel
theorem dX11_init_203 : decode cX11_init 203 = .ok (.iconst 0, 1) := by decide +kernel
theorem dX11_init_204 : decode cX11_init 204 = .ok (.istore_n 1, 1) := by decide +kernel
theorem dX11_init_205 : decode cX11_init 205 = .ok (.iload_n 1, 1) := by decide +kernel
theorem dX11_init_206 : decode cX11_init 206 = .ok (.iconst 4, 1) := by decide +kernel
theorem dX11_init_207 : decode cX11_init 207 = .ok (.if_icmp .ge 22, 3) := by decide +kernel
theorem dX11_init_210 : decode cX11_init 210 = .ok (.aload_n 0, 1) := by decide +kernel
theorem dX11_init_211 : decode cX11_init 211 = .ok (.getfield 23, 3) := by decide +kernel
theorem dX11_init_214 : decode cX11_init 214 = .ok (.iload_n 1, 1) := by decide +kernel
theorem dX11_init_215 : decode cX11_init 215 = .ok (.new 21, 3) := by decide +kernel
theorem dX11_init_218 : decode cX11_init 218 = .ok (.dup, 1) := by decide +kernel
theorem dX11_init_219 : decode cX11_init 219 = .ok (.invokespecial 80, 3) := by decide +kernel
theorem dX11_init_222 : decode cX11_init 222 = .ok (.aastore, 1) := by decide +kernel
theorem dX11_init_223 : decode cX11_init 223 = .ok (.iinc 1 1, 3) := by decide +kernel
theorem dX11_init_226 : decode cX11_init 226 = .ok (.goto (-21), 3) := by decide +kernel
theorem dX11_init_229 : decode cX11_init 229 = .ok (.iconst 0, 1) := by decide +kernel
theorem dX11_init_230 : decode cX11_init 230 = .ok (.istore_n 1, 1) := by decide +kernel
theorem dX11_init_231 : decode cX11_init 231 = .ok (.iload_n 1, 1) := by decide +kernel
theorem dX11_init_232 : decode cX11_init 232 = .ok (.iconst 3, 1) := by decide +kernel
theorem dX11_init_233 : decode cX11_init 233 = .ok (.if_icmp .ge 22, 3) := by decide +kernel
theorem dX11_init_236 : decode cX11_init 236 = .ok (.aload_n 0, 1) := by decide +kernel
theorem dX11_init_237 : decode cX11_init 237 = .ok (.getfield 49, 3) := by decide +kernel
theorem dX11_init_240 : decode cX11_init 240 = .ok (.iload_n 1, 1) := by decide +kernel
theorem dX11_init_241 : decode cX11_init 241 = .ok (.new 47, 3) := by decide +kernel
theorem dX11_init_244 : decode cX11_init 244 = .ok (.dup, 1) := by decide +kernel
theorem dX11_init_245 : decode cX11_init 245 = .ok (.invokespecial 81, 3) := by decide +kernel
theorem dX11_init_248 : decode cX11_init 248 = .ok (.aastore, 1) := by decide +kernel
theorem dX11_init_249 : decode cX11_init 249 = .ok (.iinc 1 1, 3) := by decide +kernel
theorem dX11_init_252 : decode cX11_init 252 = .ok (.goto (-21), 3) := by decide +kernel
theorem dX11_init_255 : decode cX11_init 255 = .ok (.iconst 0, 1) := by decide +kernel
theorem dX11_init_256 : decode cX11_init 256 = .ok (.istore_n 1, 1) := by decide +kernel
theorem dX11_init_257 : decode cX11_init 257 = .ok (.iload_n 1, 1) := by decide +kernel
theorem dX11_init_258 : decode cX11_init 258 = .ok (.ldc 82, 2) := by decide +kernel
theorem dX11_init_260 : decode cX11_init 260 = .ok (.invokevirtual 84, 3) := by decide +kernel
theorem dX11_init_263 : decode cX11_init 263 = .ok (.if_icmp .ge 23, 3) := by decide +kernel
theorem dX11_init_266 : decode cX11_init 266 = .ok (.aload_n 0, 1) := by decide +kernel
theorem dX11_init_267 : decode cX11_init 267 = .ok (.getfield 30, 3) := by decide +kernel
theorem dX11_init_270 : decode cX11_init 270 = .ok (.ldc 82, 2) := by decide +kernel
theorem dX11_init_272 : decode cX11_init 272 = .ok (.iload_n 1, 1) := by decide +kernel
theorem dX11_init_273 : decode cX11_init 273 = .ok (.invokevirtual 90, 3) := by decide +kernel
theorem dX11_init_276 : decode cX11_init 276 = .ok (.invokevirtual 94, 3) := by decide +kernel
theorem dX11_init_279 : decode cX11_init 279 = .ok (.pop, 1) := by decide +kernel
theorem dX11_init_280 : decode cX11_init 280 = .ok (.iinc 1 1, 3) := by decide +kernel
theorem dX11_init_283 : decode cX11_init 283 = .ok (.goto (-26), 3) := by decide +kernel
theorem dX11_init_286 : decode cX11_init 286 = .ok (.aload_n 0, 1) := by decide +kernel
theorem dX11_init_287 : decode cX11_init 287 = .ok (.getfield 30, 3) := by decide +kernel
theorem dX11_init_290 : decode cX11_init 290 = .ok (.invokevirtual 98, 3) := by decide +kernel
theorem dX11_init_293 : decode cX11_init 293 = .ok (.pop, 1) := by decide +kernel
theorem dX11_init_294 : decode cX11_init 294 = .ok (.aload_n 0, 1) := by decide +kernel
theorem dX11_init_295 : decode cX11_init 295 = .ok (.getfield 30, 3) := by decide +kernel
theorem dX11_init_298 : decode cX11_init 298 = .ok (.invokevirtual 101, 3) := by decide +kernel
theorem dX11_init_301 : decode cX11_init 301 = .ok (.aload_n 0, 1) := by decide +kernel
theorem dX11_init_302 : decode cX11_init 302 = .ok (.getfield 17, 3) := by decide +kernel
theorem dX11_init_305 : decode cX11_init 305 = .ok (.iconst 0, 1) := by decide +kernel
theorem dX11_init_306 : decode cX11_init 306 = .ok (.aaload, 1) := by decide +kernel
theorem dX11_init_307 : decode cX11_init 307 = .ok (.aload_n 0, 1) := by decide +kernel
theorem dX11_init_308 : decode cX11_init 308 = .ok (.getfield 30, 3) := by decide +kernel
theorem dX11_init_311 : decode cX11_init 311 = .ok (.getfield 104, 3) := by decide +kernel
theorem dX11_init_314 : decode cX11_init 314 = .ok (.invokevirtual 108, 3) := by decide +kernel
theorem dX11_init_317 : decode cX11_init 317 = .ok (.return_, 1) := by decide +kernel
theorem dX11_set_0 : decode cX11_set 0 = .ok (.iload_n 1, 1) := by decide +kernel
theorem dX11_set_1 : decode cX11_set 1 = .ok (.ifCond .lt 23, 3) := by decide +kernel
theorem dX11_set_4 : decode cX11_set 4 = .ok (.iload_n 1, 1) := by decide +kernel
theorem dX11_set_5 : decode cX11_set 5 = .ok (.iconst 2, 1) := by decide +kernel
theorem dX11_set_6 : decode cX11_set 6 = .ok (.if_icmp .gt 18, 3) := by decide +kernel
theorem dX11_set_9 : decode cX11_set 9 = .ok (.iload_n 1, 1) := by decide +kernel
theorem dX11_set_10 : decode cX11_set 10 = .ok (.ifCond .eq 17, 3) := by decide +kernel
theorem dX11_set_13 : decode cX11_set 13 = .ok (.aload_n 0, 1) := by decide +kernel
theorem dX11_set_14 : decode cX11_set 14 = .ok (.getfield 37, 3) := by decide +kernel
theorem dX11_set_17 : decode cX11_set 17 = .ok (.iload_n 2, 1) := by decide +kernel
theorem dX11_set_18 : decode cX11_set 18 = .ok (.invokevirtual 112, 3) := by decide +kernel
theorem dX11_set_21 : decode cX11_set 21 = .ok (.ifCond .ne 6, 3) := by decide +kernel
theorem dX11_set_24 : decode cX11_set 24 = .ok (.bipush (-2), 2) := by decide +kernel
theorem dX11_set_26 : decode cX11_set 26 = .ok (.ireturn, 1) := by decide +kernel
theorem dX11_set_27 : decode cX11_set 27 = .ok (.iload_n 3, 1) := by decide +kernel
theorem dX11_set_28 : decode cX11_set 28 = .ok (.ifCond .lt 21, 3) := by decide +kernel
theorem dX11_set_31 : decode cX11_set 31 = .ok (.iload_n 3, 1) := by decide +kernel
theorem dX11_set_32 : decode cX11_set 32 = .ok (.sipush 999, 3) := by decide +kernel
theorem dX11_set_35 : decode cX11_set 35 = .ok (.if_icmp .gt 14, 3) := by decide +kernel
theorem dX11_set_38 : decode cX11_set 38 = .ok (.iload_n 1, 1) := by decide +kernel
theorem dX11_set_39 : decode cX11_set 39 = .ok (.iconst 1, 1) := by decide +kernel
theorem dX11_set_40 : decode cX11_set 40 = .ok (.if_icmp .ne 12, 3) := by decide +kernel
theorem dX11_set_43 : decode cX11_set 43 = .ok (.iload_n 3, 1) := by decide +kernel
theorem dX11_set_44 : decode cX11_set 44 = .ok (.bipush 10, 2) := by decide +kernel
theorem dX11_set_46 : decode cX11_set 46 = .ok (.if_icmp .lt 6, 3) := by decide +kernel
theorem dX11_set_49 : decode cX11_set 49 = .ok (.bipush (-2), 2) := by decide +kernel
theorem dX11_set_51 : decode cX11_set 51 = .ok (.ireturn, 1) := by decide +kernel
theorem dX11_set_52 : decode cX11_set 52 = .ok (.iload_n 1, 1) := by decide +kernel
theorem dX11_set_53 : decode cX11_set 53 = .ok (.ifCond .ne 23, 3) := by decide +kernel
theorem dX11_set_56 : decode cX11_set 56 = .ok (.aload_n 0, 1) := by decide +kernel
theorem dX11_set_57 : decode cX11_set 57 = .ok (.getfield 37, 3) := by decide +kernel
theorem dX11_set_60 : decode cX11_set 60 = .ok (.getfield 115, 3) := by decide +kernel
theorem dX11_set_63 : decode cX11_set 63 = .ok (.istore 4, 2) := by decide +kernel
theorem dX11_set_65 : decode cX11_set 65 = .ok (.aload_n 0, 1) := by decide +kernel
theorem dX11_set_66 : decode cX11_set 66 = .ok (.getfield 37, 3) := by decide +kernel
theorem dX11_set_69 : decode cX11_set 69 = .ok (.iload_n 3, 1) := by decide +kernel
theorem dX11_set_70 : decode cX11_set 70 = .ok (.putfield 115, 3) := by decide +kernel
theorem dX11_set_73 : decode cX11_set 73 = .ok (.goto 65, 3) := by decide +kernel
theorem dX11_set_76 : decode cX11_set 76 = .ok (.iload_n 1, 1) := by decide +kernel
theorem dX11_set_77 : decode cX11_set 77 = .ok (.iconst 1, 1) := by decide +kernel
theorem dX11_set_78 : decode cX11_set 78 = .ok (.if_icmp .ne 33, 3) := by decide +kernel
theorem dX11_set_81 : decode cX11_set 81 = .ok (.aload_n 0, 1) := by decide +kernel
theorem dX11_set_82 : decode cX11_set 82 = .ok (.getfield 37, 3) := by decide +kernel
theorem dX11_set_85 : decode cX11_set 85 = .ok (.getfield 118, 3) := by decide +kernel
theorem dX11_set_88 : decode cX11_set 88 = .ok (.iload_n 2, 1) := by decide +kernel
theorem dX11_set_89 : decode cX11_set 89 = .ok (.aaload, 1) := by decide +kernel
theorem dX11_set_90 : decode cX11_set 90 = .ok (.getfield 121, 3) := by decide +kernel
theorem dX11_set_93 : decode cX11_set 93 = .ok (.istore 4, 2) := by decide +kernel
theorem dX11_set_95 : decode cX11_set 95 = .ok (.aload_n 0, 1) := by decide +kernel
theorem dX11_set_96 : decode cX11_set 96 = .ok (.getfield 37, 3) := by decide +kernel
theorem dX11_set_99 : decode cX11_set 99 = .ok (.getfield 118, 3) := by decide +kernel
theorem dX11_set_102 : decode cX11_set 102 = .ok (.iload_n 2, 1) := by decide +kernel
theorem dX11_set_103 : decode cX11_set 103 = .ok (.aaload, 1) := by decide +kernel
theorem dX11_set_104 : decode cX11_set 104 = .ok (.iload_n 3, 1) := by decide +kernel
theorem dX11_set_105 : decode cX11_set 105 = .ok (.putfield 121, 3) := by decide +kernel
theorem dX11_set_108 : decode cX11_set 108 = .ok (.goto 30, 3) := by decide +kernel
theorem dX11_set_111 : decode cX11_set 111 = .ok (.aload_n 0, 1) := by decide +kernel
theorem dX11_set_112 : decode cX11_set 112 = .ok (.getfield 37, 3) := by decide +kernel
theorem dX11_set_115 : decode cX11_set 115 = .ok (.getfield 118, 3) := by decide +kernel
theorem dX11_set_118 : decode cX11_set 118 = .ok (.iload_n 2, 1) := by decide +kernel
theorem dX11_set_119 : decode cX11_set 119 = .ok (.aaload, 1) := by decide +kernel
theorem dX11_set_120 : decode cX11_set 120 = .ok (.getfield 124, 3) := by decide +kernel
theorem dX11_set_123 : decode cX11_set 123 = .ok (.istore 4, 2) := by decide +kernel
theorem dX11_set_125 : decode cX11_set 125 = .ok (.aload_n 0, 1) := by decide +kernel
theorem dX11_set_126 : decode cX11_set 126 = .ok (.getfield 37, 3) := by decide +kernel
theorem dX11_set_129 : decode cX11_set 129 = .ok (.getfield 118, 3) := by decide +kernel
theorem dX11_set_132 : decode cX11_set 132 = .ok (.iload_n 2, 1) := by decide +kernel
theorem dX11_set_133 : decode cX11_set 133 = .ok (.aaload, 1) := by decide +kernel
theorem dX11_set_134 : decode cX11_set 134 = .ok (.iload_n 3, 1) := by decide +kernel
theorem dX11_set_135 : decode cX11_set 135 = .ok (.putfield 124, 3) := by decide +kernel
theorem dX11_set_138 : decode cX11_set 138 = .ok (.iload 4, 2) := by decide +kernel
theorem dX11_set_140 : decode cX11_set 140 = .ok (.ireturn, 1) := by decide +kernel
theorem dX11_disk_0 : decode cX11_disk 0 = .ok (.aload_n 0, 1) := by decide +kernel
theorem dX11_disk_1 : decode cX11_disk 1 = .ok (.iload_n 1, 1) := by decide +kernel
theorem dX11_disk_2 : decode cX11_disk 2 = .ok (.iload_n 2, 1) := by decide +kernel
theorem dX11_disk_3 : decode cX11_disk 3 = .ok (.invokevirtual 127, 3) := by decide +kernel
theorem dX11_disk_6 : decode cX11_disk 6 = .ok (.ireturn, 1) := by decide +kernel
theorem dX11_told_0 : decode cX11_told 0 = .ok (.iload_n 2, 1) := by decide +kernel
theorem dX11_told_1 : decode cX11_told 1 = .ok (.ifCond .ne 11, 3) := by decide +kernel
theorem dX11_told_4 : decode cX11_told 4 = .ok (.aload_n 0, 1) := by decide +kernel
theorem dX11_told_5 : decode cX11_told 5 = .ok (.getfield 37, 3) := by decide +kernel
theorem dX11_told_8 : decode cX11_told 8 = .ok (.getfield 115, 3) := by decide +kernel
theorem dX11_told_11 : decode cX11_told 11 = .ok (.ireturn, 1) := by decide +kernel
theorem dX11_told_12 : decode cX11_told 12 = .ok (.iload_n 2, 1) := by decide +kernel
theorem dX11_told_13 : decode cX11_told 13 = .ok (.ifCond .lt 20, 3) := by decide +kernel
theorem dX11_told_16 : decode cX11_told 16 = .ok (.iload_n 2, 1) := by decide +kernel
theorem dX11_told_17 : decode cX11_told 17 = .ok (.bipush 8, 2) := by decide +kernel
theorem dX11_told_19 : decode cX11_told 19 = .ok (.if_icmp .gt 14, 3) := by decide +kernel
theorem dX11_told_22 : decode cX11_told 22 = .ok (.aload_n 0, 1) := by decide +kernel
theorem dX11_told_23 : decode cX11_told 23 = .ok (.getfield 37, 3) := by decide +kernel
theorem dX11_told_26 : decode cX11_told 26 = .ok (.iload_n 1, 1) := by decide +kernel
theorem dX11_told_27 : decode cX11_told 27 = .ok (.invokevirtual 112, 3) := by decide +kernel
theorem dX11_told_30 : decode cX11_told 30 = .ok (.ifCond .ne 6, 3) := by decide +kernel
theorem dX11_told_33 : decode cX11_told 33 = .ok (.bipush (-2), 2) := by decide +kernel
theorem dX11_told_35 : decode cX11_told 35 = .ok (.ireturn, 1) := by decide +kernel
theorem dX11_told_36 : decode cX11_told 36 = .ok (.aload_n 0, 1) := by decide +kernel
theorem dX11_told_37 : decode cX11_told 37 = .ok (.getfield 37, 3) := by decide +kernel
theorem dX11_told_40 : decode cX11_told 40 = .ok (.getfield 118, 3) := by decide +kernel
theorem dX11_told_43 : decode cX11_told 43 = .ok (.iload_n 1, 1) := by decide +kernel
theorem dX11_told_44 : decode cX11_told 44 = .ok (.aaload, 1) := by decide +kernel
theorem dX11_told_45 : decode cX11_told 45 = .ok (.astore_n 3, 1) := by decide +kernel
theorem dX11_told_46 : decode cX11_told 46 = .ok (.iload_n 2, 1) := by decide +kernel
theorem dX11_told_47 : decode cX11_told 47 = .ok (.tableswitch 118 1 7 #[41, 46, 51, 59, 79, 98, 110], 41) := by decide +kernel
theorem dX11_told_88 : decode cX11_told 88 = .ok (.aload_n 3, 1) := by decide +kernel
theorem dX11_told_89 : decode cX11_told 89 = .ok (.getfield 121, 3) := by decide +kernel
theorem dX11_told_92 : decode cX11_told 92 = .ok (.ireturn, 1) := by decide +kernel
theorem dX11_told_93 : decode cX11_told 93 = .ok (.aload_n 3, 1) := by decide +kernel
theorem dX11_told_94 : decode cX11_told 94 = .ok (.getfield 124, 3) := by decide +kernel
theorem dX11_told_97 : decode cX11_told 97 = .ok (.ireturn, 1) := by decide +kernel
theorem dX11_told_98 : decode cX11_told 98 = .ok (.aload_n 3, 1) := by decide +kernel
theorem dX11_told_99 : decode cX11_told 99 = .ok (.getfield 131, 3) := by decide +kernel
theorem dX11_told_102 : decode cX11_told 102 = .ok (.getfield 135, 3) := by decide +kernel
theorem dX11_told_105 : decode cX11_told 105 = .ok (.ireturn, 1) := by decide +kernel
theorem dX11_told_106 : decode cX11_told 106 = .ok (.aload_n 3, 1) := by decide +kernel
theorem dX11_told_107 : decode cX11_told 107 = .ok (.aload_n 0, 1) := by decide +kernel
theorem dX11_told_108 : decode cX11_told 108 = .ok (.getfield 37, 3) := by decide +kernel
theorem dX11_told_111 : decode cX11_told 111 = .ok (.getfield 115, 3) := by decide +kernel
theorem dX11_told_114 : decode cX11_told 114 = .ok (.invokevirtual 138, 3) := by decide +kernel
theorem dX11_told_117 : decode cX11_told 117 = .ok (.ifCond .eq 7, 3) := by decide +kernel
theorem dX11_told_120 : decode cX11_told 120 = .ok (.iconst 1, 1) := by decide +kernel
theorem dX11_told_121 : decode cX11_told 121 = .ok (.goto 4, 3) := by decide +kernel
theorem dX11_told_124 : decode cX11_told 124 = .ok (.iconst 0, 1) := by decide +kernel
theorem dX11_told_125 : decode cX11_told 125 = .ok (.ireturn, 1) := by decide +kernel
theorem dX11_told_126 : decode cX11_told 126 = .ok (.aload_n 3, 1) := by decide +kernel
theorem dX11_told_127 : decode cX11_told 127 = .ok (.getfield 131, 3) := by decide +kernel
theorem dX11_told_130 : decode cX11_told 130 = .ok (.aload_n 0, 1) := by decide +kernel
theorem dX11_told_131 : decode cX11_told 131 = .ok (.getfield 37, 3) := by decide +kernel
theorem dX11_told_134 : decode cX11_told 134 = .ok (.getfield 115, 3) := by decide +kernel
theorem dX11_told_137 : decode cX11_told 137 = .ok (.aload_n 3, 1) := by decide +kernel
theorem dX11_told_138 : decode cX11_told 138 = .ok (.getfield 121, 3) := by decide +kernel
theorem dX11_told_141 : decode cX11_told 141 = .ok (.invokevirtual 141, 3) := by decide +kernel
theorem dX11_told_144 : decode cX11_told 144 = .ok (.ireturn, 1) := by decide +kernel
theorem dX11_told_145 : decode cX11_told 145 = .ok (.aload_n 3, 1) := by decide +kernel
theorem dX11_told_146 : decode cX11_told 146 = .ok (.getfield 131, 3) := by decide +kernel
theorem dX11_told_149 : decode cX11_told 149 = .ok (.aload_n 3, 1) := by decide +kernel
theorem dX11_told_150 : decode cX11_told 150 = .ok (.getfield 121, 3) := by decide +kernel
theorem dX11_told_153 : decode cX11_told 153 = .ok (.invokevirtual 144, 3) := by decide +kernel
theorem dX11_told_156 : decode cX11_told 156 = .ok (.ireturn, 1) := by decide +kernel
theorem dX11_told_157 : decode cX11_told 157 = .ok (.aload_n 3, 1) := by decide +kernel
theorem dX11_told_158 : decode cX11_told 158 = .ok (.getfield 148, 3) := by decide +kernel
theorem dX11_told_161 : decode cX11_told 161 = .ok (.invokestatic 151, 3) := by decide +kernel
theorem dX11_told_164 : decode cX11_told 164 = .ok (.ireturn, 1) := by decide +kernel
theorem dX11_told_165 : decode cX11_told 165 = .ok (.aload_n 0, 1) := by decide +kernel
theorem dX11_told_166 : decode cX11_told 166 = .ok (.invokevirtual 156, 3) := by decide +kernel
theorem dX11_told_169 : decode cX11_told 169 = .ok (.aload_n 3, 1) := by decide +kernel
theorem dX11_told_170 : decode cX11_told 170 = .ok (.getfield 121, 3) := by decide +kernel
theorem dX11_told_173 : decode cX11_told 173 = .ok (.aload_n 0, 1) := by decide +kernel
theorem dX11_told_174 : decode cX11_told 174 = .ok (.getfield 37, 3) := by decide +kernel
theorem dX11_told_177 : decode cX11_told 177 = .ok (.getfield 115, 3) := by decide +kernel
theorem dX11_told_180 : decode cX11_told 180 = .ok (.invokevirtual 159, 3) := by decide +kernel
theorem dX11_told_183 : decode cX11_told 183 = .ok (.ireturn, 1) := by decide +kernel
theorem dX11_file_0 : decode cX11_file 0 = .ok (.aload_n 0, 1) := by decide +kernel
theorem dX11_file_1 : decode cX11_file 1 = .ok (.getfield 37, 3) := by decide +kernel
theorem dX11_file_4 : decode cX11_file 4 = .ok (.iload_n 1, 1) := by decide +kernel
theorem dX11_file_5 : decode cX11_file 5 = .ok (.invokevirtual 112, 3) := by decide +kernel
theorem dX11_file_8 : decode cX11_file 8 = .ok (.ifCond .eq 19, 3) := by decide +kernel
theorem dX11_file_11 : decode cX11_file 11 = .ok (.iload_n 2, 1) := by decide +kernel
theorem dX11_file_12 : decode cX11_file 12 = .ok (.invokestatic 162, 3) := by decide +kernel
theorem dX11_file_15 : decode cX11_file 15 = .ok (.ifCond .eq 12, 3) := by decide +kernel
theorem dX11_file_18 : decode cX11_file 18 = .ok (.iload_n 3, 1) := by decide +kernel
theorem dX11_file_19 : decode cX11_file 19 = .ok (.ifCond .lt 8, 3) := by decide +kernel
theorem dX11_file_22 : decode cX11_file 22 = .ok (.iload_n 3, 1) := by decide +kernel
theorem dX11_file_23 : decode cX11_file 23 = .ok (.iconst 1, 1) := by decide +kernel
theorem dX11_file_24 : decode cX11_file 24 = .ok (.if_icmp .le 6, 3) := by decide +kernel
theorem dX11_file_27 : decode cX11_file 27 = .ok (.bipush (-2), 2) := by decide +kernel
theorem dX11_file_29 : decode cX11_file 29 = .ok (.ireturn, 1) := by decide +kernel
theorem dX11_file_30 : decode cX11_file 30 = .ok (.iload_n 3, 1) := by decide +kernel
theorem dX11_file_31 : decode cX11_file 31 = .ok (.ifCond .ne 20, 3) := by decide +kernel
theorem dX11_file_34 : decode cX11_file 34 = .ok (.aload_n 0, 1) := by decide +kernel
theorem dX11_file_35 : decode cX11_file 35 = .ok (.getfield 37, 3) := by decide +kernel
theorem dX11_file_38 : decode cX11_file 38 = .ok (.getfield 118, 3) := by decide +kernel
theorem dX11_file_41 : decode cX11_file 41 = .ok (.iload_n 1, 1) := by decide +kernel
theorem dX11_file_42 : decode cX11_file 42 = .ok (.aaload, 1) := by decide +kernel
theorem dX11_file_43 : decode cX11_file 43 = .ok (.getfield 165, 3) := by decide +kernel
theorem dX11_file_46 : decode cX11_file 46 = .ok (.iload_n 2, 1) := by decide +kernel
theorem dX11_file_47 : decode cX11_file 47 = .ok (.iaload, 1) := by decide +kernel
theorem dX11_file_48 : decode cX11_file 48 = .ok (.goto 17, 3) := by decide +kernel
theorem dX11_file_51 : decode cX11_file 51 = .ok (.aload_n 0, 1) := by decide +kernel
theorem dX11_file_52 : decode cX11_file 52 = .ok (.getfield 37, 3) := by decide +kernel
theorem dX11_file_55 : decode cX11_file 55 = .ok (.getfield 118, 3) := by decide +kernel
theorem dX11_file_58 : decode cX11_file 58 = .ok (.iload_n 1, 1) := by decide +kernel
theorem dX11_file_59 : decode cX11_file 59 = .ok (.aaload, 1) := by decide +kernel
theorem dX11_file_60 : decode cX11_file 60 = .ok (.getfield 169, 3) := by decide +kernel
theorem dX11_file_63 : decode cX11_file 63 = .ok (.iload_n 2, 1) := by decide +kernel
theorem dX11_file_64 : decode cX11_file 64 = .ok (.iaload, 1) := by decide +kernel
theorem dX11_file_65 : decode cX11_file 65 = .ok (.ireturn, 1) := by decide +kernel
theorem dX11_feed_0 : decode cX11_feed 0 = .ok (.iload_n 1, 1) := by decide +kernel
theorem dX11_feed_1 : decode cX11_feed 1 = .ok (.ifCond .lt 10, 3) := by decide +kernel
theorem dX11_feed_4 : decode cX11_feed 4 = .ok (.iload_n 1, 1) := by decide +kernel
theorem dX11_feed_5 : decode cX11_feed 5 = .ok (.sipush 255, 3) := by decide +kernel
theorem dX11_feed_8 : decode cX11_feed 8 = .ok (.if_icmp .le 6, 3) := by decide +kernel
theorem dX11_feed_11 : decode cX11_feed 11 = .ok (.bipush (-2), 2) := by decide +kernel
theorem dX11_feed_13 : decode cX11_feed 13 = .ok (.ireturn, 1) := by decide +kernel
theorem dX11_feed_14 : decode cX11_feed 14 = .ok (.aload_n 0, 1) := by decide +kernel
theorem dX11_feed_15 : decode cX11_feed 15 = .ok (.getfield 30, 3) := by decide +kernel
theorem dX11_feed_18 : decode cX11_feed 18 = .ok (.iload_n 1, 1) := by decide +kernel
theorem dX11_feed_19 : decode cX11_feed 19 = .ok (.invokevirtual 94, 3) := by decide +kernel
theorem dX11_feed_22 : decode cX11_feed 22 = .ok (.ifCond .eq 13, 3) := by decide +kernel
theorem dX11_feed_25 : decode cX11_feed 25 = .ok (.aload_n 0, 1) := by decide +kernel
theorem dX11_feed_26 : decode cX11_feed 26 = .ok (.getfield 30, 3) := by decide +kernel
theorem dX11_feed_29 : decode cX11_feed 29 = .ok (.getfield 172, 3) := by decide +kernel
theorem dX11_feed_32 : decode cX11_feed 32 = .ok (.goto 5, 3) := by decide +kernel
theorem dX11_feed_35 : decode cX11_feed 35 = .ok (.bipush (-4), 2) := by decide +kernel
theorem dX11_feed_37 : decode cX11_feed 37 = .ok (.ireturn, 1) := by decide +kernel
theorem dX11_text_0 : decode cX11_text 0 = .ok (.aload_n 0, 1) := by decide +kernel
theorem dX11_text_1 : decode cX11_text 1 = .ok (.getfield 53, 3) := by decide +kernel
theorem dX11_text_4 : decode cX11_text 4 = .ok (.bipush 6, 2) := by decide +kernel
theorem dX11_text_6 : decode cX11_text 6 = .ok (.if_icmp .lt 6, 3) := by decide +kernel
theorem dX11_text_9 : decode cX11_text 9 = .ok (.bipush (-4), 2) := by decide +kernel
theorem dX11_text_11 : decode cX11_text 11 = .ok (.ireturn, 1) := by decide +kernel
theorem dX11_text_12 : decode cX11_text 12 = .ok (.aload_n 0, 1) := by decide +kernel
theorem dX11_text_13 : decode cX11_text 13 = .ok (.getfield 30, 3) := by decide +kernel
theorem dX11_text_16 : decode cX11_text 16 = .ok (.invokevirtual 98, 3) := by decide +kernel
theorem dX11_text_19 : decode cX11_text 19 = .ok (.istore_n 1, 1) := by decide +kernel
theorem dX11_text_20 : decode cX11_text 20 = .ok (.aload_n 0, 1) := by decide +kernel
theorem dX11_text_21 : decode cX11_text 21 = .ok (.getfield 30, 3) := by decide +kernel
theorem dX11_text_24 : decode cX11_text 24 = .ok (.invokevirtual 101, 3) := by decide +kernel
theorem dX11_text_27 : decode cX11_text 27 = .ok (.iload_n 1, 1) := by decide +kernel
theorem dX11_text_28 : decode cX11_text 28 = .ok (.iconst (-1), 1) := by decide +kernel
theorem dX11_text_29 : decode cX11_text 29 = .ok (.if_icmp .eq 8, 3) := by decide +kernel
theorem dX11_text_32 : decode cX11_text 32 = .ok (.bipush (-100), 2) := by decide +kernel
theorem dX11_text_34 : decode cX11_text 34 = .ok (.iload_n 1, 1) := by decide +kernel
theorem dX11_text_35 : decode cX11_text 35 = .ok (.isub, 1) := by decide +kernel
theorem dX11_text_36 : decode cX11_text 36 = .ok (.ireturn, 1) := by decide +kernel
theorem dX11_text_37 : decode cX11_text 37 = .ok (.aload_n 0, 1) := by decide +kernel
theorem dX11_text_38 : decode cX11_text 38 = .ok (.getfield 17, 3) := by decide +kernel
theorem dX11_text_41 : decode cX11_text 41 = .ok (.aload_n 0, 1) := by decide +kernel
theorem dX11_text_42 : decode cX11_text 42 = .ok (.getfield 53, 3) := by decide +kernel
theorem dX11_text_45 : decode cX11_text 45 = .ok (.aaload, 1) := by decide +kernel
theorem dX11_text_46 : decode cX11_text 46 = .ok (.aload_n 0, 1) := by decide +kernel
theorem dX11_text_47 : decode cX11_text 47 = .ok (.getfield 30, 3) := by decide +kernel
theorem dX11_text_50 : decode cX11_text 50 = .ok (.getfield 104, 3) := by decide +kernel
theorem dX11_text_53 : decode cX11_text 53 = .ok (.invokevirtual 108, 3) := by decide +kernel
theorem dX11_text_56 : decode cX11_text 56 = .ok (.aload_n 0, 1) := by decide +kernel
theorem dX11_text_57 : decode cX11_text 57 = .ok (.dup, 1) := by decide +kernel
theorem dX11_text_58 : decode cX11_text 58 = .ok (.getfield 53, 3) := by decide +kernel
theorem dX11_text_61 : decode cX11_text 61 = .ok (.iconst 1, 1) := by decide +kernel
theorem dX11_text_62 : decode cX11_text 62 = .ok (.iadd, 1) := by decide +kernel
theorem dX11_text_63 : decode cX11_text 63 = .ok (.putfield 53, 3) := by decide +kernel
theorem dX11_text_66 : decode cX11_text 66 = .ok (.aload_n 0, 1) := by decide +kernel
theorem dX11_text_67 : decode cX11_text 67 = .ok (.getfield 53, 3) := by decide +kernel
theorem dX11_text_70 : decode cX11_text 70 = .ok (.iconst 1, 1) := by decide +kernel
theorem dX11_text_71 : decode cX11_text 71 = .ok (.isub, 1) := by decide +kernel
theorem dX11_text_72 : decode cX11_text 72 = .ok (.ireturn, 1) := by decide +kernel
theorem dX11_force_0 : decode cX11_force 0 = .ok (.iload_n 1, 1) := by decide +kernel
theorem dX11_force_1 : decode cX11_force 1 = .ok (.ifCond .lt 11, 3) := by decide +kernel
theorem dX11_force_4 : decode cX11_force 4 = .ok (.iload_n 1, 1) := by decide +kernel
theorem dX11_force_5 : decode cX11_force 5 = .ok (.aload_n 0, 1) := by decide +kernel
theorem dX11_force_6 : decode cX11_force 6 = .ok (.getfield 53, 3) := by decide +kernel
theorem dX11_force_9 : decode cX11_force 9 = .ok (.if_icmp .lt 6, 3) := by decide +kernel
theorem dX11_force_12 : decode cX11_force 12 = .ok (.bipush (-2), 2) := by decide +kernel
theorem dX11_force_14 : decode cX11_force 14 = .ok (.ireturn, 1) := by decide +kernel
theorem dX11_force_15 : decode cX11_force 15 = .ok (.aload_n 0, 1) := by decide +kernel
theorem dX11_force_16 : decode cX11_force 16 = .ok (.getfield 37, 3) := by decide +kernel
theorem dX11_force_19 : decode cX11_force 19 = .ok (.getfield 175, 3) := by decide +kernel
theorem dX11_force_22 : decode cX11_force 22 = .ok (.istore_n 2, 1) := by decide +kernel
theorem dX11_force_23 : decode cX11_force 23 = .ok (.aload_n 0, 1) := by decide +kernel
theorem dX11_force_24 : decode cX11_force 24 = .ok (.getfield 37, 3) := by decide +kernel
theorem dX11_force_27 : decode cX11_force 27 = .ok (.iload_n 1, 1) := by decide +kernel
theorem dX11_force_28 : decode cX11_force 28 = .ok (.putfield 175, 3) := by decide +kernel
theorem dX11_force_31 : decode cX11_force 31 = .ok (.iload_n 2, 1) := by decide +kernel
theorem dX11_force_32 : decode cX11_force 32 = .ok (.ireturn, 1) := by decide +kernel
theorem dX11_write_0 : decode cX11_write 0 = .ok (.aload_n 0, 1) := by decide +kernel
theorem dX11_write_1 : decode cX11_write 1 = .ok (.getfield 37, 3) := by decide +kernel
theorem dX11_write_4 : decode cX11_write 4 = .ok (.iload_n 1, 1) := by decide +kernel
theorem dX11_write_5 : decode cX11_write 5 = .ok (.invokevirtual 112, 3) := by decide +kernel
theorem dX11_write_8 : decode cX11_write 8 = .ok (.ifCond .eq 21, 3) := by decide +kernel
theorem dX11_write_11 : decode cX11_write 11 = .ok (.iload_n 2, 1) := by decide +kernel
theorem dX11_write_12 : decode cX11_write 12 = .ok (.invokestatic 162, 3) := by decide +kernel
theorem dX11_write_15 : decode cX11_write 15 = .ok (.ifCond .eq 14, 3) := by decide +kernel
theorem dX11_write_18 : decode cX11_write 18 = .ok (.iload_n 3, 1) := by decide +kernel
theorem dX11_write_19 : decode cX11_write 19 = .ok (.ifCond .lt 10, 3) := by decide +kernel
theorem dX11_write_22 : decode cX11_write 22 = .ok (.iload_n 3, 1) := by decide +kernel
theorem dX11_write_23 : decode cX11_write 23 = .ok (.sipush 999, 3) := by decide +kernel
theorem dX11_write_26 : decode cX11_write 26 = .ok (.if_icmp .le 6, 3) := by decide +kernel
theorem dX11_write_29 : decode cX11_write 29 = .ok (.bipush (-2), 2) := by decide +kernel
theorem dX11_write_31 : decode cX11_write 31 = .ok (.ireturn, 1) := by decide +kernel
theorem dX11_write_32 : decode cX11_write 32 = .ok (.aload_n 0, 1) := by decide +kernel
theorem dX11_write_33 : decode cX11_write 33 = .ok (.getfield 37, 3) := by decide +kernel
theorem dX11_write_36 : decode cX11_write 36 = .ok (.getfield 118, 3) := by decide +kernel
theorem dX11_write_39 : decode cX11_write 39 = .ok (.iload_n 1, 1) := by decide +kernel
theorem dX11_write_40 : decode cX11_write 40 = .ok (.aaload, 1) := by decide +kernel
theorem dX11_write_41 : decode cX11_write 41 = .ok (.astore 4, 2) := by decide +kernel
theorem dX11_write_43 : decode cX11_write 43 = .ok (.aload 4, 2) := by decide +kernel
theorem dX11_write_45 : decode cX11_write 45 = .ok (.aload_n 0, 1) := by decide +kernel
theorem dX11_write_46 : decode cX11_write 46 = .ok (.getfield 37, 3) := by decide +kernel
theorem dX11_write_49 : decode cX11_write 49 = .ok (.getfield 115, 3) := by decide +kernel
