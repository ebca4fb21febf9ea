theorem dX12_file_39 : decode cX12_file 39 = .ok (.imul, 1) := by decide +kernel
theorem dX12_file_40 : decode cX12_file 40 = .ok (.iload_n 2, 1) := by decide +kernel
theorem dX12_file_41 : decode cX12_file 41 = .ok (.iadd, 1) := by decide +kernel
theorem dX12_file_42 : decode cX12_file 42 = .ok (.iaload, 1) := by decide +kernel
theorem dX12_file_43 : decode cX12_file 43 = .ok (.goto 14, 3) := by decide +kernel
theorem dX12_file_46 : decode cX12_file 46 = .ok (.aload_n 0, 1) := by decide +kernel
theorem dX12_file_47 : decode cX12_file 47 = .ok (.getfield 32, 3) := by decide +kernel
theorem dX12_file_50 : decode cX12_file 50 = .ok (.bipush 8, 2) := by decide +kernel
theorem dX12_file_52 : decode cX12_file 52 = .ok (.iload_n 1, 1) := by decide +kernel
theorem dX12_file_53 : decode cX12_file 53 = .ok (.imul, 1) := by decide +kernel
theorem dX12_file_54 : decode cX12_file 54 = .ok (.iload_n 2, 1) := by decide +kernel
theorem dX12_file_55 : decode cX12_file 55 = .ok (.iadd, 1) := by decide +kernel
theorem dX12_file_56 : decode cX12_file 56 = .ok (.iaload, 1) := by decide +kernel
theorem dX12_file_57 : decode cX12_file 57 = .ok (.ireturn, 1) := by decide +kernel
theorem dX12_reads_0 : decode cX12_reads 0 = .ok (.aload_n 0, 1) := by decide +kernel
theorem dX12_reads_1 : decode cX12_reads 1 = .ok (.getfield 23, 3) := by decide +kernel
theorem dX12_reads_4 : decode cX12_reads 4 = .ok (.iload_n 1, 1) := by decide +kernel
theorem dX12_reads_5 : decode cX12_reads 5 = .ok (.iaload, 1) := by decide +kernel
theorem dX12_reads_6 : decode cX12_reads 6 = .ok (.istore_n 2, 1) := by decide +kernel
theorem dX12_reads_7 : decode cX12_reads 7 = .ok (.aload_n 0, 1) := by decide +kernel
theorem dX12_reads_8 : decode cX12_reads 8 = .ok (.getfield 26, 3) := by decide +kernel
theorem dX12_reads_11 : decode cX12_reads 11 = .ok (.iconst 2, 1) := by decide +kernel
theorem dX12_reads_12 : decode cX12_reads 12 = .ok (.iload_n 1, 1) := by decide +kernel
theorem dX12_reads_13 : decode cX12_reads 13 = .ok (.imul, 1) := by decide +kernel
theorem dX12_reads_14 : decode cX12_reads 14 = .ok (.iaload, 1) := by decide +kernel
theorem dX12_reads_15 : decode cX12_reads 15 = .ok (.istore_n 3, 1) := by decide +kernel
theorem dX12_reads_16 : decode cX12_reads 16 = .ok (.aload_n 0, 1) := by decide +kernel
theorem dX12_reads_17 : decode cX12_reads 17 = .ok (.getfield 97, 3) := by decide +kernel
theorem dX12_reads_20 : decode cX12_reads 20 = .ok (.aload_n 0, 1) := by decide +kernel
theorem dX12_reads_21 : decode cX12_reads 21 = .ok (.getfield 26, 3) := by decide +kernel
theorem dX12_reads_24 : decode cX12_reads 24 = .ok (.iconst 2, 1) := by decide +kernel
theorem dX12_reads_25 : decode cX12_reads 25 = .ok (.iload_n 1, 1) := by decide +kernel
theorem dX12_reads_26 : decode cX12_reads 26 = .ok (.imul, 1) := by decide +kernel
theorem dX12_reads_27 : decode cX12_reads 27 = .ok (.iconst 1, 1) := by decide +kernel
theorem dX12_reads_28 : decode cX12_reads 28 = .ok (.iadd, 1) := by decide +kernel
theorem dX12_reads_29 : decode cX12_reads 29 = .ok (.iaload, 1) := by decide +kernel
theorem dX12_reads_30 : decode cX12_reads 30 = .ok (.isub, 1) := by decide +kernel
theorem dX12_reads_31 : decode cX12_reads 31 = .ok (.istore 4, 2) := by decide +kernel
theorem dX12_reads_33 : decode cX12_reads 33 = .ok (.iload_n 2, 1) := by decide +kernel
theorem dX12_reads_34 : decode cX12_reads 34 = .ok (.ifCond .ne 17, 3) := by decide +kernel
theorem dX12_reads_37 : decode cX12_reads 37 = .ok (.iload 4, 2) := by decide +kernel
theorem dX12_reads_39 : decode cX12_reads 39 = .ok (.sipush 300, 3) := by decide +kernel
theorem dX12_reads_42 : decode cX12_reads 42 = .ok (.if_icmp .gt 7, 3) := by decide +kernel
theorem dX12_reads_45 : decode cX12_reads 45 = .ok (.iconst 1, 1) := by decide +kernel
theorem dX12_reads_46 : decode cX12_reads 46 = .ok (.goto 4, 3) := by decide +kernel
theorem dX12_reads_49 : decode cX12_reads 49 = .ok (.iconst 0, 1) := by decide +kernel
theorem dX12_reads_50 : decode cX12_reads 50 = .ok (.ireturn, 1) := by decide +kernel
theorem dX12_reads_51 : decode cX12_reads 51 = .ok (.iload_n 2, 1) := by decide +kernel
theorem dX12_reads_52 : decode cX12_reads 52 = .ok (.iconst 1, 1) := by decide +kernel
theorem dX12_reads_53 : decode cX12_reads 53 = .ok (.if_icmp .eq 8, 3) := by decide +kernel
theorem dX12_reads_56 : decode cX12_reads 56 = .ok (.iload_n 2, 1) := by decide +kernel
theorem dX12_reads_57 : decode cX12_reads 57 = .ok (.iconst 3, 1) := by decide +kernel
theorem dX12_reads_58 : decode cX12_reads 58 = .ok (.if_icmp .ne 33, 3) := by decide +kernel
theorem dX12_reads_61 : decode cX12_reads 61 = .ok (.iload 4, 2) := by decide +kernel
theorem dX12_reads_63 : decode cX12_reads 63 = .ok (.bipush 20, 2) := by decide +kernel
theorem dX12_reads_65 : decode cX12_reads 65 = .ok (.iload_n 3, 1) := by decide +kernel
theorem dX12_reads_66 : decode cX12_reads 66 = .ok (.imul, 1) := by decide +kernel
theorem dX12_reads_67 : decode cX12_reads 67 = .ok (.bipush 20, 2) := by decide +kernel
theorem dX12_reads_69 : decode cX12_reads 69 = .ok (.iadd, 1) := by decide +kernel
theorem dX12_reads_70 : decode cX12_reads 70 = .ok (.if_icmp .gt 19, 3) := by decide +kernel
theorem dX12_reads_73 : decode cX12_reads 73 = .ok (.iload_n 2, 1) := by decide +kernel
theorem dX12_reads_74 : decode cX12_reads 74 = .ok (.iconst 1, 1) := by decide +kernel
theorem dX12_reads_75 : decode cX12_reads 75 = .ok (.if_icmp .eq 10, 3) := by decide +kernel
theorem dX12_reads_78 : decode cX12_reads 78 = .ok (.iload 4, 2) := by decide +kernel
theorem dX12_reads_80 : decode cX12_reads 80 = .ok (.iconst 2, 1) := by decide +kernel
theorem dX12_reads_81 : decode cX12_reads 81 = .ok (.irem, 1) := by decide +kernel
theorem dX12_reads_82 : decode cX12_reads 82 = .ok (.ifCond .ne 7, 3) := by decide +kernel
theorem dX12_reads_85 : decode cX12_reads 85 = .ok (.iconst 1, 1) := by decide +kernel
theorem dX12_reads_86 : decode cX12_reads 86 = .ok (.goto 4, 3) := by decide +kernel
theorem dX12_reads_89 : decode cX12_reads 89 = .ok (.iconst 0, 1) := by decide +kernel
theorem dX12_reads_90 : decode cX12_reads 90 = .ok (.ireturn, 1) := by decide +kernel
theorem dX12_reads_91 : decode cX12_reads 91 = .ok (.iload_n 2, 1) := by decide +kernel
theorem dX12_reads_92 : decode cX12_reads 92 = .ok (.iconst 4, 1) := by decide +kernel
theorem dX12_reads_93 : decode cX12_reads 93 = .ok (.if_icmp .ne 14, 3) := by decide +kernel
theorem dX12_reads_96 : decode cX12_reads 96 = .ok (.aload_n 0, 1) := by decide +kernel
theorem dX12_reads_97 : decode cX12_reads 97 = .ok (.getfield 97, 3) := by decide +kernel
theorem dX12_reads_100 : decode cX12_reads 100 = .ok (.bipush 7, 2) := by decide +kernel
theorem dX12_reads_102 : decode cX12_reads 102 = .ok (.irem, 1) := by decide +kernel
theorem dX12_reads_103 : decode cX12_reads 103 = .ok (.iload_n 3, 1) := by decide +kernel
theorem dX12_reads_104 : decode cX12_reads 104 = .ok (.if_icmp .eq 7, 3) := by decide +kernel
theorem dX12_reads_107 : decode cX12_reads 107 = .ok (.iconst 1, 1) := by decide +kernel
theorem dX12_reads_108 : decode cX12_reads 108 = .ok (.goto 4, 3) := by decide +kernel
theorem dX12_reads_111 : decode cX12_reads 111 = .ok (.iconst 0, 1) := by decide +kernel
theorem dX12_reads_112 : decode cX12_reads 112 = .ok (.ireturn, 1) := by decide +kernel
theorem dX12_stampsOf_0 : decode cX12_stampsOf 0 = .ok (.aload_n 0, 1) := by decide +kernel
theorem dX12_stampsOf_1 : decode cX12_stampsOf 1 = .ok (.getfield 23, 3) := by decide +kernel
theorem dX12_stampsOf_4 : decode cX12_stampsOf 4 = .ok (.iload_n 1, 1) := by decide +kernel
theorem dX12_stampsOf_5 : decode cX12_stampsOf 5 = .ok (.iaload, 1) := by decide +kernel
theorem dX12_stampsOf_6 : decode cX12_stampsOf 6 = .ok (.istore_n 2, 1) := by decide +kernel
theorem dX12_stampsOf_7 : decode cX12_stampsOf 7 = .ok (.aload_n 0, 1) := by decide +kernel
theorem dX12_stampsOf_8 : decode cX12_stampsOf 8 = .ok (.getfield 97, 3) := by decide +kernel
theorem dX12_stampsOf_11 : decode cX12_stampsOf 11 = .ok (.aload_n 0, 1) := by decide +kernel
theorem dX12_stampsOf_12 : decode cX12_stampsOf 12 = .ok (.getfield 26, 3) := by decide +kernel
theorem dX12_stampsOf_15 : decode cX12_stampsOf 15 = .ok (.iconst 2, 1) := by decide +kernel
theorem dX12_stampsOf_16 : decode cX12_stampsOf 16 = .ok (.iload_n 1, 1) := by decide +kernel
theorem dX12_stampsOf_17 : decode cX12_stampsOf 17 = .ok (.imul, 1) := by decide +kernel
theorem dX12_stampsOf_18 : decode cX12_stampsOf 18 = .ok (.iaload, 1) := by decide +kernel
theorem dX12_stampsOf_19 : decode cX12_stampsOf 19 = .ok (.isub, 1) := by decide +kernel
theorem dX12_stampsOf_20 : decode cX12_stampsOf 20 = .ok (.istore_n 3, 1) := by decide +kernel
theorem dX12_stampsOf_21 : decode cX12_stampsOf 21 = .ok (.iload_n 2, 1) := by decide +kernel
theorem dX12_stampsOf_22 : decode cX12_stampsOf 22 = .ok (.iconst 1, 1) := by decide +kernel
theorem dX12_stampsOf_23 : decode cX12_stampsOf 23 = .ok (.if_icmp .ne 7, 3) := by decide +kernel
theorem dX12_stampsOf_26 : decode cX12_stampsOf 26 = .ok (.iload_n 3, 1) := by decide +kernel
theorem dX12_stampsOf_27 : decode cX12_stampsOf 27 = .ok (.goto 41, 3) := by decide +kernel
theorem dX12_stampsOf_30 : decode cX12_stampsOf 30 = .ok (.iload_n 2, 1) := by decide +kernel
theorem dX12_stampsOf_31 : decode cX12_stampsOf 31 = .ok (.iconst 3, 1) := by decide +kernel
theorem dX12_stampsOf_32 : decode cX12_stampsOf 32 = .ok (.if_icmp .ne 9, 3) := by decide +kernel
theorem dX12_stampsOf_35 : decode cX12_stampsOf 35 = .ok (.iload_n 3, 1) := by decide +kernel
theorem dX12_stampsOf_36 : decode cX12_stampsOf 36 = .ok (.iconst 2, 1) := by decide +kernel
theorem dX12_stampsOf_37 : decode cX12_stampsOf 37 = .ok (.idiv, 1) := by decide +kernel
theorem dX12_stampsOf_38 : decode cX12_stampsOf 38 = .ok (.goto 30, 3) := by decide +kernel
theorem dX12_stampsOf_41 : decode cX12_stampsOf 41 = .ok (.iload_n 2, 1) := by decide +kernel
theorem dX12_stampsOf_42 : decode cX12_stampsOf 42 = .ok (.iconst 4, 1) := by decide +kernel
theorem dX12_stampsOf_43 : decode cX12_stampsOf 43 = .ok (.if_icmp .ne 12, 3) := by decide +kernel
theorem dX12_stampsOf_46 : decode cX12_stampsOf 46 = .ok (.aload_n 0, 1) := by decide +kernel
theorem dX12_stampsOf_47 : decode cX12_stampsOf 47 = .ok (.getfield 97, 3) := by decide +kernel
theorem dX12_stampsOf_50 : decode cX12_stampsOf 50 = .ok (.iconst 1, 1) := by decide +kernel
theorem dX12_stampsOf_51 : decode cX12_stampsOf 51 = .ok (.iadd, 1) := by decide +kernel
theorem dX12_stampsOf_52 : decode cX12_stampsOf 52 = .ok (.goto 16, 3) := by decide +kernel
theorem dX12_stampsOf_55 : decode cX12_stampsOf 55 = .ok (.iload_n 2, 1) := by decide +kernel
theorem dX12_stampsOf_56 : decode cX12_stampsOf 56 = .ok (.iconst 5, 1) := by decide +kernel
theorem dX12_stampsOf_57 : decode cX12_stampsOf 57 = .ok (.if_icmp .ne 7, 3) := by decide +kernel
theorem dX12_stampsOf_60 : decode cX12_stampsOf 60 = .ok (.iconst 0, 1) := by decide +kernel
theorem dX12_stampsOf_61 : decode cX12_stampsOf 61 = .ok (.goto 7, 3) := by decide +kernel
theorem dX12_stampsOf_64 : decode cX12_stampsOf 64 = .ok (.aload_n 0, 1) := by decide +kernel
theorem dX12_stampsOf_65 : decode cX12_stampsOf 65 = .ok (.getfield 97, 3) := by decide +kernel
theorem dX12_stampsOf_68 : decode cX12_stampsOf 68 = .ok (.ireturn, 1) := by decide +kernel
theorem dX12_keepsOf_0 : decode cX12_keepsOf 0 = .ok (.aload_n 0, 1) := by decide +kernel
theorem dX12_keepsOf_1 : decode cX12_keepsOf 1 = .ok (.getfield 23, 3) := by decide +kernel
theorem dX12_keepsOf_4 : decode cX12_keepsOf 4 = .ok (.iload_n 1, 1) := by decide +kernel
theorem dX12_keepsOf_5 : decode cX12_keepsOf 5 = .ok (.iaload, 1) := by decide +kernel
theorem dX12_keepsOf_6 : decode cX12_keepsOf 6 = .ok (.iconst 3, 1) := by decide +kernel
theorem dX12_keepsOf_7 : decode cX12_keepsOf 7 = .ok (.if_icmp .ne 16, 3) := by decide +kernel
theorem dX12_keepsOf_10 : decode cX12_keepsOf 10 = .ok (.iload_n 2, 1) := by decide +kernel
theorem dX12_keepsOf_11 : decode cX12_keepsOf 11 = .ok (.sipush 899, 3) := by decide +kernel
theorem dX12_keepsOf_14 : decode cX12_keepsOf 14 = .ok (.if_icmp .le 9, 3) := by decide +kernel
theorem dX12_keepsOf_17 : decode cX12_keepsOf 17 = .ok (.sipush 899, 3) := by decide +kernel
theorem dX12_keepsOf_20 : decode cX12_keepsOf 20 = .ok (.goto 23, 3) := by decide +kernel
theorem dX12_keepsOf_23 : decode cX12_keepsOf 23 = .ok (.aload_n 0, 1) := by decide +kernel
theorem dX12_keepsOf_24 : decode cX12_keepsOf 24 = .ok (.getfield 23, 3) := by decide +kernel
theorem dX12_keepsOf_27 : decode cX12_keepsOf 27 = .ok (.iload_n 1, 1) := by decide +kernel
theorem dX12_keepsOf_28 : decode cX12_keepsOf 28 = .ok (.iaload, 1) := by decide +kernel
theorem dX12_keepsOf_29 : decode cX12_keepsOf 29 = .ok (.iconst 5, 1) := by decide +kernel
theorem dX12_keepsOf_30 : decode cX12_keepsOf 30 = .ok (.if_icmp .ne 12, 3) := by decide +kernel
theorem dX12_keepsOf_33 : decode cX12_keepsOf 33 = .ok (.iload_n 2, 1) := by decide +kernel
theorem dX12_keepsOf_34 : decode cX12_keepsOf 34 = .ok (.iload_n 2, 1) := by decide +kernel
theorem dX12_keepsOf_35 : decode cX12_keepsOf 35 = .ok (.bipush 10, 2) := by decide +kernel
theorem dX12_keepsOf_37 : decode cX12_keepsOf 37 = .ok (.irem, 1) := by decide +kernel
theorem dX12_keepsOf_38 : decode cX12_keepsOf 38 = .ok (.isub, 1) := by decide +kernel
theorem dX12_keepsOf_39 : decode cX12_keepsOf 39 = .ok (.goto 4, 3) := by decide +kernel
theorem dX12_keepsOf_42 : decode cX12_keepsOf 42 = .ok (.iload_n 2, 1) := by decide +kernel
theorem dX12_keepsOf_43 : decode cX12_keepsOf 43 = .ok (.ireturn, 1) := by decide +kernel
theorem dX12_roomOf_0 : decode cX12_roomOf 0 = .ok (.aload_n 0, 1) := by decide +kernel
theorem dX12_roomOf_1 : decode cX12_roomOf 1 = .ok (.getfield 23, 3) := by decide +kernel
theorem dX12_roomOf_4 : decode cX12_roomOf 4 = .ok (.iload_n 1, 1) := by decide +kernel
theorem dX12_roomOf_5 : decode cX12_roomOf 5 = .ok (.iaload, 1) := by decide +kernel
theorem dX12_roomOf_6 : decode cX12_roomOf 6 = .ok (.istore_n 2, 1) := by decide +kernel
theorem dX12_roomOf_7 : decode cX12_roomOf 7 = .ok (.iload_n 2, 1) := by decide +kernel
theorem dX12_roomOf_8 : decode cX12_roomOf 8 = .ok (.iconst 1, 1) := by decide +kernel
theorem dX12_roomOf_9 : decode cX12_roomOf 9 = .ok (.if_icmp .eq 8, 3) := by decide +kernel
theorem dX12_roomOf_12 : decode cX12_roomOf 12 = .ok (.iload_n 2, 1) := by decide +kernel
theorem dX12_roomOf_13 : decode cX12_roomOf 13 = .ok (.iconst 3, 1) := by decide +kernel
theorem dX12_roomOf_14 : decode cX12_roomOf 14 = .ok (.if_icmp .ne 18, 3) := by decide +kernel
theorem dX12_roomOf_17 : decode cX12_roomOf 17 = .ok (.iconst 1, 1) := by decide +kernel
theorem dX12_roomOf_18 : decode cX12_roomOf 18 = .ok (.aload_n 0, 1) := by decide +kernel
theorem dX12_roomOf_19 : decode cX12_roomOf 19 = .ok (.getfield 26, 3) := by decide +kernel
theorem dX12_roomOf_22 : decode cX12_roomOf 22 = .ok (.iconst 2, 1) := by decide +kernel
theorem dX12_roomOf_23 : decode cX12_roomOf 23 = .ok (.iload_n 1, 1) := by decide +kernel
theorem dX12_roomOf_24 : decode cX12_roomOf 24 = .ok (.imul, 1) := by decide +kernel
theorem dX12_roomOf_25 : decode cX12_roomOf 25 = .ok (.iaload, 1) := by decide +kernel
theorem dX12_roomOf_26 : decode cX12_roomOf 26 = .ok (.iconst 2, 1) := by decide +kernel
theorem dX12_roomOf_27 : decode cX12_roomOf 27 = .ok (.idiv, 1) := by decide +kernel
theorem dX12_roomOf_28 : decode cX12_roomOf 28 = .ok (.iadd, 1) := by decide +kernel
theorem dX12_roomOf_29 : decode cX12_roomOf 29 = .ok (.goto 21, 3) := by decide +kernel
theorem dX12_roomOf_32 : decode cX12_roomOf 32 = .ok (.iload_n 2, 1) := by decide +kernel
theorem dX12_roomOf_33 : decode cX12_roomOf 33 = .ok (.iconst 5, 1) := by decide +kernel
theorem dX12_roomOf_34 : decode cX12_roomOf 34 = .ok (.if_icmp .ne 14, 3) := by decide +kernel
theorem dX12_roomOf_37 : decode cX12_roomOf 37 = .ok (.aload_n 0, 1) := by decide +kernel
theorem dX12_roomOf_38 : decode cX12_roomOf 38 = .ok (.getfield 26, 3) := by decide +kernel
theorem dX12_roomOf_41 : decode cX12_roomOf 41 = .ok (.iconst 2, 1) := by decide +kernel
theorem dX12_roomOf_42 : decode cX12_roomOf 42 = .ok (.iload_n 1, 1) := by decide +kernel
theorem dX12_roomOf_43 : decode cX12_roomOf 43 = .ok (.imul, 1) := by decide +kernel
theorem dX12_roomOf_44 : decode cX12_roomOf 44 = .ok (.iaload, 1) := by decide +kernel
theorem dX12_roomOf_45 : decode cX12_roomOf 45 = .ok (.goto 5, 3) := by decide +kernel
theorem dX12_roomOf_48 : decode cX12_roomOf 48 = .ok (.bipush 8, 2) := by decide +kernel
theorem dX12_roomOf_50 : decode cX12_roomOf 50 = .ok (.ireturn, 1) := by decide +kernel
theorem dX12_hasOf_0 : decode cX12_hasOf 0 = .ok (.iconst 0, 1) := by decide +kernel
theorem dX12_hasOf_1 : decode cX12_hasOf 1 = .ok (.istore_n 2, 1) := by decide +kernel
theorem dX12_hasOf_2 : decode cX12_hasOf 2 = .ok (.iconst 0, 1) := by decide +kernel
theorem dX12_hasOf_3 : decode cX12_hasOf 3 = .ok (.istore_n 3, 1) := by decide +kernel
theorem dX12_hasOf_4 : decode cX12_hasOf 4 = .ok (.iload_n 3, 1) := by decide +kernel
theorem dX12_hasOf_5 : decode cX12_hasOf 5 = .ok (.bipush 8, 2) := by decide +kernel
theorem dX12_hasOf_7 : decode cX12_hasOf 7 = .ok (.if_icmp .ge 32, 3) := by decide +kernel
theorem dX12_hasOf_10 : decode cX12_hasOf 10 = .ok (.iload_n 2, 1) := by decide +kernel
theorem dX12_hasOf_11 : decode cX12_hasOf 11 = .ok (.aload_n 0, 1) := by decide +kernel
theorem dX12_hasOf_12 : decode cX12_hasOf 12 = .ok (.getfield 29, 3) := by decide +kernel
theorem dX12_hasOf_15 : decode cX12_hasOf 15 = .ok (.bipush 8, 2) := by decide +kernel
theorem dX12_hasOf_17 : decode cX12_hasOf 17 = .ok (.iload_n 1, 1) := by decide +kernel
theorem dX12_hasOf_18 : decode cX12_hasOf 18 = .ok (.imul, 1) := by decide +kernel
theorem dX12_hasOf_19 : decode cX12_hasOf 19 = .ok (.iload_n 3, 1) := by decide +kernel
theorem dX12_hasOf_20 : decode cX12_hasOf 20 = .ok (.iadd, 1) := by decide +kernel
theorem dX12_hasOf_21 : decode cX12_hasOf 21 = .ok (.iaload, 1) := by decide +kernel
theorem dX12_hasOf_22 : decode cX12_hasOf 22 = .ok (.iconst (-1), 1) := by decide +kernel
theorem dX12_hasOf_23 : decode cX12_hasOf 23 = .ok (.if_icmp .ne 7, 3) := by decide +kernel
theorem dX12_hasOf_26 : decode cX12_hasOf 26 = .ok (.iconst 0, 1) := by decide +kernel
theorem dX12_hasOf_27 : decode cX12_hasOf 27 = .ok (.goto 4, 3) := by decide +kernel
theorem dX12_hasOf_30 : decode cX12_hasOf 30 = .ok (.iconst 1, 1) := by decide +kernel
theorem dX12_hasOf_31 : decode cX12_hasOf 31 = .ok (.iadd, 1) := by decide +kernel
theorem dX12_hasOf_32 : decode cX12_hasOf 32 = .ok (.istore_n 2, 1) := by decide +kernel
theorem dX12_hasOf_33 : decode cX12_hasOf 33 = .ok (.iinc 3 1, 3) := by decide +kernel
theorem dX12_hasOf_36 : decode cX12_hasOf 36 = .ok (.goto (-32), 3) := by decide +kernel
theorem dX12_hasOf_39 : decode cX12_hasOf 39 = .ok (.iload_n 2, 1) := by decide +kernel
theorem dX12_hasOf_40 : decode cX12_hasOf 40 = .ok (.ireturn, 1) := by decide +kernel
theorem dX12_hasRoom_0 : decode cX12_hasRoom 0 = .ok (.aload_n 0, 1) := by decide +kernel
theorem dX12_hasRoom_1 : decode cX12_hasRoom 1 = .ok (.getfield 29, 3) := by decide +kernel
theorem dX12_hasRoom_4 : decode cX12_hasRoom 4 = .ok (.bipush 8, 2) := by decide +kernel
theorem dX12_hasRoom_6 : decode cX12_hasRoom 6 = .ok (.iload_n 1, 1) := by decide +kernel
theorem dX12_hasRoom_7 : decode cX12_hasRoom 7 = .ok (.imul, 1) := by decide +kernel
theorem dX12_hasRoom_8 : decode cX12_hasRoom 8 = .ok (.iload_n 2, 1) := by decide +kernel
theorem dX12_hasRoom_9 : decode cX12_hasRoom 9 = .ok (.iadd, 1) := by decide +kernel
theorem dX12_hasRoom_10 : decode cX12_hasRoom 10 = .ok (.iaload, 1) := by decide +kernel
theorem dX12_hasRoom_11 : decode cX12_hasRoom 11 = .ok (.iconst (-1), 1) := by decide +kernel
theorem dX12_hasRoom_12 : decode cX12_hasRoom 12 = .ok (.if_icmp .ne 16, 3) := by decide +kernel
theorem dX12_hasRoom_15 : decode cX12_hasRoom 15 = .ok (.aload_n 0, 1) := by decide +kernel
theorem dX12_hasRoom_16 : decode cX12_hasRoom 16 = .ok (.iload_n 1, 1) := by decide +kernel
theorem dX12_hasRoom_17 : decode cX12_hasRoom 17 = .ok (.invokevirtual 121, 3) := by decide +kernel
theorem dX12_hasRoom_20 : decode cX12_hasRoom 20 = .ok (.aload_n 0, 1) := by decide +kernel
theorem dX12_hasRoom_21 : decode cX12_hasRoom 21 = .ok (.iload_n 1, 1) := by decide +kernel
theorem dX12_hasRoom_22 : decode cX12_hasRoom 22 = .ok (.invokevirtual 118, 3) := by decide +kernel
theorem dX12_hasRoom_25 : decode cX12_hasRoom 25 = .ok (.if_icmp .ge 7, 3) := by decide +kernel
theorem dX12_hasRoom_28 : decode cX12_hasRoom 28 = .ok (.iconst 1, 1) := by decide +kernel
theorem dX12_hasRoom_29 : decode cX12_hasRoom 29 = .ok (.goto 4, 3) := by decide +kernel
theorem dX12_hasRoom_32 : decode cX12_hasRoom 32 = .ok (.iconst 0, 1) := by decide +kernel
theorem dX12_hasRoom_33 : decode cX12_hasRoom 33 = .ok (.ireturn, 1) := by decide +kernel
theorem dX12_feed_0 : decode cX12_feed 0 = .ok (.iload_n 1, 1) := by decide +kernel
theorem dX12_feed_1 : decode cX12_feed 1 = .ok (.i2l, 1) := by decide +kernel
theorem dX12_feed_2 : decode cX12_feed 2 = .ok (.lconst 0, 1) := by decide +kernel
theorem dX12_feed_3 : decode cX12_feed 3 = .ok (.ldc2_w 130, 3) := by decide +kernel
theorem dX12_feed_6 : decode cX12_feed 6 = .ok (.invokestatic 73, 3) := by decide +kernel
theorem dX12_feed_9 : decode cX12_feed 9 = .ok (.ifCond .ne 6, 3) := by decide +kernel
theorem dX12_feed_12 : decode cX12_feed 12 = .ok (.bipush (-2), 2) := by decide +kernel
theorem dX12_feed_14 : decode cX12_feed 14 = .ok (.ireturn, 1) := by decide +kernel
theorem dX12_feed_15 : decode cX12_feed 15 = .ok (.aload_n 0, 1) := by decide +kernel
theorem dX12_feed_16 : decode cX12_feed 16 = .ok (.getfield 132, 3) := by decide +kernel
theorem dX12_feed_19 : decode cX12_feed 19 = .ok (.sipush 160, 3) := by decide +kernel
theorem dX12_feed_22 : decode cX12_feed 22 = .ok (.if_icmp .ne 6, 3) := by decide +kernel
theorem dX12_feed_25 : decode cX12_feed 25 = .ok (.bipush (-4), 2) := by decide +kernel
theorem dX12_feed_27 : decode cX12_feed 27 = .ok (.ireturn, 1) := by decide +kernel
theorem dX12_feed_28 : decode cX12_feed 28 = .ok (.aload_n 0, 1) := by decide +kernel
theorem dX12_feed_29 : decode cX12_feed 29 = .ok (.getfield 20, 3) := by decide +kernel
theorem dX12_feed_32 : decode cX12_feed 32 = .ok (.aload_n 0, 1) := by decide +kernel
theorem dX12_feed_33 : decode cX12_feed 33 = .ok (.getfield 132, 3) := by decide +kernel
theorem dX12_feed_36 : decode cX12_feed 36 = .ok (.iload_n 1, 1) := by decide +kernel
theorem dX12_feed_37 : decode cX12_feed 37 = .ok (.iastore, 1) := by decide +kernel
theorem dX12_feed_38 : decode cX12_feed 38 = .ok (.aload_n 0, 1) := by decide +kernel
theorem dX12_feed_39 : decode cX12_feed 39 = .ok (.dup, 1) := by decide +kernel
theorem dX12_feed_40 : decode cX12_feed 40 = .ok (.getfield 132, 3) := by decide +kernel
theorem dX12_feed_43 : decode cX12_feed 43 = .ok (.iconst 1, 1) := by decide +kernel
theorem dX12_feed_44 : decode cX12_feed 44 = .ok (.iadd, 1) := by decide +kernel
theorem dX12_feed_45 : decode cX12_feed 45 = .ok (.putfield 132, 3) := by decide +kernel
theorem dX12_feed_48 : decode cX12_feed 48 = .ok (.aload_n 0, 1) := by decide +kernel
theorem dX12_feed_49 : decode cX12_feed 49 = .ok (.getfield 132, 3) := by decide +kernel
theorem dX12_feed_52 : decode cX12_feed 52 = .ok (.ireturn, 1) := by decide +kernel
theorem dX12_byteAt_0 : decode cX12_byteAt 0 = .ok (.iload_n 1, 1) := by decide +kernel
theorem dX12_byteAt_1 : decode cX12_byteAt 1 = .ok (.aload_n 0, 1) := by decide +kernel
theorem dX12_byteAt_2 : decode cX12_byteAt 2 = .ok (.getfield 135, 3) := by decide +kernel
theorem dX12_byteAt_5 : decode cX12_byteAt 5 = .ok (.if_icmp .ge 17, 3) := by decide +kernel
theorem dX12_byteAt_8 : decode cX12_byteAt 8 = .ok (.aload_n 0, 1) := by decide +kernel
theorem dX12_byteAt_9 : decode cX12_byteAt 9 = .ok (.getfield 13, 3) := by decide +kernel
theorem dX12_byteAt_12 : decode cX12_byteAt 12 = .ok (.aload_n 0, 1) := by decide +kernel
theorem dX12_byteAt_13 : decode cX12_byteAt 13 = .ok (.getfield 138, 3) := by decide +kernel
theorem dX12_byteAt_16 : decode cX12_byteAt 16 = .ok (.iload_n 1, 1) := by decide +kernel
theorem dX12_byteAt_17 : decode cX12_byteAt 17 = .ok (.iadd, 1) := by decide +kernel
theorem dX12_byteAt_18 : decode cX12_byteAt 18 = .ok (.iaload, 1) := by decide +kernel
theorem dX12_byteAt_19 : decode cX12_byteAt 19 = .ok (.goto 4, 3) := by decide +kernel
theorem dX12_byteAt_22 : decode cX12_byteAt 22 = .ok (.iconst (-1), 1) := by decide +kernel
theorem dX12_byteAt_23 : decode cX12_byteAt 23 = .ok (.ireturn, 1) := by decide +kernel
theorem dX12_next_0 : decode cX12_next 0 = .ok (.aload_n 0, 1) := by decide +kernel
theorem dX12_next_1 : decode cX12_next 1 = .ok (.aload_n 0, 1) := by decide +kernel
theorem dX12_next_2 : decode cX12_next 2 = .ok (.getfield 141, 3) := by decide +kernel
theorem dX12_next_5 : decode cX12_next 5 = .ok (.invokevirtual 144, 3) := by decide +kernel
theorem dX12_next_8 : decode cX12_next 8 = .ok (.bipush 32, 2) := by decide +kernel
theorem dX12_next_10 : decode cX12_next 10 = .ok (.if_icmp .eq 16, 3) := by decide +kernel
theorem dX12_next_13 : decode cX12_next 13 = .ok (.aload_n 0, 1) := by decide +kernel
theorem dX12_next_14 : decode cX12_next 14 = .ok (.aload_n 0, 1) := by decide +kernel
theorem dX12_next_15 : decode cX12_next 15 = .ok (.getfield 141, 3) := by decide +kernel
theorem dX12_next_18 : decode cX12_next 18 = .ok (.invokevirtual 144, 3) := by decide +kernel
theorem dX12_next_21 : decode cX12_next 21 = .ok (.bipush 10, 2) := by decide +kernel
theorem dX12_next_23 : decode cX12_next 23 = .ok (.if_icmp .ne 16, 3) := by decide +kernel
theorem dX12_next_26 : decode cX12_next 26 = .ok (.aload_n 0, 1) := by decide +kernel
theorem dX12_next_27 : decode cX12_next 27 = .ok (.dup, 1) := by decide +kernel
theorem dX12_next_28 : decode cX12_next 28 = .ok (.getfield 141, 3) := by decide +kernel
theorem dX12_next_31 : decode cX12_next 31 = .ok (.iconst 1, 1) := by decide +kernel
theorem dX12_next_32 : decode cX12_next 32 = .ok (.iadd, 1) := by decide +kernel
theorem dX12_next_33 : decode cX12_next 33 = .ok (.putfield 141, 3) := by decide +kernel
theorem dX12_next_36 : decode cX12_next 36 = .ok (.goto (-36), 3) := by decide +kernel
theorem dX12_next_39 : decode cX12_next 39 = .ok (.aload_n 0, 1) := by decide +kernel
theorem dX12_next_40 : decode cX12_next 40 = .ok (.aload_n 0, 1) := by decide +kernel
theorem dX12_next_41 : decode cX12_next 41 = .ok (.getfield 141, 3) := by decide +kernel
theorem dX12_next_44 : decode cX12_next 44 = .ok (.putfield 147, 3) := by decide +kernel
theorem dX12_next_47 : decode cX12_next 47 = .ok (.aload_n 0, 1) := by decide +kernel
theorem dX12_next_48 : decode cX12_next 48 = .ok (.aload_n 0, 1) := by decide +kernel
theorem dX12_next_49 : decode cX12_next 49 = .ok (.getfield 141, 3) := by decide +kernel
theorem dX12_next_52 : decode cX12_next 52 = .ok (.invokevirtual 144, 3) := by decide +kernel
theorem dX12_next_55 : decode cX12_next 55 = .ok (.istore_n 1, 1) := by decide +kernel
theorem dX12_next_56 : decode cX12_next 56 = .ok (.aload_n 0, 1) := by decide +kernel
theorem dX12_next_57 : decode cX12_next 57 = .ok (.iconst 4, 1) := by decide +kernel
theorem dX12_next_58 : decode cX12_next 58 = .ok (.putfield 150, 3) := by decide +kernel
theorem dX12_next_61 : decode cX12_next 61 = .ok (.iload_n 1, 1) := by decide +kernel
theorem dX12_next_62 : decode cX12_next 62 = .ok (.ifCond .ge 19, 3) := by decide +kernel
theorem dX12_next_65 : decode cX12_next 65 = .ok (.aload_n 0, 1) := by decide +kernel
theorem dX12_next_66 : decode cX12_next 66 = .ok (.iconst 0, 1) := by decide +kernel
theorem dX12_next_67 : decode cX12_next 67 = .ok (.putfield 150, 3) := by decide +kernel
theorem dX12_next_70 : decode cX12_next 70 = .ok (.aload_n 0, 1) := by decide +kernel
theorem dX12_next_71 : decode cX12_next 71 = .ok (.aload_n 0, 1) := by decide +kernel
theorem dX12_next_72 : decode cX12_next 72 = .ok (.getfield 135, 3) := by decide +kernel
theorem dX12_next_75 : decode cX12_next 75 = .ok (.putfield 147, 3) := by decide +kernel
theorem dX12_next_78 : decode cX12_next 78 = .ok (.goto 243, 3) := by decide +kernel
theorem dX12_next_81 : decode cX12_next 81 = .ok (.iload_n 1, 1) := by decide +kernel
theorem dX12_next_82 : decode cX12_next 82 = .ok (.i2l, 1) := by decide +kernel
theorem dX12_next_83 : decode cX12_next 83 = .ok (.ldc2_w 153, 3) := by decide +kernel
theorem dX12_next_86 : decode cX12_next 86 = .ok (.ldc2_w 155, 3) := by decide +kernel
theorem dX12_next_89 : decode cX12_next 89 = .ok (.invokestatic 73, 3) := by decide +kernel
theorem dX12_next_92 : decode cX12_next 92 = .ok (.ifCond .eq 42, 3) := by decide +kernel
theorem dX12_next_95 : decode cX12_next 95 = .ok (.aload_n 0, 1) := by decide +kernel
theorem dX12_next_96 : decode cX12_next 96 = .ok (.iconst 1, 1) := by decide +kernel
theorem dX12_next_97 : decode cX12_next 97 = .ok (.putfield 150, 3) := by decide +kernel
theorem dX12_next_100 : decode cX12_next 100 = .ok (.aload_n 0, 1) := by decide +kernel
theorem dX12_next_101 : decode cX12_next 101 = .ok (.aload_n 0, 1) := by decide +kernel
theorem dX12_next_102 : decode cX12_next 102 = .ok (.getfield 141, 3) := by decide +kernel
theorem dX12_next_105 : decode cX12_next 105 = .ok (.invokevirtual 144, 3) := by decide +kernel
theorem dX12_next_108 : decode cX12_next 108 = .ok (.i2l, 1) := by decide +kernel
theorem dX12_next_109 : decode cX12_next 109 = .ok (.ldc2_w 153, 3) := by decide +kernel
theorem dX12_next_112 : decode cX12_next 112 = .ok (.ldc2_w 155, 3) := by decide +kernel
theorem dX12_next_115 : decode cX12_next 115 = .ok (.invokestatic 73, 3) := by decide +kernel
theorem dX12_next_118 : decode cX12_next 118 = .ok (.ifCond .eq 203, 3) := by decide +kernel
theorem dX12_next_121 : decode cX12_next 121 = .ok (.aload_n 0, 1) := by decide +kernel
theorem dX12_next_122 : decode cX12_next 122 = .ok (.dup, 1) := by decide +kernel
theorem dX12_next_123 : decode cX12_next 123 = .ok (.getfield 141, 3) := by decide +kernel
theorem dX12_next_126 : decode cX12_next 126 = .ok (.iconst 1, 1) := by decide +kernel
theorem dX12_next_127 : decode cX12_next 127 = .ok (.iadd, 1) := by decide +kernel
theorem dX12_next_128 : decode cX12_next 128 = .ok (.putfield 141, 3) := by decide +kernel
theorem dX12_next_131 : decode cX12_next 131 = .ok (.goto (-31), 3) := by decide +kernel
theorem dX12_next_134 : decode cX12_next 134 = .ok (.iload_n 1, 1) := by decide +kernel
theorem dX12_next_135 : decode cX12_next 135 = .ok (.i2l, 1) := by decide +kernel
theorem dX12_next_136 : decode cX12_next 136 = .ok (.ldc2_w 157, 3) := by decide +kernel
theorem dX12_next_139 : decode cX12_next 139 = .ok (.ldc2_w 159, 3) := by decide +kernel
theorem dX12_next_142 : decode cX12_next 142 = .ok (.invokestatic 73, 3) := by decide +kernel
theorem dX12_next_145 : decode cX12_next 145 = .ok (.ifCond .eq 107, 3) := by decide +kernel
theorem dX12_next_148 : decode cX12_next 148 = .ok (.aload_n 0, 1) := by decide +kernel
theorem dX12_next_149 : decode cX12_next 149 = .ok (.iconst 2, 1) := by decide +kernel
theorem dX12_next_150 : decode cX12_next 150 = .ok (.putfield 150, 3) := by decide +kernel
theorem dX12_next_153 : decode cX12_next 153 = .ok (.aload_n 0, 1) := by decide +kernel
theorem dX12_next_154 : decode cX12_next 154 = .ok (.lconst 0, 1) := by decide +kernel
theorem dX12_next_155 : decode cX12_next 155 = .ok (.putfield 161, 3) := by decide +kernel
theorem dX12_next_158 : decode cX12_next 158 = .ok (.iconst 0, 1) := by decide +kernel
theorem dX12_next_159 : decode cX12_next 159 = .ok (.istore_n 2, 1) := by decide +kernel
theorem dX12_next_160 : decode cX12_next 160 = .ok (.aload_n 0, 1) := by decide +kernel
theorem dX12_next_161 : decode cX12_next 161 = .ok (.aload_n 0, 1) := by decide +kernel
theorem dX12_next_162 : decode cX12_next 162 = .ok (.getfield 141, 3) := by decide +kernel
theorem dX12_next_165 : decode cX12_next 165 = .ok (.invokevirtual 144, 3) := by decide +kernel
theorem dX12_next_168 : decode cX12_next 168 = .ok (.i2l, 1) := by decide +kernel
theorem dX12_next_169 : decode cX12_next 169 = .ok (.ldc2_w 157, 3) := by decide +kernel
theorem dX12_next_172 : decode cX12_next 172 = .ok (.ldc2_w 159, 3) := by decide +kernel
theorem dX12_next_175 : decode cX12_next 175 = .ok (.invokestatic 73, 3) := by decide +kernel
theorem dX12_next_178 : decode cX12_next 178 = .ok (.ifCond .eq 57, 3) := by decide +kernel
theorem dX12_next_181 : decode cX12_next 181 = .ok (.aload_n 0, 1) := by decide +kernel
theorem dX12_next_182 : decode cX12_next 182 = .ok (.iload_n 2, 1) := by decide +kernel
theorem dX12_next_183 : decode cX12_next 183 = .ok (.iconst 4, 1) := by decide +kernel
theorem dX12_next_184 : decode cX12_next 184 = .ok (.if_icmp .ge 28, 3) := by decide +kernel
theorem dX12_next_187 : decode cX12_next 187 = .ok (.ldc2_w 165, 3) := by decide +kernel
theorem dX12_next_190 : decode cX12_next 190 = .ok (.aload_n 0, 1) := by decide +kernel
theorem dX12_next_191 : decode cX12_next 191 = .ok (.getfield 161, 3) := by decide +kernel
theorem dX12_next_194 : decode cX12_next 194 = .ok (.lmul, 1) := by decide +kernel
theorem dX12_next_195 : decode cX12_next 195 = .ok (.aload_n 0, 1) := by decide +kernel
theorem dX12_next_196 : decode cX12_next 196 = .ok (.aload_n 0, 1) := by decide +kernel
theorem dX12_next_197 : decode cX12_next 197 = .ok (.getfield 141, 3) := by decide +kernel
theorem dX12_next_200 : decode cX12_next 200 = .ok (.invokevirtual 144, 3) := by decide +kernel
theorem dX12_next_203 : decode cX12_next 203 = .ok (.i2l, 1) := by decide +kernel
theorem dX12_next_204 : decode cX12_next 204 = .ok (.ladd, 1) := by decide +kernel
theorem dX12_next_205 : decode cX12_next 205 = .ok (.ldc2_w 157, 3) := by decide +kernel
theorem dX12_next_208 : decode cX12_next 208 = .ok (.lsub, 1) := by decide +kernel
theorem dX12_next_209 : decode cX12_next 209 = .ok (.goto 7, 3) := by decide +kernel
theorem dX12_next_212 : decode cX12_next 212 = .ok (.aload_n 0, 1) := by decide +kernel
theorem dX12_next_213 : decode cX12_next 213 = .ok (.getfield 161, 3) := by decide +kernel
theorem dX12_next_216 : decode cX12_next 216 = .ok (.putfield 161, 3) := by decide +kernel
theorem dX12_next_219 : decode cX12_next 219 = .ok (.iinc 2 1, 3) := by decide +kernel
theorem dX12_next_222 : decode cX12_next 222 = .ok (.aload_n 0, 1) := by decide +kernel
theorem dX12_next_223 : decode cX12_next 223 = .ok (.dup, 1) := by decide +kernel
theorem dX12_next_224 : decode cX12_next 224 = .ok (.getfield 141, 3) := by decide +kernel
theorem dX12_next_227 : decode cX12_next 227 = .ok (.iconst 1, 1) := by decide +kernel
theorem dX12_next_228 : decode cX12_next 228 = .ok (.iadd, 1) := by decide +kernel
theorem dX12_next_229 : decode cX12_next 229 = .ok (.putfield 141, 3) := by decide +kernel
theorem dX12_next_232 : decode cX12_next 232 = .ok (.goto (-72), 3) := by decide +kernel
theorem dX12_next_235 : decode cX12_next 235 = .ok (.aload_n 0, 1) := by decide +kernel
theorem dX12_next_236 : decode cX12_next 236 = .ok (.iload_n 2, 1) := by decide +kernel
theorem dX12_next_237 : decode cX12_next 237 = .ok (.iconst 4, 1) := by decide +kernel
theorem dX12_next_238 : decode cX12_next 238 = .ok (.if_icmp .le 7, 3) := by decide +kernel
theorem dX12_next_241 : decode cX12_next 241 = .ok (.iconst 4, 1) := by decide +kernel
theorem dX12_next_242 : decode cX12_next 242 = .ok (.goto 4, 3) := by decide +kernel
theorem dX12_next_245 : decode cX12_next 245 = .ok (.iconst 2, 1) := by decide +kernel
theorem dX12_next_246 : decode cX12_next 246 = .ok (.putfield 150, 3) := by decide +kernel
theorem dX12_next_249 : decode cX12_next 249 = .ok (.goto 72, 3) := by decide +kernel
theorem dX12_next_252 : decode cX12_next 252 = .ok (.iload_n 1, 1) := by decide +kernel
theorem dX12_next_253 : decode cX12_next 253 = .ok (.bipush 40, 2) := by decide +kernel
theorem dX12_next_255 : decode cX12_next 255 = .ok (.if_icmp .eq 45, 3) := by decide +kernel
theorem dX12_next_258 : decode cX12_next 258 = .ok (.iload_n 1, 1) := by decide +kernel
theorem dX12_next_259 : decode cX12_next 259 = .ok (.bipush 41, 2) := by decide +kernel
theorem dX12_next_261 : decode cX12_next 261 = .ok (.if_icmp .eq 39, 3) := by decide +kernel
theorem dX12_next_264 : decode cX12_next 264 = .ok (.iload_n 1, 1) := by decide +kernel
theorem dX12_next_265 : decode cX12_next 265 = .ok (.bipush 59, 2) := by decide +kernel
theorem dX12_next_267 : decode cX12_next 267 = .ok (.if_icmp .eq 33, 3) := by decide +kernel
theorem dX12_next_270 : decode cX12_next 270 = .ok (.iload_n 1, 1) := by decide +kernel
theorem dX12_next_271 : decode cX12_next 271 = .ok (.bipush 43, 2) := by decide +kernel
theorem dX12_next_273 : decode cX12_next 273 = .ok (.if_icmp .eq 27, 3) := by decide +kernel
theorem dX12_next_276 : decode cX12_next 276 = .ok (.iload_n 1, 1) := by decide +kernel
theorem dX12_next_277 : decode cX12_next 277 = .ok (.bipush 45, 2) := by decide +kernel
theorem dX12_next_279 : decode cX12_next 279 = .ok (.if_icmp .eq 21, 3) := by decide +kernel
theorem dX12_next_282 : decode cX12_next 282 = .ok (.iload_n 1, 1) := by decide +kernel
theorem dX12_next_283 : decode cX12_next 283 = .ok (.bipush 42, 2) := by decide +kernel
theorem dX12_next_285 : decode cX12_next 285 = .ok (.if_icmp .eq 15, 3) := by decide +kernel
theorem dX12_next_288 : decode cX12_next 288 = .ok (.iload_n 1, 1) := by decide +kernel
theorem dX12_next_289 : decode cX12_next 289 = .ok (.bipush 60, 2) := by decide +kernel
theorem dX12_next_291 : decode cX12_next 291 = .ok (.if_icmp .eq 9, 3) := by decide +kernel
theorem dX12_next_294 : decode cX12_next 294 = .ok (.iload_n 1, 1) := by decide +kernel
theorem dX12_next_295 : decode cX12_next 295 = .ok (.bipush 61, 2) := by decide +kernel
theorem dX12_next_297 : decode cX12_next 297 = .ok (.if_icmp .ne 24, 3) := by decide +kernel
theorem dX12_next_300 : decode cX12_next 300 = .ok (.aload_n 0, 1) := by decide +kernel
theorem dX12_next_301 : decode cX12_next 301 = .ok (.iconst 3, 1) := by decide +kernel
theorem dX12_next_302 : decode cX12_next 302 = .ok (.putfield 150, 3) := by decide +kernel
theorem dX12_next_305 : decode cX12_next 305 = .ok (.aload_n 0, 1) := by decide +kernel
theorem dX12_next_306 : decode cX12_next 306 = .ok (.iload_n 1, 1) := by decide +kernel
theorem dX12_next_307 : decode cX12_next 307 = .ok (.i2l, 1) := by decide +kernel
theorem dX12_next_308 : decode cX12_next 308 = .ok (.putfield 161, 3) := by decide +kernel
theorem dX12_next_311 : decode cX12_next 311 = .ok (.aload_n 0, 1) := by decide +kernel
theorem dX12_next_312 : decode cX12_next 312 = .ok (.dup, 1) := by decide +kernel
theorem dX12_next_313 : decode cX12_next 313 = .ok (.getfield 141, 3) := by decide +kernel
theorem dX12_next_316 : decode cX12_next 316 = .ok (.iconst 1, 1) := by decide +kernel
theorem dX12_next_317 : decode cX12_next 317 = .ok (.iadd, 1) := by decide +kernel
theorem dX12_next_318 : decode cX12_next 318 = .ok (.putfield 141, 3) := by decide +kernel
theorem dX12_next_321 : decode cX12_next 321 = .ok (.return_, 1) := by decide +kernel
theorem dX12_fail_0 : decode cX12_fail 0 = .ok (.aload_n 0, 1) := by decide +kernel
theorem dX12_fail_1 : decode cX12_fail 1 = .ok (.getfield 167, 3) := by decide +kernel
theorem dX12_fail_4 : decode cX12_fail 4 = .ok (.ifCond .ne 16, 3) := by decide +kernel
theorem dX12_fail_7 : decode cX12_fail 7 = .ok (.aload_n 0, 1) := by decide +kernel
theorem dX12_fail_8 : decode cX12_fail 8 = .ok (.iconst 1, 1) := by decide +kernel
theorem dX12_fail_9 : decode cX12_fail 9 = .ok (.putfield 167, 3) := by decide +kernel
theorem dX12_fail_12 : decode cX12_fail 12 = .ok (.aload_n 0, 1) := by decide +kernel
theorem dX12_fail_13 : decode cX12_fail 13 = .ok (.aload_n 0, 1) := by decide +kernel
theorem dX12_fail_14 : decode cX12_fail 14 = .ok (.getfield 147, 3) := by decide +kernel
theorem dX12_fail_17 : decode cX12_fail 17 = .ok (.putfield 171, 3) := by decide +kernel
theorem dX12_fail_20 : decode cX12_fail 20 = .ok (.return_, 1) := by decide +kernel
theorem dX12_isLetter_0 : decode cX12_isLetter 0 = .ok (.aload_n 0, 1) := by decide +kernel
theorem dX12_isLetter_1 : decode cX12_isLetter 1 = .ok (.getfield 147, 3) := by decide +kernel
theorem dX12_isLetter_4 : decode cX12_isLetter 4 = .ok (.iload_n 1, 1) := by decide +kernel
theorem dX12_isLetter_5 : decode cX12_isLetter 5 = .ok (.iadd, 1) := by decide +kernel
theorem dX12_isLetter_6 : decode cX12_isLetter 6 = .ok (.aload_n 0, 1) := by decide +kernel
theorem dX12_isLetter_7 : decode cX12_isLetter 7 = .ok (.getfield 141, 3) := by decide +kernel
theorem dX12_isLetter_10 : decode cX12_isLetter 10 = .ok (.if_icmp .ge 25, 3) := by decide +kernel
theorem dX12_isLetter_13 : decode cX12_isLetter 13 = .ok (.aload_n 0, 1) := by decide +kernel
theorem dX12_isLetter_14 : decode cX12_isLetter 14 = .ok (.aload_n 0, 1) := by decide +kernel
theorem dX12_isLetter_15 : decode cX12_isLetter 15 = .ok (.getfield 147, 3) := by decide +kernel
theorem dX12_isLetter_18 : decode cX12_isLetter 18 = .ok (.iload_n 1, 1) := by decide +kernel
theorem dX12_isLetter_19 : decode cX12_isLetter 19 = .ok (.iadd, 1) := by decide +kernel
theorem dX12_isLetter_20 : decode cX12_isLetter 20 = .ok (.invokevirtual 144, 3) := by decide +kernel
theorem dX12_isLetter_23 : decode cX12_isLetter 23 = .ok (.iload_n 2, 1) := by decide +kernel
theorem dX12_isLetter_24 : decode cX12_isLetter 24 = .ok (.if_icmp .ne 7, 3) := by decide +kernel
theorem dX12_isLetter_27 : decode cX12_isLetter 27 = .ok (.iconst 1, 1) := by decide +kernel
theorem dX12_isLetter_28 : decode cX12_isLetter 28 = .ok (.goto 16, 3) := by decide +kernel
theorem dX12_isLetter_31 : decode cX12_isLetter 31 = .ok (.iconst 0, 1) := by decide +kernel
theorem dX12_isLetter_32 : decode cX12_isLetter 32 = .ok (.goto 12, 3) := by decide +kernel
theorem dX12_isLetter_35 : decode cX12_isLetter 35 = .ok (.iload_n 2, 1) := by decide +kernel
theorem dX12_isLetter_36 : decode cX12_isLetter 36 = .ok (.ifCond .ne 7, 3) := by decide +kernel
theorem dX12_isLetter_39 : decode cX12_isLetter 39 = .ok (.iconst 1, 1) := by decide +kernel
theorem dX12_isLetter_40 : decode cX12_isLetter 40 = .ok (.goto 4, 3) := by decide +kernel
theorem dX12_isLetter_43 : decode cX12_isLetter 43 = .ok (.iconst 0, 1) := by decide +kernel
theorem dX12_isLetter_44 : decode cX12_isLetter 44 = .ok (.ireturn, 1) := by decide +kernel
theorem dX12_isWord_0 : decode cX12_isWord 0 = .ok (.aload_n 0, 1) := by decide +kernel
theorem dX12_isWord_1 : decode cX12_isWord 1 = .ok (.getfield 167, 3) := by decide +kernel
theorem dX12_isWord_4 : decode cX12_isWord 4 = .ok (.ifCond .ne 108, 3) := by decide +kernel
theorem dX12_isWord_7 : decode cX12_isWord 7 = .ok (.aload_n 0, 1) := by decide +kernel
theorem dX12_isWord_8 : decode cX12_isWord 8 = .ok (.getfield 150, 3) := by decide +kernel
theorem dX12_isWord_11 : decode cX12_isWord 11 = .ok (.iconst 1, 1) := by decide +kernel
theorem dX12_isWord_12 : decode cX12_isWord 12 = .ok (.if_icmp .ne 100, 3) := by decide +kernel
theorem dX12_isWord_15 : decode cX12_isWord 15 = .ok (.aload_n 0, 1) := by decide +kernel
theorem dX12_isWord_16 : decode cX12_isWord 16 = .ok (.getfield 141, 3) := by decide +kernel
theorem dX12_isWord_19 : decode cX12_isWord 19 = .ok (.aload_n 0, 1) := by decide +kernel
theorem dX12_isWord_20 : decode cX12_isWord 20 = .ok (.getfield 147, 3) := by decide +kernel
theorem dX12_isWord_23 : decode cX12_isWord 23 = .ok (.bipush 8, 2) := by decide +kernel
theorem dX12_isWord_25 : decode cX12_isWord 25 = .ok (.iadd, 1) := by decide +kernel
theorem dX12_isWord_26 : decode cX12_isWord 26 = .ok (.if_icmp .gt 86, 3) := by decide +kernel
theorem dX12_isWord_29 : decode cX12_isWord 29 = .ok (.aload_n 0, 1) := by decide +kernel
theorem dX12_isWord_30 : decode cX12_isWord 30 = .ok (.iconst 0, 1) := by decide +kernel
theorem dX12_isWord_31 : decode cX12_isWord 31 = .ok (.iload_n 1, 1) := by decide +kernel
theorem dX12_isWord_32 : decode cX12_isWord 32 = .ok (.invokevirtual 174, 3) := by decide +kernel
theorem dX12_isWord_35 : decode cX12_isWord 35 = .ok (.ifCond .eq 77, 3) := by decide +kernel
theorem dX12_isWord_38 : decode cX12_isWord 38 = .ok (.aload_n 0, 1) := by decide +kernel
theorem dX12_isWord_39 : decode cX12_isWord 39 = .ok (.iconst 1, 1) := by decide +kernel
theorem dX12_isWord_40 : decode cX12_isWord 40 = .ok (.iload_n 2, 1) := by decide +kernel
theorem dX12_isWord_41 : decode cX12_isWord 41 = .ok (.invokevirtual 174, 3) := by decide +kernel
theorem dX12_isWord_44 : decode cX12_isWord 44 = .ok (.ifCond .eq 68, 3) := by decide +kernel
theorem dX12_isWord_47 : decode cX12_isWord 47 = .ok (.aload_n 0, 1) := by decide +kernel
theorem dX12_isWord_48 : decode cX12_isWord 48 = .ok (.iconst 2, 1) := by decide +kernel
theorem dX12_isWord_49 : decode cX12_isWord 49 = .ok (.iload_n 3, 1) := by decide +kernel
theorem dX12_isWord_50 : decode cX12_isWord 50 = .ok (.invokevirtual 174, 3) := by decide +kernel
theorem dX12_isWord_53 : decode cX12_isWord 53 = .ok (.ifCond .eq 59, 3) := by decide +kernel
theorem dX12_isWord_56 : decode cX12_isWord 56 = .ok (.aload_n 0, 1) := by decide +kernel
theorem dX12_isWord_57 : decode cX12_isWord 57 = .ok (.iconst 3, 1) := by decide +kernel
theorem dX12_isWord_58 : decode cX12_isWord 58 = .ok (.iload 4, 2) := by decide +kernel
theorem dX12_isWord_60 : decode cX12_isWord 60 = .ok (.invokevirtual 174, 3) := by decide +kernel
theorem dX12_isWord_63 : decode cX12_isWord 63 = .ok (.ifCond .eq 49, 3) := by decide +kernel
theorem dX12_isWord_66 : decode cX12_isWord 66 = .ok (.aload_n 0, 1) := by decide +kernel
theorem dX12_isWord_67 : decode cX12_isWord 67 = .ok (.iconst 4, 1) := by decide +kernel
theorem dX12_isWord_68 : decode cX12_isWord 68 = .ok (.iload 5, 2) := by decide +kernel
theorem dX12_isWord_70 : decode cX12_isWord 70 = .ok (.invokevirtual 174, 3) := by decide +kernel
theorem dX12_isWord_73 : decode cX12_isWord 73 = .ok (.ifCond .eq 39, 3) := by decide +kernel
theorem dX12_isWord_76 : decode cX12_isWord 76 = .ok (.aload_n 0, 1) := by decide +kernel
theorem dX12_isWord_77 : decode cX12_isWord 77 = .ok (.iconst 5, 1) := by decide +kernel
theorem dX12_isWord_78 : decode cX12_isWord 78 = .ok (.iload 6, 2) := by decide +kernel
theorem dX12_isWord_80 : decode cX12_isWord 80 = .ok (.invokevirtual 174, 3) := by decide +kernel
theorem dX12_isWord_83 : decode cX12_isWord 83 = .ok (.ifCond .eq 29, 3) := by decide +kernel
theorem dX12_isWord_86 : decode cX12_isWord 86 = .ok (.aload_n 0, 1) := by decide +kernel
theorem dX12_isWord_87 : decode cX12_isWord 87 = .ok (.bipush 6, 2) := by decide +kernel
theorem dX12_isWord_89 : decode cX12_isWord 89 = .ok (.iload 7, 2) := by decide +kernel
theorem dX12_isWord_91 : decode cX12_isWord 91 = .ok (.invokevirtual 174, 3) := by decide +kernel
theorem dX12_isWord_94 : decode cX12_isWord 94 = .ok (.ifCond .eq 18, 3) := by decide +kernel
theorem dX12_isWord_97 : decode cX12_isWord 97 = .ok (.aload_n 0, 1) := by decide +kernel
theorem dX12_isWord_98 : decode cX12_isWord 98 = .ok (.bipush 7, 2) := by decide +kernel
theorem dX12_isWord_100 : decode cX12_isWord 100 = .ok (.iload 8, 2) := by decide +kernel
theorem dX12_isWord_102 : decode cX12_isWord 102 = .ok (.invokevirtual 174, 3) := by decide +kernel
theorem dX12_isWord_105 : decode cX12_isWord 105 = .ok (.ifCond .eq 7, 3) := by decide +kernel
theorem dX12_isWord_108 : decode cX12_isWord 108 = .ok (.iconst 1, 1) := by decide +kernel
theorem dX12_isWord_109 : decode cX12_isWord 109 = .ok (.goto 4, 3) := by decide +kernel
theorem dX12_isWord_112 : decode cX12_isWord 112 = .ok (.iconst 0, 1) := by decide +kernel
theorem dX12_isWord_113 : decode cX12_isWord 113 = .ok (.ireturn, 1) := by decide +kernel
theorem dX12_isSign_0 : decode cX12_isSign 0 = .ok (.aload_n 0, 1) := by decide +kernel
theorem dX12_isSign_1 : decode cX12_isSign 1 = .ok (.getfield 167, 3) := by decide +kernel
theorem dX12_isSign_4 : decode cX12_isSign 4 = .ok (.ifCond .ne 25, 3) := by decide +kernel
theorem dX12_isSign_7 : decode cX12_isSign 7 = .ok (.aload_n 0, 1) := by decide +kernel
theorem dX12_isSign_8 : decode cX12_isSign 8 = .ok (.getfield 150, 3) := by decide +kernel
theorem dX12_isSign_11 : decode cX12_isSign 11 = .ok (.iconst 3, 1) := by decide +kernel
theorem dX12_isSign_12 : decode cX12_isSign 12 = .ok (.if_icmp .ne 17, 3) := by decide +kernel
theorem dX12_isSign_15 : decode cX12_isSign 15 = .ok (.aload_n 0, 1) := by decide +kernel
theorem dX12_isSign_16 : decode cX12_isSign 16 = .ok (.getfield 161, 3) := by decide +kernel
theorem dX12_isSign_19 : decode cX12_isSign 19 = .ok (.iload_n 1, 1) := by decide +kernel
theorem dX12_isSign_20 : decode cX12_isSign 20 = .ok (.i2l, 1) := by decide +kernel
theorem dX12_isSign_21 : decode cX12_isSign 21 = .ok (.lcmp, 1) := by decide +kernel
theorem dX12_isSign_22 : decode cX12_isSign 22 = .ok (.ifCond .ne 7, 3) := by decide +kernel
theorem dX12_isSign_25 : decode cX12_isSign 25 = .ok (.iconst 1, 1) := by decide +kernel
theorem dX12_isSign_26 : decode cX12_isSign 26 = .ok (.goto 4, 3) := by decide +kernel
theorem dX12_isSign_29 : decode cX12_isSign 29 = .ok (.iconst 0, 1) := by decide +kernel
theorem dX12_isSign_30 : decode cX12_isSign 30 = .ok (.ireturn, 1) := by decide +kernel
theorem dX12_opens_0 : decode cX12_opens 0 = .ok (.aload_n 0, 1) := by decide +kernel
theorem dX12_opens_1 : decode cX12_opens 1 = .ok (.getfield 178, 3) := by decide +kernel
theorem dX12_opens_4 : decode cX12_opens 4 = .ok (.iconst 5, 1) := by decide +kernel
theorem dX12_opens_5 : decode cX12_opens 5 = .ok (.if_icmp .ne 9, 3) := by decide +kernel
theorem dX12_opens_8 : decode cX12_opens 8 = .ok (.aload_n 0, 1) := by decide +kernel
theorem dX12_opens_9 : decode cX12_opens 9 = .ok (.invokevirtual 181, 3) := by decide +kernel
theorem dX12_opens_12 : decode cX12_opens 12 = .ok (.iconst 0, 1) := by decide +kernel
theorem dX12_opens_13 : decode cX12_opens 13 = .ok (.ireturn, 1) := by decide +kernel
theorem dX12_opens_14 : decode cX12_opens 14 = .ok (.aload_n 0, 1) := by decide +kernel
theorem dX12_opens_15 : decode cX12_opens 15 = .ok (.dup, 1) := by decide +kernel
theorem dX12_opens_16 : decode cX12_opens 16 = .ok (.getfield 178, 3) := by decide +kernel
theorem dX12_opens_19 : decode cX12_opens 19 = .ok (.iconst 1, 1) := by decide +kernel
theorem dX12_opens_20 : decode cX12_opens 20 = .ok (.iadd, 1) := by decide +kernel
theorem dX12_opens_21 : decode cX12_opens 21 = .ok (.putfield 178, 3) := by decide +kernel
theorem dX12_opens_24 : decode cX12_opens 24 = .ok (.aload_n 0, 1) := by decide +kernel
theorem dX12_opens_25 : decode cX12_opens 25 = .ok (.invokevirtual 184, 3) := by decide +kernel
theorem dX12_opens_28 : decode cX12_opens 28 = .ok (.iconst 1, 1) := by decide +kernel
theorem dX12_opens_29 : decode cX12_opens 29 = .ok (.ireturn, 1) := by decide +kernel
theorem dX12_name_0 : decode cX12_name 0 = .ok (.aload_n 0, 1) := by decide +kernel
theorem dX12_name_1 : decode cX12_name 1 = .ok (.bipush 104, 2) := by decide +kernel
theorem dX12_name_3 : decode cX12_name 3 = .ok (.bipush 101, 2) := by decide +kernel
theorem dX12_name_5 : decode cX12_name 5 = .ok (.bipush 114, 2) := by decide +kernel
theorem dX12_name_7 : decode cX12_name 7 = .ok (.bipush 101, 2) := by decide +kernel
theorem dX12_name_9 : decode cX12_name 9 = .ok (.iconst 0, 1) := by decide +kernel
theorem dX12_name_10 : decode cX12_name 10 = .ok (.iconst 0, 1) := by decide +kernel
theorem dX12_name_11 : decode cX12_name 11 = .ok (.iconst 0, 1) := by decide +kernel
theorem dX12_name_12 : decode cX12_name 12 = .ok (.iconst 0, 1) := by decide +kernel
theorem dX12_name_13 : decode cX12_name 13 = .ok (.invokevirtual 187, 3) := by decide +kernel
theorem dX12_name_16 : decode cX12_name 16 = .ok (.ifCond .eq 8, 3) := by decide +kernel
theorem dX12_name_19 : decode cX12_name 19 = .ok (.aload_n 0, 1) := by decide +kernel
theorem dX12_name_20 : decode cX12_name 20 = .ok (.getfield 191, 3) := by decide +kernel
theorem dX12_name_23 : decode cX12_name 23 = .ok (.ireturn, 1) := by decide +kernel
theorem dX12_name_24 : decode cX12_name 24 = .ok (.aload_n 0, 1) := by decide +kernel
theorem dX12_name_25 : decode cX12_name 25 = .ok (.bipush 116, 2) := by decide +kernel
theorem dX12_name_27 : decode cX12_name 27 = .ok (.bipush 104, 2) := by decide +kernel
theorem dX12_name_29 : decode cX12_name 29 = .ok (.bipush 101, 2) := by decide +kernel
theorem dX12_name_31 : decode cX12_name 31 = .ok (.bipush 114, 2) := by decide +kernel
theorem dX12_name_33 : decode cX12_name 33 = .ok (.bipush 101, 2) := by decide +kernel
theorem dX12_name_35 : decode cX12_name 35 = .ok (.iconst 0, 1) := by decide +kernel
theorem dX12_name_36 : decode cX12_name 36 = .ok (.iconst 0, 1) := by decide +kernel
theorem dX12_name_37 : decode cX12_name 37 = .ok (.iconst 0, 1) := by decide +kernel
theorem dX12_name_38 : decode cX12_name 38 = .ok (.invokevirtual 187, 3) := by decide +kernel
theorem dX12_name_41 : decode cX12_name 41 = .ok (.ifCond .eq 8, 3) := by decide +kernel
theorem dX12_name_44 : decode cX12_name 44 = .ok (.aload_n 0, 1) := by decide +kernel
theorem dX12_name_45 : decode cX12_name 45 = .ok (.getfield 194, 3) := by decide +kernel
theorem dX12_name_48 : decode cX12_name 48 = .ok (.ireturn, 1) := by decide +kernel
theorem dX12_name_49 : decode cX12_name 49 = .ok (.aload_n 0, 1) := by decide +kernel
theorem dX12_name_50 : decode cX12_name 50 = .ok (.bipush 115, 2) := by decide +kernel
theorem dX12_name_52 : decode cX12_name 52 = .ok (.bipush 97, 2) := by decide +kernel
theorem dX12_name_54 : decode cX12_name 54 = .ok (.bipush 109, 2) := by decide +kernel
theorem dX12_name_56 : decode cX12_name 56 = .ok (.bipush 101, 2) := by decide +kernel
theorem dX12_name_58 : decode cX12_name 58 = .ok (.iconst 0, 1) := by decide +kernel
theorem dX12_name_59 : decode cX12_name 59 = .ok (.iconst 0, 1) := by decide +kernel
theorem dX12_name_60 : decode cX12_name 60 = .ok (.iconst 0, 1) := by decide +kernel
theorem dX12_name_61 : decode cX12_name 61 = .ok (.iconst 0, 1) := by decide +kernel
theorem dX12_name_62 : decode cX12_name 62 = .ok (.invokevirtual 187, 3) := by decide +kernel
theorem dX12_name_65 : decode cX12_name 65 = .ok (.ifCond .eq 8, 3) := by decide +kernel
theorem dX12_name_68 : decode cX12_name 68 = .ok (.aload_n 0, 1) := by decide +kernel
theorem dX12_name_69 : decode cX12_name 69 = .ok (.getfield 197, 3) := by decide +kernel
theorem dX12_name_72 : decode cX12_name 72 = .ok (.ireturn, 1) := by decide +kernel
theorem dX12_name_73 : decode cX12_name 73 = .ok (.aload_n 0, 1) := by decide +kernel
theorem dX12_name_74 : decode cX12_name 74 = .ok (.bipush 110, 2) := by decide +kernel
theorem dX12_name_76 : decode cX12_name 76 = .ok (.bipush 117, 2) := by decide +kernel
theorem dX12_name_78 : decode cX12_name 78 = .ok (.bipush 109, 2) := by decide +kernel
theorem dX12_name_80 : decode cX12_name 80 = .ok (.bipush 98, 2) := by decide +kernel
theorem dX12_name_82 : decode cX12_name 82 = .ok (.bipush 101, 2) := by decide +kernel
theorem dX12_name_84 : decode cX12_name 84 = .ok (.bipush 114, 2) := by decide +kernel
theorem dX12_name_86 : decode cX12_name 86 = .ok (.iconst 0, 1) := by decide +kernel
theorem dX12_name_87 : decode cX12_name 87 = .ok (.iconst 0, 1) := by decide +kernel
theorem dX12_name_88 : decode cX12_name 88 = .ok (.invokevirtual 187, 3) := by decide +kernel
theorem dX12_name_91 : decode cX12_name 91 = .ok (.ifCond .eq 8, 3) := by decide +kernel
theorem dX12_name_94 : decode cX12_name 94 = .ok (.aload_n 0, 1) := by decide +kernel
theorem dX12_name_95 : decode cX12_name 95 = .ok (.getfield 200, 3) := by decide +kernel
theorem dX12_name_98 : decode cX12_name 98 = .ok (.ireturn, 1) := by decide +kernel
theorem dX12_name_99 : decode cX12_name 99 = .ok (.aload_n 0, 1) := by decide +kernel
theorem dX12_name_100 : decode cX12_name 100 = .ok (.bipush 102, 2) := by decide +kernel
theorem dX12_name_102 : decode cX12_name 102 = .ok (.bipush 105, 2) := by decide +kernel
theorem dX12_name_104 : decode cX12_name 104 = .ok (.bipush 108, 2) := by decide +kernel
theorem dX12_name_106 : decode cX12_name 106 = .ok (.bipush 101, 2) := by decide +kernel
theorem dX12_name_108 : decode cX12_name 108 = .ok (.iconst 0, 1) := by decide +kernel
theorem dX12_name_109 : decode cX12_name 109 = .ok (.iconst 0, 1) := by decide +kernel
theorem dX12_name_110 : decode cX12_name 110 = .ok (.iconst 0, 1) := by decide +kernel
theorem dX12_name_111 : decode cX12_name 111 = .ok (.iconst 0, 1) := by decide +kernel
theorem dX12_name_112 : decode cX12_name 112 = .ok (.invokevirtual 187, 3) := by decide +kernel
theorem dX12_name_115 : decode cX12_name 115 = .ok (.ifCond .eq 8, 3) := by decide +kernel
theorem dX12_name_118 : decode cX12_name 118 = .ok (.aload_n 0, 1) := by decide +kernel
theorem dX12_name_119 : decode cX12_name 119 = .ok (.getfield 203, 3) := by decide +kernel
theorem dX12_name_122 : decode cX12_name 122 = .ok (.ireturn, 1) := by decide +kernel
theorem dX12_name_123 : decode cX12_name 123 = .ok (.aload_n 0, 1) := by decide +kernel
theorem dX12_name_124 : decode cX12_name 124 = .ok (.bipush 100, 2) := by decide +kernel
theorem dX12_name_126 : decode cX12_name 126 = .ok (.bipush 97, 2) := by decide +kernel
theorem dX12_name_128 : decode cX12_name 128 = .ok (.bipush 121, 2) := by decide +kernel
theorem dX12_name_130 : decode cX12_name 130 = .ok (.iconst 0, 1) := by decide +kernel
theorem dX12_name_131 : decode cX12_name 131 = .ok (.iconst 0, 1) := by decide +kernel
theorem dX12_name_132 : decode cX12_name 132 = .ok (.iconst 0, 1) := by decide +kernel
theorem dX12_name_133 : decode cX12_name 133 = .ok (.iconst 0, 1) := by decide +kernel
theorem dX12_name_134 : decode cX12_name 134 = .ok (.iconst 0, 1) := by decide +kernel
theorem dX12_name_135 : decode cX12_name 135 = .ok (.invokevirtual 187, 3) := by decide +kernel
theorem dX12_name_138 : decode cX12_name 138 = .ok (.ifCond .eq 8, 3) := by decide +kernel
theorem dX12_name_141 : decode cX12_name 141 = .ok (.aload_n 0, 1) := by decide +kernel
theorem dX12_name_142 : decode cX12_name 142 = .ok (.getfield 206, 3) := by decide +kernel
theorem dX12_name_145 : decode cX12_name 145 = .ok (.ireturn, 1) := by decide +kernel
theorem dX12_name_146 : decode cX12_name 146 = .ok (.aload_n 0, 1) := by decide +kernel
theorem dX12_name_147 : decode cX12_name 147 = .ok (.invokevirtual 181, 3) := by decide +kernel
theorem dX12_name_150 : decode cX12_name 150 = .ok (.iconst 0, 1) := by decide +kernel
theorem dX12_name_151 : decode cX12_name 151 = .ok (.ireturn, 1) := by decide +kernel
theorem dX12_atom_0 : decode cX12_atom 0 = .ok (.iconst 0, 1) := by decide +kernel
theorem dX12_atom_1 : decode cX12_atom 1 = .ok (.istore_n 1, 1) := by decide +kernel
theorem dX12_atom_2 : decode cX12_atom 2 = .ok (.aload_n 0, 1) := by decide +kernel
theorem dX12_atom_3 : decode cX12_atom 3 = .ok (.bipush 45, 2) := by decide +kernel
theorem dX12_atom_5 : decode cX12_atom 5 = .ok (.invokevirtual 209, 3) := by decide +kernel
theorem dX12_atom_8 : decode cX12_atom 8 = .ok (.ifCond .eq 29, 3) := by decide +kernel
theorem dX12_atom_11 : decode cX12_atom 11 = .ok (.aload_n 0, 1) := by decide +kernel
theorem dX12_atom_12 : decode cX12_atom 12 = .ok (.invokevirtual 212, 3) := by decide +kernel
theorem dX12_atom_15 : decode cX12_atom 15 = .ok (.ifCond .eq 146, 3) := by decide +kernel
theorem dX12_atom_18 : decode cX12_atom 18 = .ok (.aload_n 0, 1) := by decide +kernel
theorem dX12_atom_19 : decode cX12_atom 19 = .ok (.invokevirtual 216, 3) := by decide +kernel
theorem dX12_atom_22 : decode cX12_atom 22 = .ok (.ineg, 1) := by decide +kernel
theorem dX12_atom_23 : decode cX12_atom 23 = .ok (.istore_n 1, 1) := by decide +kernel
theorem dX12_atom_24 : decode cX12_atom 24 = .ok (.aload_n 0, 1) := by decide +kernel
theorem dX12_atom_25 : decode cX12_atom 25 = .ok (.dup, 1) := by decide +kernel
theorem dX12_atom_26 : decode cX12_atom 26 = .ok (.getfield 178, 3) := by decide +kernel
theorem dX12_atom_29 : decode cX12_atom 29 = .ok (.iconst 1, 1) := by decide +kernel
theorem dX12_atom_30 : decode cX12_atom 30 = .ok (.isub, 1) := by decide +kernel
theorem dX12_atom_31 : decode cX12_atom 31 = .ok (.putfield 178, 3) := by decide +kernel
theorem dX12_atom_34 : decode cX12_atom 34 = .ok (.goto 127, 3) := by decide +kernel
theorem dX12_atom_37 : decode cX12_atom 37 = .ok (.aload_n 0, 1) := by decide +kernel
theorem dX12_atom_38 : decode cX12_atom 38 = .ok (.bipush 40, 2) := by decide +kernel
theorem dX12_atom_40 : decode cX12_atom 40 = .ok (.invokevirtual 209, 3) := by decide +kernel
theorem dX12_atom_43 : decode cX12_atom 43 = .ok (.ifCond .eq 52, 3) := by decide +kernel
theorem dX12_atom_46 : decode cX12_atom 46 = .ok (.aload_n 0, 1) := by decide +kernel
theorem dX12_atom_47 : decode cX12_atom 47 = .ok (.invokevirtual 212, 3) := by decide +kernel
theorem dX12_atom_50 : decode cX12_atom 50 = .ok (.ifCond .eq 111, 3) := by decide +kernel
theorem dX12_atom_53 : decode cX12_atom 53 = .ok (.aload_n 0, 1) := by decide +kernel
theorem dX12_atom_54 : decode cX12_atom 54 = .ok (.invokevirtual 220, 3) := by decide +kernel
theorem dX12_atom_57 : decode cX12_atom 57 = .ok (.istore_n 1, 1) := by decide +kernel
theorem dX12_atom_58 : decode cX12_atom 58 = .ok (.aload_n 0, 1) := by decide +kernel
theorem dX12_atom_59 : decode cX12_atom 59 = .ok (.bipush 41, 2) := by decide +kernel
theorem dX12_atom_61 : decode cX12_atom 61 = .ok (.invokevirtual 209, 3) := by decide +kernel
theorem dX12_atom_64 : decode cX12_atom 64 = .ok (.ifCond .ne 7, 3) := by decide +kernel
theorem dX12_atom_67 : decode cX12_atom 67 = .ok (.aload_n 0, 1) := by decide +kernel
theorem dX12_atom_68 : decode cX12_atom 68 = .ok (.invokevirtual 181, 3) := by decide +kernel
theorem dX12_atom_71 : decode cX12_atom 71 = .ok (.aload_n 0, 1) := by decide +kernel
theorem dX12_atom_72 : decode cX12_atom 72 = .ok (.dup, 1) := by decide +kernel
theorem dX12_atom_73 : decode cX12_atom 73 = .ok (.getfield 178, 3) := by decide +kernel
theorem dX12_atom_76 : decode cX12_atom 76 = .ok (.iconst 1, 1) := by decide +kernel
theorem dX12_atom_77 : decode cX12_atom 77 = .ok (.isub, 1) := by decide +kernel
theorem dX12_atom_78 : decode cX12_atom 78 = .ok (.putfield 178, 3) := by decide +kernel
theorem dX12_atom_81 : decode cX12_atom 81 = .ok (.aload_n 0, 1) := by decide +kernel
theorem dX12_atom_82 : decode cX12_atom 82 = .ok (.getfield 167, 3) := by decide +kernel
theorem dX12_atom_85 : decode cX12_atom 85 = .ok (.ifCond .ne 76, 3) := by decide +kernel
theorem dX12_atom_88 : decode cX12_atom 88 = .ok (.aload_n 0, 1) := by decide +kernel
theorem dX12_atom_89 : decode cX12_atom 89 = .ok (.invokevirtual 184, 3) := by decide +kernel
theorem dX12_atom_92 : decode cX12_atom 92 = .ok (.goto 69, 3) := by decide +kernel
theorem dX12_atom_95 : decode cX12_atom 95 = .ok (.aload_n 0, 1) := by decide +kernel
theorem dX12_atom_96 : decode cX12_atom 96 = .ok (.getfield 167, 3) := by decide +kernel
theorem dX12_atom_99 : decode cX12_atom 99 = .ok (.ifCond .ne 24, 3) := by decide +kernel
theorem dX12_atom_102 : decode cX12_atom 102 = .ok (.aload_n 0, 1) := by decide +kernel
theorem dX12_atom_103 : decode cX12_atom 103 = .ok (.getfield 150, 3) := by decide +kernel
theorem dX12_atom_106 : decode cX12_atom 106 = .ok (.iconst 2, 1) := by decide +kernel
theorem dX12_atom_107 : decode cX12_atom 107 = .ok (.if_icmp .ne 16, 3) := by decide +kernel
theorem dX12_atom_110 : decode cX12_atom 110 = .ok (.aload_n 0, 1) := by decide +kernel
theorem dX12_atom_111 : decode cX12_atom 111 = .ok (.getfield 161, 3) := by decide +kernel
theorem dX12_atom_114 : decode cX12_atom 114 = .ok (.l2i, 1) := by decide +kernel
theorem dX12_atom_115 : decode cX12_atom 115 = .ok (.istore_n 1, 1) := by decide +kernel
theorem dX12_atom_116 : decode cX12_atom 116 = .ok (.aload_n 0, 1) := by decide +kernel
theorem dX12_atom_117 : decode cX12_atom 117 = .ok (.invokevirtual 184, 3) := by decide +kernel
theorem dX12_atom_120 : decode cX12_atom 120 = .ok (.goto 41, 3) := by decide +kernel
theorem dX12_atom_123 : decode cX12_atom 123 = .ok (.aload_n 0, 1) := by decide +kernel
theorem dX12_atom_124 : decode cX12_atom 124 = .ok (.getfield 167, 3) := by decide +kernel
theorem dX12_atom_127 : decode cX12_atom 127 = .ok (.ifCond .ne 30, 3) := by decide +kernel
theorem dX12_atom_130 : decode cX12_atom 130 = .ok (.aload_n 0, 1) := by decide +kernel
theorem dX12_atom_131 : decode cX12_atom 131 = .ok (.getfield 150, 3) := by decide +kernel
theorem dX12_atom_134 : decode cX12_atom 134 = .ok (.iconst 1, 1) := by decide +kernel
theorem dX12_atom_135 : decode cX12_atom 135 = .ok (.if_icmp .ne 22, 3) := by decide +kernel
theorem dX12_atom_138 : decode cX12_atom 138 = .ok (.aload_n 0, 1) := by decide +kernel
theorem dX12_atom_139 : decode cX12_atom 139 = .ok (.invokevirtual 223, 3) := by decide +kernel
theorem dX12_atom_142 : decode cX12_atom 142 = .ok (.istore_n 1, 1) := by decide +kernel
theorem dX12_atom_143 : decode cX12_atom 143 = .ok (.aload_n 0, 1) := by decide +kernel
theorem dX12_atom_144 : decode cX12_atom 144 = .ok (.getfield 167, 3) := by decide +kernel
theorem dX12_atom_147 : decode cX12_atom 147 = .ok (.ifCond .ne 14, 3) := by decide +kernel
theorem dX12_atom_150 : decode cX12_atom 150 = .ok (.aload_n 0, 1) := by decide +kernel
theorem dX12_atom_151 : decode cX12_atom 151 = .ok (.invokevirtual 184, 3) := by decide +kernel
theorem dX12_atom_154 : decode cX12_atom 154 = .ok (.goto 7, 3) := by decide +kernel
theorem dX12_atom_157 : decode cX12_atom 157 = .ok (.aload_n 0, 1) := by decide +kernel
theorem dX12_atom_158 : decode cX12_atom 158 = .ok (.invokevirtual 181, 3) := by decide +kernel
theorem dX12_atom_161 : decode cX12_atom 161 = .ok (.iload_n 1, 1) := by decide +kernel
theorem dX12_atom_162 : decode cX12_atom 162 = .ok (.ireturn, 1) := by decide +kernel
theorem dX12_term_0 : decode cX12_term 0 = .ok (.aload_n 0, 1) := by decide +kernel
theorem dX12_term_1 : decode cX12_term 1 = .ok (.invokevirtual 216, 3) := by decide +kernel
theorem dX12_term_4 : decode cX12_term 4 = .ok (.istore_n 1, 1) := by decide +kernel
theorem dX12_term_5 : decode cX12_term 5 = .ok (.aload_n 0, 1) := by decide +kernel
theorem dX12_term_6 : decode cX12_term 6 = .ok (.bipush 42, 2) := by decide +kernel
theorem dX12_term_8 : decode cX12_term 8 = .ok (.invokevirtual 209, 3) := by decide +kernel
theorem dX12_term_11 : decode cX12_term 11 = .ok (.ifCond .eq 17, 3) := by decide +kernel
theorem dX12_term_14 : decode cX12_term 14 = .ok (.aload_n 0, 1) := by decide +kernel
theorem dX12_term_15 : decode cX12_term 15 = .ok (.invokevirtual 184, 3) := by decide +kernel
theorem dX12_term_18 : decode cX12_term 18 = .ok (.iload_n 1, 1) := by decide +kernel
theorem dX12_term_19 : decode cX12_term 19 = .ok (.aload_n 0, 1) := by decide +kernel
theorem dX12_term_20 : decode cX12_term 20 = .ok (.invokevirtual 216, 3) := by decide +kernel
theorem dX12_term_23 : decode cX12_term 23 = .ok (.imul, 1) := by decide +kernel
theorem dX12_term_24 : decode cX12_term 24 = .ok (.istore_n 1, 1) := by decide +kernel
theorem dX12_term_25 : decode cX12_term 25 = .ok (.goto (-20), 3) := by decide +kernel
theorem dX12_term_28 : decode cX12_term 28 = .ok (.iload_n 1, 1) := by decide +kernel
theorem dX12_term_29 : decode cX12_term 29 = .ok (.ireturn, 1) := by decide +kernel
theorem dX12_added_0 : decode cX12_added 0 = .ok (.aload_n 0, 1) := by decide +kernel
theorem dX12_added_1 : decode cX12_added 1 = .ok (.invokevirtual 226, 3) := by decide +kernel
theorem dX12_added_4 : decode cX12_added 4 = .ok (.istore_n 1, 1) := by decide +kernel
theorem dX12_added_5 : decode cX12_added 5 = .ok (.aload_n 0, 1) := by decide +kernel
theorem dX12_added_6 : decode cX12_added 6 = .ok (.bipush 43, 2) := by decide +kernel
theorem dX12_added_8 : decode cX12_added 8 = .ok (.invokevirtual 209, 3) := by decide +kernel
theorem dX12_added_11 : decode cX12_added 11 = .ok (.ifCond .ne 12, 3) := by decide +kernel
theorem dX12_added_14 : decode cX12_added 14 = .ok (.aload_n 0, 1) := by decide +kernel
theorem dX12_added_15 : decode cX12_added 15 = .ok (.bipush 45, 2) := by decide +kernel
theorem dX12_added_17 : decode cX12_added 17 = .ok (.invokevirtual 209, 3) := by decide +kernel
theorem dX12_added_20 : decode cX12_added 20 = .ok (.ifCond .eq 46, 3) := by decide +kernel
theorem dX12_added_23 : decode cX12_added 23 = .ok (.aload_n 0, 1) := by decide +kernel
theorem dX12_added_24 : decode cX12_added 24 = .ok (.getfield 161, 3) := by decide +kernel
theorem dX12_added_27 : decode cX12_added 27 = .ok (.ldc2_w 229, 3) := by decide +kernel
theorem dX12_added_30 : decode cX12_added 30 = .ok (.lcmp, 1) := by decide +kernel
theorem dX12_added_31 : decode cX12_added 31 = .ok (.ifCond .ne 7, 3) := by decide +kernel
theorem dX12_added_34 : decode cX12_added 34 = .ok (.iconst 1, 1) := by decide +kernel
theorem dX12_added_35 : decode cX12_added 35 = .ok (.goto 4, 3) := by decide +kernel
theorem dX12_added_38 : decode cX12_added 38 = .ok (.iconst 0, 1) := by decide +kernel
theorem dX12_added_39 : decode cX12_added 39 = .ok (.istore_n 2, 1) := by decide +kernel
theorem dX12_added_40 : decode cX12_added 40 = .ok (.aload_n 0, 1) := by decide +kernel
theorem dX12_added_41 : decode cX12_added 41 = .ok (.invokevirtual 184, 3) := by decide +kernel
theorem dX12_added_44 : decode cX12_added 44 = .ok (.aload_n 0, 1) := by decide +kernel
theorem dX12_added_45 : decode cX12_added 45 = .ok (.invokevirtual 226, 3) := by decide +kernel
theorem dX12_added_48 : decode cX12_added 48 = .ok (.istore_n 3, 1) := by decide +kernel
theorem dX12_added_49 : decode cX12_added 49 = .ok (.iload_n 2, 1) := by decide +kernel
theorem dX12_added_50 : decode cX12_added 50 = .ok (.ifCond .eq 9, 3) := by decide +kernel
theorem dX12_added_53 : decode cX12_added 53 = .ok (.iload_n 1, 1) := by decide +kernel
theorem dX12_added_54 : decode cX12_added 54 = .ok (.iload_n 3, 1) := by decide +kernel
theorem dX12_added_55 : decode cX12_added 55 = .ok (.iadd, 1) := by decide +kernel
theorem dX12_added_56 : decode cX12_added 56 = .ok (.goto 6, 3) := by decide +kernel
theorem dX12_added_59 : decode cX12_added 59 = .ok (.iload_n 1, 1) := by decide +kernel
theorem dX12_added_60 : decode cX12_added 60 = .ok (.iload_n 3, 1) := by decide +kernel
theorem dX12_added_61 : decode cX12_added 61 = .ok (.isub, 1) := by decide +kernel
theorem dX12_added_62 : decode cX12_added 62 = .ok (.istore_n 1, 1) := by decide +kernel
theorem dX12_added_63 : decode cX12_added 63 = .ok (.goto (-58), 3) := by decide +kernel
theorem dX12_added_66 : decode cX12_added 66 = .ok (.iload_n 1, 1) := by decide +kernel
theorem dX12_added_67 : decode cX12_added 67 = .ok (.ireturn, 1) := by decide +kernel
theorem dX12_not_0 : decode cX12_not 0 = .ok (.aload_n 0, 1) := by decide +kernel
theorem dX12_not_1 : decode cX12_not 1 = .ok (.bipush 110, 2) := by decide +kernel
theorem dX12_not_3 : decode cX12_not 3 = .ok (.bipush 111, 2) := by decide +kernel
theorem dX12_not_5 : decode cX12_not 5 = .ok (.bipush 116, 2) := by decide +kernel
theorem dX12_not_7 : decode cX12_not 7 = .ok (.iconst 0, 1) := by decide +kernel
theorem dX12_not_8 : decode cX12_not 8 = .ok (.iconst 0, 1) := by decide +kernel
theorem dX12_not_9 : decode cX12_not 9 = .ok (.iconst 0, 1) := by decide +kernel
theorem dX12_not_10 : decode cX12_not 10 = .ok (.iconst 0, 1) := by decide +kernel
theorem dX12_not_11 : decode cX12_not 11 = .ok (.iconst 0, 1) := by decide +kernel
theorem dX12_not_12 : decode cX12_not 12 = .ok (.invokevirtual 187, 3) := by decide +kernel
theorem dX12_not_15 : decode cX12_not 15 = .ok (.ifCond .eq 37, 3) := by decide +kernel
theorem dX12_not_18 : decode cX12_not 18 = .ok (.aload_n 0, 1) := by decide +kernel
theorem dX12_not_19 : decode cX12_not 19 = .ok (.invokevirtual 212, 3) := by decide +kernel
theorem dX12_not_22 : decode cX12_not 22 = .ok (.ifCond .ne 5, 3) := by decide +kernel
theorem dX12_not_25 : decode cX12_not 25 = .ok (.iconst 0, 1) := by decide +kernel
theorem dX12_not_26 : decode cX12_not 26 = .ok (.ireturn, 1) := by decide +kernel
theorem dX12_not_27 : decode cX12_not 27 = .ok (.aload_n 0, 1) := by decide +kernel
theorem dX12_not_28 : decode cX12_not 28 = .ok (.invokevirtual 231, 3) := by decide +kernel
theorem dX12_not_31 : decode cX12_not 31 = .ok (.istore_n 1, 1) := by decide +kernel
theorem dX12_not_32 : decode cX12_not 32 = .ok (.aload_n 0, 1) := by decide +kernel
theorem dX12_not_33 : decode cX12_not 33 = .ok (.dup, 1) := by decide +kernel
theorem dX12_not_34 : decode cX12_not 34 = .ok (.getfield 178, 3) := by decide +kernel
theorem dX12_not_37 : decode cX12_not 37 = .ok (.iconst 1, 1) := by decide +kernel
theorem dX12_not_38 : decode cX12_not 38 = .ok (.isub, 1) := by decide +kernel
theorem dX12_not_39 : decode cX12_not 39 = .ok (.putfield 178, 3) := by decide +kernel
theorem dX12_not_42 : decode cX12_not 42 = .ok (.iload_n 1, 1) := by decide +kernel
theorem dX12_not_43 : decode cX12_not 43 = .ok (.ifCond .ne 7, 3) := by decide +kernel
theorem dX12_not_46 : decode cX12_not 46 = .ok (.iconst 1, 1) := by decide +kernel
theorem dX12_not_47 : decode cX12_not 47 = .ok (.goto 4, 3) := by decide +kernel
theorem dX12_not_50 : decode cX12_not 50 = .ok (.iconst 0, 1) := by decide +kernel
theorem dX12_not_51 : decode cX12_not 51 = .ok (.ireturn, 1) := by decide +kernel
theorem dX12_not_52 : decode cX12_not 52 = .ok (.aload_n 0, 1) := by decide +kernel
theorem dX12_not_53 : decode cX12_not 53 = .ok (.invokevirtual 234, 3) := by decide +kernel
theorem dX12_not_56 : decode cX12_not 56 = .ok (.istore_n 1, 1) := by decide +kernel
theorem dX12_not_57 : decode cX12_not 57 = .ok (.aload_n 0, 1) := by decide +kernel
theorem dX12_not_58 : decode cX12_not 58 = .ok (.bipush 60, 2) := by decide +kernel
theorem dX12_not_60 : decode cX12_not 60 = .ok (.invokevirtual 209, 3) := by decide +kernel
theorem dX12_not_63 : decode cX12_not 63 = .ok (.ifCond .ne 14, 3) := by decide +kernel
theorem dX12_not_66 : decode cX12_not 66 = .ok (.aload_n 0, 1) := by decide +kernel
theorem dX12_not_67 : decode cX12_not 67 = .ok (.bipush 61, 2) := by decide +kernel
theorem dX12_not_69 : decode cX12_not 69 = .ok (.invokevirtual 209, 3) := by decide +kernel
theorem dX12_not_72 : decode cX12_not 72 = .ok (.ifCond .ne 5, 3) := by decide +kernel
theorem dX12_not_75 : decode cX12_not 75 = .ok (.iload_n 1, 1) := by decide +kernel
theorem dX12_not_76 : decode cX12_not 76 = .ok (.ireturn, 1) := by decide +kernel
theorem dX12_not_77 : decode cX12_not 77 = .ok (.aload_n 0, 1) := by decide +kernel
theorem dX12_not_78 : decode cX12_not 78 = .ok (.getfield 161, 3) := by decide +kernel
theorem dX12_not_81 : decode cX12_not 81 = .ok (.ldc2_w 237, 3) := by decide +kernel
theorem dX12_not_84 : decode cX12_not 84 = .ok (.lcmp, 1) := by decide +kernel
theorem dX12_not_85 : decode cX12_not 85 = .ok (.ifCond .ne 7, 3) := by decide +kernel
theorem dX12_not_88 : decode cX12_not 88 = .ok (.iconst 1, 1) := by decide +kernel
theorem dX12_not_89 : decode cX12_not 89 = .ok (.goto 4, 3) := by decide +kernel
theorem dX12_not_92 : decode cX12_not 92 = .ok (.iconst 0, 1) := by decide +kernel
theorem dX12_not_93 : decode cX12_not 93 = .ok (.istore_n 2, 1) := by decide +kernel
theorem dX12_not_94 : decode cX12_not 94 = .ok (.aload_n 0, 1) := by decide +kernel
theorem dX12_not_95 : decode cX12_not 95 = .ok (.invokevirtual 184, 3) := by decide +kernel
theorem dX12_not_98 : decode cX12_not 98 = .ok (.aload_n 0, 1) := by decide +kernel
theorem dX12_not_99 : decode cX12_not 99 = .ok (.invokevirtual 234, 3) := by decide +kernel
theorem dX12_not_102 : decode cX12_not 102 = .ok (.istore_n 3, 1) := by decide +kernel
theorem dX12_not_103 : decode cX12_not 103 = .ok (.iload_n 2, 1) := by decide +kernel
theorem dX12_not_104 : decode cX12_not 104 = .ok (.ifCond .eq 11, 3) := by decide +kernel
theorem dX12_not_107 : decode cX12_not 107 = .ok (.iload_n 1, 1) := by decide +kernel
theorem dX12_not_108 : decode cX12_not 108 = .ok (.iload_n 3, 1) := by decide +kernel
theorem dX12_not_109 : decode cX12_not 109 = .ok (.if_icmp .ge 15, 3) := by decide +kernel
theorem dX12_not_112 : decode cX12_not 112 = .ok (.goto 8, 3) := by decide +kernel
theorem dX12_not_115 : decode cX12_not 115 = .ok (.iload_n 1, 1) := by decide +kernel
theorem dX12_not_116 : decode cX12_not 116 = .ok (.iload_n 3, 1) := by decide +kernel
theorem dX12_not_117 : decode cX12_not 117 = .ok (.if_icmp .ne 7, 3) := by decide +kernel
theorem dX12_not_120 : decode cX12_not 120 = .ok (.iconst 1, 1) := by decide +kernel
theorem dX12_not_121 : decode cX12_not 121 = .ok (.goto 4, 3) := by decide +kernel
theorem dX12_not_124 : decode cX12_not 124 = .ok (.iconst 0, 1) := by decide +kernel
theorem dX12_not_125 : decode cX12_not 125 = .ok (.ireturn, 1) := by decide +kernel
theorem dX12_both_0 : decode cX12_both 0 = .ok (.aload_n 0, 1) := by decide +kernel
theorem dX12_both_1 : decode cX12_both 1 = .ok (.invokevirtual 231, 3) := by decide +kernel
theorem dX12_both_4 : decode cX12_both 4 = .ok (.istore_n 1, 1) := by decide +kernel
theorem dX12_both_5 : decode cX12_both 5 = .ok (.aload_n 0, 1) := by decide +kernel
theorem dX12_both_6 : decode cX12_both 6 = .ok (.bipush 97, 2) := by decide +kernel
theorem dX12_both_8 : decode cX12_both 8 = .ok (.bipush 110, 2) := by decide +kernel
theorem dX12_both_10 : decode cX12_both 10 = .ok (.bipush 100, 2) := by decide +kernel
theorem dX12_both_12 : decode cX12_both 12 = .ok (.iconst 0, 1) := by decide +kernel
theorem dX12_both_13 : decode cX12_both 13 = .ok (.iconst 0, 1) := by decide +kernel
theorem dX12_both_14 : decode cX12_both 14 = .ok (.iconst 0, 1) := by decide +kernel
theorem dX12_both_15 : decode cX12_both 15 = .ok (.iconst 0, 1) := by decide +kernel
theorem dX12_both_16 : decode cX12_both 16 = .ok (.iconst 0, 1) := by decide +kernel
theorem dX12_both_17 : decode cX12_both 17 = .ok (.invokevirtual 187, 3) := by decide +kernel
theorem dX12_both_20 : decode cX12_both 20 = .ok (.ifCond .eq 29, 3) := by decide +kernel
theorem dX12_both_23 : decode cX12_both 23 = .ok (.aload_n 0, 1) := by decide +kernel
theorem dX12_both_24 : decode cX12_both 24 = .ok (.invokevirtual 184, 3) := by decide +kernel
theorem dX12_both_27 : decode cX12_both 27 = .ok (.aload_n 0, 1) := by decide +kernel
theorem dX12_both_28 : decode cX12_both 28 = .ok (.invokevirtual 231, 3) := by decide +kernel
theorem dX12_both_31 : decode cX12_both 31 = .ok (.istore_n 2, 1) := by decide +kernel
theorem dX12_both_32 : decode cX12_both 32 = .ok (.iload_n 1, 1) := by decide +kernel
theorem dX12_both_33 : decode cX12_both 33 = .ok (.ifCond .eq 11, 3) := by decide +kernel
theorem dX12_both_36 : decode cX12_both 36 = .ok (.iload_n 2, 1) := by decide +kernel
theorem dX12_both_37 : decode cX12_both 37 = .ok (.ifCond .eq 7, 3) := by decide +kernel
theorem dX12_both_40 : decode cX12_both 40 = .ok (.iconst 1, 1) := by decide +kernel
theorem dX12_both_41 : decode cX12_both 41 = .ok (.goto 4, 3) := by decide +kernel
theorem dX12_both_44 : decode cX12_both 44 = .ok (.iconst 0, 1) := by decide +kernel
theorem dX12_both_45 : decode cX12_both 45 = .ok (.istore_n 1, 1) := by decide +kernel
theorem dX12_both_46 : decode cX12_both 46 = .ok (.goto (-41), 3) := by decide +kernel
theorem dX12_both_49 : decode cX12_both 49 = .ok (.iload_n 1, 1) := by decide +kernel
theorem dX12_both_50 : decode cX12_both 50 = .ok (.ireturn, 1) := by decide +kernel
theorem dX12_either_0 : decode cX12_either 0 = .ok (.aload_n 0, 1) := by decide +kernel
theorem dX12_either_1 : decode cX12_either 1 = .ok (.invokevirtual 239, 3) := by decide +kernel
theorem dX12_either_4 : decode cX12_either 4 = .ok (.istore_n 1, 1) := by decide +kernel
theorem dX12_either_5 : decode cX12_either 5 = .ok (.aload_n 0, 1) := by decide +kernel
theorem dX12_either_6 : decode cX12_either 6 = .ok (.bipush 111, 2) := by decide +kernel
theorem dX12_either_8 : decode cX12_either 8 = .ok (.bipush 114, 2) := by decide +kernel
theorem dX12_either_10 : decode cX12_either 10 = .ok (.iconst 0, 1) := by decide +kernel
theorem dX12_either_11 : decode cX12_either 11 = .ok (.iconst 0, 1) := by decide +kernel
theorem dX12_either_12 : decode cX12_either 12 = .ok (.iconst 0, 1) := by decide +kernel
theorem dX12_either_13 : decode cX12_either 13 = .ok (.iconst 0, 1) := by decide +kernel
theorem dX12_either_14 : decode cX12_either 14 = .ok (.iconst 0, 1) := by decide +kernel
theorem dX12_either_15 : decode cX12_either 15 = .ok (.iconst 0, 1) := by decide +kernel
theorem dX12_either_16 : decode cX12_either 16 = .ok (.invokevirtual 187, 3) := by decide +kernel
theorem dX12_either_19 : decode cX12_either 19 = .ok (.ifCond .eq 29, 3) := by decide +kernel
theorem dX12_either_22 : decode cX12_either 22 = .ok (.aload_n 0, 1) := by decide +kernel
theorem dX12_either_23 : decode cX12_either 23 = .ok (.invokevirtual 184, 3) := by decide +kernel
theorem dX12_either_26 : decode cX12_either 26 = .ok (.aload_n 0, 1) := by decide +kernel
theorem dX12_either_27 : decode cX12_either 27 = .ok (.invokevirtual 239, 3) := by decide +kernel
theorem dX12_either_30 : decode cX12_either 30 = .ok (.istore_n 2, 1) := by decide +kernel
theorem dX12_either_31 : decode cX12_either 31 = .ok (.iload_n 1, 1) := by decide +kernel
theorem dX12_either_32 : decode cX12_either 32 = .ok (.ifCond .ne 7, 3) := by decide +kernel
theorem dX12_either_35 : decode cX12_either 35 = .ok (.iload_n 2, 1) := by decide +kernel
theorem dX12_either_36 : decode cX12_either 36 = .ok (.ifCond .eq 7, 3) := by decide +kernel
theorem dX12_either_39 : decode cX12_either 39 = .ok (.iconst 1, 1) := by decide +kernel
theorem dX12_either_40 : decode cX12_either 40 = .ok (.goto 4, 3) := by decide +kernel
theorem dX12_either_43 : decode cX12_either 43 = .ok (.iconst 0, 1) := by decide +kernel
theorem dX12_either_44 : decode cX12_either 44 = .ok (.istore_n 1, 1) := by decide +kernel
theorem dX12_either_45 : decode cX12_either 45 = .ok (.goto (-40), 3) := by decide +kernel
theorem dX12_either_48 : decode cX12_either 48 = .ok (.iload_n 1, 1) := by decide +kernel
theorem dX12_either_49 : decode cX12_either 49 = .ok (.ireturn, 1) := by decide +kernel
theorem dX12_part_0 : decode cX12_part 0 = .ok (.iload_n 1, 1) := by decide +kernel
theorem dX12_part_1 : decode cX12_part 1 = .ok (.ifCond .ne 7, 3) := by decide +kernel
theorem dX12_part_4 : decode cX12_part 4 = .ok (.aload_n 0, 1) := by decide +kernel
theorem dX12_part_5 : decode cX12_part 5 = .ok (.invokevirtual 181, 3) := by decide +kernel
theorem dX12_part_8 : decode cX12_part 8 = .ok (.aload_n 0, 1) := by decide +kernel
theorem dX12_part_9 : decode cX12_part 9 = .ok (.getfield 167, 3) := by decide +kernel
theorem dX12_part_12 : decode cX12_part 12 = .ok (.ifCond .ne 7, 3) := by decide +kernel
theorem dX12_part_15 : decode cX12_part 15 = .ok (.aload_n 0, 1) := by decide +kernel
theorem dX12_part_16 : decode cX12_part 16 = .ok (.invokevirtual 184, 3) := by decide +kernel
theorem dX12_part_19 : decode cX12_part 19 = .ok (.aload_n 0, 1) := by decide +kernel
theorem dX12_part_20 : decode cX12_part 20 = .ok (.getfield 167, 3) := by decide +kernel
theorem dX12_part_23 : decode cX12_part 23 = .ok (.ifCond .eq 7, 3) := by decide +kernel
theorem dX12_part_26 : decode cX12_part 26 = .ok (.iconst 0, 1) := by decide +kernel
theorem dX12_part_27 : decode cX12_part 27 = .ok (.goto 7, 3) := by decide +kernel
theorem dX12_part_30 : decode cX12_part 30 = .ok (.aload_n 0, 1) := by decide +kernel
theorem dX12_part_31 : decode cX12_part 31 = .ok (.invokevirtual 220, 3) := by decide +kernel
theorem dX12_part_34 : decode cX12_part 34 = .ok (.istore_n 2, 1) := by decide +kernel
theorem dX12_part_35 : decode cX12_part 35 = .ok (.aload_n 0, 1) := by decide +kernel
theorem dX12_part_36 : decode cX12_part 36 = .ok (.bipush 59, 2) := by decide +kernel
theorem dX12_part_38 : decode cX12_part 38 = .ok (.invokevirtual 209, 3) := by decide +kernel
theorem dX12_part_41 : decode cX12_part 41 = .ok (.ifCond .ne 7, 3) := by decide +kernel
theorem dX12_part_44 : decode cX12_part 44 = .ok (.aload_n 0, 1) := by decide +kernel
theorem dX12_part_45 : decode cX12_part 45 = .ok (.invokevirtual 181, 3) := by decide +kernel
theorem dX12_part_48 : decode cX12_part 48 = .ok (.aload_n 0, 1) := by decide +kernel
theorem dX12_part_49 : decode cX12_part 49 = .ok (.getfield 167, 3) := by decide +kernel
theorem dX12_part_52 : decode cX12_part 52 = .ok (.ifCond .ne 7, 3) := by decide +kernel
theorem dX12_part_55 : decode cX12_part 55 = .ok (.aload_n 0, 1) := by decide +kernel
theorem dX12_part_56 : decode cX12_part 56 = .ok (.invokevirtual 184, 3) := by decide +kernel
theorem dX12_part_59 : decode cX12_part 59 = .ok (.iload_n 2, 1) := by decide +kernel
theorem dX12_part_60 : decode cX12_part 60 = .ok (.ireturn, 1) := by decide +kernel
theorem dX12_read_0 : decode cX12_read 0 = .ok (.aload_n 0, 1) := by decide +kernel
theorem dX12_read_1 : decode cX12_read 1 = .ok (.sipush 160, 3) := by decide +kernel
theorem dX12_read_4 : decode cX12_read 4 = .ok (.iload_n 1, 1) := by decide +kernel
theorem dX12_read_5 : decode cX12_read 5 = .ok (.imul, 1) := by decide +kernel
theorem dX12_read_6 : decode cX12_read 6 = .ok (.putfield 138, 3) := by decide +kernel
theorem dX12_read_9 : decode cX12_read 9 = .ok (.aload_n 0, 1) := by decide +kernel
theorem dX12_read_10 : decode cX12_read 10 = .ok (.aload_n 0, 1) := by decide +kernel
theorem dX12_read_11 : decode cX12_read 11 = .ok (.getfield 17, 3) := by decide +kernel
theorem dX12_read_14 : decode cX12_read 14 = .ok (.iload_n 1, 1) := by decide +kernel
theorem dX12_read_15 : decode cX12_read 15 = .ok (.iaload, 1) := by decide +kernel
theorem dX12_read_16 : decode cX12_read 16 = .ok (.putfield 135, 3) := by decide +kernel
theorem dX12_read_19 : decode cX12_read 19 = .ok (.aload_n 0, 1) := by decide +kernel
theorem dX12_read_20 : decode cX12_read 20 = .ok (.iconst 0, 1) := by decide +kernel
theorem dX12_read_21 : decode cX12_read 21 = .ok (.putfield 141, 3) := by decide +kernel
theorem dX12_read_24 : decode cX12_read 24 = .ok (.aload_n 0, 1) := by decide +kernel
theorem dX12_read_25 : decode cX12_read 25 = .ok (.iconst 0, 1) := by decide +kernel
theorem dX12_read_26 : decode cX12_read 26 = .ok (.putfield 178, 3) := by decide +kernel
theorem dX12_read_29 : decode cX12_read 29 = .ok (.aload_n 0, 1) := by decide +kernel
theorem dX12_read_30 : decode cX12_read 30 = .ok (.iconst 0, 1) := by decide +kernel
theorem dX12_read_31 : decode cX12_read 31 = .ok (.putfield 167, 3) := by decide +kernel
theorem dX12_read_34 : decode cX12_read 34 = .ok (.aload_n 0, 1) := by decide +kernel
theorem dX12_read_35 : decode cX12_read 35 = .ok (.invokevirtual 184, 3) := by decide +kernel
theorem dX12_read_38 : decode cX12_read 38 = .ok (.aload_n 0, 1) := by decide +kernel
theorem dX12_read_39 : decode cX12_read 39 = .ok (.aload_n 0, 1) := by decide +kernel
theorem dX12_read_40 : decode cX12_read 40 = .ok (.bipush 116, 2) := by decide +kernel
theorem dX12_read_42 : decode cX12_read 42 = .ok (.bipush 97, 2) := by decide +kernel
theorem dX12_read_44 : decode cX12_read 44 = .ok (.bipush 107, 2) := by decide +kernel
theorem dX12_read_46 : decode cX12_read 46 = .ok (.bipush 101, 2) := by decide +kernel
theorem dX12_read_48 : decode cX12_read 48 = .ok (.bipush 115, 2) := by decide +kernel
theorem dX12_read_50 : decode cX12_read 50 = .ok (.iconst 0, 1) := by decide +kernel
theorem dX12_read_51 : decode cX12_read 51 = .ok (.iconst 0, 1) := by decide +kernel
theorem dX12_read_52 : decode cX12_read 52 = .ok (.iconst 0, 1) := by decide +kernel
theorem dX12_read_53 : decode cX12_read 53 = .ok (.invokevirtual 187, 3) := by decide +kernel
theorem dX12_read_56 : decode cX12_read 56 = .ok (.invokevirtual 242, 3) := by decide +kernel
theorem dX12_read_59 : decode cX12_read 59 = .ok (.istore_n 3, 1) := by decide +kernel
theorem dX12_read_60 : decode cX12_read 60 = .ok (.aload_n 0, 1) := by decide +kernel
theorem dX12_read_61 : decode cX12_read 61 = .ok (.getfield 167, 3) := by decide +kernel
theorem dX12_read_64 : decode cX12_read 64 = .ok (.ifCond .eq 7, 3) := by decide +kernel
theorem dX12_read_67 : decode cX12_read 67 = .ok (.iconst 0, 1) := by decide +kernel
theorem dX12_read_68 : decode cX12_read 68 = .ok (.goto 23, 3) := by decide +kernel
theorem dX12_read_71 : decode cX12_read 71 = .ok (.aload_n 0, 1) := by decide +kernel
theorem dX12_read_72 : decode cX12_read 72 = .ok (.aload_n 0, 1) := by decide +kernel
theorem dX12_read_73 : decode cX12_read 73 = .ok (.bipush 103, 2) := by decide +kernel
theorem dX12_read_75 : decode cX12_read 75 = .ok (.bipush 111, 2) := by decide +kernel
theorem dX12_read_77 : decode cX12_read 77 = .ok (.bipush 101, 2) := by decide +kernel
theorem dX12_read_79 : decode cX12_read 79 = .ok (.bipush 115, 2) := by decide +kernel
theorem dX12_read_81 : decode cX12_read 81 = .ok (.iconst 0, 1) := by decide +kernel
theorem dX12_read_82 : decode cX12_read 82 = .ok (.iconst 0, 1) := by decide +kernel
theorem dX12_read_83 : decode cX12_read 83 = .ok (.iconst 0, 1) := by decide +kernel
theorem dX12_read_84 : decode cX12_read 84 = .ok (.iconst 0, 1) := by decide +kernel
theorem dX12_read_85 : decode cX12_read 85 = .ok (.invokevirtual 187, 3) := by decide +kernel
theorem dX12_read_88 : decode cX12_read 88 = .ok (.invokevirtual 242, 3) := by decide +kernel
theorem dX12_read_91 : decode cX12_read 91 = .ok (.istore 4, 2) := by decide +kernel
theorem dX12_read_93 : decode cX12_read 93 = .ok (.aload_n 0, 1) := by decide +kernel
theorem dX12_read_94 : decode cX12_read 94 = .ok (.getfield 167, 3) := by decide +kernel
theorem dX12_read_97 : decode cX12_read 97 = .ok (.ifCond .eq 7, 3) := by decide +kernel
theorem dX12_read_100 : decode cX12_read 100 = .ok (.iconst 0, 1) := by decide +kernel
theorem dX12_read_101 : decode cX12_read 101 = .ok (.goto 24, 3) := by decide +kernel
theorem dX12_read_104 : decode cX12_read 104 = .ok (.aload_n 0, 1) := by decide +kernel
theorem dX12_read_105 : decode cX12_read 105 = .ok (.aload_n 0, 1) := by decide +kernel
theorem dX12_read_106 : decode cX12_read 106 = .ok (.bipush 119, 2) := by decide +kernel
theorem dX12_read_108 : decode cX12_read 108 = .ok (.bipush 111, 2) := by decide +kernel
theorem dX12_read_110 : decode cX12_read 110 = .ok (.bipush 114, 2) := by decide +kernel
theorem dX12_read_112 : decode cX12_read 112 = .ok (.bipush 116, 2) := by decide +kernel
theorem dX12_read_114 : decode cX12_read 114 = .ok (.bipush 104, 2) := by decide +kernel
theorem dX12_read_116 : decode cX12_read 116 = .ok (.iconst 0, 1) := by decide +kernel
theorem dX12_read_117 : decode cX12_read 117 = .ok (.iconst 0, 1) := by decide +kernel
theorem dX12_read_118 : decode cX12_read 118 = .ok (.iconst 0, 1) := by decide +kernel
theorem dX12_read_119 : decode cX12_read 119 = .ok (.invokevirtual 187, 3) := by decide +kernel
theorem dX12_read_122 : decode cX12_read 122 = .ok (.invokevirtual 242, 3) := by decide +kernel
theorem dX12_read_125 : decode cX12_read 125 = .ok (.istore 5, 2) := by decide +kernel
theorem dX12_read_127 : decode cX12_read 127 = .ok (.aload_n 0, 1) := by decide +kernel
theorem dX12_read_128 : decode cX12_read 128 = .ok (.getfield 167, 3) := by decide +kernel
theorem dX12_read_131 : decode cX12_read 131 = .ok (.ifCond .ne 14, 3) := by decide +kernel
theorem dX12_read_134 : decode cX12_read 134 = .ok (.aload_n 0, 1) := by decide +kernel
theorem dX12_read_135 : decode cX12_read 135 = .ok (.getfield 150, 3) := by decide +kernel
theorem dX12_read_138 : decode cX12_read 138 = .ok (.ifCond .eq 7, 3) := by decide +kernel
theorem dX12_read_141 : decode cX12_read 141 = .ok (.aload_n 0, 1) := by decide +kernel
theorem dX12_read_142 : decode cX12_read 142 = .ok (.invokevirtual 181, 3) := by decide +kernel
theorem dX12_read_145 : decode cX12_read 145 = .ok (.iload_n 2, 1) := by decide +kernel
theorem dX12_read_146 : decode cX12_read 146 = .ok (.ifCond .ne 7, 3) := by decide +kernel
theorem dX12_read_149 : decode cX12_read 149 = .ok (.iload_n 3, 1) := by decide +kernel
theorem dX12_read_150 : decode cX12_read 150 = .ok (.goto 15, 3) := by decide +kernel
theorem dX12_read_153 : decode cX12_read 153 = .ok (.iload_n 2, 1) := by decide +kernel
theorem dX12_read_154 : decode cX12_read 154 = .ok (.iconst 1, 1) := by decide +kernel
theorem dX12_read_155 : decode cX12_read 155 = .ok (.if_icmp .ne 8, 3) := by decide +kernel
theorem dX12_read_158 : decode cX12_read 158 = .ok (.iload 4, 2) := by decide +kernel
theorem dX12_read_160 : decode cX12_read 160 = .ok (.goto 5, 3) := by decide +kernel
theorem dX12_read_163 : decode cX12_read 163 = .ok (.iload 5, 2) := by decide +kernel
theorem dX12_read_165 : decode cX12_read 165 = .ok (.ireturn, 1) := by decide +kernel
theorem dX12_text_0 : decode cX12_text 0 = .ok (.aload_n 0, 1) := by decide +kernel
theorem dX12_text_1 : decode cX12_text 1 = .ok (.getfield 67, 3) := by decide +kernel
theorem dX12_text_4 : decode cX12_text 4 = .ok (.bipush 6, 2) := by decide +kernel
theorem dX12_text_6 : decode cX12_text 6 = .ok (.if_icmp .ne 6, 3) := by decide +kernel
theorem dX12_text_9 : decode cX12_text 9 = .ok (.bipush (-4), 2) := by decide +kernel
theorem dX12_text_11 : decode cX12_text 11 = .ok (.ireturn, 1) := by decide +kernel
theorem dX12_text_12 : decode cX12_text 12 = .ok (.iconst 0, 1) := by decide +kernel
theorem dX12_text_13 : decode cX12_text 13 = .ok (.istore_n 1, 1) := by decide +kernel
theorem dX12_text_14 : decode cX12_text 14 = .ok (.iload_n 1, 1) := by decide +kernel
theorem dX12_text_15 : decode cX12_text 15 = .ok (.aload_n 0, 1) := by decide +kernel
theorem dX12_text_16 : decode cX12_text 16 = .ok (.getfield 132, 3) := by decide +kernel
theorem dX12_text_19 : decode cX12_text 19 = .ok (.if_icmp .ge 30, 3) := by decide +kernel
theorem dX12_text_22 : decode cX12_text 22 = .ok (.aload_n 0, 1) := by decide +kernel
theorem dX12_text_23 : decode cX12_text 23 = .ok (.getfield 13, 3) := by decide +kernel
theorem dX12_text_26 : decode cX12_text 26 = .ok (.sipush 160, 3) := by decide +kernel
theorem dX12_text_29 : decode cX12_text 29 = .ok (.aload_n 0, 1) := by decide +kernel
theorem dX12_text_30 : decode cX12_text 30 = .ok (.getfield 67, 3) := by decide +kernel
theorem dX12_text_33 : decode cX12_text 33 = .ok (.imul, 1) := by decide +kernel
theorem dX12_text_34 : decode cX12_text 34 = .ok (.iload_n 1, 1) := by decide +kernel
theorem dX12_text_35 : decode cX12_text 35 = .ok (.iadd, 1) := by decide +kernel
theorem dX12_text_36 : decode cX12_text 36 = .ok (.aload_n 0, 1) := by decide +kernel
theorem dX12_text_37 : decode cX12_text 37 = .ok (.getfield 20, 3) := by decide +kernel
theorem dX12_text_40 : decode cX12_text 40 = .ok (.iload_n 1, 1) := by decide +kernel
theorem dX12_text_41 : decode cX12_text 41 = .ok (.iaload, 1) := by decide +kernel
theorem dX12_text_42 : decode cX12_text 42 = .ok (.iastore, 1) := by decide +kernel
theorem dX12_text_43 : decode cX12_text 43 = .ok (.iinc 1 1, 3) := by decide +kernel
theorem dX12_text_46 : decode cX12_text 46 = .ok (.goto (-32), 3) := by decide +kernel
theorem dX12_text_49 : decode cX12_text 49 = .ok (.aload_n 0, 1) := by decide +kernel
theorem dX12_text_50 : decode cX12_text 50 = .ok (.getfield 17, 3) := by decide +kernel
theorem dX12_text_53 : decode cX12_text 53 = .ok (.aload_n 0, 1) := by decide +kernel
theorem dX12_text_54 : decode cX12_text 54 = .ok (.getfield 67, 3) := by decide +kernel
theorem dX12_text_57 : decode cX12_text 57 = .ok (.aload_n 0, 1) := by decide +kernel
theorem dX12_text_58 : decode cX12_text 58 = .ok (.getfield 132, 3) := by decide +kernel
theorem dX12_text_61 : decode cX12_text 61 = .ok (.iastore, 1) := by decide +kernel
theorem dX12_text_62 : decode cX12_text 62 = .ok (.aload_n 0, 1) := by decide +kernel
theorem dX12_text_63 : decode cX12_text 63 = .ok (.iconst 0, 1) := by decide +kernel
theorem dX12_text_64 : decode cX12_text 64 = .ok (.putfield 132, 3) := by decide +kernel
theorem dX12_text_67 : decode cX12_text 67 = .ok (.aload_n 0, 1) := by decide +kernel
theorem dX12_text_68 : decode cX12_text 68 = .ok (.aload_n 0, 1) := by decide +kernel
theorem dX12_text_69 : decode cX12_text 69 = .ok (.getfield 67, 3) := by decide +kernel
theorem dX12_text_72 : decode cX12_text 72 = .ok (.iconst 0, 1) := by decide +kernel
theorem dX12_text_73 : decode cX12_text 73 = .ok (.invokevirtual 246, 3) := by decide +kernel
theorem dX12_text_76 : decode cX12_text 76 = .ok (.istore_n 1, 1) := by decide +kernel
theorem dX12_text_77 : decode cX12_text 77 = .ok (.aload_n 0, 1) := by decide +kernel
theorem dX12_text_78 : decode cX12_text 78 = .ok (.getfield 167, 3) := by decide +kernel
theorem dX12_text_81 : decode cX12_text 81 = .ok (.ifCond .eq 11, 3) := by decide +kernel
theorem dX12_text_84 : decode cX12_text 84 = .ok (.bipush (-100), 2) := by decide +kernel
theorem dX12_text_86 : decode cX12_text 86 = .ok (.aload_n 0, 1) := by decide +kernel
theorem dX12_text_87 : decode cX12_text 87 = .ok (.getfield 171, 3) := by decide +kernel
theorem dX12_text_90 : decode cX12_text 90 = .ok (.isub, 1) := by decide +kernel
theorem dX12_text_91 : decode cX12_text 91 = .ok (.ireturn, 1) := by decide +kernel
theorem dX12_text_92 : decode cX12_text 92 = .ok (.aload_n 0, 1) := by decide +kernel
theorem dX12_text_93 : decode cX12_text 93 = .ok (.dup, 1) := by decide +kernel
theorem dX12_text_94 : decode cX12_text 94 = .ok (.getfield 67, 3) := by decide +kernel
theorem dX12_text_97 : decode cX12_text 97 = .ok (.iconst 1, 1) := by decide +kernel
theorem dX12_text_98 : decode cX12_text 98 = .ok (.iadd, 1) := by decide +kernel
theorem dX12_text_99 : decode cX12_text 99 = .ok (.putfield 67, 3) := by decide +kernel
theorem dX12_text_102 : decode cX12_text 102 = .ok (.aload_n 0, 1) := by decide +kernel
theorem dX12_text_103 : decode cX12_text 103 = .ok (.getfield 67, 3) := by decide +kernel
theorem dX12_text_106 : decode cX12_text 106 = .ok (.iconst 1, 1) := by decide +kernel
theorem dX12_text_107 : decode cX12_text 107 = .ok (.isub, 1) := by decide +kernel
theorem dX12_text_108 : decode cX12_text 108 = .ok (.ireturn, 1) := by decide +kernel
theorem dX12_force_0 : decode cX12_force 0 = .ok (.iload_n 1, 1) := by decide +kernel
theorem dX12_force_1 : decode cX12_force 1 = .ok (.i2l, 1) := by decide +kernel
theorem dX12_force_2 : decode cX12_force 2 = .ok (.lconst 0, 1) := by decide +kernel
theorem dX12_force_3 : decode cX12_force 3 = .ok (.aload_n 0, 1) := by decide +kernel
theorem dX12_force_4 : decode cX12_force 4 = .ok (.getfield 67, 3) := by decide +kernel
theorem dX12_force_7 : decode cX12_force 7 = .ok (.iconst 1, 1) := by decide +kernel
theorem dX12_force_8 : decode cX12_force 8 = .ok (.isub, 1) := by decide +kernel
theorem dX12_force_9 : decode cX12_force 9 = .ok (.i2l, 1) := by decide +kernel
theorem dX12_force_10 : decode cX12_force 10 = .ok (.invokestatic 73, 3) := by decide +kernel
theorem dX12_force_13 : decode cX12_force 13 = .ok (.ifCond .ne 6, 3) := by decide +kernel
theorem dX12_force_16 : decode cX12_force 16 = .ok (.bipush (-2), 2) := by decide +kernel
theorem dX12_force_18 : decode cX12_force 18 = .ok (.ireturn, 1) := by decide +kernel
theorem dX12_force_19 : decode cX12_force 19 = .ok (.aload_n 0, 1) := by decide +kernel
theorem dX12_force_20 : decode cX12_force 20 = .ok (.getfield 100, 3) := by decide +kernel
theorem dX12_force_23 : decode cX12_force 23 = .ok (.istore_n 2, 1) := by decide +kernel
theorem dX12_force_24 : decode cX12_force 24 = .ok (.aload_n 0, 1) := by decide +kernel
theorem dX12_force_25 : decode cX12_force 25 = .ok (.iload_n 1, 1) := by decide +kernel
theorem dX12_force_26 : decode cX12_force 26 = .ok (.putfield 100, 3) := by decide +kernel
theorem dX12_force_29 : decode cX12_force 29 = .ok (.iload_n 2, 1) := by decide +kernel
theorem dX12_force_30 : decode cX12_force 30 = .ok (.ireturn, 1) := by decide +kernel
theorem dX12_takes_0 : decode cX12_takes 0 = .ok (.bipush 8, 2) := by decide +kernel
theorem dX12_takes_2 : decode cX12_takes 2 = .ok (.iload_n 1, 1) := by decide +kernel
theorem dX12_takes_3 : decode cX12_takes 3 = .ok (.imul, 1) := by decide +kernel
theorem dX12_takes_4 : decode cX12_takes 4 = .ok (.iload_n 3, 1) := by decide +kernel
theorem dX12_takes_5 : decode cX12_takes 5 = .ok (.iadd, 1) := by decide +kernel
theorem dX12_takes_6 : decode cX12_takes 6 = .ok (.istore 4, 2) := by decide +kernel
theorem dX12_takes_8 : decode cX12_takes 8 = .ok (.bipush 8, 2) := by decide +kernel
theorem dX12_takes_10 : decode cX12_takes 10 = .ok (.iload_n 2, 1) := by decide +kernel
theorem dX12_takes_11 : decode cX12_takes 11 = .ok (.imul, 1) := by decide +kernel
theorem dX12_takes_12 : decode cX12_takes 12 = .ok (.iload_n 3, 1) := by decide +kernel
theorem dX12_takes_13 : decode cX12_takes 13 = .ok (.iadd, 1) := by decide +kernel
theorem dX12_takes_14 : decode cX12_takes 14 = .ok (.istore 5, 2) := by decide +kernel
theorem dX12_takes_16 : decode cX12_takes 16 = .ok (.aload_n 0, 1) := by decide +kernel
theorem dX12_takes_17 : decode cX12_takes 17 = .ok (.aload_n 0, 1) := by decide +kernel
theorem dX12_takes_18 : decode cX12_takes 18 = .ok (.getfield 32, 3) := by decide +kernel
theorem dX12_takes_21 : decode cX12_takes 21 = .ok (.iload 5, 2) := by decide +kernel
theorem dX12_takes_23 : decode cX12_takes 23 = .ok (.iaload, 1) := by decide +kernel
theorem dX12_takes_24 : decode cX12_takes 24 = .ok (.putfield 191, 3) := by decide +kernel
theorem dX12_takes_27 : decode cX12_takes 27 = .ok (.aload_n 0, 1) := by decide +kernel
theorem dX12_takes_28 : decode cX12_takes 28 = .ok (.aload_n 0, 1) := by decide +kernel
theorem dX12_takes_29 : decode cX12_takes 29 = .ok (.getfield 32, 3) := by decide +kernel
theorem dX12_takes_32 : decode cX12_takes 32 = .ok (.iload 4, 2) := by decide +kernel
theorem dX12_takes_34 : decode cX12_takes 34 = .ok (.iaload, 1) := by decide +kernel
theorem dX12_takes_35 : decode cX12_takes 35 = .ok (.putfield 194, 3) := by decide +kernel
theorem dX12_takes_38 : decode cX12_takes 38 = .ok (.aload_n 0, 1) := by decide +kernel
theorem dX12_takes_39 : decode cX12_takes 39 = .ok (.aload_n 0, 1) := by decide +kernel
theorem dX12_takes_40 : decode cX12_takes 40 = .ok (.getfield 29, 3) := by decide +kernel
theorem dX12_takes_43 : decode cX12_takes 43 = .ok (.iload 4, 2) := by decide +kernel
theorem dX12_takes_45 : decode cX12_takes 45 = .ok (.iaload, 1) := by decide +kernel
theorem dX12_takes_46 : decode cX12_takes 46 = .ok (.aload_n 0, 1) := by decide +kernel
theorem dX12_takes_47 : decode cX12_takes 47 = .ok (.getfield 29, 3) := by decide +kernel
theorem dX12_takes_50 : decode cX12_takes 50 = .ok (.iload 5, 2) := by decide +kernel
theorem dX12_takes_52 : decode cX12_takes 52 = .ok (.iaload, 1) := by decide +kernel
theorem dX12_takes_53 : decode cX12_takes 53 = .ok (.if_icmp .ne 7, 3) := by decide +kernel
theorem dX12_takes_56 : decode cX12_takes 56 = .ok (.iconst 1, 1) := by decide +kernel
theorem dX12_takes_57 : decode cX12_takes 57 = .ok (.goto 4, 3) := by decide +kernel
theorem dX12_takes_60 : decode cX12_takes 60 = .ok (.iconst 0, 1) := by decide +kernel
theorem dX12_takes_61 : decode cX12_takes 61 = .ok (.putfield 197, 3) := by decide +kernel
theorem dX12_takes_64 : decode cX12_takes 64 = .ok (.aload_n 0, 1) := by decide +kernel
theorem dX12_takes_65 : decode cX12_takes 65 = .ok (.aload_n 0, 1) := by decide +kernel
theorem dX12_takes_66 : decode cX12_takes 66 = .ok (.getfield 26, 3) := by decide +kernel
theorem dX12_takes_69 : decode cX12_takes 69 = .ok (.iconst 2, 1) := by decide +kernel
theorem dX12_takes_70 : decode cX12_takes 70 = .ok (.iload_n 2, 1) := by decide +kernel
theorem dX12_takes_71 : decode cX12_takes 71 = .ok (.imul, 1) := by decide +kernel
theorem dX12_takes_72 : decode cX12_takes 72 = .ok (.iaload, 1) := by decide +kernel
theorem dX12_takes_73 : decode cX12_takes 73 = .ok (.putfield 200, 3) := by decide +kernel
theorem dX12_takes_76 : decode cX12_takes 76 = .ok (.aload_n 0, 1) := by decide +kernel
theorem dX12_takes_77 : decode cX12_takes 77 = .ok (.iload_n 3, 1) := by decide +kernel
theorem dX12_takes_78 : decode cX12_takes 78 = .ok (.putfield 203, 3) := by decide +kernel
theorem dX12_takes_81 : decode cX12_takes 81 = .ok (.aload_n 0, 1) := by decide +kernel
theorem dX12_takes_82 : decode cX12_takes 82 = .ok (.aload_n 0, 1) := by decide +kernel
theorem dX12_takes_83 : decode cX12_takes 83 = .ok (.getfield 97, 3) := by decide +kernel
theorem dX12_takes_86 : decode cX12_takes 86 = .ok (.putfield 206, 3) := by decide +kernel
theorem dX12_takes_89 : decode cX12_takes 89 = .ok (.aload_n 0, 1) := by decide +kernel
theorem dX12_takes_90 : decode cX12_takes 90 = .ok (.aload_n 0, 1) := by decide +kernel
theorem dX12_takes_91 : decode cX12_takes 91 = .ok (.getfield 100, 3) := by decide +kernel
theorem dX12_takes_94 : decode cX12_takes 94 = .ok (.iconst 0, 1) := by decide +kernel
theorem dX12_takes_95 : decode cX12_takes 95 = .ok (.invokevirtual 246, 3) := by decide +kernel
theorem dX12_takes_98 : decode cX12_takes 98 = .ok (.ifCond .eq 7, 3) := by decide +kernel
theorem dX12_takes_101 : decode cX12_takes 101 = .ok (.iconst 1, 1) := by decide +kernel
theorem dX12_takes_102 : decode cX12_takes 102 = .ok (.goto 4, 3) := by decide +kernel
theorem dX12_takes_105 : decode cX12_takes 105 = .ok (.iconst 0, 1) := by decide +kernel
theorem dX12_takes_106 : decode cX12_takes 106 = .ok (.ireturn, 1) := by decide +kernel
theorem dX12_plainOf_0 : decode cX12_plainOf 0 = .ok (.aload_n 0, 1) := by decide +kernel
theorem dX12_plainOf_1 : decode cX12_plainOf 1 = .ok (.iconst 0, 1) := by decide +kernel
theorem dX12_plainOf_2 : decode cX12_plainOf 2 = .ok (.putfield 191, 3) := by decide +kernel
theorem dX12_plainOf_5 : decode cX12_plainOf 5 = .ok (.aload_n 0, 1) := by decide +kernel
theorem dX12_plainOf_6 : decode cX12_plainOf 6 = .ok (.iconst 0, 1) := by decide +kernel
theorem dX12_plainOf_7 : decode cX12_plainOf 7 = .ok (.putfield 194, 3) := by decide +kernel
theorem dX12_plainOf_10 : decode cX12_plainOf 10 = .ok (.aload_n 0, 1) := by decide +kernel
theorem dX12_plainOf_11 : decode cX12_plainOf 11 = .ok (.iconst 0, 1) := by decide +kernel
theorem dX12_plainOf_12 : decode cX12_plainOf 12 = .ok (.putfield 197, 3) := by decide +kernel
theorem dX12_plainOf_15 : decode cX12_plainOf 15 = .ok (.aload_n 0, 1) := by decide +kernel
theorem dX12_plainOf_16 : decode cX12_plainOf 16 = .ok (.iload_n 2, 1) := by decide +kernel
theorem dX12_plainOf_17 : decode cX12_plainOf 17 = .ok (.putfield 200, 3) := by decide +kernel
theorem dX12_plainOf_20 : decode cX12_plainOf 20 = .ok (.aload_n 0, 1) := by decide +kernel
theorem dX12_plainOf_21 : decode cX12_plainOf 21 = .ok (.iload_n 3, 1) := by decide +kernel
theorem dX12_plainOf_22 : decode cX12_plainOf 22 = .ok (.putfield 203, 3) := by decide +kernel
theorem dX12_plainOf_25 : decode cX12_plainOf 25 = .ok (.aload_n 0, 1) := by decide +kernel
theorem dX12_plainOf_26 : decode cX12_plainOf 26 = .ok (.aload_n 0, 1) := by decide +kernel
theorem dX12_plainOf_27 : decode cX12_plainOf 27 = .ok (.getfield 97, 3) := by decide +kernel
theorem dX12_plainOf_30 : decode cX12_plainOf 30 = .ok (.putfield 206, 3) := by decide +kernel
theorem dX12_plainOf_33 : decode cX12_plainOf 33 = .ok (.aload_n 0, 1) := by decide +kernel
theorem dX12_plainOf_34 : decode cX12_plainOf 34 = .ok (.aload_n 0, 1) := by decide +kernel
theorem dX12_plainOf_35 : decode cX12_plainOf 35 = .ok (.getfield 100, 3) := by decide +kernel
theorem dX12_plainOf_38 : decode cX12_plainOf 38 = .ok (.iload_n 1, 1) := by decide +kernel
theorem dX12_plainOf_39 : decode cX12_plainOf 39 = .ok (.invokevirtual 246, 3) := by decide +kernel
theorem dX12_plainOf_42 : decode cX12_plainOf 42 = .ok (.iconst 0, 1) := by decide +kernel
theorem dX12_plainOf_43 : decode cX12_plainOf 43 = .ok (.iload 4, 2) := by decide +kernel
theorem dX12_plainOf_45 : decode cX12_plainOf 45 = .ok (.invokestatic 249, 3) := by decide +kernel
theorem dX12_plainOf_48 : decode cX12_plainOf 48 = .ok (.ireturn, 1) := by decide +kernel
theorem dX12_goesOf_0 : decode cX12_goesOf 0 = .ok (.aload_n 0, 1) := by decide +kernel
theorem dX12_goesOf_1 : decode cX12_goesOf 1 = .ok (.iconst 1, 1) := by decide +kernel
theorem dX12_goesOf_2 : decode cX12_goesOf 2 = .ok (.aload_n 0, 1) := by decide +kernel
theorem dX12_goesOf_3 : decode cX12_goesOf 3 = .ok (.getfield 26, 3) := by decide +kernel
theorem dX12_goesOf_6 : decode cX12_goesOf 6 = .ok (.iconst 2, 1) := by decide +kernel
theorem dX12_goesOf_7 : decode cX12_goesOf 7 = .ok (.iload_n 1, 1) := by decide +kernel
theorem dX12_goesOf_8 : decode cX12_goesOf 8 = .ok (.imul, 1) := by decide +kernel
theorem dX12_goesOf_9 : decode cX12_goesOf 9 = .ok (.iaload, 1) := by decide +kernel
theorem dX12_goesOf_10 : decode cX12_goesOf 10 = .ok (.iconst 0, 1) := by decide +kernel
theorem dX12_goesOf_11 : decode cX12_goesOf 11 = .ok (.bipush 100, 2) := by decide +kernel
theorem dX12_goesOf_13 : decode cX12_goesOf 13 = .ok (.invokevirtual 253, 3) := by decide +kernel
theorem dX12_goesOf_16 : decode cX12_goesOf 16 = .ok (.ireturn, 1) := by decide +kernel
theorem dX12_write_0 : decode cX12_write 0 = .ok (.aload_n 0, 1) := by decide +kernel
theorem dX12_write_1 : decode cX12_write 1 = .ok (.iload_n 1, 1) := by decide +kernel
theorem dX12_write_2 : decode cX12_write 2 = .ok (.invokevirtual 81, 3) := by decide +kernel
theorem dX12_write_5 : decode cX12_write 5 = .ok (.ifCond .eq 22, 3) := by decide +kernel
theorem dX12_write_8 : decode cX12_write 8 = .ok (.iload_n 2, 1) := by decide +kernel
theorem dX12_write_9 : decode cX12_write 9 = .ok (.invokestatic 127, 3) := by decide +kernel
theorem dX12_write_12 : decode cX12_write 12 = .ok (.ifCond .eq 15, 3) := by decide +kernel
theorem dX12_write_15 : decode cX12_write 15 = .ok (.iload_n 3, 1) := by decide +kernel
theorem dX12_write_16 : decode cX12_write 16 = .ok (.i2l, 1) := by decide +kernel
theorem dX12_write_17 : decode cX12_write 17 = .ok (.lconst 0, 1) := by decide +kernel
theorem dX12_write_18 : decode cX12_write 18 = .ok (.ldc2_w 87, 3) := by decide +kernel
theorem dX12_write_21 : decode cX12_write 21 = .ok (.invokestatic 73, 3) := by decide +kernel
theorem dX12_write_24 : decode cX12_write 24 = .ok (.ifCond .ne 6, 3) := by decide +kernel
theorem dX12_write_27 : decode cX12_write 27 = .ok (.bipush (-2), 2) := by decide +kernel
theorem dX12_write_29 : decode cX12_write 29 = .ok (.ireturn, 1) := by decide +kernel
theorem dX12_write_30 : decode cX12_write 30 = .ok (.aload_n 0, 1) := by decide +kernel
theorem dX12_write_31 : decode cX12_write 31 = .ok (.iload_n 1, 1) := by decide +kernel
theorem dX12_write_32 : decode cX12_write 32 = .ok (.invokevirtual 111, 3) := by decide +kernel
theorem dX12_write_35 : decode cX12_write 35 = .ok (.ifCond .ne 6, 3) := by decide +kernel
theorem dX12_write_38 : decode cX12_write 38 = .ok (.bipush (-3), 2) := by decide +kernel
theorem dX12_write_40 : decode cX12_write 40 = .ok (.ireturn, 1) := by decide +kernel
theorem dX12_write_41 : decode cX12_write 41 = .ok (.aload_n 0, 1) := by decide +kernel
theorem dX12_write_42 : decode cX12_write 42 = .ok (.iload_n 1, 1) := by decide +kernel
theorem dX12_write_43 : decode cX12_write 43 = .ok (.iload_n 2, 1) := by decide +kernel
theorem dX12_write_44 : decode cX12_write 44 = .ok (.invokevirtual 257, 3) := by decide +kernel
theorem dX12_write_47 : decode cX12_write 47 = .ok (.ifCond .ne 6, 3) := by decide +kernel
theorem dX12_write_50 : decode cX12_write 50 = .ok (.bipush (-4), 2) := by decide +kernel
theorem dX12_write_52 : decode cX12_write 52 = .ok (.ireturn, 1) := by decide +kernel
theorem dX12_write_53 : decode cX12_write 53 = .ok (.bipush 8, 2) := by decide +kernel
theorem dX12_write_55 : decode cX12_write 55 = .ok (.iload_n 1, 1) := by decide +kernel
theorem dX12_write_56 : decode cX12_write 56 = .ok (.imul, 1) := by decide +kernel
theorem dX12_write_57 : decode cX12_write 57 = .ok (.iload_n 2, 1) := by decide +kernel
theorem dX12_write_58 : decode cX12_write 58 = .ok (.iadd, 1) := by decide +kernel
theorem dX12_write_59 : decode cX12_write 59 = .ok (.istore 4, 2) := by decide +kernel
theorem dX12_write_61 : decode cX12_write 61 = .ok (.aload_n 0, 1) := by decide +kernel
theorem dX12_write_62 : decode cX12_write 62 = .ok (.getfield 29, 3) := by decide +kernel
theorem dX12_write_65 : decode cX12_write 65 = .ok (.iload 4, 2) := by decide +kernel
theorem dX12_write_67 : decode cX12_write 67 = .ok (.aload_n 0, 1) := by decide +kernel
theorem dX12_write_68 : decode cX12_write 68 = .ok (.iload_n 1, 1) := by decide +kernel
theorem dX12_write_69 : decode cX12_write 69 = .ok (.iload_n 3, 1) := by decide +kernel
theorem dX12_write_70 : decode cX12_write 70 = .ok (.invokevirtual 260, 3) := by decide +kernel
theorem dX12_write_73 : decode cX12_write 73 = .ok (.iastore, 1) := by decide +kernel
theorem dX12_write_74 : decode cX12_write 74 = .ok (.aload_n 0, 1) := by decide +kernel
theorem dX12_write_75 : decode cX12_write 75 = .ok (.getfield 32, 3) := by decide +kernel
theorem dX12_write_78 : decode cX12_write 78 = .ok (.iload 4, 2) := by decide +kernel
theorem dX12_write_80 : decode cX12_write 80 = .ok (.aload_n 0, 1) := by decide +kernel
theorem dX12_write_81 : decode cX12_write 81 = .ok (.iload_n 1, 1) := by decide +kernel
theorem dX12_write_82 : decode cX12_write 82 = .ok (.invokevirtual 114, 3) := by decide +kernel
theorem dX12_write_85 : decode cX12_write 85 = .ok (.iastore, 1) := by decide +kernel
theorem dX12_write_86 : decode cX12_write 86 = .ok (.aload_n 0, 1) := by decide +kernel
theorem dX12_write_87 : decode cX12_write 87 = .ok (.getfield 29, 3) := by decide +kernel
theorem dX12_write_90 : decode cX12_write 90 = .ok (.iload 4, 2) := by decide +kernel
theorem dX12_write_92 : decode cX12_write 92 = .ok (.iaload, 1) := by decide +kernel
theorem dX12_write_93 : decode cX12_write 93 = .ok (.ireturn, 1) := by decide +kernel
theorem dX12_lose_0 : decode cX12_lose 0 = .ok (.aload_n 0, 1) := by decide +kernel
theorem dX12_lose_1 : decode cX12_lose 1 = .ok (.iload_n 1, 1) := by decide +kernel
theorem dX12_lose_2 : decode cX12_lose 2 = .ok (.invokevirtual 81, 3) := by decide +kernel
theorem dX12_lose_5 : decode cX12_lose 5 = .ok (.ifCond .eq 10, 3) := by decide +kernel
theorem dX12_lose_8 : decode cX12_lose 8 = .ok (.iload_n 2, 1) := by decide +kernel
theorem dX12_lose_9 : decode cX12_lose 9 = .ok (.invokestatic 127, 3) := by decide +kernel
theorem dX12_lose_12 : decode cX12_lose 12 = .ok (.ifCond .ne 6, 3) := by decide +kernel
theorem dX12_lose_15 : decode cX12_lose 15 = .ok (.bipush (-2), 2) := by decide +kernel
theorem dX12_lose_17 : decode cX12_lose 17 = .ok (.ireturn, 1) := by decide +kernel
theorem dX12_lose_18 : decode cX12_lose 18 = .ok (.aload_n 0, 1) := by decide +kernel
theorem dX12_lose_19 : decode cX12_lose 19 = .ok (.iload_n 1, 1) := by decide +kernel
theorem dX12_lose_20 : decode cX12_lose 20 = .ok (.invokevirtual 111, 3) := by decide +kernel
theorem dX12_lose_23 : decode cX12_lose 23 = .ok (.ifCond .ne 6, 3) := by decide +kernel
theorem dX12_lose_26 : decode cX12_lose 26 = .ok (.bipush (-3), 2) := by decide +kernel
theorem dX12_lose_28 : decode cX12_lose 28 = .ok (.ireturn, 1) := by decide +kernel
theorem dX12_lose_29 : decode cX12_lose 29 = .ok (.aload_n 0, 1) := by decide +kernel
theorem dX12_lose_30 : decode cX12_lose 30 = .ok (.getfield 29, 3) := by decide +kernel
theorem dX12_lose_33 : decode cX12_lose 33 = .ok (.bipush 8, 2) := by decide +kernel
theorem dX12_lose_35 : decode cX12_lose 35 = .ok (.iload_n 1, 1) := by decide +kernel
theorem dX12_lose_36 : decode cX12_lose 36 = .ok (.imul, 1) := by decide +kernel
theorem dX12_lose_37 : decode cX12_lose 37 = .ok (.iload_n 2, 1) := by decide +kernel
theorem dX12_lose_38 : decode cX12_lose 38 = .ok (.iadd, 1) := by decide +kernel
theorem dX12_lose_39 : decode cX12_lose 39 = .ok (.iaload, 1) := by decide +kernel
theorem dX12_lose_40 : decode cX12_lose 40 = .ok (.istore_n 3, 1) := by decide +kernel
theorem dX12_lose_41 : decode cX12_lose 41 = .ok (.aload_n 0, 1) := by decide +kernel
theorem dX12_lose_42 : decode cX12_lose 42 = .ok (.iload_n 1, 1) := by decide +kernel
theorem dX12_lose_43 : decode cX12_lose 43 = .ok (.iload_n 2, 1) := by decide +kernel
theorem dX12_lose_44 : decode cX12_lose 44 = .ok (.invokevirtual 105, 3) := by decide +kernel
theorem dX12_lose_47 : decode cX12_lose 47 = .ok (.iload_n 3, 1) := by decide +kernel
theorem dX12_lose_48 : decode cX12_lose 48 = .ok (.ireturn, 1) := by decide +kernel
theorem dX12_canCopy_0 : decode cX12_canCopy 0 = .ok (.iload_n 1, 1) := by decide +kernel
theorem dX12_canCopy_1 : decode cX12_canCopy 1 = .ok (.iload_n 2, 1) := by decide +kernel
theorem dX12_canCopy_2 : decode cX12_canCopy 2 = .ok (.if_icmp .eq 23, 3) := by decide +kernel
theorem dX12_canCopy_5 : decode cX12_canCopy 5 = .ok (.aload_n 0, 1) := by decide +kernel
theorem dX12_canCopy_6 : decode cX12_canCopy 6 = .ok (.iload_n 1, 1) := by decide +kernel
theorem dX12_canCopy_7 : decode cX12_canCopy 7 = .ok (.invokevirtual 111, 3) := by decide +kernel
theorem dX12_canCopy_10 : decode cX12_canCopy 10 = .ok (.ifCond .eq 15, 3) := by decide +kernel
theorem dX12_canCopy_13 : decode cX12_canCopy 13 = .ok (.aload_n 0, 1) := by decide +kernel
theorem dX12_canCopy_14 : decode cX12_canCopy 14 = .ok (.iload_n 2, 1) := by decide +kernel
theorem dX12_canCopy_15 : decode cX12_canCopy 15 = .ok (.invokevirtual 111, 3) := by decide +kernel
theorem dX12_canCopy_18 : decode cX12_canCopy 18 = .ok (.ifCond .eq 7, 3) := by decide +kernel
theorem dX12_canCopy_21 : decode cX12_canCopy 21 = .ok (.iconst 1, 1) := by decide +kernel
theorem dX12_canCopy_22 : decode cX12_canCopy 22 = .ok (.goto 4, 3) := by decide +kernel
theorem dX12_canCopy_25 : decode cX12_canCopy 25 = .ok (.iconst 0, 1) := by decide +kernel
theorem dX12_canCopy_26 : decode cX12_canCopy 26 = .ok (.ireturn, 1) := by decide +kernel
theorem dX12_copiesAll_0 : decode cX12_copiesAll 0 = .ok (.iconst 0, 1) := by decide +kernel
theorem dX12_copiesAll_1 : decode cX12_copiesAll 1 = .ok (.istore_n 3, 1) := by decide +kernel
theorem dX12_copiesAll_2 : decode cX12_copiesAll 2 = .ok (.iconst 0, 1) := by decide +kernel
theorem dX12_copiesAll_3 : decode cX12_copiesAll 3 = .ok (.istore 4, 2) := by decide +kernel
theorem dX12_copiesAll_5 : decode cX12_copiesAll 5 = .ok (.iload 4, 2) := by decide +kernel
theorem dX12_copiesAll_7 : decode cX12_copiesAll 7 = .ok (.bipush 8, 2) := by decide +kernel
theorem dX12_copiesAll_9 : decode cX12_copiesAll 9 = .ok (.if_icmp .ge 96, 3) := by decide +kernel
theorem dX12_copiesAll_12 : decode cX12_copiesAll 12 = .ok (.bipush 8, 2) := by decide +kernel
theorem dX12_copiesAll_14 : decode cX12_copiesAll 14 = .ok (.iload_n 1, 1) := by decide +kernel
theorem dX12_copiesAll_15 : decode cX12_copiesAll 15 = .ok (.imul, 1) := by decide +kernel
theorem dX12_copiesAll_16 : decode cX12_copiesAll 16 = .ok (.iload 4, 2) := by decide +kernel
theorem dX12_copiesAll_18 : decode cX12_copiesAll 18 = .ok (.iadd, 1) := by decide +kernel
theorem dX12_copiesAll_19 : decode cX12_copiesAll 19 = .ok (.istore 5, 2) := by decide +kernel
theorem dX12_copiesAll_21 : decode cX12_copiesAll 21 = .ok (.aload_n 0, 1) := by decide +kernel
theorem dX12_copiesAll_22 : decode cX12_copiesAll 22 = .ok (.getfield 29, 3) := by decide +kernel
theorem dX12_copiesAll_25 : decode cX12_copiesAll 25 = .ok (.iload 5, 2) := by decide +kernel
theorem dX12_copiesAll_27 : decode cX12_copiesAll 27 = .ok (.iaload, 1) := by decide +kernel
theorem dX12_copiesAll_28 : decode cX12_copiesAll 28 = .ok (.iconst (-1), 1) := by decide +kernel
theorem dX12_copiesAll_29 : decode cX12_copiesAll 29 = .ok (.if_icmp .eq 70, 3) := by decide +kernel
theorem dX12_copiesAll_32 : decode cX12_copiesAll 32 = .ok (.aload_n 0, 1) := by decide +kernel
theorem dX12_copiesAll_33 : decode cX12_copiesAll 33 = .ok (.iload_n 2, 1) := by decide +kernel
theorem dX12_copiesAll_34 : decode cX12_copiesAll 34 = .ok (.iload 4, 2) := by decide +kernel
theorem dX12_copiesAll_36 : decode cX12_copiesAll 36 = .ok (.invokevirtual 257, 3) := by decide +kernel
theorem dX12_copiesAll_39 : decode cX12_copiesAll 39 = .ok (.ifCond .eq 60, 3) := by decide +kernel
theorem dX12_copiesAll_42 : decode cX12_copiesAll 42 = .ok (.aload_n 0, 1) := by decide +kernel
theorem dX12_copiesAll_43 : decode cX12_copiesAll 43 = .ok (.iload_n 1, 1) := by decide +kernel
theorem dX12_copiesAll_44 : decode cX12_copiesAll 44 = .ok (.iload_n 2, 1) := by decide +kernel
theorem dX12_copiesAll_45 : decode cX12_copiesAll 45 = .ok (.iload 4, 2) := by decide +kernel
theorem dX12_copiesAll_47 : decode cX12_copiesAll 47 = .ok (.invokevirtual 263, 3) := by decide +kernel
theorem dX12_copiesAll_50 : decode cX12_copiesAll 50 = .ok (.ifCond .eq 49, 3) := by decide +kernel
theorem dX12_copiesAll_53 : decode cX12_copiesAll 53 = .ok (.aload_n 0, 1) := by decide +kernel
theorem dX12_copiesAll_54 : decode cX12_copiesAll 54 = .ok (.getfield 29, 3) := by decide +kernel
theorem dX12_copiesAll_57 : decode cX12_copiesAll 57 = .ok (.bipush 8, 2) := by decide +kernel
theorem dX12_copiesAll_59 : decode cX12_copiesAll 59 = .ok (.iload_n 2, 1) := by decide +kernel
theorem dX12_copiesAll_60 : decode cX12_copiesAll 60 = .ok (.imul, 1) := by decide +kernel
theorem dX12_copiesAll_61 : decode cX12_copiesAll 61 = .ok (.iload 4, 2) := by decide +kernel
theorem dX12_copiesAll_63 : decode cX12_copiesAll 63 = .ok (.iadd, 1) := by decide +kernel
theorem dX12_copiesAll_64 : decode cX12_copiesAll 64 = .ok (.aload_n 0, 1) := by decide +kernel
theorem dX12_copiesAll_65 : decode cX12_copiesAll 65 = .ok (.iload_n 2, 1) := by decide +kernel
theorem dX12_copiesAll_66 : decode cX12_copiesAll 66 = .ok (.aload_n 0, 1) := by decide +kernel
theorem dX12_copiesAll_67 : decode cX12_copiesAll 67 = .ok (.getfield 29, 3) := by decide +kernel
theorem dX12_copiesAll_70 : decode cX12_copiesAll 70 = .ok (.iload 5, 2) := by decide +kernel
theorem dX12_copiesAll_72 : decode cX12_copiesAll 72 = .ok (.iaload, 1) := by decide +kernel
theorem dX12_copiesAll_73 : decode cX12_copiesAll 73 = .ok (.invokevirtual 260, 3) := by decide +kernel
theorem dX12_copiesAll_76 : decode cX12_copiesAll 76 = .ok (.iastore, 1) := by decide +kernel
theorem dX12_copiesAll_77 : decode cX12_copiesAll 77 = .ok (.aload_n 0, 1) := by decide +kernel
theorem dX12_copiesAll_78 : decode cX12_copiesAll 78 = .ok (.getfield 32, 3) := by decide +kernel
theorem dX12_copiesAll_81 : decode cX12_copiesAll 81 = .ok (.bipush 8, 2) := by decide +kernel
theorem dX12_copiesAll_83 : decode cX12_copiesAll 83 = .ok (.iload_n 2, 1) := by decide +kernel
theorem dX12_copiesAll_84 : decode cX12_copiesAll 84 = .ok (.imul, 1) := by decide +kernel
theorem dX12_copiesAll_85 : decode cX12_copiesAll 85 = .ok (.iload 4, 2) := by decide +kernel
theorem dX12_copiesAll_87 : decode cX12_copiesAll 87 = .ok (.iadd, 1) := by decide +kernel
theorem dX12_copiesAll_88 : decode cX12_copiesAll 88 = .ok (.aload_n 0, 1) := by decide +kernel
theorem dX12_copiesAll_89 : decode cX12_copiesAll 89 = .ok (.getfield 32, 3) := by decide +kernel
theorem dX12_copiesAll_92 : decode cX12_copiesAll 92 = .ok (.iload 5, 2) := by decide +kernel
theorem dX12_copiesAll_94 : decode cX12_copiesAll 94 = .ok (.iaload, 1) := by decide +kernel
theorem dX12_copiesAll_95 : decode cX12_copiesAll 95 = .ok (.iastore, 1) := by decide +kernel
theorem dX12_copiesAll_96 : decode cX12_copiesAll 96 = .ok (.iinc 3 1, 3) := by decide +kernel
theorem dX12_copiesAll_99 : decode cX12_copiesAll 99 = .ok (.iinc 4 1, 3) := by decide +kernel
theorem dX12_copiesAll_102 : decode cX12_copiesAll 102 = .ok (.goto (-97), 3) := by decide +kernel
theorem dX12_copiesAll_105 : decode cX12_copiesAll 105 = .ok (.iload_n 3, 1) := by decide +kernel
theorem dX12_copiesAll_106 : decode cX12_copiesAll 106 = .ok (.ireturn, 1) := by decide +kernel
theorem dX12_copies_0 : decode cX12_copies 0 = .ok (.aload_n 0, 1) := by decide +kernel
theorem dX12_copies_1 : decode cX12_copies 1 = .ok (.iload_n 1, 1) := by decide +kernel
theorem dX12_copies_2 : decode cX12_copies 2 = .ok (.invokevirtual 81, 3) := by decide +kernel
theorem dX12_copies_5 : decode cX12_copies 5 = .ok (.ifCond .eq 16, 3) := by decide +kernel
theorem dX12_copies_8 : decode cX12_copies 8 = .ok (.aload_n 0, 1) := by decide +kernel
theorem dX12_copies_9 : decode cX12_copies 9 = .ok (.iload_n 2, 1) := by decide +kernel
theorem dX12_copies_10 : decode cX12_copies 10 = .ok (.invokevirtual 81, 3) := by decide +kernel
theorem dX12_copies_13 : decode cX12_copies 13 = .ok (.ifCond .eq 8, 3) := by decide +kernel
theorem dX12_copies_16 : decode cX12_copies 16 = .ok (.iload_n 1, 1) := by decide +kernel
theorem dX12_copies_17 : decode cX12_copies 17 = .ok (.iload_n 2, 1) := by decide +kernel
theorem dX12_copies_18 : decode cX12_copies 18 = .ok (.if_icmp .ne 6, 3) := by decide +kernel
theorem dX12_copies_21 : decode cX12_copies 21 = .ok (.bipush (-2), 2) := by decide +kernel
theorem dX12_copies_23 : decode cX12_copies 23 = .ok (.ireturn, 1) := by decide +kernel
theorem dX12_copies_24 : decode cX12_copies 24 = .ok (.aload_n 0, 1) := by decide +kernel
theorem dX12_copies_25 : decode cX12_copies 25 = .ok (.iload_n 1, 1) := by decide +kernel
theorem dX12_copies_26 : decode cX12_copies 26 = .ok (.iload_n 2, 1) := by decide +kernel
theorem dX12_copies_27 : decode cX12_copies 27 = .ok (.invokevirtual 267, 3) := by decide +kernel
theorem dX12_copies_30 : decode cX12_copies 30 = .ok (.ifCond .eq 12, 3) := by decide +kernel
theorem dX12_copies_33 : decode cX12_copies 33 = .ok (.aload_n 0, 1) := by decide +kernel
theorem dX12_copies_34 : decode cX12_copies 34 = .ok (.iload_n 1, 1) := by decide +kernel
theorem dX12_copies_35 : decode cX12_copies 35 = .ok (.iload_n 2, 1) := by decide +kernel
theorem dX12_copies_36 : decode cX12_copies 36 = .ok (.invokevirtual 270, 3) := by decide +kernel
theorem dX12_copies_39 : decode cX12_copies 39 = .ok (.goto 5, 3) := by decide +kernel
theorem dX12_copies_42 : decode cX12_copies 42 = .ok (.bipush (-3), 2) := by decide +kernel
theorem dX12_copies_44 : decode cX12_copies 44 = .ok (.ireturn, 1) := by decide +kernel
theorem dX12_onOf_0 : decode cX12_onOf 0 = .ok (.iconst 0, 1) := by decide +kernel
theorem dX12_onOf_1 : decode cX12_onOf 1 = .ok (.istore_n 2, 1) := by decide +kernel
theorem dX12_onOf_2 : decode cX12_onOf 2 = .ok (.iconst 0, 1) := by decide +kernel
theorem dX12_onOf_3 : decode cX12_onOf 3 = .ok (.istore_n 3, 1) := by decide +kernel
theorem dX12_onOf_4 : decode cX12_onOf 4 = .ok (.iload_n 3, 1) := by decide +kernel
theorem dX12_onOf_5 : decode cX12_onOf 5 = .ok (.aload_n 0, 1) := by decide +kernel
theorem dX12_onOf_6 : decode cX12_onOf 6 = .ok (.getfield 70, 3) := by decide +kernel
theorem dX12_onOf_9 : decode cX12_onOf 9 = .ok (.if_icmp .ge 53, 3) := by decide +kernel
theorem dX12_onOf_12 : decode cX12_onOf 12 = .ok (.iload_n 2, 1) := by decide +kernel
theorem dX12_onOf_13 : decode cX12_onOf 13 = .ok (.aload_n 0, 1) := by decide +kernel
theorem dX12_onOf_14 : decode cX12_onOf 14 = .ok (.getfield 29, 3) := by decide +kernel
theorem dX12_onOf_17 : decode cX12_onOf 17 = .ok (.bipush 8, 2) := by decide +kernel
theorem dX12_onOf_19 : decode cX12_onOf 19 = .ok (.iload_n 3, 1) := by decide +kernel
theorem dX12_onOf_20 : decode cX12_onOf 20 = .ok (.imul, 1) := by decide +kernel
theorem dX12_onOf_21 : decode cX12_onOf 21 = .ok (.iload_n 1, 1) := by decide +kernel
theorem dX12_onOf_22 : decode cX12_onOf 22 = .ok (.iadd, 1) := by decide +kernel
theorem dX12_onOf_23 : decode cX12_onOf 23 = .ok (.iaload, 1) := by decide +kernel
theorem dX12_onOf_24 : decode cX12_onOf 24 = .ok (.iconst (-1), 1) := by decide +kernel
theorem dX12_onOf_25 : decode cX12_onOf 25 = .ok (.if_icmp .eq 26, 3) := by decide +kernel
theorem dX12_onOf_28 : decode cX12_onOf 28 = .ok (.aload_n 0, 1) := by decide +kernel
theorem dX12_onOf_29 : decode cX12_onOf 29 = .ok (.iload_n 3, 1) := by decide +kernel
theorem dX12_onOf_30 : decode cX12_onOf 30 = .ok (.invokevirtual 111, 3) := by decide +kernel
theorem dX12_onOf_33 : decode cX12_onOf 33 = .ok (.ifCond .eq 18, 3) := by decide +kernel
theorem dX12_onOf_36 : decode cX12_onOf 36 = .ok (.aload_n 0, 1) := by decide +kernel
theorem dX12_onOf_37 : decode cX12_onOf 37 = .ok (.getfield 273, 3) := by decide +kernel
theorem dX12_onOf_40 : decode cX12_onOf 40 = .ok (.iload_n 3, 1) := by decide +kernel
theorem dX12_onOf_41 : decode cX12_onOf 41 = .ok (.ishr, 1) := by decide +kernel
theorem dX12_onOf_42 : decode cX12_onOf 42 = .ok (.iconst 1, 1) := by decide +kernel
theorem dX12_onOf_43 : decode cX12_onOf 43 = .ok (.iand, 1) := by decide +kernel
theorem dX12_onOf_44 : decode cX12_onOf 44 = .ok (.ifCond .ne 7, 3) := by decide +kernel
theorem dX12_onOf_47 : decode cX12_onOf 47 = .ok (.iconst 1, 1) := by decide +kernel
theorem dX12_onOf_48 : decode cX12_onOf 48 = .ok (.goto 4, 3) := by decide +kernel
theorem dX12_onOf_51 : decode cX12_onOf 51 = .ok (.iconst 0, 1) := by decide +kernel
theorem dX12_onOf_52 : decode cX12_onOf 52 = .ok (.iload_n 3, 1) := by decide +kernel
theorem dX12_onOf_53 : decode cX12_onOf 53 = .ok (.ishl, 1) := by decide +kernel
theorem dX12_onOf_54 : decode cX12_onOf 54 = .ok (.ior, 1) := by decide +kernel
theorem dX12_onOf_55 : decode cX12_onOf 55 = .ok (.istore_n 2, 1) := by decide +kernel
theorem dX12_onOf_56 : decode cX12_onOf 56 = .ok (.iinc 3 1, 3) := by decide +kernel
theorem dX12_onOf_59 : decode cX12_onOf 59 = .ok (.goto (-55), 3) := by decide +kernel
theorem dX12_onOf_62 : decode cX12_onOf 62 = .ok (.iload_n 2, 1) := by decide +kernel
theorem dX12_onOf_63 : decode cX12_onOf 63 = .ok (.ireturn, 1) := by decide +kernel
theorem dX12_on_0 : decode cX12_on 0 = .ok (.iload_n 1, 1) := by decide +kernel
theorem dX12_on_1 : decode cX12_on 1 = .ok (.invokestatic 127, 3) := by decide +kernel
theorem dX12_on_4 : decode cX12_on 4 = .ok (.ifCond .eq 11, 3) := by decide +kernel
theorem dX12_on_7 : decode cX12_on 7 = .ok (.aload_n 0, 1) := by decide +kernel
theorem dX12_on_8 : decode cX12_on 8 = .ok (.iload_n 1, 1) := by decide +kernel
theorem dX12_on_9 : decode cX12_on 9 = .ok (.invokevirtual 276, 3) := by decide +kernel
theorem dX12_on_12 : decode cX12_on 12 = .ok (.goto 5, 3) := by decide +kernel
theorem dX12_on_15 : decode cX12_on 15 = .ok (.bipush (-2), 2) := by decide +kernel
theorem dX12_on_17 : decode cX12_on 17 = .ok (.ireturn, 1) := by decide +kernel
theorem dX12_newestOf_0 : decode cX12_newestOf 0 = .ok (.iconst (-1), 1) := by decide +kernel
theorem dX12_newestOf_1 : decode cX12_newestOf 1 = .ok (.istore_n 2, 1) := by decide +kernel
theorem dX12_newestOf_2 : decode cX12_newestOf 2 = .ok (.aload_n 0, 1) := by decide +kernel
theorem dX12_newestOf_3 : decode cX12_newestOf 3 = .ok (.iload_n 1, 1) := by decide +kernel
theorem dX12_newestOf_4 : decode cX12_newestOf 4 = .ok (.invokevirtual 276, 3) := by decide +kernel
theorem dX12_newestOf_7 : decode cX12_newestOf 7 = .ok (.istore_n 3, 1) := by decide +kernel
theorem dX12_newestOf_8 : decode cX12_newestOf 8 = .ok (.iconst 0, 1) := by decide +kernel
theorem dX12_newestOf_9 : decode cX12_newestOf 9 = .ok (.istore 4, 2) := by decide +kernel
theorem dX12_newestOf_11 : decode cX12_newestOf 11 = .ok (.iload 4, 2) := by decide +kernel
theorem dX12_newestOf_13 : decode cX12_newestOf 13 = .ok (.aload_n 0, 1) := by decide +kernel
theorem dX12_newestOf_14 : decode cX12_newestOf 14 = .ok (.getfield 70, 3) := by decide +kernel
theorem dX12_newestOf_17 : decode cX12_newestOf 17 = .ok (.if_icmp .ge 53, 3) := by decide +kernel
theorem dX12_newestOf_20 : decode cX12_newestOf 20 = .ok (.iload_n 3, 1) := by decide +kernel
theorem dX12_newestOf_21 : decode cX12_newestOf 21 = .ok (.iload 4, 2) := by decide +kernel
theorem dX12_newestOf_23 : decode cX12_newestOf 23 = .ok (.ishr, 1) := by decide +kernel
theorem dX12_newestOf_24 : decode cX12_newestOf 24 = .ok (.iconst 1, 1) := by decide +kernel
theorem dX12_newestOf_25 : decode cX12_newestOf 25 = .ok (.iand, 1) := by decide +kernel
theorem dX12_newestOf_26 : decode cX12_newestOf 26 = .ok (.iconst 1, 1) := by decide +kernel
theorem dX12_newestOf_27 : decode cX12_newestOf 27 = .ok (.if_icmp .ne 37, 3) := by decide +kernel
theorem dX12_newestOf_30 : decode cX12_newestOf 30 = .ok (.iload_n 2, 1) := by decide +kernel
theorem dX12_newestOf_31 : decode cX12_newestOf 31 = .ok (.iconst (-1), 1) := by decide +kernel
theorem dX12_newestOf_32 : decode cX12_newestOf 32 = .ok (.if_icmp .eq 29, 3) := by decide +kernel
theorem dX12_newestOf_35 : decode cX12_newestOf 35 = .ok (.aload_n 0, 1) := by decide +kernel
theorem dX12_newestOf_36 : decode cX12_newestOf 36 = .ok (.getfield 32, 3) := by decide +kernel
theorem dX12_newestOf_39 : decode cX12_newestOf 39 = .ok (.bipush 8, 2) := by decide +kernel
theorem dX12_newestOf_41 : decode cX12_newestOf 41 = .ok (.iload 4, 2) := by decide +kernel
theorem dX12_newestOf_43 : decode cX12_newestOf 43 = .ok (.imul, 1) := by decide +kernel
theorem dX12_newestOf_44 : decode cX12_newestOf 44 = .ok (.iload_n 1, 1) := by decide +kernel
theorem dX12_newestOf_45 : decode cX12_newestOf 45 = .ok (.iadd, 1) := by decide +kernel
theorem dX12_newestOf_46 : decode cX12_newestOf 46 = .ok (.iaload, 1) := by decide +kernel
theorem dX12_newestOf_47 : decode cX12_newestOf 47 = .ok (.aload_n 0, 1) := by decide +kernel
theorem dX12_newestOf_48 : decode cX12_newestOf 48 = .ok (.getfield 32, 3) := by decide +kernel
theorem dX12_newestOf_51 : decode cX12_newestOf 51 = .ok (.bipush 8, 2) := by decide +kernel
theorem dX12_newestOf_53 : decode cX12_newestOf 53 = .ok (.iload_n 2, 1) := by decide +kernel
theorem dX12_newestOf_54 : decode cX12_newestOf 54 = .ok (.imul, 1) := by decide +kernel
theorem dX12_newestOf_55 : decode cX12_newestOf 55 = .ok (.iload_n 1, 1) := by decide +kernel
theorem dX12_newestOf_56 : decode cX12_newestOf 56 = .ok (.iadd, 1) := by decide +kernel
theorem dX12_newestOf_57 : decode cX12_newestOf 57 = .ok (.iaload, 1) := by decide +kernel
theorem dX12_newestOf_58 : decode cX12_newestOf 58 = .ok (.if_icmp .le 6, 3) := by decide +kernel
theorem dX12_newestOf_61 : decode cX12_newestOf 61 = .ok (.iload 4, 2) := by decide +kernel
theorem dX12_newestOf_63 : decode cX12_newestOf 63 = .ok (.istore_n 2, 1) := by decide +kernel
theorem dX12_newestOf_64 : decode cX12_newestOf 64 = .ok (.iinc 4 1, 3) := by decide +kernel
theorem dX12_newestOf_67 : decode cX12_newestOf 67 = .ok (.goto (-56), 3) := by decide +kernel
theorem dX12_newestOf_70 : decode cX12_newestOf 70 = .ok (.iload_n 2, 1) := by decide +kernel
theorem dX12_newestOf_71 : decode cX12_newestOf 71 = .ok (.ireturn, 1) := by decide +kernel
theorem dX12_newest_0 : decode cX12_newest 0 = .ok (.iload_n 1, 1) := by decide +kernel
theorem dX12_newest_1 : decode cX12_newest 1 = .ok (.invokestatic 127, 3) := by decide +kernel
theorem dX12_newest_4 : decode cX12_newest 4 = .ok (.ifCond .eq 15, 3) := by decide +kernel
theorem dX12_newest_7 : decode cX12_newest 7 = .ok (.iload_n 2, 1) := by decide +kernel
theorem dX12_newest_8 : decode cX12_newest 8 = .ok (.i2l, 1) := by decide +kernel
theorem dX12_newest_9 : decode cX12_newest 9 = .ok (.lconst 0, 1) := by decide +kernel
theorem dX12_newest_10 : decode cX12_newest 10 = .ok (.ldc2_w 79, 3) := by decide +kernel
theorem dX12_newest_13 : decode cX12_newest 13 = .ok (.invokestatic 73, 3) := by decide +kernel
theorem dX12_newest_16 : decode cX12_newest 16 = .ok (.ifCond .ne 6, 3) := by decide +kernel
theorem dX12_newest_19 : decode cX12_newest 19 = .ok (.bipush (-2), 2) := by decide +kernel
theorem dX12_newest_21 : decode cX12_newest 21 = .ok (.ireturn, 1) := by decide +kernel
theorem dX12_newest_22 : decode cX12_newest 22 = .ok (.aload_n 0, 1) := by decide +kernel
theorem dX12_newest_23 : decode cX12_newest 23 = .ok (.iload_n 1, 1) := by decide +kernel
theorem dX12_newest_24 : decode cX12_newest 24 = .ok (.invokevirtual 279, 3) := by decide +kernel
theorem dX12_newest_27 : decode cX12_newest 27 = .ok (.istore_n 3, 1) := by decide +kernel
theorem dX12_newest_28 : decode cX12_newest 28 = .ok (.iload_n 2, 1) := by decide +kernel
theorem dX12_newest_29 : decode cX12_newest 29 = .ok (.ifCond .eq 8, 3) := by decide +kernel
theorem dX12_newest_32 : decode cX12_newest 32 = .ok (.iload_n 3, 1) := by decide +kernel
theorem dX12_newest_33 : decode cX12_newest 33 = .ok (.iconst (-1), 1) := by decide +kernel
theorem dX12_newest_34 : decode cX12_newest 34 = .ok (.if_icmp .ne 15, 3) := by decide +kernel
theorem dX12_newest_37 : decode cX12_newest 37 = .ok (.iload_n 2, 1) := by decide +kernel
theorem dX12_newest_38 : decode cX12_newest 38 = .ok (.iconst 2, 1) := by decide +kernel
theorem dX12_newest_39 : decode cX12_newest 39 = .ok (.if_icmp .ne 8, 3) := by decide +kernel
theorem dX12_newest_42 : decode cX12_newest 42 = .ok (.bipush (-100), 2) := by decide +kernel
theorem dX12_newest_44 : decode cX12_newest 44 = .ok (.goto 4, 3) := by decide +kernel
theorem dX12_newest_47 : decode cX12_newest 47 = .ok (.iload_n 3, 1) := by decide +kernel
theorem dX12_newest_48 : decode cX12_newest 48 = .ok (.ireturn, 1) := by decide +kernel
theorem dX12_newest_49 : decode cX12_newest 49 = .ok (.iload_n 2, 1) := by decide +kernel
theorem dX12_newest_50 : decode cX12_newest 50 = .ok (.iconst 1, 1) := by decide +kernel
theorem dX12_newest_51 : decode cX12_newest 51 = .ok (.if_icmp .ne 17, 3) := by decide +kernel
theorem dX12_newest_54 : decode cX12_newest 54 = .ok (.aload_n 0, 1) := by decide +kernel
theorem dX12_newest_55 : decode cX12_newest 55 = .ok (.getfield 29, 3) := by decide +kernel
theorem dX12_newest_58 : decode cX12_newest 58 = .ok (.bipush 8, 2) := by decide +kernel
theorem dX12_newest_60 : decode cX12_newest 60 = .ok (.iload_n 3, 1) := by decide +kernel
theorem dX12_newest_61 : decode cX12_newest 61 = .ok (.imul, 1) := by decide +kernel
theorem dX12_newest_62 : decode cX12_newest 62 = .ok (.iload_n 1, 1) := by decide +kernel
theorem dX12_newest_63 : decode cX12_newest 63 = .ok (.iadd, 1) := by decide +kernel
theorem dX12_newest_64 : decode cX12_newest 64 = .ok (.iaload, 1) := by decide +kernel
theorem dX12_newest_65 : decode cX12_newest 65 = .ok (.goto 14, 3) := by decide +kernel
theorem dX12_newest_68 : decode cX12_newest 68 = .ok (.aload_n 0, 1) := by decide +kernel
theorem dX12_newest_69 : decode cX12_newest 69 = .ok (.getfield 32, 3) := by decide +kernel
theorem dX12_newest_72 : decode cX12_newest 72 = .ok (.bipush 8, 2) := by decide +kernel
theorem dX12_newest_74 : decode cX12_newest 74 = .ok (.iload_n 3, 1) := by decide +kernel
theorem dX12_newest_75 : decode cX12_newest 75 = .ok (.imul, 1) := by decide +kernel
theorem dX12_newest_76 : decode cX12_newest 76 = .ok (.iload_n 1, 1) := by decide +kernel
theorem dX12_newest_77 : decode cX12_newest 77 = .ok (.iadd, 1) := by decide +kernel
theorem dX12_newest_78 : decode cX12_newest 78 = .ok (.iaload, 1) := by decide +kernel
theorem dX12_newest_79 : decode cX12_newest 79 = .ok (.ireturn, 1) := by decide +kernel
theorem dX12_bitsOf_0 : decode cX12_bitsOf 0 = .ok (.iconst 0, 1) := by decide +kernel
theorem dX12_bitsOf_1 : decode cX12_bitsOf 1 = .ok (.istore_n 1, 1) := by decide +kernel
theorem dX12_bitsOf_2 : decode cX12_bitsOf 2 = .ok (.iload_n 0, 1) := by decide +kernel
theorem dX12_bitsOf_3 : decode cX12_bitsOf 3 = .ok (.istore_n 2, 1) := by decide +kernel
theorem dX12_bitsOf_4 : decode cX12_bitsOf 4 = .ok (.iload_n 2, 1) := by decide +kernel
theorem dX12_bitsOf_5 : decode cX12_bitsOf 5 = .ok (.ifCond .eq 15, 3) := by decide +kernel
theorem dX12_bitsOf_8 : decode cX12_bitsOf 8 = .ok (.iinc 1 1, 3) := by decide +kernel
theorem dX12_bitsOf_11 : decode cX12_bitsOf 11 = .ok (.iload_n 2, 1) := by decide +kernel
theorem dX12_bitsOf_12 : decode cX12_bitsOf 12 = .ok (.iload_n 2, 1) := by decide +kernel
theorem dX12_bitsOf_13 : decode cX12_bitsOf 13 = .ok (.iconst 1, 1) := by decide +kernel
theorem dX12_bitsOf_14 : decode cX12_bitsOf 14 = .ok (.isub, 1) := by decide +kernel
theorem dX12_bitsOf_15 : decode cX12_bitsOf 15 = .ok (.iand, 1) := by decide +kernel
theorem dX12_bitsOf_16 : decode cX12_bitsOf 16 = .ok (.istore_n 2, 1) := by decide +kernel
theorem dX12_bitsOf_17 : decode cX12_bitsOf 17 = .ok (.goto (-13), 3) := by decide +kernel
theorem dX12_bitsOf_20 : decode cX12_bitsOf 20 = .ok (.iload_n 1, 1) := by decide +kernel
theorem dX12_bitsOf_21 : decode cX12_bitsOf 21 = .ok (.ireturn, 1) := by decide +kernel
theorem dX12_differs_0 : decode cX12_differs 0 = .ok (.aload_n 0, 1) := by decide +kernel
theorem dX12_differs_1 : decode cX12_differs 1 = .ok (.iload_n 1, 1) := by decide +kernel
theorem dX12_differs_2 : decode cX12_differs 2 = .ok (.invokevirtual 276, 3) := by decide +kernel
theorem dX12_differs_5 : decode cX12_differs 5 = .ok (.istore_n 2, 1) := by decide +kernel
theorem dX12_differs_6 : decode cX12_differs 6 = .ok (.iconst (-1), 1) := by decide +kernel
theorem dX12_differs_7 : decode cX12_differs 7 = .ok (.istore_n 3, 1) := by decide +kernel
theorem dX12_differs_8 : decode cX12_differs 8 = .ok (.iconst 0, 1) := by decide +kernel
theorem dX12_differs_9 : decode cX12_differs 9 = .ok (.istore 4, 2) := by decide +kernel
theorem dX12_differs_11 : decode cX12_differs 11 = .ok (.iload 4, 2) := by decide +kernel
theorem dX12_differs_13 : decode cX12_differs 13 = .ok (.aload_n 0, 1) := by decide +kernel
theorem dX12_differs_14 : decode cX12_differs 14 = .ok (.getfield 70, 3) := by decide +kernel
theorem dX12_differs_17 : decode cX12_differs 17 = .ok (.if_icmp .ge 55, 3) := by decide +kernel
theorem dX12_differs_20 : decode cX12_differs 20 = .ok (.iload_n 2, 1) := by decide +kernel
theorem dX12_differs_21 : decode cX12_differs 21 = .ok (.iload 4, 2) := by decide +kernel
theorem dX12_differs_23 : decode cX12_differs 23 = .ok (.ishr, 1) := by decide +kernel
theorem dX12_differs_24 : decode cX12_differs 24 = .ok (.iconst 1, 1) := by decide +kernel
theorem dX12_differs_25 : decode cX12_differs 25 = .ok (.iand, 1) := by decide +kernel
theorem dX12_differs_26 : decode cX12_differs 26 = .ok (.iconst 1, 1) := by decide +kernel
theorem dX12_differs_27 : decode cX12_differs 27 = .ok (.if_icmp .ne 39, 3) := by decide +kernel
theorem dX12_differs_30 : decode cX12_differs 30 = .ok (.iload_n 3, 1) := by decide +kernel
theorem dX12_differs_31 : decode cX12_differs 31 = .ok (.iconst (-1), 1) := by decide +kernel
theorem dX12_differs_32 : decode cX12_differs 32 = .ok (.if_icmp .eq 31, 3) := by decide +kernel
theorem dX12_differs_35 : decode cX12_differs 35 = .ok (.aload_n 0, 1) := by decide +kernel
theorem dX12_differs_36 : decode cX12_differs 36 = .ok (.getfield 29, 3) := by decide +kernel
theorem dX12_differs_39 : decode cX12_differs 39 = .ok (.bipush 8, 2) := by decide +kernel
theorem dX12_differs_41 : decode cX12_differs 41 = .ok (.iload_n 3, 1) := by decide +kernel
theorem dX12_differs_42 : decode cX12_differs 42 = .ok (.imul, 1) := by decide +kernel
theorem dX12_differs_43 : decode cX12_differs 43 = .ok (.iload_n 1, 1) := by decide +kernel
theorem dX12_differs_44 : decode cX12_differs 44 = .ok (.iadd, 1) := by decide +kernel
theorem dX12_differs_45 : decode cX12_differs 45 = .ok (.iaload, 1) := by decide +kernel
theorem dX12_differs_46 : decode cX12_differs 46 = .ok (.aload_n 0, 1) := by decide +kernel
theorem dX12_differs_47 : decode cX12_differs 47 = .ok (.getfield 29, 3) := by decide +kernel
theorem dX12_differs_50 : decode cX12_differs 50 = .ok (.bipush 8, 2) := by decide +kernel
theorem dX12_differs_52 : decode cX12_differs 52 = .ok (.iload 4, 2) := by decide +kernel
theorem dX12_differs_54 : decode cX12_differs 54 = .ok (.imul, 1) := by decide +kernel
theorem dX12_differs_55 : decode cX12_differs 55 = .ok (.iload_n 1, 1) := by decide +kernel
theorem dX12_differs_56 : decode cX12_differs 56 = .ok (.iadd, 1) := by decide +kernel
theorem dX12_differs_57 : decode cX12_differs 57 = .ok (.iaload, 1) := by decide +kernel
theorem dX12_differs_58 : decode cX12_differs 58 = .ok (.if_icmp .eq 5, 3) := by decide +kernel
theorem dX12_differs_61 : decode cX12_differs 61 = .ok (.iconst 1, 1) := by decide +kernel
theorem dX12_differs_62 : decode cX12_differs 62 = .ok (.ireturn, 1) := by decide +kernel
theorem dX12_differs_63 : decode cX12_differs 63 = .ok (.iload 4, 2) := by decide +kernel
theorem dX12_differs_65 : decode cX12_differs 65 = .ok (.istore_n 3, 1) := by decide +kernel
theorem dX12_differs_66 : decode cX12_differs 66 = .ok (.iinc 4 1, 3) := by decide +kernel
theorem dX12_differs_69 : decode cX12_differs 69 = .ok (.goto (-58), 3) := by decide +kernel
theorem dX12_differs_72 : decode cX12_differs 72 = .ok (.iconst 0, 1) := by decide +kernel
theorem dX12_differs_73 : decode cX12_differs 73 = .ok (.ireturn, 1) := by decide +kernel
theorem dX12_differ_0 : decode cX12_differ 0 = .ok (.iconst 0, 1) := by decide +kernel
theorem dX12_differ_1 : decode cX12_differ 1 = .ok (.istore_n 1, 1) := by decide +kernel
theorem dX12_differ_2 : decode cX12_differ 2 = .ok (.iconst 0, 1) := by decide +kernel
theorem dX12_differ_3 : decode cX12_differ 3 = .ok (.istore_n 2, 1) := by decide +kernel
theorem dX12_differ_4 : decode cX12_differ 4 = .ok (.iload_n 2, 1) := by decide +kernel
theorem dX12_differ_5 : decode cX12_differ 5 = .ok (.bipush 8, 2) := by decide +kernel
theorem dX12_differ_7 : decode cX12_differ 7 = .ok (.if_icmp .ge 27, 3) := by decide +kernel
theorem dX12_differ_10 : decode cX12_differ 10 = .ok (.iload_n 1, 1) := by decide +kernel
theorem dX12_differ_11 : decode cX12_differ 11 = .ok (.aload_n 0, 1) := by decide +kernel
theorem dX12_differ_12 : decode cX12_differ 12 = .ok (.iload_n 2, 1) := by decide +kernel
theorem dX12_differ_13 : decode cX12_differ 13 = .ok (.invokevirtual 282, 3) := by decide +kernel
theorem dX12_differ_16 : decode cX12_differ 16 = .ok (.ifCond .eq 7, 3) := by decide +kernel
theorem dX12_differ_19 : decode cX12_differ 19 = .ok (.iconst 1, 1) := by decide +kernel
theorem dX12_differ_20 : decode cX12_differ 20 = .ok (.goto 4, 3) := by decide +kernel
theorem dX12_differ_23 : decode cX12_differ 23 = .ok (.iconst 0, 1) := by decide +kernel
theorem dX12_differ_24 : decode cX12_differ 24 = .ok (.iload_n 2, 1) := by decide +kernel
theorem dX12_differ_25 : decode cX12_differ 25 = .ok (.ishl, 1) := by decide +kernel
theorem dX12_differ_26 : decode cX12_differ 26 = .ok (.ior, 1) := by decide +kernel
theorem dX12_differ_27 : decode cX12_differ 27 = .ok (.istore_n 1, 1) := by decide +kernel
theorem dX12_differ_28 : decode cX12_differ 28 = .ok (.iinc 2 1, 3) := by decide +kernel
theorem dX12_differ_31 : decode cX12_differ 31 = .ok (.goto (-27), 3) := by decide +kernel
theorem dX12_differ_34 : decode cX12_differ 34 = .ok (.iload_n 1, 1) := by decide +kernel
theorem dX12_differ_35 : decode cX12_differ 35 = .ok (.ireturn, 1) := by decide +kernel
theorem dX12_safe_0 : decode cX12_safe 0 = .ok (.iconst 0, 1) := by decide +kernel
theorem dX12_safe_1 : decode cX12_safe 1 = .ok (.istore_n 2, 1) := by decide +kernel
theorem dX12_safe_2 : decode cX12_safe 2 = .ok (.iconst 0, 1) := by decide +kernel
theorem dX12_safe_3 : decode cX12_safe 3 = .ok (.istore_n 3, 1) := by decide +kernel
theorem dX12_safe_4 : decode cX12_safe 4 = .ok (.iload_n 3, 1) := by decide +kernel
theorem dX12_safe_5 : decode cX12_safe 5 = .ok (.bipush 8, 2) := by decide +kernel
theorem dX12_safe_7 : decode cX12_safe 7 = .ok (.if_icmp .ge 31, 3) := by decide +kernel
theorem dX12_safe_10 : decode cX12_safe 10 = .ok (.iload_n 2, 1) := by decide +kernel
theorem dX12_safe_11 : decode cX12_safe 11 = .ok (.aload_n 0, 1) := by decide +kernel
theorem dX12_safe_12 : decode cX12_safe 12 = .ok (.iload_n 3, 1) := by decide +kernel
theorem dX12_safe_13 : decode cX12_safe 13 = .ok (.invokevirtual 276, 3) := by decide +kernel
theorem dX12_safe_16 : decode cX12_safe 16 = .ok (.invokestatic 285, 3) := by decide +kernel
theorem dX12_safe_19 : decode cX12_safe 19 = .ok (.iload_n 1, 1) := by decide +kernel
theorem dX12_safe_20 : decode cX12_safe 20 = .ok (.if_icmp .lt 7, 3) := by decide +kernel
theorem dX12_safe_23 : decode cX12_safe 23 = .ok (.iconst 1, 1) := by decide +kernel
theorem dX12_safe_24 : decode cX12_safe 24 = .ok (.goto 4, 3) := by decide +kernel
theorem dX12_safe_27 : decode cX12_safe 27 = .ok (.iconst 0, 1) := by decide +kernel
theorem dX12_safe_28 : decode cX12_safe 28 = .ok (.iload_n 3, 1) := by decide +kernel
theorem dX12_safe_29 : decode cX12_safe 29 = .ok (.ishl, 1) := by decide +kernel
theorem dX12_safe_30 : decode cX12_safe 30 = .ok (.ior, 1) := by decide +kernel
theorem dX12_safe_31 : decode cX12_safe 31 = .ok (.istore_n 2, 1) := by decide +kernel
theorem dX12_safe_32 : decode cX12_safe 32 = .ok (.iinc 3 1, 3) := by decide +kernel
theorem dX12_safe_35 : decode cX12_safe 35 = .ok (.goto (-31), 3) := by decide +kernel
theorem dX12_safe_38 : decode cX12_safe 38 = .ok (.iload_n 2, 1) := by decide +kernel
theorem dX12_safe_39 : decode cX12_safe 39 = .ok (.ireturn, 1) := by decide +kernel
theorem dX12_lostAll_0 : decode cX12_lostAll 0 = .ok (.iconst 0, 1) := by decide +kernel
theorem dX12_lostAll_1 : decode cX12_lostAll 1 = .ok (.istore_n 1, 1) := by decide +kernel
theorem dX12_lostAll_2 : decode cX12_lostAll 2 = .ok (.iconst 0, 1) := by decide +kernel
theorem dX12_lostAll_3 : decode cX12_lostAll 3 = .ok (.istore_n 2, 1) := by decide +kernel
theorem dX12_lostAll_4 : decode cX12_lostAll 4 = .ok (.iload_n 2, 1) := by decide +kernel
theorem dX12_lostAll_5 : decode cX12_lostAll 5 = .ok (.bipush 8, 2) := by decide +kernel
theorem dX12_lostAll_7 : decode cX12_lostAll 7 = .ok (.if_icmp .ge 58, 3) := by decide +kernel
theorem dX12_lostAll_10 : decode cX12_lostAll 10 = .ok (.iconst 0, 1) := by decide +kernel
theorem dX12_lostAll_11 : decode cX12_lostAll 11 = .ok (.istore_n 3, 1) := by decide +kernel
theorem dX12_lostAll_12 : decode cX12_lostAll 12 = .ok (.iload_n 3, 1) := by decide +kernel
theorem dX12_lostAll_13 : decode cX12_lostAll 13 = .ok (.aload_n 0, 1) := by decide +kernel
theorem dX12_lostAll_14 : decode cX12_lostAll 14 = .ok (.getfield 70, 3) := by decide +kernel
theorem dX12_lostAll_17 : decode cX12_lostAll 17 = .ok (.if_icmp .ge 42, 3) := by decide +kernel
theorem dX12_lostAll_20 : decode cX12_lostAll 20 = .ok (.iload_n 1, 1) := by decide +kernel
theorem dX12_lostAll_21 : decode cX12_lostAll 21 = .ok (.aload_n 0, 1) := by decide +kernel
theorem dX12_lostAll_22 : decode cX12_lostAll 22 = .ok (.getfield 29, 3) := by decide +kernel
theorem dX12_lostAll_25 : decode cX12_lostAll 25 = .ok (.bipush 8, 2) := by decide +kernel
theorem dX12_lostAll_27 : decode cX12_lostAll 27 = .ok (.iload_n 3, 1) := by decide +kernel
theorem dX12_lostAll_28 : decode cX12_lostAll 28 = .ok (.imul, 1) := by decide +kernel
theorem dX12_lostAll_29 : decode cX12_lostAll 29 = .ok (.iload_n 2, 1) := by decide +kernel
theorem dX12_lostAll_30 : decode cX12_lostAll 30 = .ok (.iadd, 1) := by decide +kernel
theorem dX12_lostAll_31 : decode cX12_lostAll 31 = .ok (.iaload, 1) := by decide +kernel
theorem dX12_lostAll_32 : decode cX12_lostAll 32 = .ok (.iconst (-1), 1) := by decide +kernel
theorem dX12_lostAll_33 : decode cX12_lostAll 33 = .ok (.if_icmp .eq 15, 3) := by decide +kernel
theorem dX12_lostAll_36 : decode cX12_lostAll 36 = .ok (.aload_n 0, 1) := by decide +kernel
theorem dX12_lostAll_37 : decode cX12_lostAll 37 = .ok (.iload_n 2, 1) := by decide +kernel
theorem dX12_lostAll_38 : decode cX12_lostAll 38 = .ok (.invokevirtual 276, 3) := by decide +kernel
theorem dX12_lostAll_41 : decode cX12_lostAll 41 = .ok (.ifCond .ne 7, 3) := by decide +kernel
theorem dX12_lostAll_44 : decode cX12_lostAll 44 = .ok (.iconst 1, 1) := by decide +kernel
theorem dX12_lostAll_45 : decode cX12_lostAll 45 = .ok (.goto 4, 3) := by decide +kernel
theorem dX12_lostAll_48 : decode cX12_lostAll 48 = .ok (.iconst 0, 1) := by decide +kernel
theorem dX12_lostAll_49 : decode cX12_lostAll 49 = .ok (.iload_n 2, 1) := by decide +kernel
theorem dX12_lostAll_50 : decode cX12_lostAll 50 = .ok (.ishl, 1) := by decide +kernel
theorem dX12_lostAll_51 : decode cX12_lostAll 51 = .ok (.ior, 1) := by decide +kernel
theorem dX12_lostAll_52 : decode cX12_lostAll 52 = .ok (.istore_n 1, 1) := by decide +kernel
theorem dX12_lostAll_53 : decode cX12_lostAll 53 = .ok (.iinc 3 1, 3) := by decide +kernel
theorem dX12_lostAll_56 : decode cX12_lostAll 56 = .ok (.goto (-44), 3) := by decide +kernel
theorem dX12_lostAll_59 : decode cX12_lostAll 59 = .ok (.iinc 2 1, 3) := by decide +kernel
theorem dX12_lostAll_62 : decode cX12_lostAll 62 = .ok (.goto (-58), 3) := by decide +kernel
theorem dX12_lostAll_65 : decode cX12_lostAll 65 = .ok (.iload_n 1, 1) := by decide +kernel
theorem dX12_lostAll_66 : decode cX12_lostAll 66 = .ok (.ireturn, 1) := by decide +kernel
theorem dX12_worthAll_0 : decode cX12_worthAll 0 = .ok (.iconst 0, 1) := by decide +kernel
theorem dX12_worthAll_1 : decode cX12_worthAll 1 = .ok (.istore_n 1, 1) := by decide +kernel
theorem dX12_worthAll_2 : decode cX12_worthAll 2 = .ok (.iconst 0, 1) := by decide +kernel
theorem dX12_worthAll_3 : decode cX12_worthAll 3 = .ok (.istore_n 2, 1) := by decide +kernel
theorem dX12_worthAll_4 : decode cX12_worthAll 4 = .ok (.iload_n 2, 1) := by decide +kernel
theorem dX12_worthAll_5 : decode cX12_worthAll 5 = .ok (.bipush 8, 2) := by decide +kernel
theorem dX12_worthAll_7 : decode cX12_worthAll 7 = .ok (.if_icmp .ge 33, 3) := by decide +kernel
theorem dX12_worthAll_10 : decode cX12_worthAll 10 = .ok (.iload_n 1, 1) := by decide +kernel
theorem dX12_worthAll_11 : decode cX12_worthAll 11 = .ok (.aload_n 0, 1) := by decide +kernel
theorem dX12_worthAll_12 : decode cX12_worthAll 12 = .ok (.iload_n 2, 1) := by decide +kernel
theorem dX12_worthAll_13 : decode cX12_worthAll 13 = .ok (.invokevirtual 276, 3) := by decide +kernel
theorem dX12_worthAll_16 : decode cX12_worthAll 16 = .ok (.ifCond .ne 7, 3) := by decide +kernel
theorem dX12_worthAll_19 : decode cX12_worthAll 19 = .ok (.iconst 0, 1) := by decide +kernel
theorem dX12_worthAll_20 : decode cX12_worthAll 20 = .ok (.goto 12, 3) := by decide +kernel
theorem dX12_worthAll_23 : decode cX12_worthAll 23 = .ok (.aload_n 0, 1) := by decide +kernel
theorem dX12_worthAll_24 : decode cX12_worthAll 24 = .ok (.iconst 2, 1) := by decide +kernel
theorem dX12_worthAll_25 : decode cX12_worthAll 25 = .ok (.iconst 0, 1) := by decide +kernel
theorem dX12_worthAll_26 : decode cX12_worthAll 26 = .ok (.iload_n 2, 1) := by decide +kernel
theorem dX12_worthAll_27 : decode cX12_worthAll 27 = .ok (.bipush 99, 2) := by decide +kernel
theorem dX12_worthAll_29 : decode cX12_worthAll 29 = .ok (.invokevirtual 253, 3) := by decide +kernel
theorem dX12_worthAll_32 : decode cX12_worthAll 32 = .ok (.iadd, 1) := by decide +kernel
theorem dX12_worthAll_33 : decode cX12_worthAll 33 = .ok (.istore_n 1, 1) := by decide +kernel
theorem dX12_worthAll_34 : decode cX12_worthAll 34 = .ok (.iinc 2 1, 3) := by decide +kernel
theorem dX12_worthAll_37 : decode cX12_worthAll 37 = .ok (.goto (-33), 3) := by decide +kernel
theorem dX12_worthAll_40 : decode cX12_worthAll 40 = .ok (.iload_n 1, 1) := by decide +kernel
theorem dX12_worthAll_41 : decode cX12_worthAll 41 = .ok (.ireturn, 1) := by decide +kernel
theorem dX12_all_0 : decode cX12_all 0 = .ok (.iload_n 1, 1) := by decide +kernel
theorem dX12_all_1 : decode cX12_all 1 = .ok (.i2l, 1) := by decide +kernel
theorem dX12_all_2 : decode cX12_all 2 = .ok (.lconst 0, 1) := by decide +kernel
theorem dX12_all_3 : decode cX12_all 3 = .ok (.ldc2_w 109, 3) := by decide +kernel
theorem dX12_all_6 : decode cX12_all 6 = .ok (.invokestatic 73, 3) := by decide +kernel
theorem dX12_all_9 : decode cX12_all 9 = .ok (.ifCond .ne 6, 3) := by decide +kernel
theorem dX12_all_12 : decode cX12_all 12 = .ok (.bipush (-2), 2) := by decide +kernel
theorem dX12_all_14 : decode cX12_all 14 = .ok (.ireturn, 1) := by decide +kernel
theorem dX12_all_15 : decode cX12_all 15 = .ok (.iload_n 1, 1) := by decide +kernel
theorem dX12_all_16 : decode cX12_all 16 = .ok (.ifCond .ne 10, 3) := by decide +kernel
theorem dX12_all_19 : decode cX12_all 19 = .ok (.aload_n 0, 1) := by decide +kernel
theorem dX12_all_20 : decode cX12_all 20 = .ok (.invokevirtual 288, 3) := by decide +kernel
theorem dX12_all_23 : decode cX12_all 23 = .ok (.goto 34, 3) := by decide +kernel
theorem dX12_all_26 : decode cX12_all 26 = .ok (.iload_n 1, 1) := by decide +kernel
theorem dX12_all_27 : decode cX12_all 27 = .ok (.bipush 7, 2) := by decide +kernel
theorem dX12_all_29 : decode cX12_all 29 = .ok (.if_icmp .ge 11, 3) := by decide +kernel
theorem dX12_all_32 : decode cX12_all 32 = .ok (.aload_n 0, 1) := by decide +kernel
theorem dX12_all_33 : decode cX12_all 33 = .ok (.iload_n 1, 1) := by decide +kernel
theorem dX12_all_34 : decode cX12_all 34 = .ok (.invokevirtual 291, 3) := by decide +kernel
theorem dX12_all_37 : decode cX12_all 37 = .ok (.goto 20, 3) := by decide +kernel
theorem dX12_all_40 : decode cX12_all 40 = .ok (.iload_n 1, 1) := by decide +kernel
theorem dX12_all_41 : decode cX12_all 41 = .ok (.bipush 7, 2) := by decide +kernel
theorem dX12_all_43 : decode cX12_all 43 = .ok (.if_icmp .ne 10, 3) := by decide +kernel
theorem dX12_all_46 : decode cX12_all 46 = .ok (.aload_n 0, 1) := by decide +kernel
theorem dX12_all_47 : decode cX12_all 47 = .ok (.invokevirtual 294, 3) := by decide +kernel
theorem dX12_all_50 : decode cX12_all 50 = .ok (.goto 7, 3) := by decide +kernel
theorem dX12_all_53 : decode cX12_all 53 = .ok (.aload_n 0, 1) := by decide +kernel
theorem dX12_all_54 : decode cX12_all 54 = .ok (.invokevirtual 297, 3) := by decide +kernel
theorem dX12_all_57 : decode cX12_all 57 = .ok (.ireturn, 1) := by decide +kernel
theorem dX12_keeps_0 : decode cX12_keeps 0 = .ok (.iconst 0, 1) := by decide +kernel
theorem dX12_keeps_1 : decode cX12_keeps 1 = .ok (.istore_n 2, 1) := by decide +kernel
theorem dX12_keeps_2 : decode cX12_keeps 2 = .ok (.iload_n 2, 1) := by decide +kernel
theorem dX12_keeps_3 : decode cX12_keeps 3 = .ok (.bipush 48, 2) := by decide +kernel
theorem dX12_keeps_5 : decode cX12_keeps 5 = .ok (.if_icmp .ge 46, 3) := by decide +kernel
theorem dX12_keeps_8 : decode cX12_keeps 8 = .ok (.aload_n 0, 1) := by decide +kernel
theorem dX12_keeps_9 : decode cX12_keeps 9 = .ok (.getfield 35, 3) := by decide +kernel
theorem dX12_keeps_12 : decode cX12_keeps 12 = .ok (.bipush 96, 2) := by decide +kernel
theorem dX12_keeps_14 : decode cX12_keeps 14 = .ok (.iload_n 1, 1) := by decide +kernel
theorem dX12_keeps_15 : decode cX12_keeps 15 = .ok (.imul, 1) := by decide +kernel
theorem dX12_keeps_16 : decode cX12_keeps 16 = .ok (.iload_n 2, 1) := by decide +kernel
theorem dX12_keeps_17 : decode cX12_keeps 17 = .ok (.iadd, 1) := by decide +kernel
theorem dX12_keeps_18 : decode cX12_keeps 18 = .ok (.aload_n 0, 1) := by decide +kernel
theorem dX12_keeps_19 : decode cX12_keeps 19 = .ok (.getfield 29, 3) := by decide +kernel
theorem dX12_keeps_22 : decode cX12_keeps 22 = .ok (.iload_n 2, 1) := by decide +kernel
theorem dX12_keeps_23 : decode cX12_keeps 23 = .ok (.iaload, 1) := by decide +kernel
theorem dX12_keeps_24 : decode cX12_keeps 24 = .ok (.iastore, 1) := by decide +kernel
theorem dX12_keeps_25 : decode cX12_keeps 25 = .ok (.aload_n 0, 1) := by decide +kernel
theorem dX12_keeps_26 : decode cX12_keeps 26 = .ok (.getfield 35, 3) := by decide +kernel
theorem dX12_keeps_29 : decode cX12_keeps 29 = .ok (.bipush 96, 2) := by decide +kernel
theorem dX12_keeps_31 : decode cX12_keeps 31 = .ok (.iload_n 1, 1) := by decide +kernel
theorem dX12_keeps_32 : decode cX12_keeps 32 = .ok (.imul, 1) := by decide +kernel
theorem dX12_keeps_33 : decode cX12_keeps 33 = .ok (.bipush 48, 2) := by decide +kernel
theorem dX12_keeps_35 : decode cX12_keeps 35 = .ok (.iadd, 1) := by decide +kernel
theorem dX12_keeps_36 : decode cX12_keeps 36 = .ok (.iload_n 2, 1) := by decide +kernel
theorem dX12_keeps_37 : decode cX12_keeps 37 = .ok (.iadd, 1) := by decide +kernel
theorem dX12_keeps_38 : decode cX12_keeps 38 = .ok (.aload_n 0, 1) := by decide +kernel
theorem dX12_keeps_39 : decode cX12_keeps 39 = .ok (.getfield 32, 3) := by decide +kernel
theorem dX12_keeps_42 : decode cX12_keeps 42 = .ok (.iload_n 2, 1) := by decide +kernel
theorem dX12_keeps_43 : decode cX12_keeps 43 = .ok (.iaload, 1) := by decide +kernel
theorem dX12_keeps_44 : decode cX12_keeps 44 = .ok (.iastore, 1) := by decide +kernel
theorem dX12_keeps_45 : decode cX12_keeps 45 = .ok (.iinc 2 1, 3) := by decide +kernel
theorem dX12_keeps_48 : decode cX12_keeps 48 = .ok (.goto (-46), 3) := by decide +kernel
theorem dX12_keeps_51 : decode cX12_keeps 51 = .ok (.return_, 1) := by decide +kernel
theorem dX12_laysBack_0 : decode cX12_laysBack 0 = .ok (.iconst 0, 1) := by decide +kernel
theorem dX12_laysBack_1 : decode cX12_laysBack 1 = .ok (.istore_n 2, 1) := by decide +kernel
theorem dX12_laysBack_2 : decode cX12_laysBack 2 = .ok (.iload_n 2, 1) := by decide +kernel
theorem dX12_laysBack_3 : decode cX12_laysBack 3 = .ok (.bipush 48, 2) := by decide +kernel
theorem dX12_laysBack_5 : decode cX12_laysBack 5 = .ok (.if_icmp .ge 46, 3) := by decide +kernel
theorem dX12_laysBack_8 : decode cX12_laysBack 8 = .ok (.aload_n 0, 1) := by decide +kernel
theorem dX12_laysBack_9 : decode cX12_laysBack 9 = .ok (.getfield 29, 3) := by decide +kernel
theorem dX12_laysBack_12 : decode cX12_laysBack 12 = .ok (.iload_n 2, 1) := by decide +kernel
theorem dX12_laysBack_13 : decode cX12_laysBack 13 = .ok (.aload_n 0, 1) := by decide +kernel
theorem dX12_laysBack_14 : decode cX12_laysBack 14 = .ok (.getfield 35, 3) := by decide +kernel
theorem dX12_laysBack_17 : decode cX12_laysBack 17 = .ok (.bipush 96, 2) := by decide +kernel
theorem dX12_laysBack_19 : decode cX12_laysBack 19 = .ok (.iload_n 1, 1) := by decide +kernel
theorem dX12_laysBack_20 : decode cX12_laysBack 20 = .ok (.imul, 1) := by decide +kernel
theorem dX12_laysBack_21 : decode cX12_laysBack 21 = .ok (.iload_n 2, 1) := by decide +kernel
theorem dX12_laysBack_22 : decode cX12_laysBack 22 = .ok (.iadd, 1) := by decide +kernel
theorem dX12_laysBack_23 : decode cX12_laysBack 23 = .ok (.iaload, 1) := by decide +kernel
theorem dX12_laysBack_24 : decode cX12_laysBack 24 = .ok (.iastore, 1) := by decide +kernel
theorem dX12_laysBack_25 : decode cX12_laysBack 25 = .ok (.aload_n 0, 1) := by decide +kernel
theorem dX12_laysBack_26 : decode cX12_laysBack 26 = .ok (.getfield 32, 3) := by decide +kernel
theorem dX12_laysBack_29 : decode cX12_laysBack 29 = .ok (.iload_n 2, 1) := by decide +kernel
theorem dX12_laysBack_30 : decode cX12_laysBack 30 = .ok (.aload_n 0, 1) := by decide +kernel
theorem dX12_laysBack_31 : decode cX12_laysBack 31 = .ok (.getfield 35, 3) := by decide +kernel
theorem dX12_laysBack_34 : decode cX12_laysBack 34 = .ok (.bipush 96, 2) := by decide +kernel
theorem dX12_laysBack_36 : decode cX12_laysBack 36 = .ok (.iload_n 1, 1) := by decide +kernel
theorem dX12_laysBack_37 : decode cX12_laysBack 37 = .ok (.imul, 1) := by decide +kernel
theorem dX12_laysBack_38 : decode cX12_laysBack 38 = .ok (.bipush 48, 2) := by decide +kernel
theorem dX12_laysBack_40 : decode cX12_laysBack 40 = .ok (.iadd, 1) := by decide +kernel
theorem dX12_laysBack_41 : decode cX12_laysBack 41 = .ok (.iload_n 2, 1) := by decide +kernel
theorem dX12_laysBack_42 : decode cX12_laysBack 42 = .ok (.iadd, 1) := by decide +kernel
theorem dX12_laysBack_43 : decode cX12_laysBack 43 = .ok (.iaload, 1) := by decide +kernel
theorem dX12_laysBack_44 : decode cX12_laysBack 44 = .ok (.iastore, 1) := by decide +kernel
theorem dX12_laysBack_45 : decode cX12_laysBack 45 = .ok (.iinc 2 1, 3) := by decide +kernel
theorem dX12_laysBack_48 : decode cX12_laysBack 48 = .ok (.goto (-46), 3) := by decide +kernel
theorem dX12_laysBack_51 : decode cX12_laysBack 51 = .ok (.return_, 1) := by decide +kernel
theorem dX12_best_0 : decode cX12_best 0 = .ok (.iload_n 1, 1) := by decide +kernel
theorem dX12_best_1 : decode cX12_best 1 = .ok (.i2l, 1) := by decide +kernel
theorem dX12_best_2 : decode cX12_best 2 = .ok (.lconst 1, 1) := by decide +kernel
theorem dX12_best_3 : decode cX12_best 3 = .ok (.ldc2_w 300, 3) := by decide +kernel
theorem dX12_best_6 : decode cX12_best 6 = .ok (.invokestatic 73, 3) := by decide +kernel
theorem dX12_best_9 : decode cX12_best 9 = .ok (.ifCond .eq 13, 3) := by decide +kernel
theorem dX12_best_12 : decode cX12_best 12 = .ok (.iload_n 2, 1) := by decide +kernel
theorem dX12_best_13 : decode cX12_best 13 = .ok (.i2l, 1) := by decide +kernel
theorem dX12_best_14 : decode cX12_best 14 = .ok (.lconst 0, 1) := by decide +kernel
theorem dX12_best_15 : decode cX12_best 15 = .ok (.lconst 1, 1) := by decide +kernel
theorem dX12_best_16 : decode cX12_best 16 = .ok (.invokestatic 73, 3) := by decide +kernel
theorem dX12_best_19 : decode cX12_best 19 = .ok (.ifCond .ne 6, 3) := by decide +kernel
theorem dX12_best_22 : decode cX12_best 22 = .ok (.bipush (-2), 2) := by decide +kernel
theorem dX12_best_24 : decode cX12_best 24 = .ok (.ireturn, 1) := by decide +kernel
theorem dX12_best_25 : decode cX12_best 25 = .ok (.aload_n 0, 1) := by decide +kernel
theorem dX12_best_26 : decode cX12_best 26 = .ok (.iload_n 1, 1) := by decide +kernel
theorem dX12_best_27 : decode cX12_best 27 = .ok (.invokevirtual 291, 3) := by decide +kernel
theorem dX12_best_30 : decode cX12_best 30 = .ok (.invokestatic 285, 3) := by decide +kernel
theorem dX12_best_33 : decode cX12_best 33 = .ok (.istore_n 3, 1) := by decide +kernel
theorem dX12_best_34 : decode cX12_best 34 = .ok (.iconst (-1), 1) := by decide +kernel
theorem dX12_best_35 : decode cX12_best 35 = .ok (.istore 4, 2) := by decide +kernel
theorem dX12_best_37 : decode cX12_best 37 = .ok (.aload_n 0, 1) := by decide +kernel
theorem dX12_best_38 : decode cX12_best 38 = .ok (.iconst 0, 1) := by decide +kernel
theorem dX12_best_39 : decode cX12_best 39 = .ok (.invokevirtual 302, 3) := by decide +kernel
theorem dX12_best_42 : decode cX12_best 42 = .ok (.iconst 0, 1) := by decide +kernel
theorem dX12_best_43 : decode cX12_best 43 = .ok (.istore 5, 2) := by decide +kernel
theorem dX12_best_45 : decode cX12_best 45 = .ok (.iload 5, 2) := by decide +kernel
theorem dX12_best_47 : decode cX12_best 47 = .ok (.aload_n 0, 1) := by decide +kernel
theorem dX12_best_48 : decode cX12_best 48 = .ok (.getfield 70, 3) := by decide +kernel
theorem dX12_best_51 : decode cX12_best 51 = .ok (.aload_n 0, 1) := by decide +kernel
theorem dX12_best_52 : decode cX12_best 52 = .ok (.getfield 70, 3) := by decide +kernel
theorem dX12_best_55 : decode cX12_best 55 = .ok (.imul, 1) := by decide +kernel
theorem dX12_best_56 : decode cX12_best 56 = .ok (.if_icmp .ge 81, 3) := by decide +kernel
theorem dX12_best_59 : decode cX12_best 59 = .ok (.iload 5, 2) := by decide +kernel
theorem dX12_best_61 : decode cX12_best 61 = .ok (.aload_n 0, 1) := by decide +kernel
theorem dX12_best_62 : decode cX12_best 62 = .ok (.getfield 70, 3) := by decide +kernel
theorem dX12_best_65 : decode cX12_best 65 = .ok (.idiv, 1) := by decide +kernel
theorem dX12_best_66 : decode cX12_best 66 = .ok (.istore 6, 2) := by decide +kernel
theorem dX12_best_68 : decode cX12_best 68 = .ok (.iload 5, 2) := by decide +kernel
theorem dX12_best_70 : decode cX12_best 70 = .ok (.aload_n 0, 1) := by decide +kernel
theorem dX12_best_71 : decode cX12_best 71 = .ok (.getfield 70, 3) := by decide +kernel
theorem dX12_best_74 : decode cX12_best 74 = .ok (.irem, 1) := by decide +kernel
theorem dX12_best_75 : decode cX12_best 75 = .ok (.istore 7, 2) := by decide +kernel
theorem dX12_best_77 : decode cX12_best 77 = .ok (.aload_n 0, 1) := by decide +kernel
theorem dX12_best_78 : decode cX12_best 78 = .ok (.iload 6, 2) := by decide +kernel
theorem dX12_best_80 : decode cX12_best 80 = .ok (.iload 7, 2) := by decide +kernel
theorem dX12_best_82 : decode cX12_best 82 = .ok (.invokevirtual 267, 3) := by decide +kernel
theorem dX12_best_85 : decode cX12_best 85 = .ok (.ifCond .eq 46, 3) := by decide +kernel
theorem dX12_best_88 : decode cX12_best 88 = .ok (.aload_n 0, 1) := by decide +kernel
theorem dX12_best_89 : decode cX12_best 89 = .ok (.iload 6, 2) := by decide +kernel
theorem dX12_best_91 : decode cX12_best 91 = .ok (.iload 7, 2) := by decide +kernel
theorem dX12_best_93 : decode cX12_best 93 = .ok (.invokevirtual 270, 3) := by decide +kernel
theorem dX12_best_96 : decode cX12_best 96 = .ok (.pop, 1) := by decide +kernel
theorem dX12_best_97 : decode cX12_best 97 = .ok (.aload_n 0, 1) := by decide +kernel
theorem dX12_best_98 : decode cX12_best 98 = .ok (.iload_n 1, 1) := by decide +kernel
theorem dX12_best_99 : decode cX12_best 99 = .ok (.invokevirtual 291, 3) := by decide +kernel
theorem dX12_best_102 : decode cX12_best 102 = .ok (.invokestatic 285, 3) := by decide +kernel
theorem dX12_best_105 : decode cX12_best 105 = .ok (.istore 8, 2) := by decide +kernel
theorem dX12_best_107 : decode cX12_best 107 = .ok (.aload_n 0, 1) := by decide +kernel
theorem dX12_best_108 : decode cX12_best 108 = .ok (.iconst 0, 1) := by decide +kernel
theorem dX12_best_109 : decode cX12_best 109 = .ok (.invokevirtual 306, 3) := by decide +kernel
theorem dX12_best_112 : decode cX12_best 112 = .ok (.iload 8, 2) := by decide +kernel
theorem dX12_best_114 : decode cX12_best 114 = .ok (.iload_n 3, 1) := by decide +kernel
theorem dX12_best_115 : decode cX12_best 115 = .ok (.if_icmp .le 16, 3) := by decide +kernel
theorem dX12_best_118 : decode cX12_best 118 = .ok (.bipush 10, 2) := by decide +kernel
theorem dX12_best_120 : decode cX12_best 120 = .ok (.iload 6, 2) := by decide +kernel
theorem dX12_best_122 : decode cX12_best 122 = .ok (.imul, 1) := by decide +kernel
theorem dX12_best_123 : decode cX12_best 123 = .ok (.iload 7, 2) := by decide +kernel
theorem dX12_best_125 : decode cX12_best 125 = .ok (.iadd, 1) := by decide +kernel
theorem dX12_best_126 : decode cX12_best 126 = .ok (.istore 4, 2) := by decide +kernel
theorem dX12_best_128 : decode cX12_best 128 = .ok (.iload 8, 2) := by decide +kernel
theorem dX12_best_130 : decode cX12_best 130 = .ok (.istore_n 3, 1) := by decide +kernel
theorem dX12_best_131 : decode cX12_best 131 = .ok (.iinc 5 1, 3) := by decide +kernel
theorem dX12_best_134 : decode cX12_best 134 = .ok (.goto (-89), 3) := by decide +kernel
theorem dX12_best_137 : decode cX12_best 137 = .ok (.iload_n 2, 1) := by decide +kernel
theorem dX12_best_138 : decode cX12_best 138 = .ok (.ifCond .ne 8, 3) := by decide +kernel
theorem dX12_best_141 : decode cX12_best 141 = .ok (.iload 4, 2) := by decide +kernel
theorem dX12_best_143 : decode cX12_best 143 = .ok (.goto 4, 3) := by decide +kernel
theorem dX12_best_146 : decode cX12_best 146 = .ok (.iload_n 3, 1) := by decide +kernel
theorem dX12_best_147 : decode cX12_best 147 = .ok (.ireturn, 1) := by decide +kernel
theorem dX12_makesSafe_0 : decode cX12_makesSafe 0 = .ok (.iload_n 2, 1) := by decide +kernel
theorem dX12_makesSafe_1 : decode cX12_makesSafe 1 = .ok (.aload_n 0, 1) := by decide +kernel
theorem dX12_makesSafe_2 : decode cX12_makesSafe 2 = .ok (.iload_n 1, 1) := by decide +kernel
theorem dX12_makesSafe_3 : decode cX12_makesSafe 3 = .ok (.invokevirtual 291, 3) := by decide +kernel
theorem dX12_makesSafe_6 : decode cX12_makesSafe 6 = .ok (.iconst (-1), 1) := by decide +kernel
theorem dX12_makesSafe_7 : decode cX12_makesSafe 7 = .ok (.ixor, 1) := by decide +kernel
theorem dX12_makesSafe_8 : decode cX12_makesSafe 8 = .ok (.iand, 1) := by decide +kernel
theorem dX12_makesSafe_9 : decode cX12_makesSafe 9 = .ok (.ifCond .ne 5, 3) := by decide +kernel
theorem dX12_makesSafe_12 : decode cX12_makesSafe 12 = .ok (.iconst 1, 1) := by decide +kernel
theorem dX12_makesSafe_13 : decode cX12_makesSafe 13 = .ok (.ireturn, 1) := by decide +kernel
theorem dX12_makesSafe_14 : decode cX12_makesSafe 14 = .ok (.iload_n 3, 1) := by decide +kernel
theorem dX12_makesSafe_15 : decode cX12_makesSafe 15 = .ok (.ifCond .ne 5, 3) := by decide +kernel
theorem dX12_makesSafe_18 : decode cX12_makesSafe 18 = .ok (.iconst 0, 1) := by decide +kernel
theorem dX12_makesSafe_19 : decode cX12_makesSafe 19 = .ok (.ireturn, 1) := by decide +kernel
theorem dX12_makesSafe_20 : decode cX12_makesSafe 20 = .ok (.aload_n 0, 1) := by decide +kernel
theorem dX12_makesSafe_21 : decode cX12_makesSafe 21 = .ok (.iload_n 3, 1) := by decide +kernel
theorem dX12_makesSafe_22 : decode cX12_makesSafe 22 = .ok (.invokevirtual 302, 3) := by decide +kernel
theorem dX12_makesSafe_25 : decode cX12_makesSafe 25 = .ok (.iconst 0, 1) := by decide +kernel
theorem dX12_makesSafe_26 : decode cX12_makesSafe 26 = .ok (.istore 4, 2) := by decide +kernel
theorem dX12_makesSafe_28 : decode cX12_makesSafe 28 = .ok (.iconst 0, 1) := by decide +kernel
theorem dX12_makesSafe_29 : decode cX12_makesSafe 29 = .ok (.istore 5, 2) := by decide +kernel
theorem dX12_makesSafe_31 : decode cX12_makesSafe 31 = .ok (.iload 5, 2) := by decide +kernel
theorem dX12_makesSafe_33 : decode cX12_makesSafe 33 = .ok (.aload_n 0, 1) := by decide +kernel
theorem dX12_makesSafe_34 : decode cX12_makesSafe 34 = .ok (.getfield 70, 3) := by decide +kernel
theorem dX12_makesSafe_37 : decode cX12_makesSafe 37 = .ok (.aload_n 0, 1) := by decide +kernel
theorem dX12_makesSafe_38 : decode cX12_makesSafe 38 = .ok (.getfield 70, 3) := by decide +kernel
theorem dX12_makesSafe_41 : decode cX12_makesSafe 41 = .ok (.imul, 1) := by decide +kernel
theorem dX12_makesSafe_42 : decode cX12_makesSafe 42 = .ok (.if_icmp .ge 72, 3) := by decide +kernel
theorem dX12_makesSafe_45 : decode cX12_makesSafe 45 = .ok (.iload 4, 2) := by decide +kernel
theorem dX12_makesSafe_47 : decode cX12_makesSafe 47 = .ok (.ifCond .ne 67, 3) := by decide +kernel
theorem dX12_makesSafe_50 : decode cX12_makesSafe 50 = .ok (.aload_n 0, 1) := by decide +kernel
theorem dX12_makesSafe_51 : decode cX12_makesSafe 51 = .ok (.iload 5, 2) := by decide +kernel
theorem dX12_makesSafe_53 : decode cX12_makesSafe 53 = .ok (.aload_n 0, 1) := by decide +kernel
theorem dX12_makesSafe_54 : decode cX12_makesSafe 54 = .ok (.getfield 70, 3) := by decide +kernel
theorem dX12_makesSafe_57 : decode cX12_makesSafe 57 = .ok (.idiv, 1) := by decide +kernel
theorem dX12_makesSafe_58 : decode cX12_makesSafe 58 = .ok (.iload 5, 2) := by decide +kernel
theorem dX12_makesSafe_60 : decode cX12_makesSafe 60 = .ok (.aload_n 0, 1) := by decide +kernel
theorem dX12_makesSafe_61 : decode cX12_makesSafe 61 = .ok (.getfield 70, 3) := by decide +kernel
theorem dX12_makesSafe_64 : decode cX12_makesSafe 64 = .ok (.irem, 1) := by decide +kernel
theorem dX12_makesSafe_65 : decode cX12_makesSafe 65 = .ok (.invokevirtual 267, 3) := by decide +kernel
theorem dX12_makesSafe_68 : decode cX12_makesSafe 68 = .ok (.ifCond .eq 40, 3) := by decide +kernel
theorem dX12_makesSafe_71 : decode cX12_makesSafe 71 = .ok (.aload_n 0, 1) := by decide +kernel
theorem dX12_makesSafe_72 : decode cX12_makesSafe 72 = .ok (.iload 5, 2) := by decide +kernel
theorem dX12_makesSafe_74 : decode cX12_makesSafe 74 = .ok (.aload_n 0, 1) := by decide +kernel
theorem dX12_makesSafe_75 : decode cX12_makesSafe 75 = .ok (.getfield 70, 3) := by decide +kernel
theorem dX12_makesSafe_78 : decode cX12_makesSafe 78 = .ok (.idiv, 1) := by decide +kernel
theorem dX12_makesSafe_79 : decode cX12_makesSafe 79 = .ok (.iload 5, 2) := by decide +kernel
theorem dX12_makesSafe_81 : decode cX12_makesSafe 81 = .ok (.aload_n 0, 1) := by decide +kernel
theorem dX12_makesSafe_82 : decode cX12_makesSafe 82 = .ok (.getfield 70, 3) := by decide +kernel
theorem dX12_makesSafe_85 : decode cX12_makesSafe 85 = .ok (.irem, 1) := by decide +kernel
theorem dX12_makesSafe_86 : decode cX12_makesSafe 86 = .ok (.invokevirtual 270, 3) := by decide +kernel
theorem dX12_makesSafe_89 : decode cX12_makesSafe 89 = .ok (.ifCond .le 19, 3) := by decide +kernel
theorem dX12_makesSafe_92 : decode cX12_makesSafe 92 = .ok (.aload_n 0, 1) := by decide +kernel
theorem dX12_makesSafe_93 : decode cX12_makesSafe 93 = .ok (.iload_n 1, 1) := by decide +kernel
theorem dX12_makesSafe_94 : decode cX12_makesSafe 94 = .ok (.iload_n 2, 1) := by decide +kernel
theorem dX12_makesSafe_95 : decode cX12_makesSafe 95 = .ok (.iload_n 3, 1) := by decide +kernel
theorem dX12_makesSafe_96 : decode cX12_makesSafe 96 = .ok (.iconst 1, 1) := by decide +kernel
theorem dX12_makesSafe_97 : decode cX12_makesSafe 97 = .ok (.isub, 1) := by decide +kernel
theorem dX12_makesSafe_98 : decode cX12_makesSafe 98 = .ok (.invokevirtual 309, 3) := by decide +kernel
theorem dX12_makesSafe_101 : decode cX12_makesSafe 101 = .ok (.istore 4, 2) := by decide +kernel
theorem dX12_makesSafe_103 : decode cX12_makesSafe 103 = .ok (.aload_n 0, 1) := by decide +kernel
theorem dX12_makesSafe_104 : decode cX12_makesSafe 104 = .ok (.iload_n 3, 1) := by decide +kernel
theorem dX12_makesSafe_105 : decode cX12_makesSafe 105 = .ok (.invokevirtual 306, 3) := by decide +kernel
theorem dX12_makesSafe_108 : decode cX12_makesSafe 108 = .ok (.iinc 5 1, 3) := by decide +kernel
theorem dX12_makesSafe_111 : decode cX12_makesSafe 111 = .ok (.goto (-80), 3) := by decide +kernel
theorem dX12_makesSafe_114 : decode cX12_makesSafe 114 = .ok (.iload 4, 2) := by decide +kernel
theorem dX12_makesSafe_116 : decode cX12_makesSafe 116 = .ok (.ireturn, 1) := by decide +kernel
theorem dX12_fewest_0 : decode cX12_fewest 0 = .ok (.iload_n 1, 1) := by decide +kernel
theorem dX12_fewest_1 : decode cX12_fewest 1 = .ok (.i2l, 1) := by decide +kernel
theorem dX12_fewest_2 : decode cX12_fewest 2 = .ok (.lconst 1, 1) := by decide +kernel
theorem dX12_fewest_3 : decode cX12_fewest 3 = .ok (.ldc2_w 300, 3) := by decide +kernel
theorem dX12_fewest_6 : decode cX12_fewest 6 = .ok (.invokestatic 73, 3) := by decide +kernel
theorem dX12_fewest_9 : decode cX12_fewest 9 = .ok (.ifCond .ne 6, 3) := by decide +kernel
theorem dX12_fewest_12 : decode cX12_fewest 12 = .ok (.bipush (-2), 2) := by decide +kernel
theorem dX12_fewest_14 : decode cX12_fewest 14 = .ok (.ireturn, 1) := by decide +kernel
theorem dX12_fewest_15 : decode cX12_fewest 15 = .ok (.aload_n 0, 1) := by decide +kernel
theorem dX12_fewest_16 : decode cX12_fewest 16 = .ok (.iconst 1, 1) := by decide +kernel
theorem dX12_fewest_17 : decode cX12_fewest 17 = .ok (.invokevirtual 291, 3) := by decide +kernel
theorem dX12_fewest_20 : decode cX12_fewest 20 = .ok (.istore_n 2, 1) := by decide +kernel
theorem dX12_fewest_21 : decode cX12_fewest 21 = .ok (.iconst 0, 1) := by decide +kernel
theorem dX12_fewest_22 : decode cX12_fewest 22 = .ok (.istore_n 3, 1) := by decide +kernel
theorem dX12_fewest_23 : decode cX12_fewest 23 = .ok (.iload_n 3, 1) := by decide +kernel
theorem dX12_fewest_24 : decode cX12_fewest 24 = .ok (.iconst 4, 1) := by decide +kernel
theorem dX12_fewest_25 : decode cX12_fewest 25 = .ok (.if_icmp .ge 21, 3) := by decide +kernel
theorem dX12_fewest_28 : decode cX12_fewest 28 = .ok (.aload_n 0, 1) := by decide +kernel
theorem dX12_fewest_29 : decode cX12_fewest 29 = .ok (.iload_n 1, 1) := by decide +kernel
theorem dX12_fewest_30 : decode cX12_fewest 30 = .ok (.iload_n 2, 1) := by decide +kernel
theorem dX12_fewest_31 : decode cX12_fewest 31 = .ok (.iload_n 3, 1) := by decide +kernel
theorem dX12_fewest_32 : decode cX12_fewest 32 = .ok (.invokevirtual 309, 3) := by decide +kernel
theorem dX12_fewest_35 : decode cX12_fewest 35 = .ok (.ifCond .eq 5, 3) := by decide +kernel
theorem dX12_fewest_38 : decode cX12_fewest 38 = .ok (.iload_n 3, 1) := by decide +kernel
theorem dX12_fewest_39 : decode cX12_fewest 39 = .ok (.ireturn, 1) := by decide +kernel
theorem dX12_fewest_40 : decode cX12_fewest 40 = .ok (.iinc 3 1, 3) := by decide +kernel
theorem dX12_fewest_43 : decode cX12_fewest 43 = .ok (.goto (-20), 3) := by decide +kernel
theorem dX12_fewest_46 : decode cX12_fewest 46 = .ok (.iconst (-1), 1) := by decide +kernel
theorem dX12_fewest_47 : decode cX12_fewest 47 = .ok (.ireturn, 1) := by decide +kernel
theorem dX12_worst_0 : decode cX12_worst 0 = .ok (.iload_n 1, 1) := by decide +kernel
theorem dX12_worst_1 : decode cX12_worst 1 = .ok (.i2l, 1) := by decide +kernel
theorem dX12_worst_2 : decode cX12_worst 2 = .ok (.lconst 0, 1) := by decide +kernel
theorem dX12_worst_3 : decode cX12_worst 3 = .ok (.lconst 1, 1) := by decide +kernel
theorem dX12_worst_4 : decode cX12_worst 4 = .ok (.invokestatic 73, 3) := by decide +kernel
theorem dX12_worst_7 : decode cX12_worst 7 = .ok (.ifCond .ne 6, 3) := by decide +kernel
theorem dX12_worst_10 : decode cX12_worst 10 = .ok (.bipush (-2), 2) := by decide +kernel
theorem dX12_worst_12 : decode cX12_worst 12 = .ok (.ireturn, 1) := by decide +kernel
theorem dX12_worst_13 : decode cX12_worst 13 = .ok (.iconst (-1), 1) := by decide +kernel
theorem dX12_worst_14 : decode cX12_worst 14 = .ok (.istore_n 2, 1) := by decide +kernel
theorem dX12_worst_15 : decode cX12_worst 15 = .ok (.iconst (-1), 1) := by decide +kernel
theorem dX12_worst_16 : decode cX12_worst 16 = .ok (.istore_n 3, 1) := by decide +kernel
theorem dX12_worst_17 : decode cX12_worst 17 = .ok (.iconst 0, 1) := by decide +kernel
theorem dX12_worst_18 : decode cX12_worst 18 = .ok (.istore 4, 2) := by decide +kernel
theorem dX12_worst_20 : decode cX12_worst 20 = .ok (.iload 4, 2) := by decide +kernel
theorem dX12_worst_22 : decode cX12_worst 22 = .ok (.aload_n 0, 1) := by decide +kernel
theorem dX12_worst_23 : decode cX12_worst 23 = .ok (.getfield 70, 3) := by decide +kernel
theorem dX12_worst_26 : decode cX12_worst 26 = .ok (.if_icmp .ge 54, 3) := by decide +kernel
theorem dX12_worst_29 : decode cX12_worst 29 = .ok (.aload_n 0, 1) := by decide +kernel
theorem dX12_worst_30 : decode cX12_worst 30 = .ok (.iload 4, 2) := by decide +kernel
theorem dX12_worst_32 : decode cX12_worst 32 = .ok (.invokevirtual 111, 3) := by decide +kernel
theorem dX12_worst_35 : decode cX12_worst 35 = .ok (.ifCond .eq 39, 3) := by decide +kernel
theorem dX12_worst_38 : decode cX12_worst 38 = .ok (.aload_n 0, 1) := by decide +kernel
theorem dX12_worst_39 : decode cX12_worst 39 = .ok (.iconst 1, 1) := by decide +kernel
theorem dX12_worst_40 : decode cX12_worst 40 = .ok (.iload 4, 2) := by decide +kernel
theorem dX12_worst_42 : decode cX12_worst 42 = .ok (.ishl, 1) := by decide +kernel
theorem dX12_worst_43 : decode cX12_worst 43 = .ok (.putfield 273, 3) := by decide +kernel
theorem dX12_worst_46 : decode cX12_worst 46 = .ok (.aload_n 0, 1) := by decide +kernel
theorem dX12_worst_47 : decode cX12_worst 47 = .ok (.invokevirtual 297, 3) := by decide +kernel
theorem dX12_worst_50 : decode cX12_worst 50 = .ok (.istore 5, 2) := by decide +kernel
theorem dX12_worst_52 : decode cX12_worst 52 = .ok (.aload_n 0, 1) := by decide +kernel
theorem dX12_worst_53 : decode cX12_worst 53 = .ok (.iconst 0, 1) := by decide +kernel
theorem dX12_worst_54 : decode cX12_worst 54 = .ok (.putfield 273, 3) := by decide +kernel
theorem dX12_worst_57 : decode cX12_worst 57 = .ok (.iload_n 2, 1) := by decide +kernel
theorem dX12_worst_58 : decode cX12_worst 58 = .ok (.iconst (-1), 1) := by decide +kernel
theorem dX12_worst_59 : decode cX12_worst 59 = .ok (.if_icmp .eq 9, 3) := by decide +kernel
theorem dX12_worst_62 : decode cX12_worst 62 = .ok (.iload 5, 2) := by decide +kernel
theorem dX12_worst_64 : decode cX12_worst 64 = .ok (.iload_n 3, 1) := by decide +kernel
theorem dX12_worst_65 : decode cX12_worst 65 = .ok (.if_icmp .ge 9, 3) := by decide +kernel
theorem dX12_worst_68 : decode cX12_worst 68 = .ok (.iload 4, 2) := by decide +kernel
theorem dX12_worst_70 : decode cX12_worst 70 = .ok (.istore_n 2, 1) := by decide +kernel
theorem dX12_worst_71 : decode cX12_worst 71 = .ok (.iload 5, 2) := by decide +kernel
theorem dX12_worst_73 : decode cX12_worst 73 = .ok (.istore_n 3, 1) := by decide +kernel
theorem dX12_worst_74 : decode cX12_worst 74 = .ok (.iinc 4 1, 3) := by decide +kernel
theorem dX12_worst_77 : decode cX12_worst 77 = .ok (.goto (-57), 3) := by decide +kernel
theorem dX12_worst_80 : decode cX12_worst 80 = .ok (.iload_n 1, 1) := by decide +kernel
theorem dX12_worst_81 : decode cX12_worst 81 = .ok (.ifCond .ne 7, 3) := by decide +kernel
theorem dX12_worst_84 : decode cX12_worst 84 = .ok (.iload_n 2, 1) := by decide +kernel
theorem dX12_worst_85 : decode cX12_worst 85 = .ok (.goto 4, 3) := by decide +kernel
theorem dX12_worst_88 : decode cX12_worst 88 = .ok (.iload_n 3, 1) := by decide +kernel
theorem dX12_worst_89 : decode cX12_worst 89 = .ok (.ireturn, 1) := by decide +kernel
theorem dX12_letGo_0 : decode cX12_letGo 0 = .ok (.aload_n 0, 1) := by decide +kernel
theorem dX12_letGo_1 : decode cX12_letGo 1 = .ok (.iconst 1, 1) := by decide +kernel
theorem dX12_letGo_2 : decode cX12_letGo 2 = .ok (.invokevirtual 291, 3) := by decide +kernel
theorem dX12_letGo_5 : decode cX12_letGo 5 = .ok (.istore_n 1, 1) := by decide +kernel
theorem dX12_letGo_6 : decode cX12_letGo 6 = .ok (.iconst 0, 1) := by decide +kernel
theorem dX12_letGo_7 : decode cX12_letGo 7 = .ok (.istore_n 2, 1) := by decide +kernel
theorem dX12_letGo_8 : decode cX12_letGo 8 = .ok (.iload_n 2, 1) := by decide +kernel
theorem dX12_letGo_9 : decode cX12_letGo 9 = .ok (.aload_n 0, 1) := by decide +kernel
theorem dX12_letGo_10 : decode cX12_letGo 10 = .ok (.getfield 70, 3) := by decide +kernel
theorem dX12_letGo_13 : decode cX12_letGo 13 = .ok (.if_icmp .ge 48, 3) := by decide +kernel
theorem dX12_letGo_16 : decode cX12_letGo 16 = .ok (.aload_n 0, 1) := by decide +kernel
theorem dX12_letGo_17 : decode cX12_letGo 17 = .ok (.iload_n 2, 1) := by decide +kernel
theorem dX12_letGo_18 : decode cX12_letGo 18 = .ok (.invokevirtual 111, 3) := by decide +kernel
theorem dX12_letGo_21 : decode cX12_letGo 21 = .ok (.ifCond .eq 34, 3) := by decide +kernel
theorem dX12_letGo_24 : decode cX12_letGo 24 = .ok (.aload_n 0, 1) := by decide +kernel
theorem dX12_letGo_25 : decode cX12_letGo 25 = .ok (.iconst 1, 1) := by decide +kernel
theorem dX12_letGo_26 : decode cX12_letGo 26 = .ok (.iload_n 2, 1) := by decide +kernel
theorem dX12_letGo_27 : decode cX12_letGo 27 = .ok (.ishl, 1) := by decide +kernel
theorem dX12_letGo_28 : decode cX12_letGo 28 = .ok (.putfield 273, 3) := by decide +kernel
theorem dX12_letGo_31 : decode cX12_letGo 31 = .ok (.aload_n 0, 1) := by decide +kernel
theorem dX12_letGo_32 : decode cX12_letGo 32 = .ok (.iconst 1, 1) := by decide +kernel
theorem dX12_letGo_33 : decode cX12_letGo 33 = .ok (.invokevirtual 291, 3) := by decide +kernel
theorem dX12_letGo_36 : decode cX12_letGo 36 = .ok (.istore_n 3, 1) := by decide +kernel
theorem dX12_letGo_37 : decode cX12_letGo 37 = .ok (.aload_n 0, 1) := by decide +kernel
theorem dX12_letGo_38 : decode cX12_letGo 38 = .ok (.iconst 0, 1) := by decide +kernel
theorem dX12_letGo_39 : decode cX12_letGo 39 = .ok (.putfield 273, 3) := by decide +kernel
theorem dX12_letGo_42 : decode cX12_letGo 42 = .ok (.iload_n 3, 1) := by decide +kernel
theorem dX12_letGo_43 : decode cX12_letGo 43 = .ok (.invokestatic 285, 3) := by decide +kernel
theorem dX12_letGo_46 : decode cX12_letGo 46 = .ok (.iload_n 1, 1) := by decide +kernel
theorem dX12_letGo_47 : decode cX12_letGo 47 = .ok (.invokestatic 285, 3) := by decide +kernel
theorem dX12_letGo_50 : decode cX12_letGo 50 = .ok (.if_icmp .lt 5, 3) := by decide +kernel
theorem dX12_letGo_53 : decode cX12_letGo 53 = .ok (.iload_n 2, 1) := by decide +kernel
theorem dX12_letGo_54 : decode cX12_letGo 54 = .ok (.ireturn, 1) := by decide +kernel
theorem dX12_letGo_55 : decode cX12_letGo 55 = .ok (.iinc 2 1, 3) := by decide +kernel
theorem dX12_letGo_58 : decode cX12_letGo 58 = .ok (.goto (-50), 3) := by decide +kernel
theorem dX12_letGo_61 : decode cX12_letGo 61 = .ok (.iconst (-1), 1) := by decide +kernel
theorem dX12_letGo_62 : decode cX12_letGo 62 = .ok (.ireturn, 1) := by decide +kernel
theorem dX12_hasSet_0 : decode cX12_hasSet 0 = .ok (.iconst 0, 1) := by decide +kernel
theorem dX12_hasSet_1 : decode cX12_hasSet 1 = .ok (.istore_n 2, 1) := by decide +kernel
theorem dX12_hasSet_2 : decode cX12_hasSet 2 = .ok (.iconst 0, 1) := by decide +kernel
theorem dX12_hasSet_3 : decode cX12_hasSet 3 = .ok (.istore_n 3, 1) := by decide +kernel
theorem dX12_hasSet_4 : decode cX12_hasSet 4 = .ok (.iload_n 3, 1) := by decide +kernel
theorem dX12_hasSet_5 : decode cX12_hasSet 5 = .ok (.bipush 8, 2) := by decide +kernel
theorem dX12_hasSet_7 : decode cX12_hasSet 7 = .ok (.if_icmp .ge 34, 3) := by decide +kernel
theorem dX12_hasSet_10 : decode cX12_hasSet 10 = .ok (.iload_n 2, 1) := by decide +kernel
theorem dX12_hasSet_11 : decode cX12_hasSet 11 = .ok (.aload_n 0, 1) := by decide +kernel
theorem dX12_hasSet_12 : decode cX12_hasSet 12 = .ok (.getfield 29, 3) := by decide +kernel
theorem dX12_hasSet_15 : decode cX12_hasSet 15 = .ok (.bipush 8, 2) := by decide +kernel
theorem dX12_hasSet_17 : decode cX12_hasSet 17 = .ok (.iload_n 1, 1) := by decide +kernel
theorem dX12_hasSet_18 : decode cX12_hasSet 18 = .ok (.imul, 1) := by decide +kernel
theorem dX12_hasSet_19 : decode cX12_hasSet 19 = .ok (.iload_n 3, 1) := by decide +kernel
theorem dX12_hasSet_20 : decode cX12_hasSet 20 = .ok (.iadd, 1) := by decide +kernel
theorem dX12_hasSet_21 : decode cX12_hasSet 21 = .ok (.iaload, 1) := by decide +kernel
theorem dX12_hasSet_22 : decode cX12_hasSet 22 = .ok (.iconst (-1), 1) := by decide +kernel
theorem dX12_hasSet_23 : decode cX12_hasSet 23 = .ok (.if_icmp .ne 7, 3) := by decide +kernel
theorem dX12_hasSet_26 : decode cX12_hasSet 26 = .ok (.iconst 0, 1) := by decide +kernel
theorem dX12_hasSet_27 : decode cX12_hasSet 27 = .ok (.goto 4, 3) := by decide +kernel
theorem dX12_hasSet_30 : decode cX12_hasSet 30 = .ok (.iconst 1, 1) := by decide +kernel
theorem dX12_hasSet_31 : decode cX12_hasSet 31 = .ok (.iload_n 3, 1) := by decide +kernel
theorem dX12_hasSet_32 : decode cX12_hasSet 32 = .ok (.ishl, 1) := by decide +kernel
theorem dX12_hasSet_33 : decode cX12_hasSet 33 = .ok (.ior, 1) := by decide +kernel
theorem dX12_hasSet_34 : decode cX12_hasSet 34 = .ok (.istore_n 2, 1) := by decide +kernel
theorem dX12_hasSet_35 : decode cX12_hasSet 35 = .ok (.iinc 3 1, 3) := by decide +kernel
theorem dX12_hasSet_38 : decode cX12_hasSet 38 = .ok (.goto (-34), 3) := by decide +kernel
theorem dX12_hasSet_41 : decode cX12_hasSet 41 = .ok (.iload_n 2, 1) := by decide +kernel
theorem dX12_hasSet_42 : decode cX12_hasSet 42 = .ok (.ireturn, 1) := by decide +kernel
theorem dX12_again_0 : decode cX12_again 0 = .ok (.aload_n 0, 1) := by decide +kernel
theorem dX12_again_1 : decode cX12_again 1 = .ok (.iload_n 1, 1) := by decide +kernel
theorem dX12_again_2 : decode cX12_again 2 = .ok (.invokevirtual 81, 3) := by decide +kernel
theorem dX12_again_5 : decode cX12_again 5 = .ok (.ifCond .eq 16, 3) := by decide +kernel
theorem dX12_again_8 : decode cX12_again 8 = .ok (.aload_n 0, 1) := by decide +kernel
theorem dX12_again_9 : decode cX12_again 9 = .ok (.iload_n 2, 1) := by decide +kernel
theorem dX12_again_10 : decode cX12_again 10 = .ok (.invokevirtual 81, 3) := by decide +kernel
theorem dX12_again_13 : decode cX12_again 13 = .ok (.ifCond .eq 8, 3) := by decide +kernel
theorem dX12_again_16 : decode cX12_again 16 = .ok (.iload_n 1, 1) := by decide +kernel
theorem dX12_again_17 : decode cX12_again 17 = .ok (.iload_n 2, 1) := by decide +kernel
theorem dX12_again_18 : decode cX12_again 18 = .ok (.if_icmp .ne 6, 3) := by decide +kernel
