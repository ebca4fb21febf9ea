theorem dX11_write_52 : decode cX11_write 52 = .ok (.invokevirtual 138, 3) := by decide +kernel
theorem dX11_write_55 : decode cX11_write 55 = .ok (.ifCond .ne 6, 3) := by decide +kernel
theorem dX11_write_58 : decode cX11_write 58 = .ok (.bipush (-3), 2) := by decide +kernel
theorem dX11_write_60 : decode cX11_write 60 = .ok (.ireturn, 1) := by decide +kernel
theorem dX11_write_61 : decode cX11_write 61 = .ok (.aload 4, 2) := by decide +kernel
theorem dX11_write_63 : decode cX11_write 63 = .ok (.iload_n 2, 1) := by decide +kernel
theorem dX11_write_64 : decode cX11_write 64 = .ok (.invokevirtual 177, 3) := by decide +kernel
theorem dX11_write_67 : decode cX11_write 67 = .ok (.ifCond .ne 6, 3) := by decide +kernel
theorem dX11_write_70 : decode cX11_write 70 = .ok (.bipush (-4), 2) := by decide +kernel
theorem dX11_write_72 : decode cX11_write 72 = .ok (.ireturn, 1) := by decide +kernel
theorem dX11_write_73 : decode cX11_write 73 = .ok (.aload 4, 2) := by decide +kernel
theorem dX11_write_75 : decode cX11_write 75 = .ok (.iload_n 2, 1) := by decide +kernel
theorem dX11_write_76 : decode cX11_write 76 = .ok (.iload_n 3, 1) := by decide +kernel
theorem dX11_write_77 : decode cX11_write 77 = .ok (.aload 4, 2) := by decide +kernel
theorem dX11_write_79 : decode cX11_write 79 = .ok (.getfield 131, 3) := by decide +kernel
theorem dX11_write_82 : decode cX11_write 82 = .ok (.aload_n 0, 1) := by decide +kernel
theorem dX11_write_83 : decode cX11_write 83 = .ok (.getfield 37, 3) := by decide +kernel
theorem dX11_write_86 : decode cX11_write 86 = .ok (.getfield 115, 3) := by decide +kernel
theorem dX11_write_89 : decode cX11_write 89 = .ok (.aload 4, 2) := by decide +kernel
theorem dX11_write_91 : decode cX11_write 91 = .ok (.getfield 121, 3) := by decide +kernel
theorem dX11_write_94 : decode cX11_write 94 = .ok (.invokevirtual 141, 3) := by decide +kernel
theorem dX11_write_97 : decode cX11_write 97 = .ok (.invokevirtual 180, 3) := by decide +kernel
theorem dX11_write_100 : decode cX11_write 100 = .ok (.aload 4, 2) := by decide +kernel
theorem dX11_write_102 : decode cX11_write 102 = .ok (.getfield 165, 3) := by decide +kernel
theorem dX11_write_105 : decode cX11_write 105 = .ok (.iload_n 2, 1) := by decide +kernel
theorem dX11_write_106 : decode cX11_write 106 = .ok (.iaload, 1) := by decide +kernel
theorem dX11_write_107 : decode cX11_write 107 = .ok (.ireturn, 1) := by decide +kernel
theorem dX11_lose_0 : decode cX11_lose 0 = .ok (.aload_n 0, 1) := by decide +kernel
theorem dX11_lose_1 : decode cX11_lose 1 = .ok (.getfield 37, 3) := by decide +kernel
theorem dX11_lose_4 : decode cX11_lose 4 = .ok (.iload_n 1, 1) := by decide +kernel
theorem dX11_lose_5 : decode cX11_lose 5 = .ok (.invokevirtual 112, 3) := by decide +kernel
theorem dX11_lose_8 : decode cX11_lose 8 = .ok (.ifCond .eq 10, 3) := by decide +kernel
theorem dX11_lose_11 : decode cX11_lose 11 = .ok (.iload_n 2, 1) := by decide +kernel
theorem dX11_lose_12 : decode cX11_lose 12 = .ok (.invokestatic 162, 3) := by decide +kernel
theorem dX11_lose_15 : decode cX11_lose 15 = .ok (.ifCond .ne 6, 3) := by decide +kernel
theorem dX11_lose_18 : decode cX11_lose 18 = .ok (.bipush (-2), 2) := by decide +kernel
theorem dX11_lose_20 : decode cX11_lose 20 = .ok (.ireturn, 1) := by decide +kernel
theorem dX11_lose_21 : decode cX11_lose 21 = .ok (.aload_n 0, 1) := by decide +kernel
theorem dX11_lose_22 : decode cX11_lose 22 = .ok (.getfield 37, 3) := by decide +kernel
theorem dX11_lose_25 : decode cX11_lose 25 = .ok (.getfield 118, 3) := by decide +kernel
theorem dX11_lose_28 : decode cX11_lose 28 = .ok (.iload_n 1, 1) := by decide +kernel
theorem dX11_lose_29 : decode cX11_lose 29 = .ok (.aaload, 1) := by decide +kernel
theorem dX11_lose_30 : decode cX11_lose 30 = .ok (.astore_n 3, 1) := by decide +kernel
theorem dX11_lose_31 : decode cX11_lose 31 = .ok (.aload_n 3, 1) := by decide +kernel
theorem dX11_lose_32 : decode cX11_lose 32 = .ok (.aload_n 0, 1) := by decide +kernel
theorem dX11_lose_33 : decode cX11_lose 33 = .ok (.getfield 37, 3) := by decide +kernel
theorem dX11_lose_36 : decode cX11_lose 36 = .ok (.getfield 115, 3) := by decide +kernel
theorem dX11_lose_39 : decode cX11_lose 39 = .ok (.invokevirtual 138, 3) := by decide +kernel
theorem dX11_lose_42 : decode cX11_lose 42 = .ok (.ifCond .ne 6, 3) := by decide +kernel
theorem dX11_lose_45 : decode cX11_lose 45 = .ok (.bipush (-3), 2) := by decide +kernel
theorem dX11_lose_47 : decode cX11_lose 47 = .ok (.ireturn, 1) := by decide +kernel
theorem dX11_lose_48 : decode cX11_lose 48 = .ok (.aload_n 3, 1) := by decide +kernel
theorem dX11_lose_49 : decode cX11_lose 49 = .ok (.getfield 165, 3) := by decide +kernel
theorem dX11_lose_52 : decode cX11_lose 52 = .ok (.iload_n 2, 1) := by decide +kernel
theorem dX11_lose_53 : decode cX11_lose 53 = .ok (.iaload, 1) := by decide +kernel
theorem dX11_lose_54 : decode cX11_lose 54 = .ok (.istore 4, 2) := by decide +kernel
theorem dX11_lose_56 : decode cX11_lose 56 = .ok (.aload_n 3, 1) := by decide +kernel
theorem dX11_lose_57 : decode cX11_lose 57 = .ok (.iload_n 2, 1) := by decide +kernel
theorem dX11_lose_58 : decode cX11_lose 58 = .ok (.invokevirtual 184, 3) := by decide +kernel
theorem dX11_lose_61 : decode cX11_lose 61 = .ok (.iload 4, 2) := by decide +kernel
theorem dX11_lose_63 : decode cX11_lose 63 = .ok (.ireturn, 1) := by decide +kernel
theorem dX11_copies_0 : decode cX11_copies 0 = .ok (.aload_n 0, 1) := by decide +kernel
theorem dX11_copies_1 : decode cX11_copies 1 = .ok (.iload_n 1, 1) := by decide +kernel
theorem dX11_copies_2 : decode cX11_copies 2 = .ok (.iload_n 2, 1) := by decide +kernel
theorem dX11_copies_3 : decode cX11_copies 3 = .ok (.invokevirtual 187, 3) := by decide +kernel
theorem dX11_copies_6 : decode cX11_copies 6 = .ok (.ifCond .ne 6, 3) := by decide +kernel
theorem dX11_copies_9 : decode cX11_copies 9 = .ok (.bipush (-2), 2) := by decide +kernel
theorem dX11_copies_11 : decode cX11_copies 11 = .ok (.ireturn, 1) := by decide +kernel
theorem dX11_copies_12 : decode cX11_copies 12 = .ok (.aload_n 0, 1) := by decide +kernel
theorem dX11_copies_13 : decode cX11_copies 13 = .ok (.getfield 37, 3) := by decide +kernel
theorem dX11_copies_16 : decode cX11_copies 16 = .ok (.iload_n 1, 1) := by decide +kernel
theorem dX11_copies_17 : decode cX11_copies 17 = .ok (.iload_n 2, 1) := by decide +kernel
theorem dX11_copies_18 : decode cX11_copies 18 = .ok (.invokevirtual 191, 3) := by decide +kernel
theorem dX11_copies_21 : decode cX11_copies 21 = .ok (.ifCond .eq 19, 3) := by decide +kernel
theorem dX11_copies_24 : decode cX11_copies 24 = .ok (.aload_n 0, 1) := by decide +kernel
theorem dX11_copies_25 : decode cX11_copies 25 = .ok (.getfield 37, 3) := by decide +kernel
theorem dX11_copies_28 : decode cX11_copies 28 = .ok (.iload_n 1, 1) := by decide +kernel
theorem dX11_copies_29 : decode cX11_copies 29 = .ok (.iload_n 2, 1) := by decide +kernel
theorem dX11_copies_30 : decode cX11_copies 30 = .ok (.aload_n 0, 1) := by decide +kernel
theorem dX11_copies_31 : decode cX11_copies 31 = .ok (.invokevirtual 156, 3) := by decide +kernel
theorem dX11_copies_34 : decode cX11_copies 34 = .ok (.invokevirtual 194, 3) := by decide +kernel
theorem dX11_copies_37 : decode cX11_copies 37 = .ok (.goto 5, 3) := by decide +kernel
theorem dX11_copies_40 : decode cX11_copies 40 = .ok (.bipush (-3), 2) := by decide +kernel
theorem dX11_copies_42 : decode cX11_copies 42 = .ok (.ireturn, 1) := by decide +kernel
theorem dX11_on_0 : decode cX11_on 0 = .ok (.iload_n 1, 1) := by decide +kernel
theorem dX11_on_1 : decode cX11_on 1 = .ok (.invokestatic 162, 3) := by decide +kernel
theorem dX11_on_4 : decode cX11_on 4 = .ok (.ifCond .eq 14, 3) := by decide +kernel
theorem dX11_on_7 : decode cX11_on 7 = .ok (.aload_n 0, 1) := by decide +kernel
theorem dX11_on_8 : decode cX11_on 8 = .ok (.getfield 37, 3) := by decide +kernel
theorem dX11_on_11 : decode cX11_on 11 = .ok (.iload_n 1, 1) := by decide +kernel
theorem dX11_on_12 : decode cX11_on 12 = .ok (.invokevirtual 198, 3) := by decide +kernel
theorem dX11_on_15 : decode cX11_on 15 = .ok (.goto 5, 3) := by decide +kernel
theorem dX11_on_18 : decode cX11_on 18 = .ok (.bipush (-2), 2) := by decide +kernel
theorem dX11_on_20 : decode cX11_on 20 = .ok (.ireturn, 1) := by decide +kernel
theorem dX11_newest_0 : decode cX11_newest 0 = .ok (.iload_n 1, 1) := by decide +kernel
theorem dX11_newest_1 : decode cX11_newest 1 = .ok (.invokestatic 162, 3) := by decide +kernel
theorem dX11_newest_4 : decode cX11_newest 4 = .ok (.ifCond .eq 12, 3) := by decide +kernel
theorem dX11_newest_7 : decode cX11_newest 7 = .ok (.iload_n 2, 1) := by decide +kernel
theorem dX11_newest_8 : decode cX11_newest 8 = .ok (.ifCond .lt 8, 3) := by decide +kernel
theorem dX11_newest_11 : decode cX11_newest 11 = .ok (.iload_n 2, 1) := by decide +kernel
theorem dX11_newest_12 : decode cX11_newest 12 = .ok (.iconst 2, 1) := by decide +kernel
theorem dX11_newest_13 : decode cX11_newest 13 = .ok (.if_icmp .le 6, 3) := by decide +kernel
theorem dX11_newest_16 : decode cX11_newest 16 = .ok (.bipush (-2), 2) := by decide +kernel
theorem dX11_newest_18 : decode cX11_newest 18 = .ok (.ireturn, 1) := by decide +kernel
theorem dX11_newest_19 : decode cX11_newest 19 = .ok (.aload_n 0, 1) := by decide +kernel
theorem dX11_newest_20 : decode cX11_newest 20 = .ok (.getfield 37, 3) := by decide +kernel
theorem dX11_newest_23 : decode cX11_newest 23 = .ok (.iload_n 1, 1) := by decide +kernel
theorem dX11_newest_24 : decode cX11_newest 24 = .ok (.invokevirtual 201, 3) := by decide +kernel
theorem dX11_newest_27 : decode cX11_newest 27 = .ok (.istore_n 3, 1) := by decide +kernel
theorem dX11_newest_28 : decode cX11_newest 28 = .ok (.iload_n 3, 1) := by decide +kernel
theorem dX11_newest_29 : decode cX11_newest 29 = .ok (.iconst (-1), 1) := by decide +kernel
theorem dX11_newest_30 : decode cX11_newest 30 = .ok (.if_icmp .ne 15, 3) := by decide +kernel
theorem dX11_newest_33 : decode cX11_newest 33 = .ok (.iload_n 2, 1) := by decide +kernel
theorem dX11_newest_34 : decode cX11_newest 34 = .ok (.iconst 2, 1) := by decide +kernel
theorem dX11_newest_35 : decode cX11_newest 35 = .ok (.if_icmp .ne 8, 3) := by decide +kernel
theorem dX11_newest_38 : decode cX11_newest 38 = .ok (.bipush (-100), 2) := by decide +kernel
theorem dX11_newest_40 : decode cX11_newest 40 = .ok (.goto 4, 3) := by decide +kernel
theorem dX11_newest_43 : decode cX11_newest 43 = .ok (.iconst (-1), 1) := by decide +kernel
theorem dX11_newest_44 : decode cX11_newest 44 = .ok (.ireturn, 1) := by decide +kernel
theorem dX11_newest_45 : decode cX11_newest 45 = .ok (.iload_n 2, 1) := by decide +kernel
theorem dX11_newest_46 : decode cX11_newest 46 = .ok (.ifCond .ne 5, 3) := by decide +kernel
theorem dX11_newest_49 : decode cX11_newest 49 = .ok (.iload_n 3, 1) := by decide +kernel
theorem dX11_newest_50 : decode cX11_newest 50 = .ok (.ireturn, 1) := by decide +kernel
theorem dX11_newest_51 : decode cX11_newest 51 = .ok (.iload_n 2, 1) := by decide +kernel
theorem dX11_newest_52 : decode cX11_newest 52 = .ok (.iconst 1, 1) := by decide +kernel
theorem dX11_newest_53 : decode cX11_newest 53 = .ok (.if_icmp .ne 20, 3) := by decide +kernel
theorem dX11_newest_56 : decode cX11_newest 56 = .ok (.aload_n 0, 1) := by decide +kernel
theorem dX11_newest_57 : decode cX11_newest 57 = .ok (.getfield 37, 3) := by decide +kernel
theorem dX11_newest_60 : decode cX11_newest 60 = .ok (.getfield 118, 3) := by decide +kernel
theorem dX11_newest_63 : decode cX11_newest 63 = .ok (.iload_n 3, 1) := by decide +kernel
theorem dX11_newest_64 : decode cX11_newest 64 = .ok (.aaload, 1) := by decide +kernel
theorem dX11_newest_65 : decode cX11_newest 65 = .ok (.getfield 165, 3) := by decide +kernel
theorem dX11_newest_68 : decode cX11_newest 68 = .ok (.iload_n 1, 1) := by decide +kernel
theorem dX11_newest_69 : decode cX11_newest 69 = .ok (.iaload, 1) := by decide +kernel
theorem dX11_newest_70 : decode cX11_newest 70 = .ok (.goto 17, 3) := by decide +kernel
theorem dX11_newest_73 : decode cX11_newest 73 = .ok (.aload_n 0, 1) := by decide +kernel
theorem dX11_newest_74 : decode cX11_newest 74 = .ok (.getfield 37, 3) := by decide +kernel
theorem dX11_newest_77 : decode cX11_newest 77 = .ok (.getfield 118, 3) := by decide +kernel
theorem dX11_newest_80 : decode cX11_newest 80 = .ok (.iload_n 3, 1) := by decide +kernel
theorem dX11_newest_81 : decode cX11_newest 81 = .ok (.aaload, 1) := by decide +kernel
theorem dX11_newest_82 : decode cX11_newest 82 = .ok (.getfield 169, 3) := by decide +kernel
theorem dX11_newest_85 : decode cX11_newest 85 = .ok (.iload_n 1, 1) := by decide +kernel
theorem dX11_newest_86 : decode cX11_newest 86 = .ok (.iaload, 1) := by decide +kernel
theorem dX11_newest_87 : decode cX11_newest 87 = .ok (.ireturn, 1) := by decide +kernel
theorem dX11_all_0 : decode cX11_all 0 = .ok (.iload_n 1, 1) := by decide +kernel
theorem dX11_all_1 : decode cX11_all 1 = .ok (.ifCond .lt 9, 3) := by decide +kernel
theorem dX11_all_4 : decode cX11_all 4 = .ok (.iload_n 1, 1) := by decide +kernel
theorem dX11_all_5 : decode cX11_all 5 = .ok (.bipush 8, 2) := by decide +kernel
theorem dX11_all_7 : decode cX11_all 7 = .ok (.if_icmp .le 6, 3) := by decide +kernel
theorem dX11_all_10 : decode cX11_all 10 = .ok (.bipush (-2), 2) := by decide +kernel
theorem dX11_all_12 : decode cX11_all 12 = .ok (.ireturn, 1) := by decide +kernel
theorem dX11_all_13 : decode cX11_all 13 = .ok (.iload_n 1, 1) := by decide +kernel
theorem dX11_all_14 : decode cX11_all 14 = .ok (.ifCond .ne 11, 3) := by decide +kernel
theorem dX11_all_17 : decode cX11_all 17 = .ok (.aload_n 0, 1) := by decide +kernel
theorem dX11_all_18 : decode cX11_all 18 = .ok (.getfield 37, 3) := by decide +kernel
theorem dX11_all_21 : decode cX11_all 21 = .ok (.invokevirtual 204, 3) := by decide +kernel
theorem dX11_all_24 : decode cX11_all 24 = .ok (.ireturn, 1) := by decide +kernel
theorem dX11_all_25 : decode cX11_all 25 = .ok (.iload_n 1, 1) := by decide +kernel
theorem dX11_all_26 : decode cX11_all 26 = .ok (.bipush 7, 2) := by decide +kernel
theorem dX11_all_28 : decode cX11_all 28 = .ok (.if_icmp .ne 11, 3) := by decide +kernel
theorem dX11_all_31 : decode cX11_all 31 = .ok (.aload_n 0, 1) := by decide +kernel
theorem dX11_all_32 : decode cX11_all 32 = .ok (.getfield 37, 3) := by decide +kernel
theorem dX11_all_35 : decode cX11_all 35 = .ok (.invokevirtual 207, 3) := by decide +kernel
theorem dX11_all_38 : decode cX11_all 38 = .ok (.ireturn, 1) := by decide +kernel
theorem dX11_all_39 : decode cX11_all 39 = .ok (.iload_n 1, 1) := by decide +kernel
theorem dX11_all_40 : decode cX11_all 40 = .ok (.bipush 8, 2) := by decide +kernel
theorem dX11_all_42 : decode cX11_all 42 = .ok (.if_icmp .ne 24, 3) := by decide +kernel
theorem dX11_all_45 : decode cX11_all 45 = .ok (.aload_n 0, 1) := by decide +kernel
theorem dX11_all_46 : decode cX11_all 46 = .ok (.aload_n 0, 1) := by decide +kernel
theorem dX11_all_47 : decode cX11_all 47 = .ok (.getfield 37, 3) := by decide +kernel
theorem dX11_all_50 : decode cX11_all 50 = .ok (.aload_n 0, 1) := by decide +kernel
theorem dX11_all_51 : decode cX11_all 51 = .ok (.getfield 37, 3) := by decide +kernel
theorem dX11_all_54 : decode cX11_all 54 = .ok (.invokevirtual 210, 3) := by decide +kernel
theorem dX11_all_57 : decode cX11_all 57 = .ok (.invokevirtual 213, 3) := by decide +kernel
theorem dX11_all_60 : decode cX11_all 60 = .ok (.invokevirtual 216, 3) := by decide +kernel
theorem dX11_all_63 : decode cX11_all 63 = .ok (.goto 11, 3) := by decide +kernel
theorem dX11_all_66 : decode cX11_all 66 = .ok (.aload_n 0, 1) := by decide +kernel
theorem dX11_all_67 : decode cX11_all 67 = .ok (.getfield 37, 3) := by decide +kernel
theorem dX11_all_70 : decode cX11_all 70 = .ok (.iload_n 1, 1) := by decide +kernel
theorem dX11_all_71 : decode cX11_all 71 = .ok (.invokevirtual 219, 3) := by decide +kernel
theorem dX11_all_74 : decode cX11_all 74 = .ok (.ireturn, 1) := by decide +kernel
theorem dX11_best_0 : decode cX11_best 0 = .ok (.iload_n 1, 1) := by decide +kernel
theorem dX11_best_1 : decode cX11_best 1 = .ok (.invokestatic 222, 3) := by decide +kernel
theorem dX11_best_4 : decode cX11_best 4 = .ok (.ifCond .eq 12, 3) := by decide +kernel
theorem dX11_best_7 : decode cX11_best 7 = .ok (.iload_n 2, 1) := by decide +kernel
theorem dX11_best_8 : decode cX11_best 8 = .ok (.ifCond .lt 8, 3) := by decide +kernel
theorem dX11_best_11 : decode cX11_best 11 = .ok (.iload_n 2, 1) := by decide +kernel
theorem dX11_best_12 : decode cX11_best 12 = .ok (.iconst 1, 1) := by decide +kernel
theorem dX11_best_13 : decode cX11_best 13 = .ok (.if_icmp .le 6, 3) := by decide +kernel
theorem dX11_best_16 : decode cX11_best 16 = .ok (.bipush (-2), 2) := by decide +kernel
theorem dX11_best_18 : decode cX11_best 18 = .ok (.ireturn, 1) := by decide +kernel
theorem dX11_best_19 : decode cX11_best 19 = .ok (.iconst (-1), 1) := by decide +kernel
theorem dX11_best_20 : decode cX11_best 20 = .ok (.istore_n 3, 1) := by decide +kernel
theorem dX11_best_21 : decode cX11_best 21 = .ok (.aload_n 0, 1) := by decide +kernel
theorem dX11_best_22 : decode cX11_best 22 = .ok (.getfield 37, 3) := by decide +kernel
theorem dX11_best_25 : decode cX11_best 25 = .ok (.iload_n 1, 1) := by decide +kernel
theorem dX11_best_26 : decode cX11_best 26 = .ok (.invokevirtual 219, 3) := by decide +kernel
theorem dX11_best_29 : decode cX11_best 29 = .ok (.invokestatic 151, 3) := by decide +kernel
theorem dX11_best_32 : decode cX11_best 32 = .ok (.istore 4, 2) := by decide +kernel
theorem dX11_best_34 : decode cX11_best 34 = .ok (.iconst 0, 1) := by decide +kernel
theorem dX11_best_35 : decode cX11_best 35 = .ok (.istore 5, 2) := by decide +kernel
theorem dX11_best_37 : decode cX11_best 37 = .ok (.iload 5, 2) := by decide +kernel
theorem dX11_best_39 : decode cX11_best 39 = .ok (.aload_n 0, 1) := by decide +kernel
theorem dX11_best_40 : decode cX11_best 40 = .ok (.getfield 37, 3) := by decide +kernel
theorem dX11_best_43 : decode cX11_best 43 = .ok (.getfield 225, 3) := by decide +kernel
theorem dX11_best_46 : decode cX11_best 46 = .ok (.if_icmp .ge 61, 3) := by decide +kernel
theorem dX11_best_49 : decode cX11_best 49 = .ok (.iconst 0, 1) := by decide +kernel
theorem dX11_best_50 : decode cX11_best 50 = .ok (.istore 6, 2) := by decide +kernel
theorem dX11_best_52 : decode cX11_best 52 = .ok (.iload 6, 2) := by decide +kernel
theorem dX11_best_54 : decode cX11_best 54 = .ok (.aload_n 0, 1) := by decide +kernel
theorem dX11_best_55 : decode cX11_best 55 = .ok (.getfield 37, 3) := by decide +kernel
theorem dX11_best_58 : decode cX11_best 58 = .ok (.getfield 225, 3) := by decide +kernel
theorem dX11_best_61 : decode cX11_best 61 = .ok (.if_icmp .ge 40, 3) := by decide +kernel
theorem dX11_best_64 : decode cX11_best 64 = .ok (.aload_n 0, 1) := by decide +kernel
theorem dX11_best_65 : decode cX11_best 65 = .ok (.iload 5, 2) := by decide +kernel
theorem dX11_best_67 : decode cX11_best 67 = .ok (.iload 6, 2) := by decide +kernel
theorem dX11_best_69 : decode cX11_best 69 = .ok (.iload_n 1, 1) := by decide +kernel
theorem dX11_best_70 : decode cX11_best 70 = .ok (.invokevirtual 226, 3) := by decide +kernel
theorem dX11_best_73 : decode cX11_best 73 = .ok (.istore 7, 2) := by decide +kernel
theorem dX11_best_75 : decode cX11_best 75 = .ok (.iload 7, 2) := by decide +kernel
theorem dX11_best_77 : decode cX11_best 77 = .ok (.iload 4, 2) := by decide +kernel
theorem dX11_best_79 : decode cX11_best 79 = .ok (.if_icmp .le 16, 3) := by decide +kernel
theorem dX11_best_82 : decode cX11_best 82 = .ok (.iload 7, 2) := by decide +kernel
theorem dX11_best_84 : decode cX11_best 84 = .ok (.istore 4, 2) := by decide +kernel
theorem dX11_best_86 : decode cX11_best 86 = .ok (.bipush 10, 2) := by decide +kernel
theorem dX11_best_88 : decode cX11_best 88 = .ok (.iload 5, 2) := by decide +kernel
theorem dX11_best_90 : decode cX11_best 90 = .ok (.imul, 1) := by decide +kernel
theorem dX11_best_91 : decode cX11_best 91 = .ok (.iload 6, 2) := by decide +kernel
theorem dX11_best_93 : decode cX11_best 93 = .ok (.iadd, 1) := by decide +kernel
theorem dX11_best_94 : decode cX11_best 94 = .ok (.istore_n 3, 1) := by decide +kernel
theorem dX11_best_95 : decode cX11_best 95 = .ok (.iinc 6 1, 3) := by decide +kernel
theorem dX11_best_98 : decode cX11_best 98 = .ok (.goto (-46), 3) := by decide +kernel
theorem dX11_best_101 : decode cX11_best 101 = .ok (.iinc 5 1, 3) := by decide +kernel
theorem dX11_best_104 : decode cX11_best 104 = .ok (.goto (-67), 3) := by decide +kernel
theorem dX11_best_107 : decode cX11_best 107 = .ok (.iload_n 2, 1) := by decide +kernel
theorem dX11_best_108 : decode cX11_best 108 = .ok (.ifCond .ne 7, 3) := by decide +kernel
theorem dX11_best_111 : decode cX11_best 111 = .ok (.iload_n 3, 1) := by decide +kernel
theorem dX11_best_112 : decode cX11_best 112 = .ok (.goto 5, 3) := by decide +kernel
theorem dX11_best_115 : decode cX11_best 115 = .ok (.iload 4, 2) := by decide +kernel
theorem dX11_best_117 : decode cX11_best 117 = .ok (.ireturn, 1) := by decide +kernel
theorem dX11_fewest_0 : decode cX11_fewest 0 = .ok (.iload_n 1, 1) := by decide +kernel
theorem dX11_fewest_1 : decode cX11_fewest 1 = .ok (.invokestatic 222, 3) := by decide +kernel
theorem dX11_fewest_4 : decode cX11_fewest 4 = .ok (.ifCond .ne 6, 3) := by decide +kernel
theorem dX11_fewest_7 : decode cX11_fewest 7 = .ok (.bipush (-2), 2) := by decide +kernel
theorem dX11_fewest_9 : decode cX11_fewest 9 = .ok (.ireturn, 1) := by decide +kernel
theorem dX11_fewest_10 : decode cX11_fewest 10 = .ok (.aload_n 0, 1) := by decide +kernel
theorem dX11_fewest_11 : decode cX11_fewest 11 = .ok (.getfield 37, 3) := by decide +kernel
theorem dX11_fewest_14 : decode cX11_fewest 14 = .ok (.aload_n 0, 1) := by decide +kernel
theorem dX11_fewest_15 : decode cX11_fewest 15 = .ok (.getfield 37, 3) := by decide +kernel
theorem dX11_fewest_18 : decode cX11_fewest 18 = .ok (.invokevirtual 210, 3) := by decide +kernel
theorem dX11_fewest_21 : decode cX11_fewest 21 = .ok (.invokevirtual 213, 3) := by decide +kernel
theorem dX11_fewest_24 : decode cX11_fewest 24 = .ok (.istore_n 2, 1) := by decide +kernel
theorem dX11_fewest_25 : decode cX11_fewest 25 = .ok (.aload_n 0, 1) := by decide +kernel
theorem dX11_fewest_26 : decode cX11_fewest 26 = .ok (.getfield 44, 3) := by decide +kernel
theorem dX11_fewest_29 : decode cX11_fewest 29 = .ok (.aload_n 0, 1) := by decide +kernel
theorem dX11_fewest_30 : decode cX11_fewest 30 = .ok (.getfield 37, 3) := by decide +kernel
theorem dX11_fewest_33 : decode cX11_fewest 33 = .ok (.invokevirtual 230, 3) := by decide +kernel
theorem dX11_fewest_36 : decode cX11_fewest 36 = .ok (.iconst 0, 1) := by decide +kernel
theorem dX11_fewest_37 : decode cX11_fewest 37 = .ok (.istore_n 3, 1) := by decide +kernel
theorem dX11_fewest_38 : decode cX11_fewest 38 = .ok (.iload_n 3, 1) := by decide +kernel
theorem dX11_fewest_39 : decode cX11_fewest 39 = .ok (.iconst 3, 1) := by decide +kernel
theorem dX11_fewest_40 : decode cX11_fewest 40 = .ok (.if_icmp .gt 21, 3) := by decide +kernel
theorem dX11_fewest_43 : decode cX11_fewest 43 = .ok (.aload_n 0, 1) := by decide +kernel
theorem dX11_fewest_44 : decode cX11_fewest 44 = .ok (.iload_n 2, 1) := by decide +kernel
theorem dX11_fewest_45 : decode cX11_fewest 45 = .ok (.iload_n 1, 1) := by decide +kernel
theorem dX11_fewest_46 : decode cX11_fewest 46 = .ok (.iload_n 3, 1) := by decide +kernel
theorem dX11_fewest_47 : decode cX11_fewest 47 = .ok (.invokevirtual 233, 3) := by decide +kernel
theorem dX11_fewest_50 : decode cX11_fewest 50 = .ok (.ifCond .eq 5, 3) := by decide +kernel
theorem dX11_fewest_53 : decode cX11_fewest 53 = .ok (.iload_n 3, 1) := by decide +kernel
theorem dX11_fewest_54 : decode cX11_fewest 54 = .ok (.ireturn, 1) := by decide +kernel
theorem dX11_fewest_55 : decode cX11_fewest 55 = .ok (.iinc 3 1, 3) := by decide +kernel
theorem dX11_fewest_58 : decode cX11_fewest 58 = .ok (.goto (-20), 3) := by decide +kernel
theorem dX11_fewest_61 : decode cX11_fewest 61 = .ok (.iconst (-1), 1) := by decide +kernel
theorem dX11_fewest_62 : decode cX11_fewest 62 = .ok (.ireturn, 1) := by decide +kernel
theorem dX11_worst_0 : decode cX11_worst 0 = .ok (.iload_n 1, 1) := by decide +kernel
theorem dX11_worst_1 : decode cX11_worst 1 = .ok (.ifCond .lt 8, 3) := by decide +kernel
theorem dX11_worst_4 : decode cX11_worst 4 = .ok (.iload_n 1, 1) := by decide +kernel
theorem dX11_worst_5 : decode cX11_worst 5 = .ok (.iconst 1, 1) := by decide +kernel
theorem dX11_worst_6 : decode cX11_worst 6 = .ok (.if_icmp .le 6, 3) := by decide +kernel
theorem dX11_worst_9 : decode cX11_worst 9 = .ok (.bipush (-2), 2) := by decide +kernel
theorem dX11_worst_11 : decode cX11_worst 11 = .ok (.ireturn, 1) := by decide +kernel
theorem dX11_worst_12 : decode cX11_worst 12 = .ok (.aload_n 0, 1) := by decide +kernel
theorem dX11_worst_13 : decode cX11_worst 13 = .ok (.getfield 37, 3) := by decide +kernel
theorem dX11_worst_16 : decode cX11_worst 16 = .ok (.invokevirtual 210, 3) := by decide +kernel
theorem dX11_worst_19 : decode cX11_worst 19 = .ok (.istore_n 2, 1) := by decide +kernel
theorem dX11_worst_20 : decode cX11_worst 20 = .ok (.iconst (-1), 1) := by decide +kernel
theorem dX11_worst_21 : decode cX11_worst 21 = .ok (.istore_n 3, 1) := by decide +kernel
theorem dX11_worst_22 : decode cX11_worst 22 = .ok (.iconst (-1), 1) := by decide +kernel
theorem dX11_worst_23 : decode cX11_worst 23 = .ok (.istore 4, 2) := by decide +kernel
theorem dX11_worst_25 : decode cX11_worst 25 = .ok (.iconst 0, 1) := by decide +kernel
theorem dX11_worst_26 : decode cX11_worst 26 = .ok (.istore 5, 2) := by decide +kernel
theorem dX11_worst_28 : decode cX11_worst 28 = .ok (.iload 5, 2) := by decide +kernel
theorem dX11_worst_30 : decode cX11_worst 30 = .ok (.aload_n 0, 1) := by decide +kernel
theorem dX11_worst_31 : decode cX11_worst 31 = .ok (.getfield 37, 3) := by decide +kernel
theorem dX11_worst_34 : decode cX11_worst 34 = .ok (.getfield 225, 3) := by decide +kernel
theorem dX11_worst_37 : decode cX11_worst 37 = .ok (.if_icmp .ge 56, 3) := by decide +kernel
theorem dX11_worst_40 : decode cX11_worst 40 = .ok (.iload_n 2, 1) := by decide +kernel
theorem dX11_worst_41 : decode cX11_worst 41 = .ok (.iload 5, 2) := by decide +kernel
theorem dX11_worst_43 : decode cX11_worst 43 = .ok (.invokestatic 237, 3) := by decide +kernel
theorem dX11_worst_46 : decode cX11_worst 46 = .ok (.ifCond .eq 41, 3) := by decide +kernel
theorem dX11_worst_49 : decode cX11_worst 49 = .ok (.aload_n 0, 1) := by decide +kernel
theorem dX11_worst_50 : decode cX11_worst 50 = .ok (.aload_n 0, 1) := by decide +kernel
theorem dX11_worst_51 : decode cX11_worst 51 = .ok (.getfield 37, 3) := by decide +kernel
theorem dX11_worst_54 : decode cX11_worst 54 = .ok (.iload_n 2, 1) := by decide +kernel
theorem dX11_worst_55 : decode cX11_worst 55 = .ok (.iload 5, 2) := by decide +kernel
theorem dX11_worst_57 : decode cX11_worst 57 = .ok (.invokestatic 240, 3) := by decide +kernel
theorem dX11_worst_60 : decode cX11_worst 60 = .ok (.invokevirtual 213, 3) := by decide +kernel
theorem dX11_worst_63 : decode cX11_worst 63 = .ok (.invokevirtual 216, 3) := by decide +kernel
theorem dX11_worst_66 : decode cX11_worst 66 = .ok (.istore 6, 2) := by decide +kernel
theorem dX11_worst_68 : decode cX11_worst 68 = .ok (.iload_n 3, 1) := by decide +kernel
theorem dX11_worst_69 : decode cX11_worst 69 = .ok (.iconst (-1), 1) := by decide +kernel
theorem dX11_worst_70 : decode cX11_worst 70 = .ok (.if_icmp .eq 10, 3) := by decide +kernel
theorem dX11_worst_73 : decode cX11_worst 73 = .ok (.iload 6, 2) := by decide +kernel
theorem dX11_worst_75 : decode cX11_worst 75 = .ok (.iload 4, 2) := by decide +kernel
theorem dX11_worst_77 : decode cX11_worst 77 = .ok (.if_icmp .ge 10, 3) := by decide +kernel
theorem dX11_worst_80 : decode cX11_worst 80 = .ok (.iload 5, 2) := by decide +kernel
theorem dX11_worst_82 : decode cX11_worst 82 = .ok (.istore_n 3, 1) := by decide +kernel
theorem dX11_worst_83 : decode cX11_worst 83 = .ok (.iload 6, 2) := by decide +kernel
theorem dX11_worst_85 : decode cX11_worst 85 = .ok (.istore 4, 2) := by decide +kernel
theorem dX11_worst_87 : decode cX11_worst 87 = .ok (.iinc 5 1, 3) := by decide +kernel
theorem dX11_worst_90 : decode cX11_worst 90 = .ok (.goto (-62), 3) := by decide +kernel
theorem dX11_worst_93 : decode cX11_worst 93 = .ok (.iload_n 1, 1) := by decide +kernel
theorem dX11_worst_94 : decode cX11_worst 94 = .ok (.ifCond .ne 7, 3) := by decide +kernel
theorem dX11_worst_97 : decode cX11_worst 97 = .ok (.iload_n 3, 1) := by decide +kernel
theorem dX11_worst_98 : decode cX11_worst 98 = .ok (.goto 5, 3) := by decide +kernel
theorem dX11_worst_101 : decode cX11_worst 101 = .ok (.iload 4, 2) := by decide +kernel
theorem dX11_worst_103 : decode cX11_worst 103 = .ok (.ireturn, 1) := by decide +kernel
theorem dX11_letGo_0 : decode cX11_letGo 0 = .ok (.aload_n 0, 1) := by decide +kernel
theorem dX11_letGo_1 : decode cX11_letGo 1 = .ok (.getfield 37, 3) := by decide +kernel
theorem dX11_letGo_4 : decode cX11_letGo 4 = .ok (.invokevirtual 210, 3) := by decide +kernel
theorem dX11_letGo_7 : decode cX11_letGo 7 = .ok (.istore_n 1, 1) := by decide +kernel
theorem dX11_letGo_8 : decode cX11_letGo 8 = .ok (.aload_n 0, 1) := by decide +kernel
theorem dX11_letGo_9 : decode cX11_letGo 9 = .ok (.getfield 37, 3) := by decide +kernel
theorem dX11_letGo_12 : decode cX11_letGo 12 = .ok (.iload_n 1, 1) := by decide +kernel
theorem dX11_letGo_13 : decode cX11_letGo 13 = .ok (.invokevirtual 213, 3) := by decide +kernel
theorem dX11_letGo_16 : decode cX11_letGo 16 = .ok (.istore_n 2, 1) := by decide +kernel
theorem dX11_letGo_17 : decode cX11_letGo 17 = .ok (.iconst 0, 1) := by decide +kernel
theorem dX11_letGo_18 : decode cX11_letGo 18 = .ok (.istore_n 3, 1) := by decide +kernel
theorem dX11_letGo_19 : decode cX11_letGo 19 = .ok (.iload_n 3, 1) := by decide +kernel
theorem dX11_letGo_20 : decode cX11_letGo 20 = .ok (.aload_n 0, 1) := by decide +kernel
theorem dX11_letGo_21 : decode cX11_letGo 21 = .ok (.getfield 37, 3) := by decide +kernel
theorem dX11_letGo_24 : decode cX11_letGo 24 = .ok (.getfield 225, 3) := by decide +kernel
theorem dX11_letGo_27 : decode cX11_letGo 27 = .ok (.if_icmp .ge 35, 3) := by decide +kernel
theorem dX11_letGo_30 : decode cX11_letGo 30 = .ok (.iload_n 1, 1) := by decide +kernel
theorem dX11_letGo_31 : decode cX11_letGo 31 = .ok (.iload_n 3, 1) := by decide +kernel
theorem dX11_letGo_32 : decode cX11_letGo 32 = .ok (.invokestatic 237, 3) := by decide +kernel
theorem dX11_letGo_35 : decode cX11_letGo 35 = .ok (.ifCond .eq 21, 3) := by decide +kernel
theorem dX11_letGo_38 : decode cX11_letGo 38 = .ok (.aload_n 0, 1) := by decide +kernel
theorem dX11_letGo_39 : decode cX11_letGo 39 = .ok (.getfield 37, 3) := by decide +kernel
theorem dX11_letGo_42 : decode cX11_letGo 42 = .ok (.iload_n 1, 1) := by decide +kernel
theorem dX11_letGo_43 : decode cX11_letGo 43 = .ok (.iload_n 3, 1) := by decide +kernel
theorem dX11_letGo_44 : decode cX11_letGo 44 = .ok (.invokestatic 240, 3) := by decide +kernel
theorem dX11_letGo_47 : decode cX11_letGo 47 = .ok (.invokevirtual 213, 3) := by decide +kernel
theorem dX11_letGo_50 : decode cX11_letGo 50 = .ok (.iload_n 2, 1) := by decide +kernel
theorem dX11_letGo_51 : decode cX11_letGo 51 = .ok (.if_icmp .ne 5, 3) := by decide +kernel
theorem dX11_letGo_54 : decode cX11_letGo 54 = .ok (.iload_n 3, 1) := by decide +kernel
theorem dX11_letGo_55 : decode cX11_letGo 55 = .ok (.ireturn, 1) := by decide +kernel
theorem dX11_letGo_56 : decode cX11_letGo 56 = .ok (.iinc 3 1, 3) := by decide +kernel
theorem dX11_letGo_59 : decode cX11_letGo 59 = .ok (.goto (-40), 3) := by decide +kernel
theorem dX11_letGo_62 : decode cX11_letGo 62 = .ok (.iconst (-1), 1) := by decide +kernel
theorem dX11_letGo_63 : decode cX11_letGo 63 = .ok (.ireturn, 1) := by decide +kernel
theorem dX11_again_0 : decode cX11_again 0 = .ok (.aload_n 0, 1) := by decide +kernel
theorem dX11_again_1 : decode cX11_again 1 = .ok (.iload_n 1, 1) := by decide +kernel
theorem dX11_again_2 : decode cX11_again 2 = .ok (.iload_n 2, 1) := by decide +kernel
theorem dX11_again_3 : decode cX11_again 3 = .ok (.invokevirtual 187, 3) := by decide +kernel
theorem dX11_again_6 : decode cX11_again 6 = .ok (.ifCond .ne 6, 3) := by decide +kernel
theorem dX11_again_9 : decode cX11_again 9 = .ok (.bipush (-2), 2) := by decide +kernel
theorem dX11_again_11 : decode cX11_again 11 = .ok (.ireturn, 1) := by decide +kernel
theorem dX11_again_12 : decode cX11_again 12 = .ok (.aload_n 0, 1) := by decide +kernel
theorem dX11_again_13 : decode cX11_again 13 = .ok (.getfield 37, 3) := by decide +kernel
theorem dX11_again_16 : decode cX11_again 16 = .ok (.iload_n 1, 1) := by decide +kernel
theorem dX11_again_17 : decode cX11_again 17 = .ok (.iload_n 2, 1) := by decide +kernel
theorem dX11_again_18 : decode cX11_again 18 = .ok (.invokevirtual 191, 3) := by decide +kernel
theorem dX11_again_21 : decode cX11_again 21 = .ok (.ifCond .ne 5, 3) := by decide +kernel
theorem dX11_again_24 : decode cX11_again 24 = .ok (.iconst 0, 1) := by decide +kernel
theorem dX11_again_25 : decode cX11_again 25 = .ok (.ireturn, 1) := by decide +kernel
theorem dX11_again_26 : decode cX11_again 26 = .ok (.aload_n 0, 1) := by decide +kernel
theorem dX11_again_27 : decode cX11_again 27 = .ok (.getfield 44, 3) := by decide +kernel
theorem dX11_again_30 : decode cX11_again 30 = .ok (.aload_n 0, 1) := by decide +kernel
theorem dX11_again_31 : decode cX11_again 31 = .ok (.getfield 37, 3) := by decide +kernel
theorem dX11_again_34 : decode cX11_again 34 = .ok (.invokevirtual 230, 3) := by decide +kernel
theorem dX11_again_37 : decode cX11_again 37 = .ok (.aload_n 0, 1) := by decide +kernel
theorem dX11_again_38 : decode cX11_again 38 = .ok (.getfield 44, 3) := by decide +kernel
theorem dX11_again_41 : decode cX11_again 41 = .ok (.iload_n 1, 1) := by decide +kernel
theorem dX11_again_42 : decode cX11_again 42 = .ok (.iload_n 2, 1) := by decide +kernel
theorem dX11_again_43 : decode cX11_again 43 = .ok (.aload_n 0, 1) := by decide +kernel
theorem dX11_again_44 : decode cX11_again 44 = .ok (.invokevirtual 156, 3) := by decide +kernel
theorem dX11_again_47 : decode cX11_again 47 = .ok (.invokevirtual 194, 3) := by decide +kernel
theorem dX11_again_50 : decode cX11_again 50 = .ok (.pop, 1) := by decide +kernel
theorem dX11_again_51 : decode cX11_again 51 = .ok (.aload_n 0, 1) := by decide +kernel
theorem dX11_again_52 : decode cX11_again 52 = .ok (.getfield 44, 3) := by decide +kernel
theorem dX11_again_55 : decode cX11_again 55 = .ok (.getfield 118, 3) := by decide +kernel
theorem dX11_again_58 : decode cX11_again 58 = .ok (.iload_n 2, 1) := by decide +kernel
theorem dX11_again_59 : decode cX11_again 59 = .ok (.aaload, 1) := by decide +kernel
theorem dX11_again_60 : decode cX11_again 60 = .ok (.getfield 148, 3) := by decide +kernel
theorem dX11_again_63 : decode cX11_again 63 = .ok (.aload_n 0, 1) := by decide +kernel
theorem dX11_again_64 : decode cX11_again 64 = .ok (.getfield 37, 3) := by decide +kernel
theorem dX11_again_67 : decode cX11_again 67 = .ok (.getfield 118, 3) := by decide +kernel
theorem dX11_again_70 : decode cX11_again 70 = .ok (.iload_n 2, 1) := by decide +kernel
theorem dX11_again_71 : decode cX11_again 71 = .ok (.aaload, 1) := by decide +kernel
theorem dX11_again_72 : decode cX11_again 72 = .ok (.getfield 148, 3) := by decide +kernel
theorem dX11_again_75 : decode cX11_again 75 = .ok (.iconst (-1), 1) := by decide +kernel
theorem dX11_again_76 : decode cX11_again 76 = .ok (.ixor, 1) := by decide +kernel
theorem dX11_again_77 : decode cX11_again 77 = .ok (.iand, 1) := by decide +kernel
theorem dX11_again_78 : decode cX11_again 78 = .ok (.ireturn, 1) := by decide +kernel
theorem dX11_goes_0 : decode cX11_goes 0 = .ok (.aload_n 0, 1) := by decide +kernel
theorem dX11_goes_1 : decode cX11_goes 1 = .ok (.getfield 37, 3) := by decide +kernel
theorem dX11_goes_4 : decode cX11_goes 4 = .ok (.iload_n 1, 1) := by decide +kernel
theorem dX11_goes_5 : decode cX11_goes 5 = .ok (.invokevirtual 112, 3) := by decide +kernel
theorem dX11_goes_8 : decode cX11_goes 8 = .ok (.ifCond .ne 6, 3) := by decide +kernel
theorem dX11_goes_11 : decode cX11_goes 11 = .ok (.bipush (-2), 2) := by decide +kernel
theorem dX11_goes_13 : decode cX11_goes 13 = .ok (.ireturn, 1) := by decide +kernel
theorem dX11_goes_14 : decode cX11_goes 14 = .ok (.aload_n 0, 1) := by decide +kernel
theorem dX11_goes_15 : decode cX11_goes 15 = .ok (.getfield 37, 3) := by decide +kernel
theorem dX11_goes_18 : decode cX11_goes 18 = .ok (.getfield 115, 3) := by decide +kernel
theorem dX11_goes_21 : decode cX11_goes 21 = .ok (.istore_n 2, 1) := by decide +kernel
theorem dX11_goes_22 : decode cX11_goes 22 = .ok (.iload_n 2, 1) := by decide +kernel
theorem dX11_goes_23 : decode cX11_goes 23 = .ok (.sipush 999, 3) := by decide +kernel
theorem dX11_goes_26 : decode cX11_goes 26 = .ok (.if_icmp .gt 27, 3) := by decide +kernel
theorem dX11_goes_29 : decode cX11_goes 29 = .ok (.aload_n 0, 1) := by decide +kernel
theorem dX11_goes_30 : decode cX11_goes 30 = .ok (.getfield 37, 3) := by decide +kernel
theorem dX11_goes_33 : decode cX11_goes 33 = .ok (.getfield 118, 3) := by decide +kernel
theorem dX11_goes_36 : decode cX11_goes 36 = .ok (.iload_n 1, 1) := by decide +kernel
theorem dX11_goes_37 : decode cX11_goes 37 = .ok (.aaload, 1) := by decide +kernel
theorem dX11_goes_38 : decode cX11_goes 38 = .ok (.iload_n 2, 1) := by decide +kernel
theorem dX11_goes_39 : decode cX11_goes 39 = .ok (.invokevirtual 138, 3) := by decide +kernel
theorem dX11_goes_42 : decode cX11_goes 42 = .ok (.ifCond .ne 5, 3) := by decide +kernel
theorem dX11_goes_45 : decode cX11_goes 45 = .ok (.iload_n 2, 1) := by decide +kernel
theorem dX11_goes_46 : decode cX11_goes 46 = .ok (.ireturn, 1) := by decide +kernel
theorem dX11_goes_47 : decode cX11_goes 47 = .ok (.iinc 2 1, 3) := by decide +kernel
theorem dX11_goes_50 : decode cX11_goes 50 = .ok (.goto (-28), 3) := by decide +kernel
theorem dX11_goes_53 : decode cX11_goes 53 = .ok (.iconst (-1), 1) := by decide +kernel
theorem dX11_goes_54 : decode cX11_goes 54 = .ok (.ireturn, 1) := by decide +kernel
theorem dX11_plan_0 : decode cX11_plan 0 = .ok (.iload_n 1, 1) := by decide +kernel
theorem dX11_plan_1 : decode cX11_plan 1 = .ok (.invokestatic 243, 3) := by decide +kernel
theorem dX11_plan_4 : decode cX11_plan 4 = .ok (.ifCond .eq 12, 3) := by decide +kernel
theorem dX11_plan_7 : decode cX11_plan 7 = .ok (.iload_n 2, 1) := by decide +kernel
theorem dX11_plan_8 : decode cX11_plan 8 = .ok (.ifCond .lt 8, 3) := by decide +kernel
theorem dX11_plan_11 : decode cX11_plan 11 = .ok (.iload_n 2, 1) := by decide +kernel
theorem dX11_plan_12 : decode cX11_plan 12 = .ok (.iconst 2, 1) := by decide +kernel
theorem dX11_plan_13 : decode cX11_plan 13 = .ok (.if_icmp .le 6, 3) := by decide +kernel
theorem dX11_plan_16 : decode cX11_plan 16 = .ok (.bipush (-2), 2) := by decide +kernel
theorem dX11_plan_18 : decode cX11_plan 18 = .ok (.ireturn, 1) := by decide +kernel
theorem dX11_plan_19 : decode cX11_plan 19 = .ok (.aload_n 0, 1) := by decide +kernel
theorem dX11_plan_20 : decode cX11_plan 20 = .ok (.getfield 23, 3) := by decide +kernel
theorem dX11_plan_23 : decode cX11_plan 23 = .ok (.iload_n 1, 1) := by decide +kernel
theorem dX11_plan_24 : decode cX11_plan 24 = .ok (.aaload, 1) := by decide +kernel
theorem dX11_plan_25 : decode cX11_plan 25 = .ok (.astore_n 3, 1) := by decide +kernel
theorem dX11_plan_26 : decode cX11_plan 26 = .ok (.aload_n 3, 1) := by decide +kernel
theorem dX11_plan_27 : decode cX11_plan 27 = .ok (.invokevirtual 246, 3) := by decide +kernel
theorem dX11_plan_30 : decode cX11_plan 30 = .ok (.ifCond .eq 6, 3) := by decide +kernel
theorem dX11_plan_33 : decode cX11_plan 33 = .ok (.bipush (-11), 2) := by decide +kernel
theorem dX11_plan_35 : decode cX11_plan 35 = .ok (.ireturn, 1) := by decide +kernel
theorem dX11_plan_36 : decode cX11_plan 36 = .ok (.aload_n 3, 1) := by decide +kernel
theorem dX11_plan_37 : decode cX11_plan 37 = .ok (.getfield 250, 3) := by decide +kernel
theorem dX11_plan_40 : decode cX11_plan 40 = .ok (.iconst 2, 1) := by decide +kernel
theorem dX11_plan_41 : decode cX11_plan 41 = .ok (.irem, 1) := by decide +kernel
theorem dX11_plan_42 : decode cX11_plan 42 = .ok (.ifCond .ne 11, 3) := by decide +kernel
theorem dX11_plan_45 : decode cX11_plan 45 = .ok (.aload_n 0, 1) := by decide +kernel
theorem dX11_plan_46 : decode cX11_plan 46 = .ok (.aload_n 3, 1) := by decide +kernel
theorem dX11_plan_47 : decode cX11_plan 47 = .ok (.invokevirtual 251, 3) := by decide +kernel
theorem dX11_plan_50 : decode cX11_plan 50 = .ok (.ifCond .ne 6, 3) := by decide +kernel
theorem dX11_plan_53 : decode cX11_plan 53 = .ok (.bipush (-2), 2) := by decide +kernel
theorem dX11_plan_55 : decode cX11_plan 55 = .ok (.ireturn, 1) := by decide +kernel
theorem dX11_plan_56 : decode cX11_plan 56 = .ok (.aload_n 0, 1) := by decide +kernel
theorem dX11_plan_57 : decode cX11_plan 57 = .ok (.getfield 44, 3) := by decide +kernel
theorem dX11_plan_60 : decode cX11_plan 60 = .ok (.aload_n 0, 1) := by decide +kernel
theorem dX11_plan_61 : decode cX11_plan 61 = .ok (.getfield 37, 3) := by decide +kernel
theorem dX11_plan_64 : decode cX11_plan 64 = .ok (.invokevirtual 230, 3) := by decide +kernel
theorem dX11_plan_67 : decode cX11_plan 67 = .ok (.aload_n 0, 1) := by decide +kernel
theorem dX11_plan_68 : decode cX11_plan 68 = .ok (.aload_n 3, 1) := by decide +kernel
theorem dX11_plan_69 : decode cX11_plan 69 = .ok (.invokevirtual 255, 3) := by decide +kernel
theorem dX11_plan_72 : decode cX11_plan 72 = .ok (.istore 4, 2) := by decide +kernel
theorem dX11_plan_74 : decode cX11_plan 74 = .ok (.iload_n 2, 1) := by decide +kernel
theorem dX11_plan_75 : decode cX11_plan 75 = .ok (.ifCond .ne 6, 3) := by decide +kernel
theorem dX11_plan_78 : decode cX11_plan 78 = .ok (.iload 4, 2) := by decide +kernel
theorem dX11_plan_80 : decode cX11_plan 80 = .ok (.ireturn, 1) := by decide +kernel
theorem dX11_plan_81 : decode cX11_plan 81 = .ok (.iload_n 2, 1) := by decide +kernel
theorem dX11_plan_82 : decode cX11_plan 82 = .ok (.iconst 1, 1) := by decide +kernel
theorem dX11_plan_83 : decode cX11_plan 83 = .ok (.if_icmp .ne 14, 3) := by decide +kernel
theorem dX11_plan_86 : decode cX11_plan 86 = .ok (.aload_n 0, 1) := by decide +kernel
theorem dX11_plan_87 : decode cX11_plan 87 = .ok (.getfield 44, 3) := by decide +kernel
theorem dX11_plan_90 : decode cX11_plan 90 = .ok (.iconst 2, 1) := by decide +kernel
theorem dX11_plan_91 : decode cX11_plan 91 = .ok (.invokevirtual 219, 3) := by decide +kernel
theorem dX11_plan_94 : decode cX11_plan 94 = .ok (.goto 10, 3) := by decide +kernel
theorem dX11_plan_97 : decode cX11_plan 97 = .ok (.aload_n 0, 1) := by decide +kernel
theorem dX11_plan_98 : decode cX11_plan 98 = .ok (.getfield 44, 3) := by decide +kernel
theorem dX11_plan_101 : decode cX11_plan 101 = .ok (.invokevirtual 204, 3) := by decide +kernel
theorem dX11_plan_104 : decode cX11_plan 104 = .ok (.ireturn, 1) := by decide +kernel
theorem dX11_tells_0 : decode cX11_tells 0 = .ok (.iload_n 1, 1) := by decide +kernel
theorem dX11_tells_1 : decode cX11_tells 1 = .ok (.invokestatic 243, 3) := by decide +kernel
theorem dX11_tells_4 : decode cX11_tells 4 = .ok (.ifCond .eq 25, 3) := by decide +kernel
theorem dX11_tells_7 : decode cX11_tells 7 = .ok (.aload_n 0, 1) := by decide +kernel
theorem dX11_tells_8 : decode cX11_tells 8 = .ok (.getfield 37, 3) := by decide +kernel
theorem dX11_tells_11 : decode cX11_tells 11 = .ok (.iload_n 2, 1) := by decide +kernel
theorem dX11_tells_12 : decode cX11_tells 12 = .ok (.invokevirtual 112, 3) := by decide +kernel
theorem dX11_tells_15 : decode cX11_tells 15 = .ok (.ifCond .eq 14, 3) := by decide +kernel
theorem dX11_tells_18 : decode cX11_tells 18 = .ok (.iload 4, 2) := by decide +kernel
theorem dX11_tells_20 : decode cX11_tells 20 = .ok (.ifCond .lt 9, 3) := by decide +kernel
theorem dX11_tells_23 : decode cX11_tells 23 = .ok (.iload 4, 2) := by decide +kernel
theorem dX11_tells_25 : decode cX11_tells 25 = .ok (.iconst 4, 1) := by decide +kernel
theorem dX11_tells_26 : decode cX11_tells 26 = .ok (.if_icmp .le 6, 3) := by decide +kernel
theorem dX11_tells_29 : decode cX11_tells 29 = .ok (.bipush (-2), 2) := by decide +kernel
theorem dX11_tells_31 : decode cX11_tells 31 = .ok (.ireturn, 1) := by decide +kernel
theorem dX11_tells_32 : decode cX11_tells 32 = .ok (.iload 4, 2) := by decide +kernel
theorem dX11_tells_34 : decode cX11_tells 34 = .ok (.iconst 1, 1) := by decide +kernel
theorem dX11_tells_35 : decode cX11_tells 35 = .ok (.if_icmp .eq 15, 3) := by decide +kernel
theorem dX11_tells_38 : decode cX11_tells 38 = .ok (.iload 4, 2) := by decide +kernel
theorem dX11_tells_40 : decode cX11_tells 40 = .ok (.iconst 2, 1) := by decide +kernel
theorem dX11_tells_41 : decode cX11_tells 41 = .ok (.if_icmp .eq 9, 3) := by decide +kernel
theorem dX11_tells_44 : decode cX11_tells 44 = .ok (.iload 4, 2) := by decide +kernel
theorem dX11_tells_46 : decode cX11_tells 46 = .ok (.iconst 4, 1) := by decide +kernel
theorem dX11_tells_47 : decode cX11_tells 47 = .ok (.if_icmp .ne 7, 3) := by decide +kernel
theorem dX11_tells_50 : decode cX11_tells 50 = .ok (.iconst 1, 1) := by decide +kernel
theorem dX11_tells_51 : decode cX11_tells 51 = .ok (.goto 4, 3) := by decide +kernel
theorem dX11_tells_54 : decode cX11_tells 54 = .ok (.iconst 0, 1) := by decide +kernel
theorem dX11_tells_55 : decode cX11_tells 55 = .ok (.istore 5, 2) := by decide +kernel
theorem dX11_tells_57 : decode cX11_tells 57 = .ok (.iload 5, 2) := by decide +kernel
theorem dX11_tells_59 : decode cX11_tells 59 = .ok (.ifCond .eq 15, 3) := by decide +kernel
theorem dX11_tells_62 : decode cX11_tells 62 = .ok (.aload_n 0, 1) := by decide +kernel
theorem dX11_tells_63 : decode cX11_tells 63 = .ok (.iload_n 3, 1) := by decide +kernel
theorem dX11_tells_64 : decode cX11_tells 64 = .ok (.iload_n 2, 1) := by decide +kernel
theorem dX11_tells_65 : decode cX11_tells 65 = .ok (.invokevirtual 187, 3) := by decide +kernel
theorem dX11_tells_68 : decode cX11_tells 68 = .ok (.ifCond .ne 6, 3) := by decide +kernel
theorem dX11_tells_71 : decode cX11_tells 71 = .ok (.bipush (-2), 2) := by decide +kernel
theorem dX11_tells_73 : decode cX11_tells 73 = .ok (.ireturn, 1) := by decide +kernel
theorem dX11_tells_74 : decode cX11_tells 74 = .ok (.aload_n 0, 1) := by decide +kernel
theorem dX11_tells_75 : decode cX11_tells 75 = .ok (.getfield 23, 3) := by decide +kernel
theorem dX11_tells_78 : decode cX11_tells 78 = .ok (.iload_n 1, 1) := by decide +kernel
theorem dX11_tells_79 : decode cX11_tells 79 = .ok (.aaload, 1) := by decide +kernel
theorem dX11_tells_80 : decode cX11_tells 80 = .ok (.astore 6, 2) := by decide +kernel
theorem dX11_tells_82 : decode cX11_tells 82 = .ok (.aload 6, 2) := by decide +kernel
theorem dX11_tells_84 : decode cX11_tells 84 = .ok (.invokevirtual 246, 3) := by decide +kernel
theorem dX11_tells_87 : decode cX11_tells 87 = .ok (.ifCond .eq 6, 3) := by decide +kernel
theorem dX11_tells_90 : decode cX11_tells 90 = .ok (.bipush (-11), 2) := by decide +kernel
theorem dX11_tells_92 : decode cX11_tells 92 = .ok (.ireturn, 1) := by decide +kernel
theorem dX11_tells_93 : decode cX11_tells 93 = .ok (.aload 6, 2) := by decide +kernel
theorem dX11_tells_95 : decode cX11_tells 95 = .ok (.getfield 250, 3) := by decide +kernel
theorem dX11_tells_98 : decode cX11_tells 98 = .ok (.bipush 8, 2) := by decide +kernel
theorem dX11_tells_100 : decode cX11_tells 100 = .ok (.if_icmp .eq 6, 3) := by decide +kernel
theorem dX11_tells_103 : decode cX11_tells 103 = .ok (.bipush (-2), 2) := by decide +kernel
theorem dX11_tells_105 : decode cX11_tells 105 = .ok (.ireturn, 1) := by decide +kernel
theorem dX11_tells_106 : decode cX11_tells 106 = .ok (.iload 4, 2) := by decide +kernel
theorem dX11_tells_108 : decode cX11_tells 108 = .ok (.tableswitch 73 0 3 #[32, 47, 56, 65], 32) := by decide +kernel
theorem dX11_tells_140 : decode cX11_tells 140 = .ok (.aload_n 0, 1) := by decide +kernel
theorem dX11_tells_141 : decode cX11_tells 141 = .ok (.getfield 37, 3) := by decide +kernel
theorem dX11_tells_144 : decode cX11_tells 144 = .ok (.getfield 118, 3) := by decide +kernel
theorem dX11_tells_147 : decode cX11_tells 147 = .ok (.iload_n 2, 1) := by decide +kernel
theorem dX11_tells_148 : decode cX11_tells 148 = .ok (.aaload, 1) := by decide +kernel
theorem dX11_tells_149 : decode cX11_tells 149 = .ok (.aload 6, 2) := by decide +kernel
theorem dX11_tells_151 : decode cX11_tells 151 = .ok (.invokestatic 259, 3) := by decide +kernel
theorem dX11_tells_154 : decode cX11_tells 154 = .ok (.ireturn, 1) := by decide +kernel
theorem dX11_tells_155 : decode cX11_tells 155 = .ok (.aload_n 0, 1) := by decide +kernel
theorem dX11_tells_156 : decode cX11_tells 156 = .ok (.aload 6, 2) := by decide +kernel
theorem dX11_tells_158 : decode cX11_tells 158 = .ok (.iload_n 2, 1) := by decide +kernel
theorem dX11_tells_159 : decode cX11_tells 159 = .ok (.iload_n 3, 1) := by decide +kernel
theorem dX11_tells_160 : decode cX11_tells 160 = .ok (.invokevirtual 263, 3) := by decide +kernel
theorem dX11_tells_163 : decode cX11_tells 163 = .ok (.ireturn, 1) := by decide +kernel
theorem dX11_tells_164 : decode cX11_tells 164 = .ok (.aload_n 0, 1) := by decide +kernel
theorem dX11_tells_165 : decode cX11_tells 165 = .ok (.aload 6, 2) := by decide +kernel
theorem dX11_tells_167 : decode cX11_tells 167 = .ok (.iload_n 2, 1) := by decide +kernel
theorem dX11_tells_168 : decode cX11_tells 168 = .ok (.iload_n 3, 1) := by decide +kernel
theorem dX11_tells_169 : decode cX11_tells 169 = .ok (.invokevirtual 267, 3) := by decide +kernel
theorem dX11_tells_172 : decode cX11_tells 172 = .ok (.ireturn, 1) := by decide +kernel
theorem dX11_tells_173 : decode cX11_tells 173 = .ok (.aload_n 0, 1) := by decide +kernel
theorem dX11_tells_174 : decode cX11_tells 174 = .ok (.aload 6, 2) := by decide +kernel
theorem dX11_tells_176 : decode cX11_tells 176 = .ok (.iload_n 2, 1) := by decide +kernel
theorem dX11_tells_177 : decode cX11_tells 177 = .ok (.invokevirtual 270, 3) := by decide +kernel
theorem dX11_tells_180 : decode cX11_tells 180 = .ok (.ireturn, 1) := by decide +kernel
theorem dX11_tells_181 : decode cX11_tells 181 = .ok (.aload_n 0, 1) := by decide +kernel
theorem dX11_tells_182 : decode cX11_tells 182 = .ok (.aload 6, 2) := by decide +kernel
theorem dX11_tells_184 : decode cX11_tells 184 = .ok (.iload_n 2, 1) := by decide +kernel
theorem dX11_tells_185 : decode cX11_tells 185 = .ok (.iload_n 3, 1) := by decide +kernel
theorem dX11_tells_186 : decode cX11_tells 186 = .ok (.invokevirtual 274, 3) := by decide +kernel
theorem dX11_tells_189 : decode cX11_tells 189 = .ok (.ireturn, 1) := by decide +kernel
theorem dX11_film_0 : decode cX11_film 0 = .ok (.iload_n 1, 1) := by decide +kernel
theorem dX11_film_1 : decode cX11_film 1 = .ok (.invokestatic 243, 3) := by decide +kernel
theorem dX11_film_4 : decode cX11_film 4 = .ok (.ifCond .eq 14, 3) := by decide +kernel
theorem dX11_film_7 : decode cX11_film 7 = .ok (.aload_n 0, 1) := by decide +kernel
theorem dX11_film_8 : decode cX11_film 8 = .ok (.getfield 37, 3) := by decide +kernel
theorem dX11_film_11 : decode cX11_film 11 = .ok (.iload_n 2, 1) := by decide +kernel
theorem dX11_film_12 : decode cX11_film 12 = .ok (.invokevirtual 112, 3) := by decide +kernel
theorem dX11_film_15 : decode cX11_film 15 = .ok (.ifCond .ne 6, 3) := by decide +kernel
theorem dX11_film_18 : decode cX11_film 18 = .ok (.bipush (-2), 2) := by decide +kernel
theorem dX11_film_20 : decode cX11_film 20 = .ok (.ireturn, 1) := by decide +kernel
theorem dX11_film_21 : decode cX11_film 21 = .ok (.aload_n 0, 1) := by decide +kernel
theorem dX11_film_22 : decode cX11_film 22 = .ok (.getfield 23, 3) := by decide +kernel
theorem dX11_film_25 : decode cX11_film 25 = .ok (.iload_n 1, 1) := by decide +kernel
theorem dX11_film_26 : decode cX11_film 26 = .ok (.aaload, 1) := by decide +kernel
theorem dX11_film_27 : decode cX11_film 27 = .ok (.iconst 1, 1) := by decide +kernel
theorem dX11_film_28 : decode cX11_film 28 = .ok (.bipush 8, 2) := by decide +kernel
theorem dX11_film_30 : decode cX11_film 30 = .ok (.invokevirtual 277, 3) := by decide +kernel
theorem dX11_film_33 : decode cX11_film 33 = .ok (.iconst 0, 1) := by decide +kernel
theorem dX11_film_34 : decode cX11_film 34 = .ok (.istore_n 3, 1) := by decide +kernel
theorem dX11_film_35 : decode cX11_film 35 = .ok (.iload_n 3, 1) := by decide +kernel
theorem dX11_film_36 : decode cX11_film 36 = .ok (.bipush 8, 2) := by decide +kernel
theorem dX11_film_38 : decode cX11_film 38 = .ok (.if_icmp .ge 33, 3) := by decide +kernel
theorem dX11_film_41 : decode cX11_film 41 = .ok (.aload_n 0, 1) := by decide +kernel
theorem dX11_film_42 : decode cX11_film 42 = .ok (.getfield 23, 3) := by decide +kernel
theorem dX11_film_45 : decode cX11_film 45 = .ok (.iload_n 1, 1) := by decide +kernel
theorem dX11_film_46 : decode cX11_film 46 = .ok (.aaload, 1) := by decide +kernel
theorem dX11_film_47 : decode cX11_film 47 = .ok (.iload_n 3, 1) := by decide +kernel
theorem dX11_film_48 : decode cX11_film 48 = .ok (.aload_n 0, 1) := by decide +kernel
theorem dX11_film_49 : decode cX11_film 49 = .ok (.getfield 37, 3) := by decide +kernel
theorem dX11_film_52 : decode cX11_film 52 = .ok (.getfield 118, 3) := by decide +kernel
theorem dX11_film_55 : decode cX11_film 55 = .ok (.iload_n 2, 1) := by decide +kernel
theorem dX11_film_56 : decode cX11_film 56 = .ok (.aaload, 1) := by decide +kernel
theorem dX11_film_57 : decode cX11_film 57 = .ok (.getfield 165, 3) := by decide +kernel
theorem dX11_film_60 : decode cX11_film 60 = .ok (.iload_n 3, 1) := by decide +kernel
theorem dX11_film_61 : decode cX11_film 61 = .ok (.iaload, 1) := by decide +kernel
theorem dX11_film_62 : decode cX11_film 62 = .ok (.invokevirtual 280, 3) := by decide +kernel
theorem dX11_film_65 : decode cX11_film 65 = .ok (.iinc 3 1, 3) := by decide +kernel
theorem dX11_film_68 : decode cX11_film 68 = .ok (.goto (-33), 3) := by decide +kernel
theorem dX11_film_71 : decode cX11_film 71 = .ok (.bipush 8, 2) := by decide +kernel
theorem dX11_film_73 : decode cX11_film 73 = .ok (.ireturn, 1) := by decide +kernel
theorem dX11_lot_0 : decode cX11_lot 0 = .ok (.aload_n 0, 1) := by decide +kernel
theorem dX11_lot_1 : decode cX11_lot 1 = .ok (.aload_n 0, 1) := by decide +kernel
theorem dX11_lot_2 : decode cX11_lot 2 = .ok (.getfield 37, 3) := by decide +kernel
theorem dX11_lot_5 : decode cX11_lot 5 = .ok (.aload_n 0, 1) := by decide +kernel
theorem dX11_lot_6 : decode cX11_lot 6 = .ok (.iload_n 1, 1) := by decide +kernel
theorem dX11_lot_7 : decode cX11_lot 7 = .ok (.invokevirtual 282, 3) := by decide +kernel
theorem dX11_lot_10 : decode cX11_lot 10 = .ok (.invokevirtual 213, 3) := by decide +kernel
theorem dX11_lot_13 : decode cX11_lot 13 = .ok (.invokevirtual 216, 3) := by decide +kernel
theorem dX11_lot_16 : decode cX11_lot 16 = .ok (.ireturn, 1) := by decide +kernel
theorem dX11_chance_0 : decode cX11_chance 0 = .ok (.iload_n 2, 1) := by decide +kernel
theorem dX11_chance_1 : decode cX11_chance 1 = .ok (.iconst 1, 1) := by decide +kernel
theorem dX11_chance_2 : decode cX11_chance 2 = .ok (.if_icmp .lt 18, 3) := by decide +kernel
theorem dX11_chance_5 : decode cX11_chance 5 = .ok (.iload_n 2, 1) := by decide +kernel
theorem dX11_chance_6 : decode cX11_chance 6 = .ok (.bipush 20, 2) := by decide +kernel
theorem dX11_chance_8 : decode cX11_chance 8 = .ok (.if_icmp .gt 12, 3) := by decide +kernel
theorem dX11_chance_11 : decode cX11_chance 11 = .ok (.iload_n 3, 1) := by decide +kernel
theorem dX11_chance_12 : decode cX11_chance 12 = .ok (.ifCond .lt 8, 3) := by decide +kernel
theorem dX11_chance_15 : decode cX11_chance 15 = .ok (.iload_n 3, 1) := by decide +kernel
theorem dX11_chance_16 : decode cX11_chance 16 = .ok (.iconst 1, 1) := by decide +kernel
theorem dX11_chance_17 : decode cX11_chance 17 = .ok (.if_icmp .le 7, 3) := by decide +kernel
theorem dX11_chance_20 : decode cX11_chance 20 = .ok (.ldc2_w 285, 3) := by decide +kernel
theorem dX11_chance_23 : decode cX11_chance 23 = .ok (.lreturn, 1) := by decide +kernel
theorem dX11_chance_24 : decode cX11_chance 24 = .ok (.aload_n 0, 1) := by decide +kernel
theorem dX11_chance_25 : decode cX11_chance 25 = .ok (.getfield 37, 3) := by decide +kernel
theorem dX11_chance_28 : decode cX11_chance 28 = .ok (.aload_n 0, 1) := by decide +kernel
theorem dX11_chance_29 : decode cX11_chance 29 = .ok (.getfield 37, 3) := by decide +kernel
theorem dX11_chance_32 : decode cX11_chance 32 = .ok (.invokevirtual 210, 3) := by decide +kernel
theorem dX11_chance_35 : decode cX11_chance 35 = .ok (.invokevirtual 213, 3) := by decide +kernel
theorem dX11_chance_38 : decode cX11_chance 38 = .ok (.istore 4, 2) := by decide +kernel
theorem dX11_chance_40 : decode cX11_chance 40 = .ok (.iconst 0, 1) := by decide +kernel
theorem dX11_chance_41 : decode cX11_chance 41 = .ok (.istore 5, 2) := by decide +kernel
theorem dX11_chance_43 : decode cX11_chance 43 = .ok (.iconst 0, 1) := by decide +kernel
theorem dX11_chance_44 : decode cX11_chance 44 = .ok (.istore 6, 2) := by decide +kernel
theorem dX11_chance_46 : decode cX11_chance 46 = .ok (.iload 6, 2) := by decide +kernel
theorem dX11_chance_48 : decode cX11_chance 48 = .ok (.iload_n 2, 1) := by decide +kernel
theorem dX11_chance_49 : decode cX11_chance 49 = .ok (.if_icmp .ge 32, 3) := by decide +kernel
theorem dX11_chance_52 : decode cX11_chance 52 = .ok (.aload_n 0, 1) := by decide +kernel
theorem dX11_chance_53 : decode cX11_chance 53 = .ok (.getfield 37, 3) := by decide +kernel
theorem dX11_chance_56 : decode cX11_chance 56 = .ok (.aload_n 0, 1) := by decide +kernel
theorem dX11_chance_57 : decode cX11_chance 57 = .ok (.iload_n 1, 1) := by decide +kernel
theorem dX11_chance_58 : decode cX11_chance 58 = .ok (.iload 6, 2) := by decide +kernel
theorem dX11_chance_60 : decode cX11_chance 60 = .ok (.iadd, 1) := by decide +kernel
theorem dX11_chance_61 : decode cX11_chance 61 = .ok (.invokevirtual 282, 3) := by decide +kernel
theorem dX11_chance_64 : decode cX11_chance 64 = .ok (.invokevirtual 213, 3) := by decide +kernel
theorem dX11_chance_67 : decode cX11_chance 67 = .ok (.iload 4, 2) := by decide +kernel
theorem dX11_chance_69 : decode cX11_chance 69 = .ok (.if_icmp .ne 6, 3) := by decide +kernel
theorem dX11_chance_72 : decode cX11_chance 72 = .ok (.iinc 5 1, 3) := by decide +kernel
theorem dX11_chance_75 : decode cX11_chance 75 = .ok (.iinc 6 1, 3) := by decide +kernel
theorem dX11_chance_78 : decode cX11_chance 78 = .ok (.goto (-32), 3) := by decide +kernel
theorem dX11_chance_81 : decode cX11_chance 81 = .ok (.iload 5, 2) := by decide +kernel
theorem dX11_chance_83 : decode cX11_chance 83 = .ok (.iload_n 2, 1) := by decide +kernel
theorem dX11_chance_84 : decode cX11_chance 84 = .ok (.invokestatic 287, 3) := by decide +kernel
theorem dX11_chance_87 : decode cX11_chance 87 = .ok (.istore 6, 2) := by decide +kernel
theorem dX11_chance_89 : decode cX11_chance 89 = .ok (.iload_n 3, 1) := by decide +kernel
theorem dX11_chance_90 : decode cX11_chance 90 = .ok (.ifCond .ne 12, 3) := by decide +kernel
theorem dX11_chance_93 : decode cX11_chance 93 = .ok (.iload 5, 2) := by decide +kernel
theorem dX11_chance_95 : decode cX11_chance 95 = .ok (.iload 6, 2) := by decide +kernel
theorem dX11_chance_97 : decode cX11_chance 97 = .ok (.idiv, 1) := by decide +kernel
theorem dX11_chance_98 : decode cX11_chance 98 = .ok (.i2l, 1) := by decide +kernel
theorem dX11_chance_99 : decode cX11_chance 99 = .ok (.goto 8, 3) := by decide +kernel
theorem dX11_chance_102 : decode cX11_chance 102 = .ok (.iload_n 2, 1) := by decide +kernel
theorem dX11_chance_103 : decode cX11_chance 103 = .ok (.iload 6, 2) := by decide +kernel
theorem dX11_chance_105 : decode cX11_chance 105 = .ok (.idiv, 1) := by decide +kernel
theorem dX11_chance_106 : decode cX11_chance 106 = .ok (.i2l, 1) := by decide +kernel
theorem dX11_chance_107 : decode cX11_chance 107 = .ok (.lreturn, 1) := by decide +kernel
theorem dX11_image_0 : decode cX11_image 0 = .ok (.aload_n 0, 1) := by decide +kernel
theorem dX11_image_1 : decode cX11_image 1 = .ok (.getfield 41, 3) := by decide +kernel
theorem dX11_image_4 : decode cX11_image 4 = .ok (.aload_n 0, 1) := by decide +kernel
theorem dX11_image_5 : decode cX11_image 5 = .ok (.getfield 37, 3) := by decide +kernel
theorem dX11_image_8 : decode cX11_image 8 = .ok (.invokevirtual 230, 3) := by decide +kernel
theorem dX11_image_11 : decode cX11_image 11 = .ok (.aload_n 0, 1) := by decide +kernel
theorem dX11_image_12 : decode cX11_image 12 = .ok (.iconst 1, 1) := by decide +kernel
theorem dX11_image_13 : decode cX11_image 13 = .ok (.putfield 57, 3) := by decide +kernel
theorem dX11_image_16 : decode cX11_image 16 = .ok (.aload_n 0, 1) := by decide +kernel
theorem dX11_image_17 : decode cX11_image 17 = .ok (.getfield 37, 3) := by decide +kernel
theorem dX11_image_20 : decode cX11_image 20 = .ok (.getfield 225, 3) := by decide +kernel
theorem dX11_image_23 : decode cX11_image 23 = .ok (.ireturn, 1) := by decide +kernel
theorem dX11_back_0 : decode cX11_back 0 = .ok (.aload_n 0, 1) := by decide +kernel
theorem dX11_back_1 : decode cX11_back 1 = .ok (.getfield 57, 3) := by decide +kernel
theorem dX11_back_4 : decode cX11_back 4 = .ok (.ifCond .ne 6, 3) := by decide +kernel
theorem dX11_back_7 : decode cX11_back 7 = .ok (.bipush (-3), 2) := by decide +kernel
theorem dX11_back_9 : decode cX11_back 9 = .ok (.ireturn, 1) := by decide +kernel
theorem dX11_back_10 : decode cX11_back 10 = .ok (.aload_n 0, 1) := by decide +kernel
theorem dX11_back_11 : decode cX11_back 11 = .ok (.getfield 37, 3) := by decide +kernel
theorem dX11_back_14 : decode cX11_back 14 = .ok (.aload_n 0, 1) := by decide +kernel
theorem dX11_back_15 : decode cX11_back 15 = .ok (.getfield 41, 3) := by decide +kernel
theorem dX11_back_18 : decode cX11_back 18 = .ok (.invokevirtual 230, 3) := by decide +kernel
theorem dX11_back_21 : decode cX11_back 21 = .ok (.aload_n 0, 1) := by decide +kernel
theorem dX11_back_22 : decode cX11_back 22 = .ok (.getfield 37, 3) := by decide +kernel
theorem dX11_back_25 : decode cX11_back 25 = .ok (.getfield 225, 3) := by decide +kernel
theorem dX11_back_28 : decode cX11_back 28 = .ok (.ireturn, 1) := by decide +kernel
theorem dX11_count_0 : decode cX11_count 0 = .ok (.iload_n 1, 1) := by decide +kernel
theorem dX11_count_1 : decode cX11_count 1 = .ok (.tableswitch 87 0 5 #[39, 47, 58, 66, 71, 79], 39) := by decide +kernel
theorem dX11_count_40 : decode cX11_count 40 = .ok (.aload_n 0, 1) := by decide +kernel
theorem dX11_count_41 : decode cX11_count 41 = .ok (.getfield 37, 3) := by decide +kernel
theorem dX11_count_44 : decode cX11_count 44 = .ok (.getfield 225, 3) := by decide +kernel
theorem dX11_count_47 : decode cX11_count 47 = .ok (.ireturn, 1) := by decide +kernel
theorem dX11_count_48 : decode cX11_count 48 = .ok (.aload_n 0, 1) := by decide +kernel
theorem dX11_count_49 : decode cX11_count 49 = .ok (.getfield 37, 3) := by decide +kernel
theorem dX11_count_52 : decode cX11_count 52 = .ok (.invokevirtual 210, 3) := by decide +kernel
theorem dX11_count_55 : decode cX11_count 55 = .ok (.invokestatic 151, 3) := by decide +kernel
theorem dX11_count_58 : decode cX11_count 58 = .ok (.ireturn, 1) := by decide +kernel
theorem dX11_count_59 : decode cX11_count 59 = .ok (.aload_n 0, 1) := by decide +kernel
theorem dX11_count_60 : decode cX11_count 60 = .ok (.getfield 37, 3) := by decide +kernel
theorem dX11_count_63 : decode cX11_count 63 = .ok (.invokevirtual 290, 3) := by decide +kernel
theorem dX11_count_66 : decode cX11_count 66 = .ok (.ireturn, 1) := by decide +kernel
theorem dX11_count_67 : decode cX11_count 67 = .ok (.aload_n 0, 1) := by decide +kernel
theorem dX11_count_68 : decode cX11_count 68 = .ok (.getfield 53, 3) := by decide +kernel
theorem dX11_count_71 : decode cX11_count 71 = .ok (.ireturn, 1) := by decide +kernel
theorem dX11_count_72 : decode cX11_count 72 = .ok (.aload_n 0, 1) := by decide +kernel
theorem dX11_count_73 : decode cX11_count 73 = .ok (.getfield 30, 3) := by decide +kernel
theorem dX11_count_76 : decode cX11_count 76 = .ok (.getfield 172, 3) := by decide +kernel
theorem dX11_count_79 : decode cX11_count 79 = .ok (.ireturn, 1) := by decide +kernel
theorem dX11_count_80 : decode cX11_count 80 = .ok (.aload_n 0, 1) := by decide +kernel
theorem dX11_count_81 : decode cX11_count 81 = .ok (.getfield 37, 3) := by decide +kernel
theorem dX11_count_84 : decode cX11_count 84 = .ok (.getfield 175, 3) := by decide +kernel
theorem dX11_count_87 : decode cX11_count 87 = .ok (.ireturn, 1) := by decide +kernel
theorem dX11_count_88 : decode cX11_count 88 = .ok (.bipush (-2), 2) := by decide +kernel
theorem dX11_count_90 : decode cX11_count 90 = .ok (.ireturn, 1) := by decide +kernel
theorem dX11_sheet_0 : decode cX11_sheet 0 = .ok (.iload_n 1, 1) := by decide +kernel
theorem dX11_sheet_1 : decode cX11_sheet 1 = .ok (.invokestatic 243, 3) := by decide +kernel
theorem dX11_sheet_4 : decode cX11_sheet 4 = .ok (.ifCond .eq 13, 3) := by decide +kernel
theorem dX11_sheet_7 : decode cX11_sheet 7 = .ok (.iload_n 2, 1) := by decide +kernel
theorem dX11_sheet_8 : decode cX11_sheet 8 = .ok (.iconst (-1), 1) := by decide +kernel
theorem dX11_sheet_9 : decode cX11_sheet 9 = .ok (.if_icmp .lt 8, 3) := by decide +kernel
theorem dX11_sheet_12 : decode cX11_sheet 12 = .ok (.iload_n 2, 1) := by decide +kernel
theorem dX11_sheet_13 : decode cX11_sheet 13 = .ok (.iconst 2, 1) := by decide +kernel
theorem dX11_sheet_14 : decode cX11_sheet 14 = .ok (.if_icmp .le 6, 3) := by decide +kernel
theorem dX11_sheet_17 : decode cX11_sheet 17 = .ok (.bipush (-2), 2) := by decide +kernel
theorem dX11_sheet_19 : decode cX11_sheet 19 = .ok (.ireturn, 1) := by decide +kernel
theorem dX11_sheet_20 : decode cX11_sheet 20 = .ok (.iload_n 2, 1) := by decide +kernel
theorem dX11_sheet_21 : decode cX11_sheet 21 = .ok (.iconst (-1), 1) := by decide +kernel
theorem dX11_sheet_22 : decode cX11_sheet 22 = .ok (.if_icmp .ne 16, 3) := by decide +kernel
theorem dX11_sheet_25 : decode cX11_sheet 25 = .ok (.aload_n 0, 1) := by decide +kernel
theorem dX11_sheet_26 : decode cX11_sheet 26 = .ok (.getfield 23, 3) := by decide +kernel
theorem dX11_sheet_29 : decode cX11_sheet 29 = .ok (.iload_n 1, 1) := by decide +kernel
theorem dX11_sheet_30 : decode cX11_sheet 30 = .ok (.aaload, 1) := by decide +kernel
theorem dX11_sheet_31 : decode cX11_sheet 31 = .ok (.iconst (-1), 1) := by decide +kernel
theorem dX11_sheet_32 : decode cX11_sheet 32 = .ok (.iconst 0, 1) := by decide +kernel
theorem dX11_sheet_33 : decode cX11_sheet 33 = .ok (.invokevirtual 277, 3) := by decide +kernel
theorem dX11_sheet_36 : decode cX11_sheet 36 = .ok (.iconst 1, 1) := by decide +kernel
theorem dX11_sheet_37 : decode cX11_sheet 37 = .ok (.ireturn, 1) := by decide +kernel
theorem dX11_sheet_38 : decode cX11_sheet 38 = .ok (.iload_n 3, 1) := by decide +kernel
theorem dX11_sheet_39 : decode cX11_sheet 39 = .ok (.bipush 40, 2) := by decide +kernel
theorem dX11_sheet_41 : decode cX11_sheet 41 = .ok (.if_icmp .le 6, 3) := by decide +kernel
theorem dX11_sheet_44 : decode cX11_sheet 44 = .ok (.bipush (-2), 2) := by decide +kernel
theorem dX11_sheet_46 : decode cX11_sheet 46 = .ok (.ireturn, 1) := by decide +kernel
theorem dX11_sheet_47 : decode cX11_sheet 47 = .ok (.iload_n 3, 1) := by decide +kernel
theorem dX11_sheet_48 : decode cX11_sheet 48 = .ok (.ifCond .ge 6, 3) := by decide +kernel
theorem dX11_sheet_51 : decode cX11_sheet 51 = .ok (.bipush (-14), 2) := by decide +kernel
theorem dX11_sheet_53 : decode cX11_sheet 53 = .ok (.ireturn, 1) := by decide +kernel
theorem dX11_sheet_54 : decode cX11_sheet 54 = .ok (.aload_n 0, 1) := by decide +kernel
theorem dX11_sheet_55 : decode cX11_sheet 55 = .ok (.getfield 23, 3) := by decide +kernel
theorem dX11_sheet_58 : decode cX11_sheet 58 = .ok (.iload_n 1, 1) := by decide +kernel
theorem dX11_sheet_59 : decode cX11_sheet 59 = .ok (.aaload, 1) := by decide +kernel
theorem dX11_sheet_60 : decode cX11_sheet 60 = .ok (.iload_n 2, 1) := by decide +kernel
theorem dX11_sheet_61 : decode cX11_sheet 61 = .ok (.iload_n 3, 1) := by decide +kernel
theorem dX11_sheet_62 : decode cX11_sheet 62 = .ok (.invokevirtual 277, 3) := by decide +kernel
theorem dX11_sheet_65 : decode cX11_sheet 65 = .ok (.iconst 1, 1) := by decide +kernel
theorem dX11_sheet_66 : decode cX11_sheet 66 = .ok (.ireturn, 1) := by decide +kernel
theorem dX11_cell_0 : decode cX11_cell 0 = .ok (.iload_n 1, 1) := by decide +kernel
theorem dX11_cell_1 : decode cX11_cell 1 = .ok (.invokestatic 243, 3) := by decide +kernel
theorem dX11_cell_4 : decode cX11_cell 4 = .ok (.ifCond .ne 6, 3) := by decide +kernel
theorem dX11_cell_7 : decode cX11_cell 7 = .ok (.bipush (-2), 2) := by decide +kernel
theorem dX11_cell_9 : decode cX11_cell 9 = .ok (.ireturn, 1) := by decide +kernel
theorem dX11_cell_10 : decode cX11_cell 10 = .ok (.aload_n 0, 1) := by decide +kernel
theorem dX11_cell_11 : decode cX11_cell 11 = .ok (.getfield 23, 3) := by decide +kernel
theorem dX11_cell_14 : decode cX11_cell 14 = .ok (.iload_n 1, 1) := by decide +kernel
theorem dX11_cell_15 : decode cX11_cell 15 = .ok (.aaload, 1) := by decide +kernel
theorem dX11_cell_16 : decode cX11_cell 16 = .ok (.invokevirtual 246, 3) := by decide +kernel
theorem dX11_cell_19 : decode cX11_cell 19 = .ok (.ifCond .eq 6, 3) := by decide +kernel
theorem dX11_cell_22 : decode cX11_cell 22 = .ok (.bipush (-11), 2) := by decide +kernel
theorem dX11_cell_24 : decode cX11_cell 24 = .ok (.ireturn, 1) := by decide +kernel
theorem dX11_cell_25 : decode cX11_cell 25 = .ok (.aload_n 0, 1) := by decide +kernel
theorem dX11_cell_26 : decode cX11_cell 26 = .ok (.getfield 23, 3) := by decide +kernel
theorem dX11_cell_29 : decode cX11_cell 29 = .ok (.iload_n 1, 1) := by decide +kernel
theorem dX11_cell_30 : decode cX11_cell 30 = .ok (.aaload, 1) := by decide +kernel
theorem dX11_cell_31 : decode cX11_cell 31 = .ok (.iload_n 2, 1) := by decide +kernel
theorem dX11_cell_32 : decode cX11_cell 32 = .ok (.invokevirtual 293, 3) := by decide +kernel
theorem dX11_cell_35 : decode cX11_cell 35 = .ok (.ifCond .ne 6, 3) := by decide +kernel
theorem dX11_cell_38 : decode cX11_cell 38 = .ok (.bipush (-12), 2) := by decide +kernel
theorem dX11_cell_40 : decode cX11_cell 40 = .ok (.ireturn, 1) := by decide +kernel
theorem dX11_cell_41 : decode cX11_cell 41 = .ok (.aload_n 0, 1) := by decide +kernel
theorem dX11_cell_42 : decode cX11_cell 42 = .ok (.getfield 23, 3) := by decide +kernel
theorem dX11_cell_45 : decode cX11_cell 45 = .ok (.iload_n 1, 1) := by decide +kernel
theorem dX11_cell_46 : decode cX11_cell 46 = .ok (.aaload, 1) := by decide +kernel
theorem dX11_cell_47 : decode cX11_cell 47 = .ok (.iload_n 2, 1) := by decide +kernel
theorem dX11_cell_48 : decode cX11_cell 48 = .ok (.iload_n 3, 1) := by decide +kernel
theorem dX11_cell_49 : decode cX11_cell 49 = .ok (.invokevirtual 280, 3) := by decide +kernel
theorem dX11_cell_52 : decode cX11_cell 52 = .ok (.iconst 1, 1) := by decide +kernel
theorem dX11_cell_53 : decode cX11_cell 53 = .ok (.ireturn, 1) := by decide +kernel
theorem dX11_copy_0 : decode cX11_copy 0 = .ok (.iload_n 1, 1) := by decide +kernel
theorem dX11_copy_1 : decode cX11_copy 1 = .ok (.invokestatic 243, 3) := by decide +kernel
theorem dX11_copy_4 : decode cX11_copy 4 = .ok (.ifCond .eq 10, 3) := by decide +kernel
theorem dX11_copy_7 : decode cX11_copy 7 = .ok (.iload_n 3, 1) := by decide +kernel
theorem dX11_copy_8 : decode cX11_copy 8 = .ok (.invokestatic 243, 3) := by decide +kernel
theorem dX11_copy_11 : decode cX11_copy 11 = .ok (.ifCond .ne 6, 3) := by decide +kernel
theorem dX11_copy_14 : decode cX11_copy 14 = .ok (.bipush (-2), 2) := by decide +kernel
theorem dX11_copy_16 : decode cX11_copy 16 = .ok (.ireturn, 1) := by decide +kernel
theorem dX11_copy_17 : decode cX11_copy 17 = .ok (.aload_n 0, 1) := by decide +kernel
theorem dX11_copy_18 : decode cX11_copy 18 = .ok (.getfield 23, 3) := by decide +kernel
theorem dX11_copy_21 : decode cX11_copy 21 = .ok (.iload_n 1, 1) := by decide +kernel
theorem dX11_copy_22 : decode cX11_copy 22 = .ok (.aaload, 1) := by decide +kernel
theorem dX11_copy_23 : decode cX11_copy 23 = .ok (.astore 6, 2) := by decide +kernel
theorem dX11_copy_25 : decode cX11_copy 25 = .ok (.aload_n 0, 1) := by decide +kernel
theorem dX11_copy_26 : decode cX11_copy 26 = .ok (.getfield 23, 3) := by decide +kernel
theorem dX11_copy_29 : decode cX11_copy 29 = .ok (.iload_n 3, 1) := by decide +kernel
theorem dX11_copy_30 : decode cX11_copy 30 = .ok (.aaload, 1) := by decide +kernel
theorem dX11_copy_31 : decode cX11_copy 31 = .ok (.astore 7, 2) := by decide +kernel
theorem dX11_copy_33 : decode cX11_copy 33 = .ok (.aload 6, 2) := by decide +kernel
theorem dX11_copy_35 : decode cX11_copy 35 = .ok (.invokevirtual 246, 3) := by decide +kernel
theorem dX11_copy_38 : decode cX11_copy 38 = .ok (.ifCond .ne 11, 3) := by decide +kernel
theorem dX11_copy_41 : decode cX11_copy 41 = .ok (.aload 7, 2) := by decide +kernel
theorem dX11_copy_43 : decode cX11_copy 43 = .ok (.invokevirtual 246, 3) := by decide +kernel
theorem dX11_copy_46 : decode cX11_copy 46 = .ok (.ifCond .eq 6, 3) := by decide +kernel
theorem dX11_copy_49 : decode cX11_copy 49 = .ok (.bipush (-11), 2) := by decide +kernel
theorem dX11_copy_51 : decode cX11_copy 51 = .ok (.ireturn, 1) := by decide +kernel
theorem dX11_copy_52 : decode cX11_copy 52 = .ok (.aload 6, 2) := by decide +kernel
theorem dX11_copy_54 : decode cX11_copy 54 = .ok (.getfield 294, 3) := by decide +kernel
theorem dX11_copy_57 : decode cX11_copy 57 = .ok (.aload 7, 2) := by decide +kernel
theorem dX11_copy_59 : decode cX11_copy 59 = .ok (.getfield 294, 3) := by decide +kernel
theorem dX11_copy_62 : decode cX11_copy 62 = .ok (.if_icmp .eq 6, 3) := by decide +kernel
theorem dX11_copy_65 : decode cX11_copy 65 = .ok (.bipush (-13), 2) := by decide +kernel
theorem dX11_copy_67 : decode cX11_copy 67 = .ok (.ireturn, 1) := by decide +kernel
theorem dX11_copy_68 : decode cX11_copy 68 = .ok (.aload 6, 2) := by decide +kernel
theorem dX11_copy_70 : decode cX11_copy 70 = .ok (.iload_n 2, 1) := by decide +kernel
theorem dX11_copy_71 : decode cX11_copy 71 = .ok (.iload 5, 2) := by decide +kernel
theorem dX11_copy_73 : decode cX11_copy 73 = .ok (.invokevirtual 297, 3) := by decide +kernel
theorem dX11_copy_76 : decode cX11_copy 76 = .ok (.ifCond .eq 15, 3) := by decide +kernel
theorem dX11_copy_79 : decode cX11_copy 79 = .ok (.aload 7, 2) := by decide +kernel
theorem dX11_copy_81 : decode cX11_copy 81 = .ok (.iload 4, 2) := by decide +kernel
theorem dX11_copy_83 : decode cX11_copy 83 = .ok (.iload 5, 2) := by decide +kernel
theorem dX11_copy_85 : decode cX11_copy 85 = .ok (.invokevirtual 297, 3) := by decide +kernel
theorem dX11_copy_88 : decode cX11_copy 88 = .ok (.ifCond .ne 6, 3) := by decide +kernel
theorem dX11_copy_91 : decode cX11_copy 91 = .ok (.bipush (-12), 2) := by decide +kernel
theorem dX11_copy_93 : decode cX11_copy 93 = .ok (.ireturn, 1) := by decide +kernel
theorem dX11_copy_94 : decode cX11_copy 94 = .ok (.aload 6, 2) := by decide +kernel
theorem dX11_copy_96 : decode cX11_copy 96 = .ok (.getfield 300, 3) := by decide +kernel
theorem dX11_copy_99 : decode cX11_copy 99 = .ok (.iload_n 2, 1) := by decide +kernel
theorem dX11_copy_100 : decode cX11_copy 100 = .ok (.aload 7, 2) := by decide +kernel
theorem dX11_copy_102 : decode cX11_copy 102 = .ok (.getfield 300, 3) := by decide +kernel
theorem dX11_copy_105 : decode cX11_copy 105 = .ok (.iload 4, 2) := by decide +kernel
theorem dX11_copy_107 : decode cX11_copy 107 = .ok (.iload 5, 2) := by decide +kernel
theorem dX11_copy_109 : decode cX11_copy 109 = .ok (.invokestatic 303, 3) := by decide +kernel
theorem dX11_copy_112 : decode cX11_copy 112 = .ok (.iload 5, 2) := by decide +kernel
theorem dX11_copy_114 : decode cX11_copy 114 = .ok (.ireturn, 1) := by decide +kernel
theorem dX11_disks_0 : decode cX11_disks 0 = .ok (.iload_n 1, 1) := by decide +kernel
theorem dX11_disks_1 : decode cX11_disks 1 = .ok (.invokestatic 243, 3) := by decide +kernel
theorem dX11_disks_4 : decode cX11_disks 4 = .ok (.ifCond .eq 24, 3) := by decide +kernel
theorem dX11_disks_7 : decode cX11_disks 7 = .ok (.iload_n 2, 1) := by decide +kernel
theorem dX11_disks_8 : decode cX11_disks 8 = .ok (.ifCond .lt 20, 3) := by decide +kernel
theorem dX11_disks_11 : decode cX11_disks 11 = .ok (.iload_n 2, 1) := by decide +kernel
theorem dX11_disks_12 : decode cX11_disks 12 = .ok (.iconst 2, 1) := by decide +kernel
theorem dX11_disks_13 : decode cX11_disks 13 = .ok (.if_icmp .gt 15, 3) := by decide +kernel
theorem dX11_disks_16 : decode cX11_disks 16 = .ok (.iload 4, 2) := by decide +kernel
theorem dX11_disks_18 : decode cX11_disks 18 = .ok (.ifCond .lt 10, 3) := by decide +kernel
theorem dX11_disks_21 : decode cX11_disks 21 = .ok (.iload 4, 2) := by decide +kernel
theorem dX11_disks_23 : decode cX11_disks 23 = .ok (.bipush 6, 2) := by decide +kernel
theorem dX11_disks_25 : decode cX11_disks 25 = .ok (.if_icmp .le 6, 3) := by decide +kernel
theorem dX11_disks_28 : decode cX11_disks 28 = .ok (.bipush (-2), 2) := by decide +kernel
theorem dX11_disks_30 : decode cX11_disks 30 = .ok (.ireturn, 1) := by decide +kernel
theorem dX11_disks_31 : decode cX11_disks 31 = .ok (.aload_n 0, 1) := by decide +kernel
theorem dX11_disks_32 : decode cX11_disks 32 = .ok (.getfield 23, 3) := by decide +kernel
theorem dX11_disks_35 : decode cX11_disks 35 = .ok (.iload_n 1, 1) := by decide +kernel
theorem dX11_disks_36 : decode cX11_disks 36 = .ok (.aaload, 1) := by decide +kernel
theorem dX11_disks_37 : decode cX11_disks 37 = .ok (.astore 5, 2) := by decide +kernel
theorem dX11_disks_39 : decode cX11_disks 39 = .ok (.aload 5, 2) := by decide +kernel
theorem dX11_disks_41 : decode cX11_disks 41 = .ok (.invokevirtual 246, 3) := by decide +kernel
theorem dX11_disks_44 : decode cX11_disks 44 = .ok (.ifCond .eq 6, 3) := by decide +kernel
theorem dX11_disks_47 : decode cX11_disks 47 = .ok (.bipush (-11), 2) := by decide +kernel
theorem dX11_disks_49 : decode cX11_disks 49 = .ok (.ireturn, 1) := by decide +kernel
theorem dX11_disks_50 : decode cX11_disks 50 = .ok (.aload 5, 2) := by decide +kernel
theorem dX11_disks_52 : decode cX11_disks 52 = .ok (.getfield 294, 3) := by decide +kernel
theorem dX11_disks_55 : decode cX11_disks 55 = .ok (.iload_n 2, 1) := by decide +kernel
theorem dX11_disks_56 : decode cX11_disks 56 = .ok (.if_icmp .eq 6, 3) := by decide +kernel
theorem dX11_disks_59 : decode cX11_disks 59 = .ok (.bipush (-13), 2) := by decide +kernel
theorem dX11_disks_61 : decode cX11_disks 61 = .ok (.ireturn, 1) := by decide +kernel
theorem dX11_disks_62 : decode cX11_disks 62 = .ok (.iconst 0, 1) := by decide +kernel
theorem dX11_disks_63 : decode cX11_disks 63 = .ok (.istore 6, 2) := by decide +kernel
theorem dX11_disks_65 : decode cX11_disks 65 = .ok (.iload_n 3, 1) := by decide +kernel
theorem dX11_disks_66 : decode cX11_disks 66 = .ok (.istore 7, 2) := by decide +kernel
theorem dX11_disks_68 : decode cX11_disks 68 = .ok (.iconst 0, 1) := by decide +kernel
theorem dX11_disks_69 : decode cX11_disks 69 = .ok (.istore 8, 2) := by decide +kernel
theorem dX11_disks_71 : decode cX11_disks 71 = .ok (.iload 8, 2) := by decide +kernel
theorem dX11_disks_73 : decode cX11_disks 73 = .ok (.iload 4, 2) := by decide +kernel
theorem dX11_disks_75 : decode cX11_disks 75 = .ok (.if_icmp .ge 54, 3) := by decide +kernel
theorem dX11_disks_78 : decode cX11_disks 78 = .ok (.aload 5, 2) := by decide +kernel
theorem dX11_disks_80 : decode cX11_disks 80 = .ok (.iload 7, 2) := by decide +kernel
theorem dX11_disks_82 : decode cX11_disks 82 = .ok (.iconst 2, 1) := by decide +kernel
theorem dX11_disks_83 : decode cX11_disks 83 = .ok (.invokevirtual 297, 3) := by decide +kernel
theorem dX11_disks_86 : decode cX11_disks 86 = .ok (.ifCond .ne 6, 3) := by decide +kernel
theorem dX11_disks_89 : decode cX11_disks 89 = .ok (.bipush (-12), 2) := by decide +kernel
theorem dX11_disks_91 : decode cX11_disks 91 = .ok (.ireturn, 1) := by decide +kernel
theorem dX11_disks_92 : decode cX11_disks 92 = .ok (.aload_n 0, 1) := by decide +kernel
theorem dX11_disks_93 : decode cX11_disks 93 = .ok (.aload 5, 2) := by decide +kernel
theorem dX11_disks_95 : decode cX11_disks 95 = .ok (.getfield 300, 3) := by decide +kernel
theorem dX11_disks_98 : decode cX11_disks 98 = .ok (.iload 7, 2) := by decide +kernel
theorem dX11_disks_100 : decode cX11_disks 100 = .ok (.iaload, 1) := by decide +kernel
theorem dX11_disks_101 : decode cX11_disks 101 = .ok (.aload 5, 2) := by decide +kernel
theorem dX11_disks_103 : decode cX11_disks 103 = .ok (.getfield 300, 3) := by decide +kernel
theorem dX11_disks_106 : decode cX11_disks 106 = .ok (.iload 7, 2) := by decide +kernel
theorem dX11_disks_108 : decode cX11_disks 108 = .ok (.iconst 1, 1) := by decide +kernel
theorem dX11_disks_109 : decode cX11_disks 109 = .ok (.iadd, 1) := by decide +kernel
theorem dX11_disks_110 : decode cX11_disks 110 = .ok (.iaload, 1) := by decide +kernel
theorem dX11_disks_111 : decode cX11_disks 111 = .ok (.invokevirtual 127, 3) := by decide +kernel
theorem dX11_disks_114 : decode cX11_disks 114 = .ok (.ifCond .lt 6, 3) := by decide +kernel
theorem dX11_disks_117 : decode cX11_disks 117 = .ok (.iinc 6 1, 3) := by decide +kernel
theorem dX11_disks_120 : decode cX11_disks 120 = .ok (.iinc 7 2, 3) := by decide +kernel
theorem dX11_disks_123 : decode cX11_disks 123 = .ok (.iinc 8 1, 3) := by decide +kernel
theorem dX11_disks_126 : decode cX11_disks 126 = .ok (.goto (-55), 3) := by decide +kernel
theorem dX11_disks_129 : decode cX11_disks 129 = .ok (.iload 6, 2) := by decide +kernel
theorem dX11_disks_131 : decode cX11_disks 131 = .ok (.ireturn, 1) := by decide +kernel
theorem dX11_taken_0 : decode cX11_taken 0 = .ok (.iload_n 2, 1) := by decide +kernel
theorem dX11_taken_1 : decode cX11_taken 1 = .ok (.ifCond .lt 9, 3) := by decide +kernel
theorem dX11_taken_4 : decode cX11_taken 4 = .ok (.iload_n 2, 1) := by decide +kernel
theorem dX11_taken_5 : decode cX11_taken 5 = .ok (.bipush 6, 2) := by decide +kernel
theorem dX11_taken_7 : decode cX11_taken 7 = .ok (.if_icmp .lt 6, 3) := by decide +kernel
theorem dX11_taken_10 : decode cX11_taken 10 = .ok (.bipush (-2), 2) := by decide +kernel
theorem dX11_taken_12 : decode cX11_taken 12 = .ok (.ireturn, 1) := by decide +kernel
theorem dX11_taken_13 : decode cX11_taken 13 = .ok (.aload_n 0, 1) := by decide +kernel
theorem dX11_taken_14 : decode cX11_taken 14 = .ok (.getfield 37, 3) := by decide +kernel
theorem dX11_taken_17 : decode cX11_taken 17 = .ok (.iload_n 1, 1) := by decide +kernel
theorem dX11_taken_18 : decode cX11_taken 18 = .ok (.invokevirtual 112, 3) := by decide +kernel
theorem dX11_taken_21 : decode cX11_taken 21 = .ok (.ifCond .ne 6, 3) := by decide +kernel
theorem dX11_taken_24 : decode cX11_taken 24 = .ok (.bipush (-11), 2) := by decide +kernel
theorem dX11_taken_26 : decode cX11_taken 26 = .ok (.ireturn, 1) := by decide +kernel
theorem dX11_taken_27 : decode cX11_taken 27 = .ok (.aload_n 0, 1) := by decide +kernel
theorem dX11_taken_28 : decode cX11_taken 28 = .ok (.getfield 37, 3) := by decide +kernel
theorem dX11_taken_31 : decode cX11_taken 31 = .ok (.getfield 118, 3) := by decide +kernel
theorem dX11_taken_34 : decode cX11_taken 34 = .ok (.iload_n 1, 1) := by decide +kernel
theorem dX11_taken_35 : decode cX11_taken 35 = .ok (.aaload, 1) := by decide +kernel
theorem dX11_taken_36 : decode cX11_taken 36 = .ok (.getfield 131, 3) := by decide +kernel
theorem dX11_taken_39 : decode cX11_taken 39 = .ok (.iload_n 2, 1) := by decide +kernel
theorem dX11_taken_40 : decode cX11_taken 40 = .ok (.invokestatic 309, 3) := by decide +kernel
theorem dX11_taken_43 : decode cX11_taken 43 = .ok (.ifCond .eq 18, 3) := by decide +kernel
theorem dX11_taken_46 : decode cX11_taken 46 = .ok (.aload_n 0, 1) := by decide +kernel
theorem dX11_taken_47 : decode cX11_taken 47 = .ok (.getfield 37, 3) := by decide +kernel
theorem dX11_taken_50 : decode cX11_taken 50 = .ok (.getfield 118, 3) := by decide +kernel
theorem dX11_taken_53 : decode cX11_taken 53 = .ok (.iload_n 1, 1) := by decide +kernel
theorem dX11_taken_54 : decode cX11_taken 54 = .ok (.aaload, 1) := by decide +kernel
theorem dX11_taken_55 : decode cX11_taken 55 = .ok (.getfield 121, 3) := by decide +kernel
theorem dX11_taken_58 : decode cX11_taken 58 = .ok (.goto 5, 3) := by decide +kernel
theorem dX11_taken_61 : decode cX11_taken 61 = .ok (.bipush (-13), 2) := by decide +kernel
theorem dX11_taken_63 : decode cX11_taken 63 = .ok (.ireturn, 1) := by decide +kernel
theorem dX11_rule_0 : decode cX11_rule 0 = .ok (.aload_n 0, 1) := by decide +kernel
theorem dX11_rule_1 : decode cX11_rule 1 = .ok (.getfield 17, 3) := by decide +kernel
theorem dX11_rule_4 : decode cX11_rule 4 = .ok (.aload_n 0, 1) := by decide +kernel
theorem dX11_rule_5 : decode cX11_rule 5 = .ok (.getfield 37, 3) := by decide +kernel
theorem dX11_rule_8 : decode cX11_rule 8 = .ok (.getfield 175, 3) := by decide +kernel
theorem dX11_rule_11 : decode cX11_rule 11 = .ok (.aaload, 1) := by decide +kernel
theorem dX11_rule_12 : decode cX11_rule 12 = .ok (.areturn, 1) := by decide +kernel
theorem dX11_isFile_0 : decode cX11_isFile 0 = .ok (.iload_n 0, 1) := by decide +kernel
theorem dX11_isFile_1 : decode cX11_isFile 1 = .ok (.ifCond .lt 13, 3) := by decide +kernel
theorem dX11_isFile_4 : decode cX11_isFile 4 = .ok (.iload_n 0, 1) := by decide +kernel
theorem dX11_isFile_5 : decode cX11_isFile 5 = .ok (.bipush 8, 2) := by decide +kernel
theorem dX11_isFile_7 : decode cX11_isFile 7 = .ok (.if_icmp .ge 7, 3) := by decide +kernel
theorem dX11_isFile_10 : decode cX11_isFile 10 = .ok (.iconst 1, 1) := by decide +kernel
theorem dX11_isFile_11 : decode cX11_isFile 11 = .ok (.goto 4, 3) := by decide +kernel
theorem dX11_isFile_14 : decode cX11_isFile 14 = .ok (.iconst 0, 1) := by decide +kernel
theorem dX11_isFile_15 : decode cX11_isFile 15 = .ok (.ireturn, 1) := by decide +kernel
theorem dX11_isSheet_0 : decode cX11_isSheet 0 = .ok (.iload_n 0, 1) := by decide +kernel
theorem dX11_isSheet_1 : decode cX11_isSheet 1 = .ok (.ifCond .lt 12, 3) := by decide +kernel
theorem dX11_isSheet_4 : decode cX11_isSheet 4 = .ok (.iload_n 0, 1) := by decide +kernel
theorem dX11_isSheet_5 : decode cX11_isSheet 5 = .ok (.iconst 4, 1) := by decide +kernel
theorem dX11_isSheet_6 : decode cX11_isSheet 6 = .ok (.if_icmp .ge 7, 3) := by decide +kernel
theorem dX11_isSheet_9 : decode cX11_isSheet 9 = .ok (.iconst 1, 1) := by decide +kernel
theorem dX11_isSheet_10 : decode cX11_isSheet 10 = .ok (.goto 4, 3) := by decide +kernel
theorem dX11_isSheet_13 : decode cX11_isSheet 13 = .ok (.iconst 0, 1) := by decide +kernel
theorem dX11_isSheet_14 : decode cX11_isSheet 14 = .ok (.ireturn, 1) := by decide +kernel
theorem dX11_isHowMany_0 : decode cX11_isHowMany 0 = .ok (.iload_n 0, 1) := by decide +kernel
theorem dX11_isHowMany_1 : decode cX11_isHowMany 1 = .ok (.iconst 1, 1) := by decide +kernel
theorem dX11_isHowMany_2 : decode cX11_isHowMany 2 = .ok (.if_icmp .lt 13, 3) := by decide +kernel
theorem dX11_isHowMany_5 : decode cX11_isHowMany 5 = .ok (.iload_n 0, 1) := by decide +kernel
theorem dX11_isHowMany_6 : decode cX11_isHowMany 6 = .ok (.bipush 6, 2) := by decide +kernel
theorem dX11_isHowMany_8 : decode cX11_isHowMany 8 = .ok (.if_icmp .gt 7, 3) := by decide +kernel
theorem dX11_isHowMany_11 : decode cX11_isHowMany 11 = .ok (.iconst 1, 1) := by decide +kernel
theorem dX11_isHowMany_12 : decode cX11_isHowMany 12 = .ok (.goto 4, 3) := by decide +kernel
theorem dX11_isHowMany_15 : decode cX11_isHowMany 15 = .ok (.iconst 0, 1) := by decide +kernel
theorem dX11_isHowMany_16 : decode cX11_isHowMany 16 = .ok (.ireturn, 1) := by decide +kernel
theorem dX11_areTwo_0 : decode cX11_areTwo 0 = .ok (.aload_n 0, 1) := by decide +kernel
theorem dX11_areTwo_1 : decode cX11_areTwo 1 = .ok (.getfield 37, 3) := by decide +kernel
theorem dX11_areTwo_4 : decode cX11_areTwo 4 = .ok (.iload_n 1, 1) := by decide +kernel
theorem dX11_areTwo_5 : decode cX11_areTwo 5 = .ok (.invokevirtual 112, 3) := by decide +kernel
theorem dX11_areTwo_8 : decode cX11_areTwo 8 = .ok (.ifCond .eq 23, 3) := by decide +kernel
theorem dX11_areTwo_11 : decode cX11_areTwo 11 = .ok (.aload_n 0, 1) := by decide +kernel
theorem dX11_areTwo_12 : decode cX11_areTwo 12 = .ok (.getfield 37, 3) := by decide +kernel
theorem dX11_areTwo_15 : decode cX11_areTwo 15 = .ok (.iload_n 2, 1) := by decide +kernel
theorem dX11_areTwo_16 : decode cX11_areTwo 16 = .ok (.invokevirtual 112, 3) := by decide +kernel
theorem dX11_areTwo_19 : decode cX11_areTwo 19 = .ok (.ifCond .eq 12, 3) := by decide +kernel
theorem dX11_areTwo_22 : decode cX11_areTwo 22 = .ok (.iload_n 1, 1) := by decide +kernel
theorem dX11_areTwo_23 : decode cX11_areTwo 23 = .ok (.iload_n 2, 1) := by decide +kernel
theorem dX11_areTwo_24 : decode cX11_areTwo 24 = .ok (.if_icmp .eq 7, 3) := by decide +kernel
theorem dX11_areTwo_27 : decode cX11_areTwo 27 = .ok (.iconst 1, 1) := by decide +kernel
theorem dX11_areTwo_28 : decode cX11_areTwo 28 = .ok (.goto 4, 3) := by decide +kernel
theorem dX11_areTwo_31 : decode cX11_areTwo 31 = .ok (.iconst 0, 1) := by decide +kernel
theorem dX11_areTwo_32 : decode cX11_areTwo 32 = .ok (.ireturn, 1) := by decide +kernel
theorem dX11_isIn_0 : decode cX11_isIn 0 = .ok (.iload_n 0, 1) := by decide +kernel
theorem dX11_isIn_1 : decode cX11_isIn 1 = .ok (.iload_n 1, 1) := by decide +kernel
theorem dX11_isIn_2 : decode cX11_isIn 2 = .ok (.iushr, 1) := by decide +kernel
theorem dX11_isIn_3 : decode cX11_isIn 3 = .ok (.iconst 1, 1) := by decide +kernel
theorem dX11_isIn_4 : decode cX11_isIn 4 = .ok (.iand, 1) := by decide +kernel
theorem dX11_isIn_5 : decode cX11_isIn 5 = .ok (.ifCond .eq 7, 3) := by decide +kernel
theorem dX11_isIn_8 : decode cX11_isIn 8 = .ok (.iconst 1, 1) := by decide +kernel
theorem dX11_isIn_9 : decode cX11_isIn 9 = .ok (.goto 4, 3) := by decide +kernel
theorem dX11_isIn_12 : decode cX11_isIn 12 = .ok (.iconst 0, 1) := by decide +kernel
theorem dX11_isIn_13 : decode cX11_isIn 13 = .ok (.ireturn, 1) := by decide +kernel
theorem dX11_without_0 : decode cX11_without 0 = .ok (.iload_n 0, 1) := by decide +kernel
theorem dX11_without_1 : decode cX11_without 1 = .ok (.iconst 1, 1) := by decide +kernel
theorem dX11_without_2 : decode cX11_without 2 = .ok (.iload_n 1, 1) := by decide +kernel
theorem dX11_without_3 : decode cX11_without 3 = .ok (.ishl, 1) := by decide +kernel
theorem dX11_without_4 : decode cX11_without 4 = .ok (.iconst (-1), 1) := by decide +kernel
theorem dX11_without_5 : decode cX11_without 5 = .ok (.ixor, 1) := by decide +kernel
theorem dX11_without_6 : decode cX11_without 6 = .ok (.iand, 1) := by decide +kernel
theorem dX11_without_7 : decode cX11_without 7 = .ok (.ireturn, 1) := by decide +kernel
theorem dX11_bring_0 : decode cX11_bring 0 = .ok (.iload_n 1, 1) := by decide +kernel
theorem dX11_bring_1 : decode cX11_bring 1 = .ok (.ifCond .lt 19, 3) := by decide +kernel
theorem dX11_bring_4 : decode cX11_bring 4 = .ok (.iload_n 1, 1) := by decide +kernel
theorem dX11_bring_5 : decode cX11_bring 5 = .ok (.bipush 6, 2) := by decide +kernel
theorem dX11_bring_7 : decode cX11_bring 7 = .ok (.if_icmp .ge 13, 3) := by decide +kernel
theorem dX11_bring_10 : decode cX11_bring 10 = .ok (.iload_n 2, 1) := by decide +kernel
theorem dX11_bring_11 : decode cX11_bring 11 = .ok (.ifCond .lt 9, 3) := by decide +kernel
theorem dX11_bring_14 : decode cX11_bring 14 = .ok (.iload_n 2, 1) := by decide +kernel
theorem dX11_bring_15 : decode cX11_bring 15 = .ok (.bipush 10, 2) := by decide +kernel
theorem dX11_bring_17 : decode cX11_bring 17 = .ok (.if_icmp .lt 6, 3) := by decide +kernel
theorem dX11_bring_20 : decode cX11_bring 20 = .ok (.bipush (-2), 2) := by decide +kernel
theorem dX11_bring_22 : decode cX11_bring 22 = .ok (.ireturn, 1) := by decide +kernel
theorem dX11_bring_23 : decode cX11_bring 23 = .ok (.aload_n 0, 1) := by decide +kernel
theorem dX11_bring_24 : decode cX11_bring 24 = .ok (.getfield 37, 3) := by decide +kernel
theorem dX11_bring_27 : decode cX11_bring 27 = .ok (.getfield 225, 3) := by decide +kernel
theorem dX11_bring_30 : decode cX11_bring 30 = .ok (.bipush 6, 2) := by decide +kernel
theorem dX11_bring_32 : decode cX11_bring 32 = .ok (.if_icmp .lt 6, 3) := by decide +kernel
theorem dX11_bring_35 : decode cX11_bring 35 = .ok (.bipush (-4), 2) := by decide +kernel
theorem dX11_bring_37 : decode cX11_bring 37 = .ok (.ireturn, 1) := by decide +kernel
theorem dX11_bring_38 : decode cX11_bring 38 = .ok (.aload_n 0, 1) := by decide +kernel
theorem dX11_bring_39 : decode cX11_bring 39 = .ok (.getfield 37, 3) := by decide +kernel
theorem dX11_bring_42 : decode cX11_bring 42 = .ok (.getfield 118, 3) := by decide +kernel
theorem dX11_bring_45 : decode cX11_bring 45 = .ok (.aload_n 0, 1) := by decide +kernel
theorem dX11_bring_46 : decode cX11_bring 46 = .ok (.getfield 37, 3) := by decide +kernel
theorem dX11_bring_49 : decode cX11_bring 49 = .ok (.getfield 225, 3) := by decide +kernel
theorem dX11_bring_52 : decode cX11_bring 52 = .ok (.aaload, 1) := by decide +kernel
theorem dX11_bring_53 : decode cX11_bring 53 = .ok (.aload_n 0, 1) := by decide +kernel
theorem dX11_bring_54 : decode cX11_bring 54 = .ok (.getfield 11, 3) := by decide +kernel
theorem dX11_bring_57 : decode cX11_bring 57 = .ok (.iload_n 1, 1) := by decide +kernel
theorem dX11_bring_58 : decode cX11_bring 58 = .ok (.aaload, 1) := by decide +kernel
theorem dX11_bring_59 : decode cX11_bring 59 = .ok (.iload_n 2, 1) := by decide +kernel
theorem dX11_bring_60 : decode cX11_bring 60 = .ok (.aload_n 0, 1) := by decide +kernel
theorem dX11_bring_61 : decode cX11_bring 61 = .ok (.getfield 37, 3) := by decide +kernel
theorem dX11_bring_64 : decode cX11_bring 64 = .ok (.getfield 115, 3) := by decide +kernel
theorem dX11_bring_67 : decode cX11_bring 67 = .ok (.invokevirtual 313, 3) := by decide +kernel
theorem dX11_bring_70 : decode cX11_bring 70 = .ok (.aload_n 0, 1) := by decide +kernel
theorem dX11_bring_71 : decode cX11_bring 71 = .ok (.getfield 37, 3) := by decide +kernel
theorem dX11_bring_74 : decode cX11_bring 74 = .ok (.dup, 1) := by decide +kernel
theorem dX11_bring_75 : decode cX11_bring 75 = .ok (.getfield 225, 3) := by decide +kernel
theorem dX11_bring_78 : decode cX11_bring 78 = .ok (.iconst 1, 1) := by decide +kernel
theorem dX11_bring_79 : decode cX11_bring 79 = .ok (.iadd, 1) := by decide +kernel
theorem dX11_bring_80 : decode cX11_bring 80 = .ok (.putfield 225, 3) := by decide +kernel
theorem dX11_bring_83 : decode cX11_bring 83 = .ok (.aload_n 0, 1) := by decide +kernel
theorem dX11_bring_84 : decode cX11_bring 84 = .ok (.getfield 37, 3) := by decide +kernel
theorem dX11_bring_87 : decode cX11_bring 87 = .ok (.getfield 225, 3) := by decide +kernel
theorem dX11_bring_90 : decode cX11_bring 90 = .ok (.iconst 1, 1) := by decide +kernel
theorem dX11_bring_91 : decode cX11_bring 91 = .ok (.isub, 1) := by decide +kernel
theorem dX11_bring_92 : decode cX11_bring 92 = .ok (.ireturn, 1) := by decide +kernel
theorem dX11_isUnder_0 : decode cX11_isUnder 0 = .ok (.iload_n 1, 1) := by decide +kernel
theorem dX11_isUnder_1 : decode cX11_isUnder 1 = .ok (.tableswitch 60 1 5 #[35, 40, 45, 50, 55], 35) := by decide +kernel
theorem dX11_isUnder_36 : decode cX11_isUnder 36 = .ok (.aload_n 0, 1) := by decide +kernel
theorem dX11_isUnder_37 : decode cX11_isUnder 37 = .ok (.instanceof 64, 3) := by decide +kernel
theorem dX11_isUnder_40 : decode cX11_isUnder 40 = .ok (.ireturn, 1) := by decide +kernel
theorem dX11_isUnder_41 : decode cX11_isUnder 41 = .ok (.aload_n 0, 1) := by decide +kernel
theorem dX11_isUnder_42 : decode cX11_isUnder 42 = .ok (.instanceof 67, 3) := by decide +kernel
theorem dX11_isUnder_45 : decode cX11_isUnder 45 = .ok (.ireturn, 1) := by decide +kernel
theorem dX11_isUnder_46 : decode cX11_isUnder 46 = .ok (.aload_n 0, 1) := by decide +kernel
theorem dX11_isUnder_47 : decode cX11_isUnder 47 = .ok (.instanceof 70, 3) := by decide +kernel
theorem dX11_isUnder_50 : decode cX11_isUnder 50 = .ok (.ireturn, 1) := by decide +kernel
theorem dX11_isUnder_51 : decode cX11_isUnder 51 = .ok (.aload_n 0, 1) := by decide +kernel
theorem dX11_isUnder_52 : decode cX11_isUnder 52 = .ok (.instanceof 73, 3) := by decide +kernel
theorem dX11_isUnder_55 : decode cX11_isUnder 55 = .ok (.ireturn, 1) := by decide +kernel
theorem dX11_isUnder_56 : decode cX11_isUnder 56 = .ok (.aload_n 0, 1) := by decide +kernel
theorem dX11_isUnder_57 : decode cX11_isUnder 57 = .ok (.instanceof 76, 3) := by decide +kernel
theorem dX11_isUnder_60 : decode cX11_isUnder 60 = .ok (.ireturn, 1) := by decide +kernel
theorem dX11_isUnder_61 : decode cX11_isUnder 61 = .ok (.iconst 1, 1) := by decide +kernel
theorem dX11_isUnder_62 : decode cX11_isUnder 62 = .ok (.ireturn, 1) := by decide +kernel
theorem dX11_worthOf_0 : decode cX11_worthOf 0 = .ok (.iconst 0, 1) := by decide +kernel
theorem dX11_worthOf_1 : decode cX11_worthOf 1 = .ok (.istore_n 2, 1) := by decide +kernel
theorem dX11_worthOf_2 : decode cX11_worthOf 2 = .ok (.iconst 0, 1) := by decide +kernel
theorem dX11_worthOf_3 : decode cX11_worthOf 3 = .ok (.istore_n 3, 1) := by decide +kernel
theorem dX11_worthOf_4 : decode cX11_worthOf 4 = .ok (.iload_n 3, 1) := by decide +kernel
theorem dX11_worthOf_5 : decode cX11_worthOf 5 = .ok (.bipush 8, 2) := by decide +kernel
theorem dX11_worthOf_7 : decode cX11_worthOf 7 = .ok (.if_icmp .ge 35, 3) := by decide +kernel
theorem dX11_worthOf_10 : decode cX11_worthOf 10 = .ok (.iload_n 1, 1) := by decide +kernel
theorem dX11_worthOf_11 : decode cX11_worthOf 11 = .ok (.iload_n 3, 1) := by decide +kernel
theorem dX11_worthOf_12 : decode cX11_worthOf 12 = .ok (.invokestatic 237, 3) := by decide +kernel
theorem dX11_worthOf_15 : decode cX11_worthOf 15 = .ok (.ifCond .eq 21, 3) := by decide +kernel
theorem dX11_worthOf_18 : decode cX11_worthOf 18 = .ok (.iload_n 2, 1) := by decide +kernel
theorem dX11_worthOf_19 : decode cX11_worthOf 19 = .ok (.aload_n 0, 1) := by decide +kernel
theorem dX11_worthOf_20 : decode cX11_worthOf 20 = .ok (.invokevirtual 156, 3) := by decide +kernel
theorem dX11_worthOf_23 : decode cX11_worthOf 23 = .ok (.iload_n 3, 1) := by decide +kernel
theorem dX11_worthOf_24 : decode cX11_worthOf 24 = .ok (.aload_n 0, 1) := by decide +kernel
theorem dX11_worthOf_25 : decode cX11_worthOf 25 = .ok (.getfield 37, 3) := by decide +kernel
theorem dX11_worthOf_28 : decode cX11_worthOf 28 = .ok (.getfield 115, 3) := by decide +kernel
theorem dX11_worthOf_31 : decode cX11_worthOf 31 = .ok (.invokevirtual 317, 3) := by decide +kernel
theorem dX11_worthOf_34 : decode cX11_worthOf 34 = .ok (.iadd, 1) := by decide +kernel
theorem dX11_worthOf_35 : decode cX11_worthOf 35 = .ok (.istore_n 2, 1) := by decide +kernel
theorem dX11_worthOf_36 : decode cX11_worthOf 36 = .ok (.iinc 3 1, 3) := by decide +kernel
theorem dX11_worthOf_39 : decode cX11_worthOf 39 = .ok (.goto (-35), 3) := by decide +kernel
theorem dX11_worthOf_42 : decode cX11_worthOf 42 = .ok (.iload_n 2, 1) := by decide +kernel
theorem dX11_worthOf_43 : decode cX11_worthOf 43 = .ok (.ireturn, 1) := by decide +kernel
theorem dX11_safeBehind_0 : decode cX11_safeBehind 0 = .ok (.iload_n 1, 1) := by decide +kernel
theorem dX11_safeBehind_1 : decode cX11_safeBehind 1 = .ok (.iload_n 2, 1) := by decide +kernel
theorem dX11_safeBehind_2 : decode cX11_safeBehind 2 = .ok (.if_icmp .eq 15, 3) := by decide +kernel
theorem dX11_safeBehind_5 : decode cX11_safeBehind 5 = .ok (.aload_n 0, 1) := by decide +kernel
theorem dX11_safeBehind_6 : decode cX11_safeBehind 6 = .ok (.getfield 37, 3) := by decide +kernel
theorem dX11_safeBehind_9 : decode cX11_safeBehind 9 = .ok (.iload_n 1, 1) := by decide +kernel
theorem dX11_safeBehind_10 : decode cX11_safeBehind 10 = .ok (.iload_n 2, 1) := by decide +kernel
theorem dX11_safeBehind_11 : decode cX11_safeBehind 11 = .ok (.invokevirtual 191, 3) := by decide +kernel
theorem dX11_safeBehind_14 : decode cX11_safeBehind 14 = .ok (.ifCond .ne 5, 3) := by decide +kernel
theorem dX11_safeBehind_17 : decode cX11_safeBehind 17 = .ok (.iconst (-1), 1) := by decide +kernel
theorem dX11_safeBehind_18 : decode cX11_safeBehind 18 = .ok (.ireturn, 1) := by decide +kernel
theorem dX11_safeBehind_19 : decode cX11_safeBehind 19 = .ok (.aload_n 0, 1) := by decide +kernel
theorem dX11_safeBehind_20 : decode cX11_safeBehind 20 = .ok (.getfield 44, 3) := by decide +kernel
theorem dX11_safeBehind_23 : decode cX11_safeBehind 23 = .ok (.aload_n 0, 1) := by decide +kernel
theorem dX11_safeBehind_24 : decode cX11_safeBehind 24 = .ok (.getfield 37, 3) := by decide +kernel
theorem dX11_safeBehind_27 : decode cX11_safeBehind 27 = .ok (.invokevirtual 230, 3) := by decide +kernel
theorem dX11_safeBehind_30 : decode cX11_safeBehind 30 = .ok (.aload_n 0, 1) := by decide +kernel
theorem dX11_safeBehind_31 : decode cX11_safeBehind 31 = .ok (.getfield 44, 3) := by decide +kernel
theorem dX11_safeBehind_34 : decode cX11_safeBehind 34 = .ok (.iload_n 1, 1) := by decide +kernel
theorem dX11_safeBehind_35 : decode cX11_safeBehind 35 = .ok (.iload_n 2, 1) := by decide +kernel
theorem dX11_safeBehind_36 : decode cX11_safeBehind 36 = .ok (.aload_n 0, 1) := by decide +kernel
theorem dX11_safeBehind_37 : decode cX11_safeBehind 37 = .ok (.invokevirtual 156, 3) := by decide +kernel
theorem dX11_safeBehind_40 : decode cX11_safeBehind 40 = .ok (.invokevirtual 194, 3) := by decide +kernel
theorem dX11_safeBehind_43 : decode cX11_safeBehind 43 = .ok (.pop, 1) := by decide +kernel
theorem dX11_safeBehind_44 : decode cX11_safeBehind 44 = .ok (.aload_n 0, 1) := by decide +kernel
theorem dX11_safeBehind_45 : decode cX11_safeBehind 45 = .ok (.getfield 44, 3) := by decide +kernel
theorem dX11_safeBehind_48 : decode cX11_safeBehind 48 = .ok (.iload_n 3, 1) := by decide +kernel
theorem dX11_safeBehind_49 : decode cX11_safeBehind 49 = .ok (.invokevirtual 219, 3) := by decide +kernel
theorem dX11_safeBehind_52 : decode cX11_safeBehind 52 = .ok (.invokestatic 151, 3) := by decide +kernel
theorem dX11_safeBehind_55 : decode cX11_safeBehind 55 = .ok (.ireturn, 1) := by decide +kernel
theorem dX11_comesToSafe_0 : decode cX11_comesToSafe 0 = .ok (.iload_n 1, 1) := by decide +kernel
theorem dX11_comesToSafe_1 : decode cX11_comesToSafe 1 = .ok (.aload_n 0, 1) := by decide +kernel
theorem dX11_comesToSafe_2 : decode cX11_comesToSafe 2 = .ok (.getfield 44, 3) := by decide +kernel
theorem dX11_comesToSafe_5 : decode cX11_comesToSafe 5 = .ok (.iload_n 2, 1) := by decide +kernel
theorem dX11_comesToSafe_6 : decode cX11_comesToSafe 6 = .ok (.invokevirtual 219, 3) := by decide +kernel
theorem dX11_comesToSafe_9 : decode cX11_comesToSafe 9 = .ok (.iconst (-1), 1) := by decide +kernel
theorem dX11_comesToSafe_10 : decode cX11_comesToSafe 10 = .ok (.ixor, 1) := by decide +kernel
theorem dX11_comesToSafe_11 : decode cX11_comesToSafe 11 = .ok (.iand, 1) := by decide +kernel
theorem dX11_comesToSafe_12 : decode cX11_comesToSafe 12 = .ok (.ifCond .ne 5, 3) := by decide +kernel
theorem dX11_comesToSafe_15 : decode cX11_comesToSafe 15 = .ok (.iconst 1, 1) := by decide +kernel
theorem dX11_comesToSafe_16 : decode cX11_comesToSafe 16 = .ok (.ireturn, 1) := by decide +kernel
theorem dX11_comesToSafe_17 : decode cX11_comesToSafe 17 = .ok (.iload_n 3, 1) := by decide +kernel
theorem dX11_comesToSafe_18 : decode cX11_comesToSafe 18 = .ok (.iconst 1, 1) := by decide +kernel
theorem dX11_comesToSafe_19 : decode cX11_comesToSafe 19 = .ok (.if_icmp .lt 8, 3) := by decide +kernel
theorem dX11_comesToSafe_22 : decode cX11_comesToSafe 22 = .ok (.iload_n 3, 1) := by decide +kernel
theorem dX11_comesToSafe_23 : decode cX11_comesToSafe 23 = .ok (.iconst 3, 1) := by decide +kernel
theorem dX11_comesToSafe_24 : decode cX11_comesToSafe 24 = .ok (.if_icmp .le 5, 3) := by decide +kernel
theorem dX11_comesToSafe_27 : decode cX11_comesToSafe 27 = .ok (.iconst 0, 1) := by decide +kernel
theorem dX11_comesToSafe_28 : decode cX11_comesToSafe 28 = .ok (.ireturn, 1) := by decide +kernel
theorem dX11_comesToSafe_29 : decode cX11_comesToSafe 29 = .ok (.iload_n 1, 1) := by decide +kernel
theorem dX11_comesToSafe_30 : decode cX11_comesToSafe 30 = .ok (.aload_n 0, 1) := by decide +kernel
theorem dX11_comesToSafe_31 : decode cX11_comesToSafe 31 = .ok (.getfield 44, 3) := by decide +kernel
theorem dX11_comesToSafe_34 : decode cX11_comesToSafe 34 = .ok (.iload_n 2, 1) := by decide +kernel
theorem dX11_comesToSafe_35 : decode cX11_comesToSafe 35 = .ok (.iload_n 3, 1) := by decide +kernel
theorem dX11_comesToSafe_36 : decode cX11_comesToSafe 36 = .ok (.isub, 1) := by decide +kernel
theorem dX11_comesToSafe_37 : decode cX11_comesToSafe 37 = .ok (.invokevirtual 219, 3) := by decide +kernel
theorem dX11_comesToSafe_40 : decode cX11_comesToSafe 40 = .ok (.iconst (-1), 1) := by decide +kernel
theorem dX11_comesToSafe_41 : decode cX11_comesToSafe 41 = .ok (.ixor, 1) := by decide +kernel
theorem dX11_comesToSafe_42 : decode cX11_comesToSafe 42 = .ok (.iand, 1) := by decide +kernel
theorem dX11_comesToSafe_43 : decode cX11_comesToSafe 43 = .ok (.ifCond .eq 5, 3) := by decide +kernel
theorem dX11_comesToSafe_46 : decode cX11_comesToSafe 46 = .ok (.iconst 0, 1) := by decide +kernel
theorem dX11_comesToSafe_47 : decode cX11_comesToSafe 47 = .ok (.ireturn, 1) := by decide +kernel
theorem dX11_comesToSafe_48 : decode cX11_comesToSafe 48 = .ok (.iload_n 1, 1) := by decide +kernel
theorem dX11_comesToSafe_49 : decode cX11_comesToSafe 49 = .ok (.aload_n 0, 1) := by decide +kernel
theorem dX11_comesToSafe_50 : decode cX11_comesToSafe 50 = .ok (.getfield 44, 3) := by decide +kernel
theorem dX11_comesToSafe_53 : decode cX11_comesToSafe 53 = .ok (.iload_n 2, 1) := by decide +kernel
theorem dX11_comesToSafe_54 : decode cX11_comesToSafe 54 = .ok (.iload_n 3, 1) := by decide +kernel
theorem dX11_comesToSafe_55 : decode cX11_comesToSafe 55 = .ok (.isub, 1) := by decide +kernel
theorem dX11_comesToSafe_56 : decode cX11_comesToSafe 56 = .ok (.iconst 1, 1) := by decide +kernel
theorem dX11_comesToSafe_57 : decode cX11_comesToSafe 57 = .ok (.iadd, 1) := by decide +kernel
theorem dX11_comesToSafe_58 : decode cX11_comesToSafe 58 = .ok (.invokevirtual 219, 3) := by decide +kernel
theorem dX11_comesToSafe_61 : decode cX11_comesToSafe 61 = .ok (.iconst (-1), 1) := by decide +kernel
theorem dX11_comesToSafe_62 : decode cX11_comesToSafe 62 = .ok (.ixor, 1) := by decide +kernel
theorem dX11_comesToSafe_63 : decode cX11_comesToSafe 63 = .ok (.iand, 1) := by decide +kernel
theorem dX11_comesToSafe_64 : decode cX11_comesToSafe 64 = .ok (.istore 4, 2) := by decide +kernel
theorem dX11_comesToSafe_66 : decode cX11_comesToSafe 66 = .ok (.iconst 0, 1) := by decide +kernel
theorem dX11_comesToSafe_67 : decode cX11_comesToSafe 67 = .ok (.istore 5, 2) := by decide +kernel
theorem dX11_comesToSafe_69 : decode cX11_comesToSafe 69 = .ok (.iload 5, 2) := by decide +kernel
theorem dX11_comesToSafe_71 : decode cX11_comesToSafe 71 = .ok (.aload_n 0, 1) := by decide +kernel
theorem dX11_comesToSafe_72 : decode cX11_comesToSafe 72 = .ok (.getfield 44, 3) := by decide +kernel
theorem dX11_comesToSafe_75 : decode cX11_comesToSafe 75 = .ok (.getfield 225, 3) := by decide +kernel
theorem dX11_comesToSafe_78 : decode cX11_comesToSafe 78 = .ok (.if_icmp .ge 66, 3) := by decide +kernel
theorem dX11_comesToSafe_81 : decode cX11_comesToSafe 81 = .ok (.iconst 0, 1) := by decide +kernel
theorem dX11_comesToSafe_82 : decode cX11_comesToSafe 82 = .ok (.istore 6, 2) := by decide +kernel
theorem dX11_comesToSafe_84 : decode cX11_comesToSafe 84 = .ok (.iload 6, 2) := by decide +kernel
theorem dX11_comesToSafe_86 : decode cX11_comesToSafe 86 = .ok (.aload_n 0, 1) := by decide +kernel
theorem dX11_comesToSafe_87 : decode cX11_comesToSafe 87 = .ok (.getfield 44, 3) := by decide +kernel
theorem dX11_comesToSafe_90 : decode cX11_comesToSafe 90 = .ok (.getfield 225, 3) := by decide +kernel
theorem dX11_comesToSafe_93 : decode cX11_comesToSafe 93 = .ok (.if_icmp .ge 45, 3) := by decide +kernel
theorem dX11_comesToSafe_96 : decode cX11_comesToSafe 96 = .ok (.iload 5, 2) := by decide +kernel
theorem dX11_comesToSafe_98 : decode cX11_comesToSafe 98 = .ok (.iload 6, 2) := by decide +kernel
theorem dX11_comesToSafe_100 : decode cX11_comesToSafe 100 = .ok (.if_icmp .eq 32, 3) := by decide +kernel
theorem dX11_comesToSafe_103 : decode cX11_comesToSafe 103 = .ok (.aload_n 0, 1) := by decide +kernel
theorem dX11_comesToSafe_104 : decode cX11_comesToSafe 104 = .ok (.iload 4, 2) := by decide +kernel
theorem dX11_comesToSafe_106 : decode cX11_comesToSafe 106 = .ok (.iload 5, 2) := by decide +kernel
theorem dX11_comesToSafe_108 : decode cX11_comesToSafe 108 = .ok (.iload 6, 2) := by decide +kernel
theorem dX11_comesToSafe_110 : decode cX11_comesToSafe 110 = .ok (.invokevirtual 320, 3) := by decide +kernel
theorem dX11_comesToSafe_113 : decode cX11_comesToSafe 113 = .ok (.ifCond .eq 19, 3) := by decide +kernel
theorem dX11_comesToSafe_116 : decode cX11_comesToSafe 116 = .ok (.aload_n 0, 1) := by decide +kernel
theorem dX11_comesToSafe_117 : decode cX11_comesToSafe 117 = .ok (.iload 5, 2) := by decide +kernel
theorem dX11_comesToSafe_119 : decode cX11_comesToSafe 119 = .ok (.iload 6, 2) := by decide +kernel
theorem dX11_comesToSafe_121 : decode cX11_comesToSafe 121 = .ok (.iload_n 1, 1) := by decide +kernel
theorem dX11_comesToSafe_122 : decode cX11_comesToSafe 122 = .ok (.iload_n 2, 1) := by decide +kernel
theorem dX11_comesToSafe_123 : decode cX11_comesToSafe 123 = .ok (.iload_n 3, 1) := by decide +kernel
theorem dX11_comesToSafe_124 : decode cX11_comesToSafe 124 = .ok (.invokevirtual 323, 3) := by decide +kernel
theorem dX11_comesToSafe_127 : decode cX11_comesToSafe 127 = .ok (.ifCond .eq 5, 3) := by decide +kernel
theorem dX11_comesToSafe_130 : decode cX11_comesToSafe 130 = .ok (.iconst 1, 1) := by decide +kernel
theorem dX11_comesToSafe_131 : decode cX11_comesToSafe 131 = .ok (.ireturn, 1) := by decide +kernel
theorem dX11_comesToSafe_132 : decode cX11_comesToSafe 132 = .ok (.iinc 6 1, 3) := by decide +kernel
theorem dX11_comesToSafe_135 : decode cX11_comesToSafe 135 = .ok (.goto (-51), 3) := by decide +kernel
theorem dX11_comesToSafe_138 : decode cX11_comesToSafe 138 = .ok (.iinc 5 1, 3) := by decide +kernel
theorem dX11_comesToSafe_141 : decode cX11_comesToSafe 141 = .ok (.goto (-72), 3) := by decide +kernel
theorem dX11_comesToSafe_144 : decode cX11_comesToSafe 144 = .ok (.iconst 0, 1) := by decide +kernel
theorem dX11_comesToSafe_145 : decode cX11_comesToSafe 145 = .ok (.ireturn, 1) := by decide +kernel
theorem dX11_bringsAll_0 : decode cX11_bringsAll 0 = .ok (.aload_n 0, 1) := by decide +kernel
theorem dX11_bringsAll_1 : decode cX11_bringsAll 1 = .ok (.getfield 44, 3) := by decide +kernel
theorem dX11_bringsAll_4 : decode cX11_bringsAll 4 = .ok (.getfield 118, 3) := by decide +kernel
theorem dX11_bringsAll_7 : decode cX11_bringsAll 7 = .ok (.iload_n 2, 1) := by decide +kernel
theorem dX11_bringsAll_8 : decode cX11_bringsAll 8 = .ok (.aaload, 1) := by decide +kernel
theorem dX11_bringsAll_9 : decode cX11_bringsAll 9 = .ok (.getfield 148, 3) := by decide +kernel
theorem dX11_bringsAll_12 : decode cX11_bringsAll 12 = .ok (.aload_n 0, 1) := by decide +kernel
theorem dX11_bringsAll_13 : decode cX11_bringsAll 13 = .ok (.getfield 44, 3) := by decide +kernel
theorem dX11_bringsAll_16 : decode cX11_bringsAll 16 = .ok (.getfield 118, 3) := by decide +kernel
theorem dX11_bringsAll_19 : decode cX11_bringsAll 19 = .ok (.iload_n 3, 1) := by decide +kernel
theorem dX11_bringsAll_20 : decode cX11_bringsAll 20 = .ok (.aaload, 1) := by decide +kernel
theorem dX11_bringsAll_21 : decode cX11_bringsAll 21 = .ok (.getfield 148, 3) := by decide +kernel
theorem dX11_bringsAll_24 : decode cX11_bringsAll 24 = .ok (.iconst (-1), 1) := by decide +kernel
theorem dX11_bringsAll_25 : decode cX11_bringsAll 25 = .ok (.ixor, 1) := by decide +kernel
theorem dX11_bringsAll_26 : decode cX11_bringsAll 26 = .ok (.iand, 1) := by decide +kernel
theorem dX11_bringsAll_27 : decode cX11_bringsAll 27 = .ok (.istore 4, 2) := by decide +kernel
theorem dX11_bringsAll_29 : decode cX11_bringsAll 29 = .ok (.iload_n 1, 1) := by decide +kernel
theorem dX11_bringsAll_30 : decode cX11_bringsAll 30 = .ok (.iload 4, 2) := by decide +kernel
theorem dX11_bringsAll_32 : decode cX11_bringsAll 32 = .ok (.iconst (-1), 1) := by decide +kernel
theorem dX11_bringsAll_33 : decode cX11_bringsAll 33 = .ok (.ixor, 1) := by decide +kernel
theorem dX11_bringsAll_34 : decode cX11_bringsAll 34 = .ok (.iand, 1) := by decide +kernel
theorem dX11_bringsAll_35 : decode cX11_bringsAll 35 = .ok (.ifCond .ne 19, 3) := by decide +kernel
theorem dX11_bringsAll_38 : decode cX11_bringsAll 38 = .ok (.aload_n 0, 1) := by decide +kernel
theorem dX11_bringsAll_39 : decode cX11_bringsAll 39 = .ok (.getfield 44, 3) := by decide +kernel
theorem dX11_bringsAll_42 : decode cX11_bringsAll 42 = .ok (.iload_n 2, 1) := by decide +kernel
theorem dX11_bringsAll_43 : decode cX11_bringsAll 43 = .ok (.iload_n 3, 1) := by decide +kernel
theorem dX11_bringsAll_44 : decode cX11_bringsAll 44 = .ok (.invokevirtual 191, 3) := by decide +kernel
theorem dX11_bringsAll_47 : decode cX11_bringsAll 47 = .ok (.ifCond .eq 7, 3) := by decide +kernel
theorem dX11_bringsAll_50 : decode cX11_bringsAll 50 = .ok (.iconst 1, 1) := by decide +kernel
theorem dX11_bringsAll_51 : decode cX11_bringsAll 51 = .ok (.goto 4, 3) := by decide +kernel
theorem dX11_bringsAll_54 : decode cX11_bringsAll 54 = .ok (.iconst 0, 1) := by decide +kernel
theorem dX11_bringsAll_55 : decode cX11_bringsAll 55 = .ok (.ireturn, 1) := by decide +kernel
theorem dX11_leadsToSafe_0 : decode cX11_leadsToSafe 0 = .ok (.aload_n 0, 1) := by decide +kernel
theorem dX11_leadsToSafe_1 : decode cX11_leadsToSafe 1 = .ok (.getfield 44, 3) := by decide +kernel
theorem dX11_leadsToSafe_4 : decode cX11_leadsToSafe 4 = .ok (.getfield 118, 3) := by decide +kernel
theorem dX11_leadsToSafe_7 : decode cX11_leadsToSafe 7 = .ok (.iload_n 2, 1) := by decide +kernel
theorem dX11_leadsToSafe_8 : decode cX11_leadsToSafe 8 = .ok (.aaload, 1) := by decide +kernel
theorem dX11_leadsToSafe_9 : decode cX11_leadsToSafe 9 = .ok (.astore 6, 2) := by decide +kernel
theorem dX11_leadsToSafe_11 : decode cX11_leadsToSafe 11 = .ok (.aload_n 0, 1) := by decide +kernel
theorem dX11_leadsToSafe_12 : decode cX11_leadsToSafe 12 = .ok (.getfield 49, 3) := by decide +kernel
theorem dX11_leadsToSafe_15 : decode cX11_leadsToSafe 15 = .ok (.iload 5, 2) := by decide +kernel
theorem dX11_leadsToSafe_17 : decode cX11_leadsToSafe 17 = .ok (.iconst 1, 1) := by decide +kernel
theorem dX11_leadsToSafe_18 : decode cX11_leadsToSafe 18 = .ok (.isub, 1) := by decide +kernel
theorem dX11_leadsToSafe_19 : decode cX11_leadsToSafe 19 = .ok (.aaload, 1) := by decide +kernel
theorem dX11_leadsToSafe_20 : decode cX11_leadsToSafe 20 = .ok (.aload 6, 2) := by decide +kernel
theorem dX11_leadsToSafe_22 : decode cX11_leadsToSafe 22 = .ok (.invokevirtual 327, 3) := by decide +kernel
theorem dX11_leadsToSafe_25 : decode cX11_leadsToSafe 25 = .ok (.aload_n 0, 1) := by decide +kernel
theorem dX11_leadsToSafe_26 : decode cX11_leadsToSafe 26 = .ok (.getfield 44, 3) := by decide +kernel
theorem dX11_leadsToSafe_29 : decode cX11_leadsToSafe 29 = .ok (.iload_n 1, 1) := by decide +kernel
theorem dX11_leadsToSafe_30 : decode cX11_leadsToSafe 30 = .ok (.iload_n 2, 1) := by decide +kernel
theorem dX11_leadsToSafe_31 : decode cX11_leadsToSafe 31 = .ok (.aload_n 0, 1) := by decide +kernel
theorem dX11_leadsToSafe_32 : decode cX11_leadsToSafe 32 = .ok (.invokevirtual 156, 3) := by decide +kernel
theorem dX11_leadsToSafe_35 : decode cX11_leadsToSafe 35 = .ok (.invokevirtual 194, 3) := by decide +kernel
theorem dX11_leadsToSafe_38 : decode cX11_leadsToSafe 38 = .ok (.ifCond .le 21, 3) := by decide +kernel
theorem dX11_leadsToSafe_41 : decode cX11_leadsToSafe 41 = .ok (.aload_n 0, 1) := by decide +kernel
theorem dX11_leadsToSafe_42 : decode cX11_leadsToSafe 42 = .ok (.iload_n 3, 1) := by decide +kernel
theorem dX11_leadsToSafe_43 : decode cX11_leadsToSafe 43 = .ok (.iload 4, 2) := by decide +kernel
theorem dX11_leadsToSafe_45 : decode cX11_leadsToSafe 45 = .ok (.iload 5, 2) := by decide +kernel
theorem dX11_leadsToSafe_47 : decode cX11_leadsToSafe 47 = .ok (.iconst 1, 1) := by decide +kernel
theorem dX11_leadsToSafe_48 : decode cX11_leadsToSafe 48 = .ok (.isub, 1) := by decide +kernel
theorem dX11_leadsToSafe_49 : decode cX11_leadsToSafe 49 = .ok (.invokevirtual 233, 3) := by decide +kernel
theorem dX11_leadsToSafe_52 : decode cX11_leadsToSafe 52 = .ok (.ifCond .eq 7, 3) := by decide +kernel
theorem dX11_leadsToSafe_55 : decode cX11_leadsToSafe 55 = .ok (.iconst 1, 1) := by decide +kernel
theorem dX11_leadsToSafe_56 : decode cX11_leadsToSafe 56 = .ok (.goto 4, 3) := by decide +kernel
theorem dX11_leadsToSafe_59 : decode cX11_leadsToSafe 59 = .ok (.iconst 0, 1) := by decide +kernel
theorem dX11_leadsToSafe_60 : decode cX11_leadsToSafe 60 = .ok (.istore 7, 2) := by decide +kernel
theorem dX11_leadsToSafe_62 : decode cX11_leadsToSafe 62 = .ok (.aload 6, 2) := by decide +kernel
theorem dX11_leadsToSafe_64 : decode cX11_leadsToSafe 64 = .ok (.aload_n 0, 1) := by decide +kernel
theorem dX11_leadsToSafe_65 : decode cX11_leadsToSafe 65 = .ok (.getfield 49, 3) := by decide +kernel
theorem dX11_leadsToSafe_68 : decode cX11_leadsToSafe 68 = .ok (.iload 5, 2) := by decide +kernel
theorem dX11_leadsToSafe_70 : decode cX11_leadsToSafe 70 = .ok (.iconst 1, 1) := by decide +kernel
theorem dX11_leadsToSafe_71 : decode cX11_leadsToSafe 71 = .ok (.isub, 1) := by decide +kernel
theorem dX11_leadsToSafe_72 : decode cX11_leadsToSafe 72 = .ok (.aaload, 1) := by decide +kernel
theorem dX11_leadsToSafe_73 : decode cX11_leadsToSafe 73 = .ok (.invokevirtual 327, 3) := by decide +kernel
theorem dX11_leadsToSafe_76 : decode cX11_leadsToSafe 76 = .ok (.iload 7, 2) := by decide +kernel
theorem dX11_leadsToSafe_78 : decode cX11_leadsToSafe 78 = .ok (.ireturn, 1) := by decide +kernel
theorem dX11_tellsDisks_0 : decode cX11_tellsDisks 0 = .ok (.iconst 0, 1) := by decide +kernel
theorem dX11_tellsDisks_1 : decode cX11_tellsDisks 1 = .ok (.istore_n 2, 1) := by decide +kernel
theorem dX11_tellsDisks_2 : decode cX11_tellsDisks 2 = .ok (.iload_n 2, 1) := by decide +kernel
theorem dX11_tellsDisks_3 : decode cX11_tellsDisks 3 = .ok (.aload_n 1, 1) := by decide +kernel
theorem dX11_tellsDisks_4 : decode cX11_tellsDisks 4 = .ok (.getfield 250, 3) := by decide +kernel
theorem dX11_tellsDisks_7 : decode cX11_tellsDisks 7 = .ok (.if_icmp .ge 27, 3) := by decide +kernel
theorem dX11_tellsDisks_10 : decode cX11_tellsDisks 10 = .ok (.aload_n 0, 1) := by decide +kernel
theorem dX11_tellsDisks_11 : decode cX11_tellsDisks 11 = .ok (.getfield 37, 3) := by decide +kernel
theorem dX11_tellsDisks_14 : decode cX11_tellsDisks 14 = .ok (.aload_n 1, 1) := by decide +kernel
theorem dX11_tellsDisks_15 : decode cX11_tellsDisks 15 = .ok (.getfield 300, 3) := by decide +kernel
theorem dX11_tellsDisks_18 : decode cX11_tellsDisks 18 = .ok (.iload_n 2, 1) := by decide +kernel
theorem dX11_tellsDisks_19 : decode cX11_tellsDisks 19 = .ok (.iaload, 1) := by decide +kernel
theorem dX11_tellsDisks_20 : decode cX11_tellsDisks 20 = .ok (.invokevirtual 112, 3) := by decide +kernel
theorem dX11_tellsDisks_23 : decode cX11_tellsDisks 23 = .ok (.ifCond .ne 5, 3) := by decide +kernel
theorem dX11_tellsDisks_26 : decode cX11_tellsDisks 26 = .ok (.iconst 0, 1) := by decide +kernel
theorem dX11_tellsDisks_27 : decode cX11_tellsDisks 27 = .ok (.ireturn, 1) := by decide +kernel
theorem dX11_tellsDisks_28 : decode cX11_tellsDisks 28 = .ok (.iinc 2 1, 3) := by decide +kernel
theorem dX11_tellsDisks_31 : decode cX11_tellsDisks 31 = .ok (.goto (-29), 3) := by decide +kernel
theorem dX11_tellsDisks_34 : decode cX11_tellsDisks 34 = .ok (.iconst 1, 1) := by decide +kernel
theorem dX11_tellsDisks_35 : decode cX11_tellsDisks 35 = .ok (.ireturn, 1) := by decide +kernel
theorem dX11_copyInThought_0 : decode cX11_copyInThought 0 = .ok (.iconst 0, 1) := by decide +kernel
theorem dX11_copyInThought_1 : decode cX11_copyInThought 1 = .ok (.istore_n 2, 1) := by decide +kernel
theorem dX11_copyInThought_2 : decode cX11_copyInThought 2 = .ok (.iconst 2, 1) := by decide +kernel
theorem dX11_copyInThought_3 : decode cX11_copyInThought 3 = .ok (.iload_n 2, 1) := by decide +kernel
theorem dX11_copyInThought_4 : decode cX11_copyInThought 4 = .ok (.imul, 1) := by decide +kernel
theorem dX11_copyInThought_5 : decode cX11_copyInThought 5 = .ok (.iconst 1, 1) := by decide +kernel
theorem dX11_copyInThought_6 : decode cX11_copyInThought 6 = .ok (.iadd, 1) := by decide +kernel
theorem dX11_copyInThought_7 : decode cX11_copyInThought 7 = .ok (.aload_n 1, 1) := by decide +kernel
theorem dX11_copyInThought_8 : decode cX11_copyInThought 8 = .ok (.getfield 250, 3) := by decide +kernel
theorem dX11_copyInThought_11 : decode cX11_copyInThought 11 = .ok (.if_icmp .ge 70, 3) := by decide +kernel
theorem dX11_copyInThought_14 : decode cX11_copyInThought 14 = .ok (.aload_n 1, 1) := by decide +kernel
theorem dX11_copyInThought_15 : decode cX11_copyInThought 15 = .ok (.getfield 300, 3) := by decide +kernel
theorem dX11_copyInThought_18 : decode cX11_copyInThought 18 = .ok (.iconst 2, 1) := by decide +kernel
theorem dX11_copyInThought_19 : decode cX11_copyInThought 19 = .ok (.iload_n 2, 1) := by decide +kernel
theorem dX11_copyInThought_20 : decode cX11_copyInThought 20 = .ok (.imul, 1) := by decide +kernel
theorem dX11_copyInThought_21 : decode cX11_copyInThought 21 = .ok (.iaload, 1) := by decide +kernel
theorem dX11_copyInThought_22 : decode cX11_copyInThought 22 = .ok (.istore_n 3, 1) := by decide +kernel
theorem dX11_copyInThought_23 : decode cX11_copyInThought 23 = .ok (.aload_n 1, 1) := by decide +kernel
theorem dX11_copyInThought_24 : decode cX11_copyInThought 24 = .ok (.getfield 300, 3) := by decide +kernel
theorem dX11_copyInThought_27 : decode cX11_copyInThought 27 = .ok (.iconst 2, 1) := by decide +kernel
theorem dX11_copyInThought_28 : decode cX11_copyInThought 28 = .ok (.iload_n 2, 1) := by decide +kernel
theorem dX11_copyInThought_29 : decode cX11_copyInThought 29 = .ok (.imul, 1) := by decide +kernel
theorem dX11_copyInThought_30 : decode cX11_copyInThought 30 = .ok (.iconst 1, 1) := by decide +kernel
theorem dX11_copyInThought_31 : decode cX11_copyInThought 31 = .ok (.iadd, 1) := by decide +kernel
theorem dX11_copyInThought_32 : decode cX11_copyInThought 32 = .ok (.iaload, 1) := by decide +kernel
theorem dX11_copyInThought_33 : decode cX11_copyInThought 33 = .ok (.istore 4, 2) := by decide +kernel
theorem dX11_copyInThought_35 : decode cX11_copyInThought 35 = .ok (.aload_n 0, 1) := by decide +kernel
theorem dX11_copyInThought_36 : decode cX11_copyInThought 36 = .ok (.iload_n 3, 1) := by decide +kernel
theorem dX11_copyInThought_37 : decode cX11_copyInThought 37 = .ok (.iload 4, 2) := by decide +kernel
theorem dX11_copyInThought_39 : decode cX11_copyInThought 39 = .ok (.invokevirtual 187, 3) := by decide +kernel
theorem dX11_copyInThought_42 : decode cX11_copyInThought 42 = .ok (.ifCond .eq 16, 3) := by decide +kernel
theorem dX11_copyInThought_45 : decode cX11_copyInThought 45 = .ok (.aload_n 0, 1) := by decide +kernel
theorem dX11_copyInThought_46 : decode cX11_copyInThought 46 = .ok (.getfield 44, 3) := by decide +kernel
theorem dX11_copyInThought_49 : decode cX11_copyInThought 49 = .ok (.iload_n 3, 1) := by decide +kernel
theorem dX11_copyInThought_50 : decode cX11_copyInThought 50 = .ok (.iload 4, 2) := by decide +kernel
theorem dX11_copyInThought_52 : decode cX11_copyInThought 52 = .ok (.invokevirtual 191, 3) := by decide +kernel
theorem dX11_copyInThought_55 : decode cX11_copyInThought 55 = .ok (.ifCond .ne 5, 3) := by decide +kernel
theorem dX11_copyInThought_58 : decode cX11_copyInThought 58 = .ok (.iload_n 2, 1) := by decide +kernel
theorem dX11_copyInThought_59 : decode cX11_copyInThought 59 = .ok (.ireturn, 1) := by decide +kernel
theorem dX11_copyInThought_60 : decode cX11_copyInThought 60 = .ok (.aload_n 0, 1) := by decide +kernel
theorem dX11_copyInThought_61 : decode cX11_copyInThought 61 = .ok (.getfield 44, 3) := by decide +kernel
theorem dX11_copyInThought_64 : decode cX11_copyInThought 64 = .ok (.iload_n 3, 1) := by decide +kernel
theorem dX11_copyInThought_65 : decode cX11_copyInThought 65 = .ok (.iload 4, 2) := by decide +kernel
theorem dX11_copyInThought_67 : decode cX11_copyInThought 67 = .ok (.aload_n 0, 1) := by decide +kernel
theorem dX11_copyInThought_68 : decode cX11_copyInThought 68 = .ok (.invokevirtual 156, 3) := by decide +kernel
theorem dX11_copyInThought_71 : decode cX11_copyInThought 71 = .ok (.invokevirtual 194, 3) := by decide +kernel
theorem dX11_copyInThought_74 : decode cX11_copyInThought 74 = .ok (.pop, 1) := by decide +kernel
theorem dX11_copyInThought_75 : decode cX11_copyInThought 75 = .ok (.iinc 2 1, 3) := by decide +kernel
theorem dX11_copyInThought_78 : decode cX11_copyInThought 78 = .ok (.goto (-76), 3) := by decide +kernel
theorem dX11_copyInThought_81 : decode cX11_copyInThought 81 = .ok (.iconst (-1), 1) := by decide +kernel
theorem dX11_copyInThought_82 : decode cX11_copyInThought 82 = .ok (.ireturn, 1) := by decide +kernel
theorem dX11_otherwise_0 : decode cX11_otherwise 0 = .ok (.iconst 0, 1) := by decide +kernel
theorem dX11_otherwise_1 : decode cX11_otherwise 1 = .ok (.istore_n 2, 1) := by decide +kernel
theorem dX11_otherwise_2 : decode cX11_otherwise 2 = .ok (.iconst 0, 1) := by decide +kernel
theorem dX11_otherwise_3 : decode cX11_otherwise 3 = .ok (.istore_n 3, 1) := by decide +kernel
theorem dX11_otherwise_4 : decode cX11_otherwise 4 = .ok (.iload_n 3, 1) := by decide +kernel
theorem dX11_otherwise_5 : decode cX11_otherwise 5 = .ok (.bipush 8, 2) := by decide +kernel
theorem dX11_otherwise_7 : decode cX11_otherwise 7 = .ok (.if_icmp .ge 30, 3) := by decide +kernel
theorem dX11_otherwise_10 : decode cX11_otherwise 10 = .ok (.aload_n 0, 1) := by decide +kernel
theorem dX11_otherwise_11 : decode cX11_otherwise 11 = .ok (.getfield 165, 3) := by decide +kernel
theorem dX11_otherwise_14 : decode cX11_otherwise 14 = .ok (.iload_n 3, 1) := by decide +kernel
theorem dX11_otherwise_15 : decode cX11_otherwise 15 = .ok (.iaload, 1) := by decide +kernel
theorem dX11_otherwise_16 : decode cX11_otherwise 16 = .ok (.aload_n 1, 1) := by decide +kernel
theorem dX11_otherwise_17 : decode cX11_otherwise 17 = .ok (.getfield 300, 3) := by decide +kernel
theorem dX11_otherwise_20 : decode cX11_otherwise 20 = .ok (.iload_n 3, 1) := by decide +kernel
theorem dX11_otherwise_21 : decode cX11_otherwise 21 = .ok (.iaload, 1) := by decide +kernel
theorem dX11_otherwise_22 : decode cX11_otherwise 22 = .ok (.if_icmp .eq 9, 3) := by decide +kernel
theorem dX11_otherwise_25 : decode cX11_otherwise 25 = .ok (.iload_n 2, 1) := by decide +kernel
theorem dX11_otherwise_26 : decode cX11_otherwise 26 = .ok (.iconst 1, 1) := by decide +kernel
theorem dX11_otherwise_27 : decode cX11_otherwise 27 = .ok (.iload_n 3, 1) := by decide +kernel
theorem dX11_otherwise_28 : decode cX11_otherwise 28 = .ok (.ishl, 1) := by decide +kernel
theorem dX11_otherwise_29 : decode cX11_otherwise 29 = .ok (.ior, 1) := by decide +kernel
theorem dX11_otherwise_30 : decode cX11_otherwise 30 = .ok (.istore_n 2, 1) := by decide +kernel
theorem dX11_otherwise_31 : decode cX11_otherwise 31 = .ok (.iinc 3 1, 3) := by decide +kernel
theorem dX11_otherwise_34 : decode cX11_otherwise 34 = .ok (.goto (-30), 3) := by decide +kernel
theorem dX11_otherwise_37 : decode cX11_otherwise 37 = .ok (.iload_n 2, 1) := by decide +kernel
theorem dX11_otherwise_38 : decode cX11_otherwise 38 = .ok (.ireturn, 1) := by decide +kernel
theorem dX11_comesToTold_0 : decode cX11_comesToTold 0 = .ok (.aload_n 0, 1) := by decide +kernel
theorem dX11_comesToTold_1 : decode cX11_comesToTold 1 = .ok (.getfield 44, 3) := by decide +kernel
theorem dX11_comesToTold_4 : decode cX11_comesToTold 4 = .ok (.iload_n 3, 1) := by decide +kernel
theorem dX11_comesToTold_5 : decode cX11_comesToTold 5 = .ok (.iload_n 2, 1) := by decide +kernel
theorem dX11_comesToTold_6 : decode cX11_comesToTold 6 = .ok (.invokevirtual 191, 3) := by decide +kernel
theorem dX11_comesToTold_9 : decode cX11_comesToTold 9 = .ok (.ifCond .ne 5, 3) := by decide +kernel
theorem dX11_comesToTold_12 : decode cX11_comesToTold 12 = .ok (.iconst 0, 1) := by decide +kernel
theorem dX11_comesToTold_13 : decode cX11_comesToTold 13 = .ok (.ireturn, 1) := by decide +kernel
theorem dX11_comesToTold_14 : decode cX11_comesToTold 14 = .ok (.aload_n 0, 1) := by decide +kernel
theorem dX11_comesToTold_15 : decode cX11_comesToTold 15 = .ok (.getfield 44, 3) := by decide +kernel
theorem dX11_comesToTold_18 : decode cX11_comesToTold 18 = .ok (.iload_n 3, 1) := by decide +kernel
theorem dX11_comesToTold_19 : decode cX11_comesToTold 19 = .ok (.iload_n 2, 1) := by decide +kernel
theorem dX11_comesToTold_20 : decode cX11_comesToTold 20 = .ok (.aload 4, 2) := by decide +kernel
theorem dX11_comesToTold_22 : decode cX11_comesToTold 22 = .ok (.invokevirtual 194, 3) := by decide +kernel
theorem dX11_comesToTold_25 : decode cX11_comesToTold 25 = .ok (.pop, 1) := by decide +kernel
theorem dX11_comesToTold_26 : decode cX11_comesToTold 26 = .ok (.aload_n 0, 1) := by decide +kernel
theorem dX11_comesToTold_27 : decode cX11_comesToTold 27 = .ok (.getfield 44, 3) := by decide +kernel
theorem dX11_comesToTold_30 : decode cX11_comesToTold 30 = .ok (.getfield 118, 3) := by decide +kernel
theorem dX11_comesToTold_33 : decode cX11_comesToTold 33 = .ok (.iload_n 2, 1) := by decide +kernel
theorem dX11_comesToTold_34 : decode cX11_comesToTold 34 = .ok (.aaload, 1) := by decide +kernel
theorem dX11_comesToTold_35 : decode cX11_comesToTold 35 = .ok (.aload_n 1, 1) := by decide +kernel
theorem dX11_comesToTold_36 : decode cX11_comesToTold 36 = .ok (.invokestatic 259, 3) := by decide +kernel
theorem dX11_comesToTold_39 : decode cX11_comesToTold 39 = .ok (.ifCond .ne 7, 3) := by decide +kernel
theorem dX11_comesToTold_42 : decode cX11_comesToTold 42 = .ok (.iconst 1, 1) := by decide +kernel
theorem dX11_comesToTold_43 : decode cX11_comesToTold 43 = .ok (.goto 4, 3) := by decide +kernel
theorem dX11_comesToTold_46 : decode cX11_comesToTold 46 = .ok (.iconst 0, 1) := by decide +kernel
theorem dX11_comesToTold_47 : decode cX11_comesToTold 47 = .ok (.ireturn, 1) := by decide +kernel
theorem dX11_kindsTold_0 : decode cX11_kindsTold 0 = .ok (.iconst 0, 1) := by decide +kernel
theorem dX11_kindsTold_1 : decode cX11_kindsTold 1 = .ok (.istore 4, 2) := by decide +kernel
theorem dX11_kindsTold_3 : decode cX11_kindsTold 3 = .ok (.iconst 0, 1) := by decide +kernel
theorem dX11_kindsTold_4 : decode cX11_kindsTold 4 = .ok (.istore 5, 2) := by decide +kernel
theorem dX11_kindsTold_6 : decode cX11_kindsTold 6 = .ok (.iload 5, 2) := by decide +kernel
theorem dX11_kindsTold_8 : decode cX11_kindsTold 8 = .ok (.bipush 6, 2) := by decide +kernel
theorem dX11_kindsTold_10 : decode cX11_kindsTold 10 = .ok (.if_icmp .ge 62, 3) := by decide +kernel
theorem dX11_kindsTold_13 : decode cX11_kindsTold 13 = .ok (.aload_n 0, 1) := by decide +kernel
theorem dX11_kindsTold_14 : decode cX11_kindsTold 14 = .ok (.getfield 44, 3) := by decide +kernel
theorem dX11_kindsTold_17 : decode cX11_kindsTold 17 = .ok (.aload_n 0, 1) := by decide +kernel
theorem dX11_kindsTold_18 : decode cX11_kindsTold 18 = .ok (.getfield 37, 3) := by decide +kernel
theorem dX11_kindsTold_21 : decode cX11_kindsTold 21 = .ok (.invokevirtual 230, 3) := by decide +kernel
theorem dX11_kindsTold_24 : decode cX11_kindsTold 24 = .ok (.aload_n 0, 1) := by decide +kernel
theorem dX11_kindsTold_25 : decode cX11_kindsTold 25 = .ok (.getfield 44, 3) := by decide +kernel
theorem dX11_kindsTold_28 : decode cX11_kindsTold 28 = .ok (.getfield 118, 3) := by decide +kernel
theorem dX11_kindsTold_31 : decode cX11_kindsTold 31 = .ok (.iload_n 2, 1) := by decide +kernel
theorem dX11_kindsTold_32 : decode cX11_kindsTold 32 = .ok (.aaload, 1) := by decide +kernel
theorem dX11_kindsTold_33 : decode cX11_kindsTold 33 = .ok (.aload_n 0, 1) := by decide +kernel
theorem dX11_kindsTold_34 : decode cX11_kindsTold 34 = .ok (.getfield 11, 3) := by decide +kernel
theorem dX11_kindsTold_37 : decode cX11_kindsTold 37 = .ok (.iload 5, 2) := by decide +kernel
theorem dX11_kindsTold_39 : decode cX11_kindsTold 39 = .ok (.aaload, 1) := by decide +kernel
theorem dX11_kindsTold_40 : decode cX11_kindsTold 40 = .ok (.putfield 131, 3) := by decide +kernel
theorem dX11_kindsTold_43 : decode cX11_kindsTold 43 = .ok (.aload_n 0, 1) := by decide +kernel
theorem dX11_kindsTold_44 : decode cX11_kindsTold 44 = .ok (.aload_n 1, 1) := by decide +kernel
theorem dX11_kindsTold_45 : decode cX11_kindsTold 45 = .ok (.iload_n 2, 1) := by decide +kernel
theorem dX11_kindsTold_46 : decode cX11_kindsTold 46 = .ok (.iload_n 3, 1) := by decide +kernel
theorem dX11_kindsTold_47 : decode cX11_kindsTold 47 = .ok (.aload_n 0, 1) := by decide +kernel
theorem dX11_kindsTold_48 : decode cX11_kindsTold 48 = .ok (.invokevirtual 156, 3) := by decide +kernel
theorem dX11_kindsTold_51 : decode cX11_kindsTold 51 = .ok (.invokevirtual 330, 3) := by decide +kernel
theorem dX11_kindsTold_54 : decode cX11_kindsTold 54 = .ok (.ifCond .eq 12, 3) := by decide +kernel
theorem dX11_kindsTold_57 : decode cX11_kindsTold 57 = .ok (.iload 4, 2) := by decide +kernel
theorem dX11_kindsTold_59 : decode cX11_kindsTold 59 = .ok (.iconst 1, 1) := by decide +kernel
theorem dX11_kindsTold_60 : decode cX11_kindsTold 60 = .ok (.iload 5, 2) := by decide +kernel
theorem dX11_kindsTold_62 : decode cX11_kindsTold 62 = .ok (.ishl, 1) := by decide +kernel
theorem dX11_kindsTold_63 : decode cX11_kindsTold 63 = .ok (.ior, 1) := by decide +kernel
theorem dX11_kindsTold_64 : decode cX11_kindsTold 64 = .ok (.istore 4, 2) := by decide +kernel
theorem dX11_kindsTold_66 : decode cX11_kindsTold 66 = .ok (.iinc 5 1, 3) := by decide +kernel
theorem dX11_kindsTold_69 : decode cX11_kindsTold 69 = .ok (.goto (-63), 3) := by decide +kernel
theorem dX11_kindsTold_72 : decode cX11_kindsTold 72 = .ok (.iload 4, 2) := by decide +kernel
theorem dX11_kindsTold_74 : decode cX11_kindsTold 74 = .ok (.ireturn, 1) := by decide +kernel
theorem dX11_numbersTold_0 : decode cX11_numbersTold 0 = .ok (.iconst 0, 1) := by decide +kernel
theorem dX11_numbersTold_1 : decode cX11_numbersTold 1 = .ok (.istore 4, 2) := by decide +kernel
theorem dX11_numbersTold_3 : decode cX11_numbersTold 3 = .ok (.iconst 0, 1) := by decide +kernel
theorem dX11_numbersTold_4 : decode cX11_numbersTold 4 = .ok (.istore 5, 2) := by decide +kernel
theorem dX11_numbersTold_6 : decode cX11_numbersTold 6 = .ok (.iload 5, 2) := by decide +kernel
theorem dX11_numbersTold_8 : decode cX11_numbersTold 8 = .ok (.bipush 10, 2) := by decide +kernel
theorem dX11_numbersTold_10 : decode cX11_numbersTold 10 = .ok (.if_icmp .ge 57, 3) := by decide +kernel
theorem dX11_numbersTold_13 : decode cX11_numbersTold 13 = .ok (.aload_n 0, 1) := by decide +kernel
theorem dX11_numbersTold_14 : decode cX11_numbersTold 14 = .ok (.getfield 44, 3) := by decide +kernel
theorem dX11_numbersTold_17 : decode cX11_numbersTold 17 = .ok (.aload_n 0, 1) := by decide +kernel
theorem dX11_numbersTold_18 : decode cX11_numbersTold 18 = .ok (.getfield 37, 3) := by decide +kernel
theorem dX11_numbersTold_21 : decode cX11_numbersTold 21 = .ok (.invokevirtual 230, 3) := by decide +kernel
theorem dX11_numbersTold_24 : decode cX11_numbersTold 24 = .ok (.aload_n 0, 1) := by decide +kernel
theorem dX11_numbersTold_25 : decode cX11_numbersTold 25 = .ok (.getfield 44, 3) := by decide +kernel
theorem dX11_numbersTold_28 : decode cX11_numbersTold 28 = .ok (.getfield 118, 3) := by decide +kernel
theorem dX11_numbersTold_31 : decode cX11_numbersTold 31 = .ok (.iload_n 2, 1) := by decide +kernel
theorem dX11_numbersTold_32 : decode cX11_numbersTold 32 = .ok (.aaload, 1) := by decide +kernel
theorem dX11_numbersTold_33 : decode cX11_numbersTold 33 = .ok (.iload 5, 2) := by decide +kernel
theorem dX11_numbersTold_35 : decode cX11_numbersTold 35 = .ok (.putfield 121, 3) := by decide +kernel
theorem dX11_numbersTold_38 : decode cX11_numbersTold 38 = .ok (.aload_n 0, 1) := by decide +kernel
theorem dX11_numbersTold_39 : decode cX11_numbersTold 39 = .ok (.aload_n 1, 1) := by decide +kernel
theorem dX11_numbersTold_40 : decode cX11_numbersTold 40 = .ok (.iload_n 2, 1) := by decide +kernel
theorem dX11_numbersTold_41 : decode cX11_numbersTold 41 = .ok (.iload_n 3, 1) := by decide +kernel
theorem dX11_numbersTold_42 : decode cX11_numbersTold 42 = .ok (.aload_n 0, 1) := by decide +kernel
theorem dX11_numbersTold_43 : decode cX11_numbersTold 43 = .ok (.invokevirtual 156, 3) := by decide +kernel
theorem dX11_numbersTold_46 : decode cX11_numbersTold 46 = .ok (.invokevirtual 330, 3) := by decide +kernel
theorem dX11_numbersTold_49 : decode cX11_numbersTold 49 = .ok (.ifCond .eq 12, 3) := by decide +kernel
theorem dX11_numbersTold_52 : decode cX11_numbersTold 52 = .ok (.iload 4, 2) := by decide +kernel
theorem dX11_numbersTold_54 : decode cX11_numbersTold 54 = .ok (.iconst 1, 1) := by decide +kernel
theorem dX11_numbersTold_55 : decode cX11_numbersTold 55 = .ok (.iload 5, 2) := by decide +kernel
theorem dX11_numbersTold_57 : decode cX11_numbersTold 57 = .ok (.ishl, 1) := by decide +kernel
theorem dX11_numbersTold_58 : decode cX11_numbersTold 58 = .ok (.ior, 1) := by decide +kernel
theorem dX11_numbersTold_59 : decode cX11_numbersTold 59 = .ok (.istore 4, 2) := by decide +kernel
theorem dX11_numbersTold_61 : decode cX11_numbersTold 61 = .ok (.iinc 5 1, 3) := by decide +kernel
theorem dX11_numbersTold_64 : decode cX11_numbersTold 64 = .ok (.goto (-58), 3) := by decide +kernel
theorem dX11_numbersTold_67 : decode cX11_numbersTold 67 = .ok (.iload 4, 2) := by decide +kernel
theorem dX11_numbersTold_69 : decode cX11_numbersTold 69 = .ok (.ireturn, 1) := by decide +kernel
theorem dX11_disksTold_0 : decode cX11_disksTold 0 = .ok (.iconst 0, 1) := by decide +kernel
theorem dX11_disksTold_1 : decode cX11_disksTold 1 = .ok (.istore_n 3, 1) := by decide +kernel
theorem dX11_disksTold_2 : decode cX11_disksTold 2 = .ok (.iconst 0, 1) := by decide +kernel
theorem dX11_disksTold_3 : decode cX11_disksTold 3 = .ok (.istore 4, 2) := by decide +kernel
theorem dX11_disksTold_5 : decode cX11_disksTold 5 = .ok (.iload 4, 2) := by decide +kernel
theorem dX11_disksTold_7 : decode cX11_disksTold 7 = .ok (.aload_n 0, 1) := by decide +kernel
theorem dX11_disksTold_8 : decode cX11_disksTold 8 = .ok (.getfield 37, 3) := by decide +kernel
theorem dX11_disksTold_11 : decode cX11_disksTold 11 = .ok (.getfield 225, 3) := by decide +kernel
theorem dX11_disksTold_14 : decode cX11_disksTold 14 = .ok (.if_icmp .ge 48, 3) := by decide +kernel
theorem dX11_disksTold_17 : decode cX11_disksTold 17 = .ok (.aload_n 0, 1) := by decide +kernel
theorem dX11_disksTold_18 : decode cX11_disksTold 18 = .ok (.getfield 44, 3) := by decide +kernel
theorem dX11_disksTold_21 : decode cX11_disksTold 21 = .ok (.aload_n 0, 1) := by decide +kernel
theorem dX11_disksTold_22 : decode cX11_disksTold 22 = .ok (.getfield 37, 3) := by decide +kernel
theorem dX11_disksTold_25 : decode cX11_disksTold 25 = .ok (.invokevirtual 230, 3) := by decide +kernel
theorem dX11_disksTold_28 : decode cX11_disksTold 28 = .ok (.iload 4, 2) := by decide +kernel
theorem dX11_disksTold_30 : decode cX11_disksTold 30 = .ok (.iload_n 2, 1) := by decide +kernel
theorem dX11_disksTold_31 : decode cX11_disksTold 31 = .ok (.if_icmp .eq 25, 3) := by decide +kernel
theorem dX11_disksTold_34 : decode cX11_disksTold 34 = .ok (.aload_n 0, 1) := by decide +kernel
theorem dX11_disksTold_35 : decode cX11_disksTold 35 = .ok (.aload_n 1, 1) := by decide +kernel
theorem dX11_disksTold_36 : decode cX11_disksTold 36 = .ok (.iload_n 2, 1) := by decide +kernel
theorem dX11_disksTold_37 : decode cX11_disksTold 37 = .ok (.iload 4, 2) := by decide +kernel
theorem dX11_disksTold_39 : decode cX11_disksTold 39 = .ok (.aload_n 0, 1) := by decide +kernel
theorem dX11_disksTold_40 : decode cX11_disksTold 40 = .ok (.invokevirtual 156, 3) := by decide +kernel
theorem dX11_disksTold_43 : decode cX11_disksTold 43 = .ok (.invokevirtual 330, 3) := by decide +kernel
theorem dX11_disksTold_46 : decode cX11_disksTold 46 = .ok (.ifCond .eq 10, 3) := by decide +kernel
theorem dX11_disksTold_49 : decode cX11_disksTold 49 = .ok (.iload_n 3, 1) := by decide +kernel
theorem dX11_disksTold_50 : decode cX11_disksTold 50 = .ok (.iconst 1, 1) := by decide +kernel
theorem dX11_disksTold_51 : decode cX11_disksTold 51 = .ok (.iload 4, 2) := by decide +kernel
theorem dX11_disksTold_53 : decode cX11_disksTold 53 = .ok (.ishl, 1) := by decide +kernel
theorem dX11_disksTold_54 : decode cX11_disksTold 54 = .ok (.ior, 1) := by decide +kernel
theorem dX11_disksTold_55 : decode cX11_disksTold 55 = .ok (.istore_n 3, 1) := by decide +kernel
theorem dX11_disksTold_56 : decode cX11_disksTold 56 = .ok (.iinc 4 1, 3) := by decide +kernel
theorem dX11_disksTold_59 : decode cX11_disksTold 59 = .ok (.goto (-54), 3) := by decide +kernel
theorem dX11_disksTold_62 : decode cX11_disksTold 62 = .ok (.iload_n 3, 1) := by decide +kernel
theorem dX11_disksTold_63 : decode cX11_disksTold 63 = .ok (.ireturn, 1) := by decide +kernel
theorem dX11_textsTold_0 : decode cX11_textsTold 0 = .ok (.iconst 0, 1) := by decide +kernel
theorem dX11_textsTold_1 : decode cX11_textsTold 1 = .ok (.istore 4, 2) := by decide +kernel
theorem dX11_textsTold_3 : decode cX11_textsTold 3 = .ok (.iconst 0, 1) := by decide +kernel
theorem dX11_textsTold_4 : decode cX11_textsTold 4 = .ok (.istore 5, 2) := by decide +kernel
theorem dX11_textsTold_6 : decode cX11_textsTold 6 = .ok (.iload 5, 2) := by decide +kernel
theorem dX11_textsTold_8 : decode cX11_textsTold 8 = .ok (.aload_n 0, 1) := by decide +kernel
theorem dX11_textsTold_9 : decode cX11_textsTold 9 = .ok (.getfield 53, 3) := by decide +kernel
theorem dX11_textsTold_12 : decode cX11_textsTold 12 = .ok (.if_icmp .ge 46, 3) := by decide +kernel
theorem dX11_textsTold_15 : decode cX11_textsTold 15 = .ok (.aload_n 0, 1) := by decide +kernel
theorem dX11_textsTold_16 : decode cX11_textsTold 16 = .ok (.getfield 44, 3) := by decide +kernel
theorem dX11_textsTold_19 : decode cX11_textsTold 19 = .ok (.aload_n 0, 1) := by decide +kernel
theorem dX11_textsTold_20 : decode cX11_textsTold 20 = .ok (.getfield 37, 3) := by decide +kernel
theorem dX11_textsTold_23 : decode cX11_textsTold 23 = .ok (.invokevirtual 230, 3) := by decide +kernel
theorem dX11_textsTold_26 : decode cX11_textsTold 26 = .ok (.aload_n 0, 1) := by decide +kernel
theorem dX11_textsTold_27 : decode cX11_textsTold 27 = .ok (.aload_n 1, 1) := by decide +kernel
theorem dX11_textsTold_28 : decode cX11_textsTold 28 = .ok (.iload_n 2, 1) := by decide +kernel
theorem dX11_textsTold_29 : decode cX11_textsTold 29 = .ok (.iload_n 3, 1) := by decide +kernel
theorem dX11_textsTold_30 : decode cX11_textsTold 30 = .ok (.aload_n 0, 1) := by decide +kernel
theorem dX11_textsTold_31 : decode cX11_textsTold 31 = .ok (.getfield 17, 3) := by decide +kernel
theorem dX11_textsTold_34 : decode cX11_textsTold 34 = .ok (.iload 5, 2) := by decide +kernel
theorem dX11_textsTold_36 : decode cX11_textsTold 36 = .ok (.aaload, 1) := by decide +kernel
theorem dX11_textsTold_37 : decode cX11_textsTold 37 = .ok (.invokevirtual 330, 3) := by decide +kernel
theorem dX11_textsTold_40 : decode cX11_textsTold 40 = .ok (.ifCond .eq 12, 3) := by decide +kernel
theorem dX11_textsTold_43 : decode cX11_textsTold 43 = .ok (.iload 4, 2) := by decide +kernel
theorem dX11_textsTold_45 : decode cX11_textsTold 45 = .ok (.iconst 1, 1) := by decide +kernel
theorem dX11_textsTold_46 : decode cX11_textsTold 46 = .ok (.iload 5, 2) := by decide +kernel
theorem dX11_textsTold_48 : decode cX11_textsTold 48 = .ok (.ishl, 1) := by decide +kernel
theorem dX11_textsTold_49 : decode cX11_textsTold 49 = .ok (.ior, 1) := by decide +kernel
theorem dX11_textsTold_50 : decode cX11_textsTold 50 = .ok (.istore 4, 2) := by decide +kernel
theorem dX11_textsTold_52 : decode cX11_textsTold 52 = .ok (.iinc 5 1, 3) := by decide +kernel
theorem dX11_textsTold_55 : decode cX11_textsTold 55 = .ok (.goto (-49), 3) := by decide +kernel
theorem dX11_textsTold_58 : decode cX11_textsTold 58 = .ok (.iload 4, 2) := by decide +kernel
theorem dX11_textsTold_60 : decode cX11_textsTold 60 = .ok (.ireturn, 1) := by decide +kernel
theorem dX11_stayers_0 : decode cX11_stayers 0 = .ok (.aload_n 0, 1) := by decide +kernel
theorem dX11_stayers_1 : decode cX11_stayers 1 = .ok (.getfield 37, 3) := by decide +kernel
theorem dX11_stayers_4 : decode cX11_stayers 4 = .ok (.invokevirtual 210, 3) := by decide +kernel
theorem dX11_stayers_7 : decode cX11_stayers 7 = .ok (.istore_n 2, 1) := by decide +kernel
theorem dX11_stayers_8 : decode cX11_stayers 8 = .ok (.iload_n 1, 1) := by decide +kernel
theorem dX11_stayers_9 : decode cX11_stayers 9 = .ok (.istore_n 3, 1) := by decide +kernel
theorem dX11_stayers_10 : decode cX11_stayers 10 = .ok (.iconst 0, 1) := by decide +kernel
theorem dX11_stayers_11 : decode cX11_stayers 11 = .ok (.istore 4, 2) := by decide +kernel
theorem dX11_stayers_13 : decode cX11_stayers 13 = .ok (.iload 4, 2) := by decide +kernel
theorem dX11_stayers_15 : decode cX11_stayers 15 = .ok (.aload_n 0, 1) := by decide +kernel
theorem dX11_stayers_16 : decode cX11_stayers 16 = .ok (.getfield 37, 3) := by decide +kernel
theorem dX11_stayers_19 : decode cX11_stayers 19 = .ok (.getfield 225, 3) := by decide +kernel
theorem dX11_stayers_22 : decode cX11_stayers 22 = .ok (.if_icmp .ge 72, 3) := by decide +kernel
theorem dX11_stayers_25 : decode cX11_stayers 25 = .ok (.iload_n 2, 1) := by decide +kernel
theorem dX11_stayers_26 : decode cX11_stayers 26 = .ok (.iload 4, 2) := by decide +kernel
theorem dX11_stayers_28 : decode cX11_stayers 28 = .ok (.invokestatic 237, 3) := by decide +kernel
theorem dX11_stayers_31 : decode cX11_stayers 31 = .ok (.ifCond .eq 57, 3) := by decide +kernel
theorem dX11_stayers_34 : decode cX11_stayers 34 = .ok (.iload_n 3, 1) := by decide +kernel
theorem dX11_stayers_35 : decode cX11_stayers 35 = .ok (.ldc_w 334, 3) := by decide +kernel
theorem dX11_stayers_38 : decode cX11_stayers 38 = .ok (.imul, 1) := by decide +kernel
theorem dX11_stayers_39 : decode cX11_stayers 39 = .ok (.sipush 12345, 3) := by decide +kernel
theorem dX11_stayers_42 : decode cX11_stayers 42 = .ok (.iadd, 1) := by decide +kernel
theorem dX11_stayers_43 : decode cX11_stayers 43 = .ok (.istore_n 3, 1) := by decide +kernel
theorem dX11_stayers_44 : decode cX11_stayers 44 = .ok (.iload_n 3, 1) := by decide +kernel
theorem dX11_stayers_45 : decode cX11_stayers 45 = .ok (.bipush 9, 2) := by decide +kernel
theorem dX11_stayers_47 : decode cX11_stayers 47 = .ok (.iushr, 1) := by decide +kernel
theorem dX11_stayers_48 : decode cX11_stayers 48 = .ok (.bipush 100, 2) := by decide +kernel
theorem dX11_stayers_50 : decode cX11_stayers 50 = .ok (.irem, 1) := by decide +kernel
theorem dX11_stayers_51 : decode cX11_stayers 51 = .ok (.aload_n 0, 1) := by decide +kernel
theorem dX11_stayers_52 : decode cX11_stayers 52 = .ok (.invokevirtual 156, 3) := by decide +kernel
theorem dX11_stayers_55 : decode cX11_stayers 55 = .ok (.aload_n 0, 1) := by decide +kernel
theorem dX11_stayers_56 : decode cX11_stayers 56 = .ok (.getfield 37, 3) := by decide +kernel
theorem dX11_stayers_59 : decode cX11_stayers 59 = .ok (.getfield 118, 3) := by decide +kernel
theorem dX11_stayers_62 : decode cX11_stayers 62 = .ok (.iload 4, 2) := by decide +kernel
theorem dX11_stayers_64 : decode cX11_stayers 64 = .ok (.aaload, 1) := by decide +kernel
theorem dX11_stayers_65 : decode cX11_stayers 65 = .ok (.getfield 121, 3) := by decide +kernel
theorem dX11_stayers_68 : decode cX11_stayers 68 = .ok (.aload_n 0, 1) := by decide +kernel
theorem dX11_stayers_69 : decode cX11_stayers 69 = .ok (.getfield 37, 3) := by decide +kernel
theorem dX11_stayers_72 : decode cX11_stayers 72 = .ok (.getfield 115, 3) := by decide +kernel
theorem dX11_stayers_75 : decode cX11_stayers 75 = .ok (.invokevirtual 159, 3) := by decide +kernel
theorem dX11_stayers_78 : decode cX11_stayers 78 = .ok (.if_icmp .ge 10, 3) := by decide +kernel
theorem dX11_stayers_81 : decode cX11_stayers 81 = .ok (.iload_n 2, 1) := by decide +kernel
theorem dX11_stayers_82 : decode cX11_stayers 82 = .ok (.iload 4, 2) := by decide +kernel
theorem dX11_stayers_84 : decode cX11_stayers 84 = .ok (.invokestatic 240, 3) := by decide +kernel
theorem dX11_stayers_87 : decode cX11_stayers 87 = .ok (.istore_n 2, 1) := by decide +kernel
theorem dX11_stayers_88 : decode cX11_stayers 88 = .ok (.iinc 4 1, 3) := by decide +kernel
theorem dX11_stayers_91 : decode cX11_stayers 91 = .ok (.goto (-78), 3) := by decide +kernel
theorem dX11_stayers_94 : decode cX11_stayers 94 = .ok (.iload_n 2, 1) := by decide +kernel
theorem dX11_stayers_95 : decode cX11_stayers 95 = .ok (.ireturn, 1) := by decide +kernel
theorem dX11_commonDivisor_0 : decode cX11_commonDivisor 0 = .ok (.iload_n 1, 1) := by decide +kernel
theorem dX11_commonDivisor_1 : decode cX11_commonDivisor 1 = .ok (.istore_n 2, 1) := by decide +kernel
theorem dX11_commonDivisor_2 : decode cX11_commonDivisor 2 = .ok (.iload_n 2, 1) := by decide +kernel
theorem dX11_commonDivisor_3 : decode cX11_commonDivisor 3 = .ok (.iconst 1, 1) := by decide +kernel
theorem dX11_commonDivisor_4 : decode cX11_commonDivisor 4 = .ok (.if_icmp .le 23, 3) := by decide +kernel
theorem dX11_commonDivisor_7 : decode cX11_commonDivisor 7 = .ok (.iload_n 0, 1) := by decide +kernel
theorem dX11_commonDivisor_8 : decode cX11_commonDivisor 8 = .ok (.iload_n 2, 1) := by decide +kernel
theorem dX11_commonDivisor_9 : decode cX11_commonDivisor 9 = .ok (.irem, 1) := by decide +kernel
theorem dX11_commonDivisor_10 : decode cX11_commonDivisor 10 = .ok (.ifCond .ne 11, 3) := by decide +kernel
theorem dX11_commonDivisor_13 : decode cX11_commonDivisor 13 = .ok (.iload_n 1, 1) := by decide +kernel
theorem dX11_commonDivisor_14 : decode cX11_commonDivisor 14 = .ok (.iload_n 2, 1) := by decide +kernel
theorem dX11_commonDivisor_15 : decode cX11_commonDivisor 15 = .ok (.irem, 1) := by decide +kernel
theorem dX11_commonDivisor_16 : decode cX11_commonDivisor 16 = .ok (.ifCond .ne 5, 3) := by decide +kernel
theorem dX11_commonDivisor_19 : decode cX11_commonDivisor 19 = .ok (.iload_n 2, 1) := by decide +kernel
theorem dX11_commonDivisor_20 : decode cX11_commonDivisor 20 = .ok (.ireturn, 1) := by decide +kernel
theorem dX11_commonDivisor_21 : decode cX11_commonDivisor 21 = .ok (.iinc 2 (-1), 3) := by decide +kernel
theorem dX11_commonDivisor_24 : decode cX11_commonDivisor 24 = .ok (.goto (-22), 3) := by decide +kernel
theorem dX11_commonDivisor_27 : decode cX11_commonDivisor 27 = .ok (.iconst 1, 1) := by decide +kernel
theorem dX11_commonDivisor_28 : decode cX11_commonDivisor 28 = .ok (.ireturn, 1) := by decide +kernel
theorem dX12_in_0 : decode cX12_in 0 = .ok (.lload_n 0, 1) := by decide +kernel
theorem dX12_in_1 : decode cX12_in 1 = .ok (.lload_n 2, 1) := by decide +kernel
theorem dX12_in_2 : decode cX12_in 2 = .ok (.lcmp, 1) := by decide +kernel
theorem dX12_in_3 : decode cX12_in 3 = .ok (.ifCond .lt 14, 3) := by decide +kernel
theorem dX12_in_6 : decode cX12_in 6 = .ok (.lload_n 0, 1) := by decide +kernel
theorem dX12_in_7 : decode cX12_in 7 = .ok (.lload 4, 2) := by decide +kernel
theorem dX12_in_9 : decode cX12_in 9 = .ok (.lcmp, 1) := by decide +kernel
theorem dX12_in_10 : decode cX12_in 10 = .ok (.ifCond .gt 7, 3) := by decide +kernel
theorem dX12_in_13 : decode cX12_in 13 = .ok (.iconst 1, 1) := by decide +kernel
theorem dX12_in_14 : decode cX12_in 14 = .ok (.goto 4, 3) := by decide +kernel
theorem dX12_in_17 : decode cX12_in 17 = .ok (.iconst 0, 1) := by decide +kernel
theorem dX12_in_18 : decode cX12_in 18 = .ok (.ireturn, 1) := by decide +kernel
theorem dX12_within_0 : decode cX12_within 0 = .ok (.iload_n 0, 1) := by decide +kernel
theorem dX12_within_1 : decode cX12_within 1 = .ok (.iload_n 1, 1) := by decide +kernel
theorem dX12_within_2 : decode cX12_within 2 = .ok (.if_icmp .ge 7, 3) := by decide +kernel
theorem dX12_within_5 : decode cX12_within 5 = .ok (.iload_n 1, 1) := by decide +kernel
theorem dX12_within_6 : decode cX12_within 6 = .ok (.goto 13, 3) := by decide +kernel
theorem dX12_within_9 : decode cX12_within 9 = .ok (.iload_n 0, 1) := by decide +kernel
theorem dX12_within_10 : decode cX12_within 10 = .ok (.iload_n 2, 1) := by decide +kernel
theorem dX12_within_11 : decode cX12_within 11 = .ok (.if_icmp .le 7, 3) := by decide +kernel
theorem dX12_within_14 : decode cX12_within 14 = .ok (.iload_n 2, 1) := by decide +kernel
theorem dX12_within_15 : decode cX12_within 15 = .ok (.goto 4, 3) := by decide +kernel
theorem dX12_within_18 : decode cX12_within 18 = .ok (.iload_n 0, 1) := by decide +kernel
theorem dX12_within_19 : decode cX12_within 19 = .ok (.ireturn, 1) := by decide +kernel
theorem dX12_init_0 : decode cX12_init 0 = .ok (.aload_n 0, 1) := by decide +kernel
theorem dX12_init_1 : decode cX12_init 1 = .ok (.invokespecial 7, 3) := by decide +kernel
theorem dX12_init_4 : decode cX12_init 4 = .ok (.aload_n 0, 1) := by decide +kernel
theorem dX12_init_5 : decode cX12_init 5 = .ok (.sipush 960, 3) := by decide +kernel
theorem dX12_init_8 : decode cX12_init 8 = .ok (.newarray .int, 2) := by decide +kernel
theorem dX12_init_10 : decode cX12_init 10 = .ok (.putfield 13, 3) := by decide +kernel
theorem dX12_init_13 : decode cX12_init 13 = .ok (.aload_n 0, 1) := by decide +kernel
theorem dX12_init_14 : decode cX12_init 14 = .ok (.bipush 6, 2) := by decide +kernel
theorem dX12_init_16 : decode cX12_init 16 = .ok (.newarray .int, 2) := by decide +kernel
theorem dX12_init_18 : decode cX12_init 18 = .ok (.putfield 17, 3) := by decide +kernel
theorem dX12_init_21 : decode cX12_init 21 = .ok (.aload_n 0, 1) := by decide +kernel
theorem dX12_init_22 : decode cX12_init 22 = .ok (.sipush 160, 3) := by decide +kernel
theorem dX12_init_25 : decode cX12_init 25 = .ok (.newarray .int, 2) := by decide +kernel
theorem dX12_init_27 : decode cX12_init 27 = .ok (.putfield 20, 3) := by decide +kernel
theorem dX12_init_30 : decode cX12_init 30 = .ok (.aload_n 0, 1) := by decide +kernel
theorem dX12_init_31 : decode cX12_init 31 = .ok (.bipush 6, 2) := by decide +kernel
theorem dX12_init_33 : decode cX12_init 33 = .ok (.newarray .int, 2) := by decide +kernel
theorem dX12_init_35 : decode cX12_init 35 = .ok (.putfield 23, 3) := by decide +kernel
theorem dX12_init_38 : decode cX12_init 38 = .ok (.aload_n 0, 1) := by decide +kernel
theorem dX12_init_39 : decode cX12_init 39 = .ok (.bipush 12, 2) := by decide +kernel
theorem dX12_init_41 : decode cX12_init 41 = .ok (.newarray .int, 2) := by decide +kernel
theorem dX12_init_43 : decode cX12_init 43 = .ok (.putfield 26, 3) := by decide +kernel
theorem dX12_init_46 : decode cX12_init 46 = .ok (.aload_n 0, 1) := by decide +kernel
theorem dX12_init_47 : decode cX12_init 47 = .ok (.bipush 48, 2) := by decide +kernel
theorem dX12_init_49 : decode cX12_init 49 = .ok (.newarray .int, 2) := by decide +kernel
theorem dX12_init_51 : decode cX12_init 51 = .ok (.putfield 29, 3) := by decide +kernel
theorem dX12_init_54 : decode cX12_init 54 = .ok (.aload_n 0, 1) := by decide +kernel
theorem dX12_init_55 : decode cX12_init 55 = .ok (.bipush 48, 2) := by decide +kernel
theorem dX12_init_57 : decode cX12_init 57 = .ok (.newarray .int, 2) := by decide +kernel
theorem dX12_init_59 : decode cX12_init 59 = .ok (.putfield 32, 3) := by decide +kernel
theorem dX12_init_62 : decode cX12_init 62 = .ok (.aload_n 0, 1) := by decide +kernel
theorem dX12_init_63 : decode cX12_init 63 = .ok (.sipush 480, 3) := by decide +kernel
theorem dX12_init_66 : decode cX12_init 66 = .ok (.newarray .int, 2) := by decide +kernel
theorem dX12_init_68 : decode cX12_init 68 = .ok (.putfield 35, 3) := by decide +kernel
theorem dX12_init_71 : decode cX12_init 71 = .ok (.aload_n 0, 1) := by decide +kernel
theorem dX12_init_72 : decode cX12_init 72 = .ok (.bipush 12, 2) := by decide +kernel
theorem dX12_init_74 : decode cX12_init 74 = .ok (.newarray .int, 2) := by decide +kernel
theorem dX12_init_76 : decode cX12_init 76 = .ok (.putfield 38, 3) := by decide +kernel
theorem dX12_init_79 : decode cX12_init 79 = .ok (.aload_n 0, 1) := by decide +kernel
theorem dX12_init_80 : decode cX12_init 80 = .ok (.bipush 48, 2) := by decide +kernel
theorem dX12_init_82 : decode cX12_init 82 = .ok (.newarray .int, 2) := by decide +kernel
theorem dX12_init_84 : decode cX12_init 84 = .ok (.putfield 41, 3) := by decide +kernel
theorem dX12_init_87 : decode cX12_init 87 = .ok (.aload_n 0, 1) := by decide +kernel
theorem dX12_init_88 : decode cX12_init 88 = .ok (.bipush 48, 2) := by decide +kernel
theorem dX12_init_90 : decode cX12_init 90 = .ok (.newarray .int, 2) := by decide +kernel
theorem dX12_init_92 : decode cX12_init 92 = .ok (.putfield 44, 3) := by decide +kernel
theorem dX12_init_95 : decode cX12_init 95 = .ok (.aload_n 0, 1) := by decide +kernel
theorem dX12_init_96 : decode cX12_init 96 = .ok (.iconst (-1), 1) := by decide +kernel
theorem dX12_init_97 : decode cX12_init 97 = .ok (.putfield 47, 3) := by decide +kernel
theorem dX12_init_100 : decode cX12_init 100 = .ok (.aload_n 0, 1) := by decide +kernel
theorem dX12_init_101 : decode cX12_init 101 = .ok (.iconst 4, 1) := by decide +kernel
theorem dX12_init_102 : decode cX12_init 102 = .ok (.newarray .boolean, 2) := by decide +kernel
theorem dX12_init_104 : decode cX12_init 104 = .ok (.putfield 50, 3) := by decide +kernel
theorem dX12_init_107 : decode cX12_init 107 = .ok (.aload_n 0, 1) := by decide +kernel
theorem dX12_init_108 : decode cX12_init 108 = .ok (.iconst 4, 1) := by decide +kernel
theorem dX12_init_109 : decode cX12_init 109 = .ok (.newarray .int, 2) := by decide +kernel
theorem dX12_init_111 : decode cX12_init 111 = .ok (.putfield 54, 3) := by decide +kernel
theorem dX12_init_114 : decode cX12_init 114 = .ok (.aload_n 0, 1) := by decide +kernel
theorem dX12_init_115 : decode cX12_init 115 = .ok (.iconst 4, 1) := by decide +kernel
theorem dX12_init_116 : decode cX12_init 116 = .ok (.newarray .int, 2) := by decide +kernel
theorem dX12_init_118 : decode cX12_init 118 = .ok (.putfield 57, 3) := by decide +kernel
theorem dX12_init_121 : decode cX12_init 121 = .ok (.aload_n 0, 1) := by decide +kernel
theorem dX12_init_122 : decode cX12_init 122 = .ok (.sipush 160, 3) := by decide +kernel
theorem dX12_init_125 : decode cX12_init 125 = .ok (.newarray .int, 2) := by decide +kernel
theorem dX12_init_127 : decode cX12_init 127 = .ok (.putfield 60, 3) := by decide +kernel
theorem dX12_init_130 : decode cX12_init 130 = .ok (.aload_n 0, 1) := by decide +kernel
theorem dX12_init_131 : decode cX12_init 131 = .ok (.iconst 0, 1) := by decide +kernel
theorem dX12_init_132 : decode cX12_init 132 = .ok (.bipush 116, 2) := by decide +kernel
theorem dX12_init_134 : decode cX12_init 134 = .ok (.bipush 97, 2) := by decide +kernel
theorem dX12_init_136 : decode cX12_init 136 = .ok (.bipush 107, 2) := by decide +kernel
theorem dX12_init_138 : decode cX12_init 138 = .ok (.bipush 101, 2) := by decide +kernel
theorem dX12_init_140 : decode cX12_init 140 = .ok (.bipush 115, 2) := by decide +kernel
theorem dX12_init_142 : decode cX12_init 142 = .ok (.bipush 32, 2) := by decide +kernel
theorem dX12_init_144 : decode cX12_init 144 = .ok (.bipush 104, 2) := by decide +kernel
theorem dX12_init_146 : decode cX12_init 146 = .ok (.bipush 101, 2) := by decide +kernel
theorem dX12_init_148 : decode cX12_init 148 = .ok (.invokevirtual 63, 3) := by decide +kernel
theorem dX12_init_151 : decode cX12_init 151 = .ok (.aload_n 0, 1) := by decide +kernel
theorem dX12_init_152 : decode cX12_init 152 = .ok (.bipush 8, 2) := by decide +kernel
theorem dX12_init_154 : decode cX12_init 154 = .ok (.bipush 114, 2) := by decide +kernel
theorem dX12_init_156 : decode cX12_init 156 = .ok (.bipush 101, 2) := by decide +kernel
theorem dX12_init_158 : decode cX12_init 158 = .ok (.bipush 32, 2) := by decide +kernel
theorem dX12_init_160 : decode cX12_init 160 = .ok (.bipush 60, 2) := by decide +kernel
theorem dX12_init_162 : decode cX12_init 162 = .ok (.bipush 32, 2) := by decide +kernel
theorem dX12_init_164 : decode cX12_init 164 = .ok (.bipush 116, 2) := by decide +kernel
theorem dX12_init_166 : decode cX12_init 166 = .ok (.bipush 104, 2) := by decide +kernel
theorem dX12_init_168 : decode cX12_init 168 = .ok (.bipush 101, 2) := by decide +kernel
theorem dX12_init_170 : decode cX12_init 170 = .ok (.invokevirtual 63, 3) := by decide +kernel
theorem dX12_init_173 : decode cX12_init 173 = .ok (.aload_n 0, 1) := by decide +kernel
theorem dX12_init_174 : decode cX12_init 174 = .ok (.bipush 16, 2) := by decide +kernel
theorem dX12_init_176 : decode cX12_init 176 = .ok (.bipush 114, 2) := by decide +kernel
theorem dX12_init_178 : decode cX12_init 178 = .ok (.bipush 101, 2) := by decide +kernel
theorem dX12_init_180 : decode cX12_init 180 = .ok (.bipush 32, 2) := by decide +kernel
theorem dX12_init_182 : decode cX12_init 182 = .ok (.bipush 59, 2) := by decide +kernel
theorem dX12_init_184 : decode cX12_init 184 = .ok (.bipush 32, 2) := by decide +kernel
theorem dX12_init_186 : decode cX12_init 186 = .ok (.bipush 103, 2) := by decide +kernel
theorem dX12_init_188 : decode cX12_init 188 = .ok (.bipush 111, 2) := by decide +kernel
theorem dX12_init_190 : decode cX12_init 190 = .ok (.bipush 101, 2) := by decide +kernel
theorem dX12_init_192 : decode cX12_init 192 = .ok (.invokevirtual 63, 3) := by decide +kernel
theorem dX12_init_195 : decode cX12_init 195 = .ok (.aload_n 0, 1) := by decide +kernel
theorem dX12_init_196 : decode cX12_init 196 = .ok (.bipush 24, 2) := by decide +kernel
theorem dX12_init_198 : decode cX12_init 198 = .ok (.bipush 115, 2) := by decide +kernel
theorem dX12_init_200 : decode cX12_init 200 = .ok (.bipush 32, 2) := by decide +kernel
theorem dX12_init_202 : decode cX12_init 202 = .ok (.bipush 53, 2) := by decide +kernel
theorem dX12_init_204 : decode cX12_init 204 = .ok (.bipush 32, 2) := by decide +kernel
theorem dX12_init_206 : decode cX12_init 206 = .ok (.bipush 59, 2) := by decide +kernel
theorem dX12_init_208 : decode cX12_init 208 = .ok (.bipush 32, 2) := by decide +kernel
theorem dX12_init_210 : decode cX12_init 210 = .ok (.bipush 119, 2) := by decide +kernel
theorem dX12_init_212 : decode cX12_init 212 = .ok (.bipush 111, 2) := by decide +kernel
theorem dX12_init_214 : decode cX12_init 214 = .ok (.invokevirtual 63, 3) := by decide +kernel
theorem dX12_init_217 : decode cX12_init 217 = .ok (.aload_n 0, 1) := by decide +kernel
theorem dX12_init_218 : decode cX12_init 218 = .ok (.bipush 32, 2) := by decide +kernel
theorem dX12_init_220 : decode cX12_init 220 = .ok (.bipush 114, 2) := by decide +kernel
theorem dX12_init_222 : decode cX12_init 222 = .ok (.bipush 116, 2) := by decide +kernel
theorem dX12_init_224 : decode cX12_init 224 = .ok (.bipush 104, 2) := by decide +kernel
theorem dX12_init_226 : decode cX12_init 226 = .ok (.bipush 32, 2) := by decide +kernel
theorem dX12_init_228 : decode cX12_init 228 = .ok (.bipush 49, 2) := by decide +kernel
theorem dX12_init_230 : decode cX12_init 230 = .ok (.bipush 32, 2) := by decide +kernel
theorem dX12_init_232 : decode cX12_init 232 = .ok (.bipush 43, 2) := by decide +kernel
theorem dX12_init_234 : decode cX12_init 234 = .ok (.bipush 32, 2) := by decide +kernel
theorem dX12_init_236 : decode cX12_init 236 = .ok (.invokevirtual 63, 3) := by decide +kernel
theorem dX12_init_239 : decode cX12_init 239 = .ok (.aload_n 0, 1) := by decide +kernel
theorem dX12_init_240 : decode cX12_init 240 = .ok (.bipush 40, 2) := by decide +kernel
theorem dX12_init_242 : decode cX12_init 242 = .ok (.bipush 102, 2) := by decide +kernel
theorem dX12_init_244 : decode cX12_init 244 = .ok (.bipush 105, 2) := by decide +kernel
theorem dX12_init_246 : decode cX12_init 246 = .ok (.bipush 108, 2) := by decide +kernel
theorem dX12_init_248 : decode cX12_init 248 = .ok (.bipush 101, 2) := by decide +kernel
theorem dX12_init_250 : decode cX12_init 250 = .ok (.bipush 32, 2) := by decide +kernel
theorem dX12_init_252 : decode cX12_init 252 = .ok (.bipush 59, 2) := by decide +kernel
theorem dX12_init_254 : decode cX12_init 254 = .ok (.bipush 32, 2) := by decide +kernel
theorem dX12_init_256 : decode cX12_init 256 = .ok (.bipush 32, 2) := by decide +kernel
theorem dX12_init_258 : decode cX12_init 258 = .ok (.invokevirtual 63, 3) := by decide +kernel
theorem dX12_init_261 : decode cX12_init 261 = .ok (.aload_n 0, 1) := by decide +kernel
theorem dX12_init_262 : decode cX12_init 262 = .ok (.getfield 17, 3) := by decide +kernel
theorem dX12_init_265 : decode cX12_init 265 = .ok (.iconst 0, 1) := by decide +kernel
theorem dX12_init_266 : decode cX12_init 266 = .ok (.bipush 48, 2) := by decide +kernel
theorem dX12_init_268 : decode cX12_init 268 = .ok (.iastore, 1) := by decide +kernel
theorem dX12_init_269 : decode cX12_init 269 = .ok (.aload_n 0, 1) := by decide +kernel
theorem dX12_init_270 : decode cX12_init 270 = .ok (.iconst 1, 1) := by decide +kernel
theorem dX12_init_271 : decode cX12_init 271 = .ok (.putfield 67, 3) := by decide +kernel
theorem dX12_init_274 : decode cX12_init 274 = .ok (.return_, 1) := by decide +kernel
theorem dX12_spell_0 : decode cX12_spell 0 = .ok (.aload_n 0, 1) := by decide +kernel
theorem dX12_spell_1 : decode cX12_spell 1 = .ok (.getfield 13, 3) := by decide +kernel
theorem dX12_spell_4 : decode cX12_spell 4 = .ok (.iload_n 1, 1) := by decide +kernel
theorem dX12_spell_5 : decode cX12_spell 5 = .ok (.iload_n 2, 1) := by decide +kernel
theorem dX12_spell_6 : decode cX12_spell 6 = .ok (.iastore, 1) := by decide +kernel
theorem dX12_spell_7 : decode cX12_spell 7 = .ok (.aload_n 0, 1) := by decide +kernel
theorem dX12_spell_8 : decode cX12_spell 8 = .ok (.getfield 13, 3) := by decide +kernel
theorem dX12_spell_11 : decode cX12_spell 11 = .ok (.iload_n 1, 1) := by decide +kernel
theorem dX12_spell_12 : decode cX12_spell 12 = .ok (.iconst 1, 1) := by decide +kernel
theorem dX12_spell_13 : decode cX12_spell 13 = .ok (.iadd, 1) := by decide +kernel
theorem dX12_spell_14 : decode cX12_spell 14 = .ok (.iload_n 3, 1) := by decide +kernel
theorem dX12_spell_15 : decode cX12_spell 15 = .ok (.iastore, 1) := by decide +kernel
theorem dX12_spell_16 : decode cX12_spell 16 = .ok (.aload_n 0, 1) := by decide +kernel
theorem dX12_spell_17 : decode cX12_spell 17 = .ok (.getfield 13, 3) := by decide +kernel
theorem dX12_spell_20 : decode cX12_spell 20 = .ok (.iload_n 1, 1) := by decide +kernel
theorem dX12_spell_21 : decode cX12_spell 21 = .ok (.iconst 2, 1) := by decide +kernel
theorem dX12_spell_22 : decode cX12_spell 22 = .ok (.iadd, 1) := by decide +kernel
theorem dX12_spell_23 : decode cX12_spell 23 = .ok (.iload 4, 2) := by decide +kernel
theorem dX12_spell_25 : decode cX12_spell 25 = .ok (.iastore, 1) := by decide +kernel
theorem dX12_spell_26 : decode cX12_spell 26 = .ok (.aload_n 0, 1) := by decide +kernel
theorem dX12_spell_27 : decode cX12_spell 27 = .ok (.getfield 13, 3) := by decide +kernel
theorem dX12_spell_30 : decode cX12_spell 30 = .ok (.iload_n 1, 1) := by decide +kernel
theorem dX12_spell_31 : decode cX12_spell 31 = .ok (.iconst 3, 1) := by decide +kernel
theorem dX12_spell_32 : decode cX12_spell 32 = .ok (.iadd, 1) := by decide +kernel
theorem dX12_spell_33 : decode cX12_spell 33 = .ok (.iload 5, 2) := by decide +kernel
theorem dX12_spell_35 : decode cX12_spell 35 = .ok (.iastore, 1) := by decide +kernel
theorem dX12_spell_36 : decode cX12_spell 36 = .ok (.aload_n 0, 1) := by decide +kernel
theorem dX12_spell_37 : decode cX12_spell 37 = .ok (.getfield 13, 3) := by decide +kernel
theorem dX12_spell_40 : decode cX12_spell 40 = .ok (.iload_n 1, 1) := by decide +kernel
theorem dX12_spell_41 : decode cX12_spell 41 = .ok (.iconst 4, 1) := by decide +kernel
theorem dX12_spell_42 : decode cX12_spell 42 = .ok (.iadd, 1) := by decide +kernel
theorem dX12_spell_43 : decode cX12_spell 43 = .ok (.iload 6, 2) := by decide +kernel
theorem dX12_spell_45 : decode cX12_spell 45 = .ok (.iastore, 1) := by decide +kernel
theorem dX12_spell_46 : decode cX12_spell 46 = .ok (.aload_n 0, 1) := by decide +kernel
theorem dX12_spell_47 : decode cX12_spell 47 = .ok (.getfield 13, 3) := by decide +kernel
theorem dX12_spell_50 : decode cX12_spell 50 = .ok (.iload_n 1, 1) := by decide +kernel
theorem dX12_spell_51 : decode cX12_spell 51 = .ok (.iconst 5, 1) := by decide +kernel
theorem dX12_spell_52 : decode cX12_spell 52 = .ok (.iadd, 1) := by decide +kernel
theorem dX12_spell_53 : decode cX12_spell 53 = .ok (.iload 7, 2) := by decide +kernel
theorem dX12_spell_55 : decode cX12_spell 55 = .ok (.iastore, 1) := by decide +kernel
theorem dX12_spell_56 : decode cX12_spell 56 = .ok (.aload_n 0, 1) := by decide +kernel
theorem dX12_spell_57 : decode cX12_spell 57 = .ok (.getfield 13, 3) := by decide +kernel
theorem dX12_spell_60 : decode cX12_spell 60 = .ok (.iload_n 1, 1) := by decide +kernel
theorem dX12_spell_61 : decode cX12_spell 61 = .ok (.bipush 6, 2) := by decide +kernel
theorem dX12_spell_63 : decode cX12_spell 63 = .ok (.iadd, 1) := by decide +kernel
theorem dX12_spell_64 : decode cX12_spell 64 = .ok (.iload 8, 2) := by decide +kernel
theorem dX12_spell_66 : decode cX12_spell 66 = .ok (.iastore, 1) := by decide +kernel
theorem dX12_spell_67 : decode cX12_spell 67 = .ok (.aload_n 0, 1) := by decide +kernel
theorem dX12_spell_68 : decode cX12_spell 68 = .ok (.getfield 13, 3) := by decide +kernel
theorem dX12_spell_71 : decode cX12_spell 71 = .ok (.iload_n 1, 1) := by decide +kernel
theorem dX12_spell_72 : decode cX12_spell 72 = .ok (.bipush 7, 2) := by decide +kernel
theorem dX12_spell_74 : decode cX12_spell 74 = .ok (.iadd, 1) := by decide +kernel
theorem dX12_spell_75 : decode cX12_spell 75 = .ok (.iload 9, 2) := by decide +kernel
theorem dX12_spell_77 : decode cX12_spell 77 = .ok (.iastore, 1) := by decide +kernel
theorem dX12_spell_78 : decode cX12_spell 78 = .ok (.return_, 1) := by decide +kernel
theorem dX12_isDisk_0 : decode cX12_isDisk 0 = .ok (.iload_n 1, 1) := by decide +kernel
theorem dX12_isDisk_1 : decode cX12_isDisk 1 = .ok (.i2l, 1) := by decide +kernel
theorem dX12_isDisk_2 : decode cX12_isDisk 2 = .ok (.lconst 0, 1) := by decide +kernel
theorem dX12_isDisk_3 : decode cX12_isDisk 3 = .ok (.aload_n 0, 1) := by decide +kernel
theorem dX12_isDisk_4 : decode cX12_isDisk 4 = .ok (.getfield 70, 3) := by decide +kernel
theorem dX12_isDisk_7 : decode cX12_isDisk 7 = .ok (.iconst 1, 1) := by decide +kernel
theorem dX12_isDisk_8 : decode cX12_isDisk 8 = .ok (.isub, 1) := by decide +kernel
theorem dX12_isDisk_9 : decode cX12_isDisk 9 = .ok (.i2l, 1) := by decide +kernel
theorem dX12_isDisk_10 : decode cX12_isDisk 10 = .ok (.invokestatic 73, 3) := by decide +kernel
theorem dX12_isDisk_13 : decode cX12_isDisk 13 = .ok (.ireturn, 1) := by decide +kernel
theorem dX12_isFile_0 : decode cX12_isFile 0 = .ok (.iload_n 0, 1) := by decide +kernel
theorem dX12_isFile_1 : decode cX12_isFile 1 = .ok (.i2l, 1) := by decide +kernel
theorem dX12_isFile_2 : decode cX12_isFile 2 = .ok (.lconst 0, 1) := by decide +kernel
theorem dX12_isFile_3 : decode cX12_isFile 3 = .ok (.ldc2_w 77, 3) := by decide +kernel
theorem dX12_isFile_6 : decode cX12_isFile 6 = .ok (.invokestatic 73, 3) := by decide +kernel
theorem dX12_isFile_9 : decode cX12_isFile 9 = .ok (.ireturn, 1) := by decide +kernel
theorem dX12_set_0 : decode cX12_set 0 = .ok (.iload_n 1, 1) := by decide +kernel
theorem dX12_set_1 : decode cX12_set 1 = .ok (.i2l, 1) := by decide +kernel
theorem dX12_set_2 : decode cX12_set 2 = .ok (.lconst 0, 1) := by decide +kernel
theorem dX12_set_3 : decode cX12_set 3 = .ok (.ldc2_w 79, 3) := by decide +kernel
theorem dX12_set_6 : decode cX12_set 6 = .ok (.invokestatic 73, 3) := by decide +kernel
theorem dX12_set_9 : decode cX12_set 9 = .ok (.ifCond .eq 38, 3) := by decide +kernel
theorem dX12_set_12 : decode cX12_set 12 = .ok (.iload_n 1, 1) := by decide +kernel
theorem dX12_set_13 : decode cX12_set 13 = .ok (.ifCond .le 11, 3) := by decide +kernel
theorem dX12_set_16 : decode cX12_set 16 = .ok (.aload_n 0, 1) := by decide +kernel
theorem dX12_set_17 : decode cX12_set 17 = .ok (.iload_n 2, 1) := by decide +kernel
theorem dX12_set_18 : decode cX12_set 18 = .ok (.invokevirtual 81, 3) := by decide +kernel
theorem dX12_set_21 : decode cX12_set 21 = .ok (.ifCond .eq 26, 3) := by decide +kernel
theorem dX12_set_24 : decode cX12_set 24 = .ok (.iload_n 3, 1) := by decide +kernel
theorem dX12_set_25 : decode cX12_set 25 = .ok (.i2l, 1) := by decide +kernel
theorem dX12_set_26 : decode cX12_set 26 = .ok (.lconst 0, 1) := by decide +kernel
theorem dX12_set_27 : decode cX12_set 27 = .ok (.iload_n 1, 1) := by decide +kernel
theorem dX12_set_28 : decode cX12_set 28 = .ok (.iconst 1, 1) := by decide +kernel
theorem dX12_set_29 : decode cX12_set 29 = .ok (.if_icmp .ne 9, 3) := by decide +kernel
theorem dX12_set_32 : decode cX12_set 32 = .ok (.ldc2_w 85, 3) := by decide +kernel
theorem dX12_set_35 : decode cX12_set 35 = .ok (.goto 6, 3) := by decide +kernel
theorem dX12_set_38 : decode cX12_set 38 = .ok (.ldc2_w 87, 3) := by decide +kernel
theorem dX12_set_41 : decode cX12_set 41 = .ok (.invokestatic 73, 3) := by decide +kernel
theorem dX12_set_44 : decode cX12_set 44 = .ok (.ifCond .ne 6, 3) := by decide +kernel
theorem dX12_set_47 : decode cX12_set 47 = .ok (.bipush (-2), 2) := by decide +kernel
theorem dX12_set_49 : decode cX12_set 49 = .ok (.ireturn, 1) := by decide +kernel
theorem dX12_set_50 : decode cX12_set 50 = .ok (.aload_n 0, 1) := by decide +kernel
theorem dX12_set_51 : decode cX12_set 51 = .ok (.iload_n 2, 1) := by decide +kernel
theorem dX12_set_52 : decode cX12_set 52 = .ok (.iload_n 1, 1) := by decide +kernel
theorem dX12_set_53 : decode cX12_set 53 = .ok (.invokevirtual 89, 3) := by decide +kernel
theorem dX12_set_56 : decode cX12_set 56 = .ok (.istore 4, 2) := by decide +kernel
theorem dX12_set_58 : decode cX12_set 58 = .ok (.aload_n 0, 1) := by decide +kernel
theorem dX12_set_59 : decode cX12_set 59 = .ok (.iload_n 1, 1) := by decide +kernel
theorem dX12_set_60 : decode cX12_set 60 = .ok (.iload_n 2, 1) := by decide +kernel
theorem dX12_set_61 : decode cX12_set 61 = .ok (.iload_n 3, 1) := by decide +kernel
theorem dX12_set_62 : decode cX12_set 62 = .ok (.invokevirtual 93, 3) := by decide +kernel
theorem dX12_set_65 : decode cX12_set 65 = .ok (.iload 4, 2) := by decide +kernel
theorem dX12_set_67 : decode cX12_set 67 = .ok (.ireturn, 1) := by decide +kernel
theorem dX12_lays_0 : decode cX12_lays 0 = .ok (.iload_n 1, 1) := by decide +kernel
theorem dX12_lays_1 : decode cX12_lays 1 = .ok (.ifCond .ne 11, 3) := by decide +kernel
theorem dX12_lays_4 : decode cX12_lays 4 = .ok (.aload_n 0, 1) := by decide +kernel
theorem dX12_lays_5 : decode cX12_lays 5 = .ok (.iload_n 3, 1) := by decide +kernel
theorem dX12_lays_6 : decode cX12_lays 6 = .ok (.putfield 97, 3) := by decide +kernel
theorem dX12_lays_9 : decode cX12_lays 9 = .ok (.goto 44, 3) := by decide +kernel
theorem dX12_lays_12 : decode cX12_lays 12 = .ok (.iload_n 1, 1) := by decide +kernel
theorem dX12_lays_13 : decode cX12_lays 13 = .ok (.iconst 3, 1) := by decide +kernel
theorem dX12_lays_14 : decode cX12_lays 14 = .ok (.if_icmp .ge 19, 3) := by decide +kernel
theorem dX12_lays_17 : decode cX12_lays 17 = .ok (.aload_n 0, 1) := by decide +kernel
theorem dX12_lays_18 : decode cX12_lays 18 = .ok (.getfield 26, 3) := by decide +kernel
theorem dX12_lays_21 : decode cX12_lays 21 = .ok (.iconst 2, 1) := by decide +kernel
theorem dX12_lays_22 : decode cX12_lays 22 = .ok (.iload_n 2, 1) := by decide +kernel
theorem dX12_lays_23 : decode cX12_lays 23 = .ok (.imul, 1) := by decide +kernel
theorem dX12_lays_24 : decode cX12_lays 24 = .ok (.iload_n 1, 1) := by decide +kernel
theorem dX12_lays_25 : decode cX12_lays 25 = .ok (.iadd, 1) := by decide +kernel
theorem dX12_lays_26 : decode cX12_lays 26 = .ok (.iconst 1, 1) := by decide +kernel
theorem dX12_lays_27 : decode cX12_lays 27 = .ok (.isub, 1) := by decide +kernel
theorem dX12_lays_28 : decode cX12_lays 28 = .ok (.iload_n 3, 1) := by decide +kernel
theorem dX12_lays_29 : decode cX12_lays 29 = .ok (.iastore, 1) := by decide +kernel
theorem dX12_lays_30 : decode cX12_lays 30 = .ok (.goto 23, 3) := by decide +kernel
theorem dX12_lays_33 : decode cX12_lays 33 = .ok (.iload_n 1, 1) := by decide +kernel
theorem dX12_lays_34 : decode cX12_lays 34 = .ok (.iconst 3, 1) := by decide +kernel
theorem dX12_lays_35 : decode cX12_lays 35 = .ok (.if_icmp .ne 13, 3) := by decide +kernel
theorem dX12_lays_38 : decode cX12_lays 38 = .ok (.aload_n 0, 1) := by decide +kernel
theorem dX12_lays_39 : decode cX12_lays 39 = .ok (.getfield 23, 3) := by decide +kernel
theorem dX12_lays_42 : decode cX12_lays 42 = .ok (.iload_n 2, 1) := by decide +kernel
theorem dX12_lays_43 : decode cX12_lays 43 = .ok (.iload_n 3, 1) := by decide +kernel
theorem dX12_lays_44 : decode cX12_lays 44 = .ok (.iastore, 1) := by decide +kernel
theorem dX12_lays_45 : decode cX12_lays 45 = .ok (.goto 8, 3) := by decide +kernel
theorem dX12_lays_48 : decode cX12_lays 48 = .ok (.aload_n 0, 1) := by decide +kernel
theorem dX12_lays_49 : decode cX12_lays 49 = .ok (.iload_n 3, 1) := by decide +kernel
theorem dX12_lays_50 : decode cX12_lays 50 = .ok (.putfield 100, 3) := by decide +kernel
theorem dX12_lays_53 : decode cX12_lays 53 = .ok (.return_, 1) := by decide +kernel
theorem dX12_disk_0 : decode cX12_disk 0 = .ok (.iload_n 1, 1) := by decide +kernel
theorem dX12_disk_1 : decode cX12_disk 1 = .ok (.i2l, 1) := by decide +kernel
theorem dX12_disk_2 : decode cX12_disk 2 = .ok (.lconst 0, 1) := by decide +kernel
theorem dX12_disk_3 : decode cX12_disk 3 = .ok (.ldc2_w 103, 3) := by decide +kernel
theorem dX12_disk_6 : decode cX12_disk 6 = .ok (.invokestatic 73, 3) := by decide +kernel
theorem dX12_disk_9 : decode cX12_disk 9 = .ok (.ifCond .eq 15, 3) := by decide +kernel
theorem dX12_disk_12 : decode cX12_disk 12 = .ok (.iload_n 2, 1) := by decide +kernel
theorem dX12_disk_13 : decode cX12_disk 13 = .ok (.i2l, 1) := by decide +kernel
theorem dX12_disk_14 : decode cX12_disk 14 = .ok (.lconst 0, 1) := by decide +kernel
theorem dX12_disk_15 : decode cX12_disk 15 = .ok (.ldc2_w 85, 3) := by decide +kernel
theorem dX12_disk_18 : decode cX12_disk 18 = .ok (.invokestatic 73, 3) := by decide +kernel
theorem dX12_disk_21 : decode cX12_disk 21 = .ok (.ifCond .ne 6, 3) := by decide +kernel
theorem dX12_disk_24 : decode cX12_disk 24 = .ok (.bipush (-2), 2) := by decide +kernel
theorem dX12_disk_26 : decode cX12_disk 26 = .ok (.ireturn, 1) := by decide +kernel
theorem dX12_disk_27 : decode cX12_disk 27 = .ok (.aload_n 0, 1) := by decide +kernel
theorem dX12_disk_28 : decode cX12_disk 28 = .ok (.getfield 70, 3) := by decide +kernel
theorem dX12_disk_31 : decode cX12_disk 31 = .ok (.bipush 6, 2) := by decide +kernel
theorem dX12_disk_33 : decode cX12_disk 33 = .ok (.if_icmp .ne 6, 3) := by decide +kernel
theorem dX12_disk_36 : decode cX12_disk 36 = .ok (.bipush (-4), 2) := by decide +kernel
theorem dX12_disk_38 : decode cX12_disk 38 = .ok (.ireturn, 1) := by decide +kernel
theorem dX12_disk_39 : decode cX12_disk 39 = .ok (.aload_n 0, 1) := by decide +kernel
theorem dX12_disk_40 : decode cX12_disk 40 = .ok (.getfield 23, 3) := by decide +kernel
theorem dX12_disk_43 : decode cX12_disk 43 = .ok (.aload_n 0, 1) := by decide +kernel
theorem dX12_disk_44 : decode cX12_disk 44 = .ok (.getfield 70, 3) := by decide +kernel
theorem dX12_disk_47 : decode cX12_disk 47 = .ok (.iload_n 1, 1) := by decide +kernel
theorem dX12_disk_48 : decode cX12_disk 48 = .ok (.iastore, 1) := by decide +kernel
theorem dX12_disk_49 : decode cX12_disk 49 = .ok (.aload_n 0, 1) := by decide +kernel
theorem dX12_disk_50 : decode cX12_disk 50 = .ok (.getfield 26, 3) := by decide +kernel
theorem dX12_disk_53 : decode cX12_disk 53 = .ok (.iconst 2, 1) := by decide +kernel
theorem dX12_disk_54 : decode cX12_disk 54 = .ok (.aload_n 0, 1) := by decide +kernel
theorem dX12_disk_55 : decode cX12_disk 55 = .ok (.getfield 70, 3) := by decide +kernel
theorem dX12_disk_58 : decode cX12_disk 58 = .ok (.imul, 1) := by decide +kernel
theorem dX12_disk_59 : decode cX12_disk 59 = .ok (.iload_n 2, 1) := by decide +kernel
theorem dX12_disk_60 : decode cX12_disk 60 = .ok (.iastore, 1) := by decide +kernel
theorem dX12_disk_61 : decode cX12_disk 61 = .ok (.aload_n 0, 1) := by decide +kernel
theorem dX12_disk_62 : decode cX12_disk 62 = .ok (.getfield 26, 3) := by decide +kernel
theorem dX12_disk_65 : decode cX12_disk 65 = .ok (.iconst 2, 1) := by decide +kernel
theorem dX12_disk_66 : decode cX12_disk 66 = .ok (.aload_n 0, 1) := by decide +kernel
theorem dX12_disk_67 : decode cX12_disk 67 = .ok (.getfield 70, 3) := by decide +kernel
theorem dX12_disk_70 : decode cX12_disk 70 = .ok (.imul, 1) := by decide +kernel
theorem dX12_disk_71 : decode cX12_disk 71 = .ok (.iconst 1, 1) := by decide +kernel
theorem dX12_disk_72 : decode cX12_disk 72 = .ok (.iadd, 1) := by decide +kernel
theorem dX12_disk_73 : decode cX12_disk 73 = .ok (.aload_n 0, 1) := by decide +kernel
theorem dX12_disk_74 : decode cX12_disk 74 = .ok (.getfield 97, 3) := by decide +kernel
theorem dX12_disk_77 : decode cX12_disk 77 = .ok (.iastore, 1) := by decide +kernel
theorem dX12_disk_78 : decode cX12_disk 78 = .ok (.iconst 0, 1) := by decide +kernel
theorem dX12_disk_79 : decode cX12_disk 79 = .ok (.istore_n 3, 1) := by decide +kernel
theorem dX12_disk_80 : decode cX12_disk 80 = .ok (.iload_n 3, 1) := by decide +kernel
theorem dX12_disk_81 : decode cX12_disk 81 = .ok (.bipush 8, 2) := by decide +kernel
theorem dX12_disk_83 : decode cX12_disk 83 = .ok (.if_icmp .ge 18, 3) := by decide +kernel
theorem dX12_disk_86 : decode cX12_disk 86 = .ok (.aload_n 0, 1) := by decide +kernel
theorem dX12_disk_87 : decode cX12_disk 87 = .ok (.aload_n 0, 1) := by decide +kernel
theorem dX12_disk_88 : decode cX12_disk 88 = .ok (.getfield 70, 3) := by decide +kernel
theorem dX12_disk_91 : decode cX12_disk 91 = .ok (.iload_n 3, 1) := by decide +kernel
theorem dX12_disk_92 : decode cX12_disk 92 = .ok (.invokevirtual 105, 3) := by decide +kernel
theorem dX12_disk_95 : decode cX12_disk 95 = .ok (.iinc 3 1, 3) := by decide +kernel
theorem dX12_disk_98 : decode cX12_disk 98 = .ok (.goto (-18), 3) := by decide +kernel
theorem dX12_disk_101 : decode cX12_disk 101 = .ok (.aload_n 0, 1) := by decide +kernel
theorem dX12_disk_102 : decode cX12_disk 102 = .ok (.dup, 1) := by decide +kernel
theorem dX12_disk_103 : decode cX12_disk 103 = .ok (.getfield 70, 3) := by decide +kernel
theorem dX12_disk_106 : decode cX12_disk 106 = .ok (.iconst 1, 1) := by decide +kernel
theorem dX12_disk_107 : decode cX12_disk 107 = .ok (.iadd, 1) := by decide +kernel
theorem dX12_disk_108 : decode cX12_disk 108 = .ok (.putfield 70, 3) := by decide +kernel
theorem dX12_disk_111 : decode cX12_disk 111 = .ok (.aload_n 0, 1) := by decide +kernel
theorem dX12_disk_112 : decode cX12_disk 112 = .ok (.getfield 70, 3) := by decide +kernel
theorem dX12_disk_115 : decode cX12_disk 115 = .ok (.iconst 1, 1) := by decide +kernel
theorem dX12_disk_116 : decode cX12_disk 116 = .ok (.isub, 1) := by decide +kernel
theorem dX12_disk_117 : decode cX12_disk 117 = .ok (.ireturn, 1) := by decide +kernel
theorem dX12_empties_0 : decode cX12_empties 0 = .ok (.aload_n 0, 1) := by decide +kernel
theorem dX12_empties_1 : decode cX12_empties 1 = .ok (.getfield 29, 3) := by decide +kernel
theorem dX12_empties_4 : decode cX12_empties 4 = .ok (.bipush 8, 2) := by decide +kernel
theorem dX12_empties_6 : decode cX12_empties 6 = .ok (.iload_n 1, 1) := by decide +kernel
theorem dX12_empties_7 : decode cX12_empties 7 = .ok (.imul, 1) := by decide +kernel
theorem dX12_empties_8 : decode cX12_empties 8 = .ok (.iload_n 2, 1) := by decide +kernel
theorem dX12_empties_9 : decode cX12_empties 9 = .ok (.iadd, 1) := by decide +kernel
theorem dX12_empties_10 : decode cX12_empties 10 = .ok (.iconst (-1), 1) := by decide +kernel
theorem dX12_empties_11 : decode cX12_empties 11 = .ok (.iastore, 1) := by decide +kernel
theorem dX12_empties_12 : decode cX12_empties 12 = .ok (.aload_n 0, 1) := by decide +kernel
theorem dX12_empties_13 : decode cX12_empties 13 = .ok (.getfield 32, 3) := by decide +kernel
theorem dX12_empties_16 : decode cX12_empties 16 = .ok (.bipush 8, 2) := by decide +kernel
theorem dX12_empties_18 : decode cX12_empties 18 = .ok (.iload_n 1, 1) := by decide +kernel
theorem dX12_empties_19 : decode cX12_empties 19 = .ok (.imul, 1) := by decide +kernel
theorem dX12_empties_20 : decode cX12_empties 20 = .ok (.iload_n 2, 1) := by decide +kernel
theorem dX12_empties_21 : decode cX12_empties 21 = .ok (.iadd, 1) := by decide +kernel
theorem dX12_empties_22 : decode cX12_empties 22 = .ok (.bipush (-100), 2) := by decide +kernel
theorem dX12_empties_24 : decode cX12_empties 24 = .ok (.iastore, 1) := by decide +kernel
theorem dX12_empties_25 : decode cX12_empties 25 = .ok (.return_, 1) := by decide +kernel
theorem dX12_told_0 : decode cX12_told 0 = .ok (.iload_n 2, 1) := by decide +kernel
theorem dX12_told_1 : decode cX12_told 1 = .ok (.i2l, 1) := by decide +kernel
theorem dX12_told_2 : decode cX12_told 2 = .ok (.lconst 0, 1) := by decide +kernel
theorem dX12_told_3 : decode cX12_told 3 = .ok (.ldc2_w 109, 3) := by decide +kernel
theorem dX12_told_6 : decode cX12_told 6 = .ok (.invokestatic 73, 3) := by decide +kernel
theorem dX12_told_9 : decode cX12_told 9 = .ok (.ifCond .eq 15, 3) := by decide +kernel
theorem dX12_told_12 : decode cX12_told 12 = .ok (.iload_n 2, 1) := by decide +kernel
theorem dX12_told_13 : decode cX12_told 13 = .ok (.ifCond .le 14, 3) := by decide +kernel
theorem dX12_told_16 : decode cX12_told 16 = .ok (.aload_n 0, 1) := by decide +kernel
theorem dX12_told_17 : decode cX12_told 17 = .ok (.iload_n 1, 1) := by decide +kernel
theorem dX12_told_18 : decode cX12_told 18 = .ok (.invokevirtual 81, 3) := by decide +kernel
theorem dX12_told_21 : decode cX12_told 21 = .ok (.ifCond .ne 6, 3) := by decide +kernel
theorem dX12_told_24 : decode cX12_told 24 = .ok (.bipush (-2), 2) := by decide +kernel
theorem dX12_told_26 : decode cX12_told 26 = .ok (.ireturn, 1) := by decide +kernel
theorem dX12_told_27 : decode cX12_told 27 = .ok (.iload_n 2, 1) := by decide +kernel
theorem dX12_told_28 : decode cX12_told 28 = .ok (.iconst 4, 1) := by decide +kernel
theorem dX12_told_29 : decode cX12_told 29 = .ok (.if_icmp .ge 41, 3) := by decide +kernel
theorem dX12_told_32 : decode cX12_told 32 = .ok (.iload_n 2, 1) := by decide +kernel
theorem dX12_told_33 : decode cX12_told 33 = .ok (.ifCond .ne 10, 3) := by decide +kernel
theorem dX12_told_36 : decode cX12_told 36 = .ok (.aload_n 0, 1) := by decide +kernel
theorem dX12_told_37 : decode cX12_told 37 = .ok (.getfield 97, 3) := by decide +kernel
theorem dX12_told_40 : decode cX12_told 40 = .ok (.goto 29, 3) := by decide +kernel
theorem dX12_told_43 : decode cX12_told 43 = .ok (.iload_n 2, 1) := by decide +kernel
theorem dX12_told_44 : decode cX12_told 44 = .ok (.iconst 3, 1) := by decide +kernel
theorem dX12_told_45 : decode cX12_told 45 = .ok (.if_icmp .ge 18, 3) := by decide +kernel
theorem dX12_told_48 : decode cX12_told 48 = .ok (.aload_n 0, 1) := by decide +kernel
theorem dX12_told_49 : decode cX12_told 49 = .ok (.getfield 26, 3) := by decide +kernel
theorem dX12_told_52 : decode cX12_told 52 = .ok (.iconst 2, 1) := by decide +kernel
theorem dX12_told_53 : decode cX12_told 53 = .ok (.iload_n 1, 1) := by decide +kernel
theorem dX12_told_54 : decode cX12_told 54 = .ok (.imul, 1) := by decide +kernel
theorem dX12_told_55 : decode cX12_told 55 = .ok (.iload_n 2, 1) := by decide +kernel
theorem dX12_told_56 : decode cX12_told 56 = .ok (.iadd, 1) := by decide +kernel
theorem dX12_told_57 : decode cX12_told 57 = .ok (.iconst 1, 1) := by decide +kernel
theorem dX12_told_58 : decode cX12_told 58 = .ok (.isub, 1) := by decide +kernel
theorem dX12_told_59 : decode cX12_told 59 = .ok (.iaload, 1) := by decide +kernel
theorem dX12_told_60 : decode cX12_told 60 = .ok (.goto 9, 3) := by decide +kernel
theorem dX12_told_63 : decode cX12_told 63 = .ok (.aload_n 0, 1) := by decide +kernel
theorem dX12_told_64 : decode cX12_told 64 = .ok (.getfield 23, 3) := by decide +kernel
theorem dX12_told_67 : decode cX12_told 67 = .ok (.iload_n 1, 1) := by decide +kernel
theorem dX12_told_68 : decode cX12_told 68 = .ok (.iaload, 1) := by decide +kernel
theorem dX12_told_69 : decode cX12_told 69 = .ok (.ireturn, 1) := by decide +kernel
theorem dX12_told_70 : decode cX12_told 70 = .ok (.iload_n 2, 1) := by decide +kernel
theorem dX12_told_71 : decode cX12_told 71 = .ok (.iconst 4, 1) := by decide +kernel
theorem dX12_told_72 : decode cX12_told 72 = .ok (.if_icmp .ne 19, 3) := by decide +kernel
theorem dX12_told_75 : decode cX12_told 75 = .ok (.aload_n 0, 1) := by decide +kernel
theorem dX12_told_76 : decode cX12_told 76 = .ok (.iload_n 1, 1) := by decide +kernel
theorem dX12_told_77 : decode cX12_told 77 = .ok (.invokevirtual 111, 3) := by decide +kernel
theorem dX12_told_80 : decode cX12_told 80 = .ok (.ifCond .eq 7, 3) := by decide +kernel
theorem dX12_told_83 : decode cX12_told 83 = .ok (.iconst 1, 1) := by decide +kernel
theorem dX12_told_84 : decode cX12_told 84 = .ok (.goto 53, 3) := by decide +kernel
theorem dX12_told_87 : decode cX12_told 87 = .ok (.iconst 0, 1) := by decide +kernel
theorem dX12_told_88 : decode cX12_told 88 = .ok (.goto 49, 3) := by decide +kernel
theorem dX12_told_91 : decode cX12_told 91 = .ok (.iload_n 2, 1) := by decide +kernel
theorem dX12_told_92 : decode cX12_told 92 = .ok (.iconst 5, 1) := by decide +kernel
theorem dX12_told_93 : decode cX12_told 93 = .ok (.if_icmp .ne 11, 3) := by decide +kernel
theorem dX12_told_96 : decode cX12_told 96 = .ok (.aload_n 0, 1) := by decide +kernel
theorem dX12_told_97 : decode cX12_told 97 = .ok (.iload_n 1, 1) := by decide +kernel
theorem dX12_told_98 : decode cX12_told 98 = .ok (.invokevirtual 114, 3) := by decide +kernel
theorem dX12_told_101 : decode cX12_told 101 = .ok (.goto 36, 3) := by decide +kernel
theorem dX12_told_104 : decode cX12_told 104 = .ok (.iload_n 2, 1) := by decide +kernel
theorem dX12_told_105 : decode cX12_told 105 = .ok (.bipush 6, 2) := by decide +kernel
theorem dX12_told_107 : decode cX12_told 107 = .ok (.if_icmp .ne 11, 3) := by decide +kernel
theorem dX12_told_110 : decode cX12_told 110 = .ok (.aload_n 0, 1) := by decide +kernel
theorem dX12_told_111 : decode cX12_told 111 = .ok (.iload_n 1, 1) := by decide +kernel
theorem dX12_told_112 : decode cX12_told 112 = .ok (.invokevirtual 118, 3) := by decide +kernel
theorem dX12_told_115 : decode cX12_told 115 = .ok (.goto 22, 3) := by decide +kernel
theorem dX12_told_118 : decode cX12_told 118 = .ok (.iload_n 2, 1) := by decide +kernel
theorem dX12_told_119 : decode cX12_told 119 = .ok (.bipush 7, 2) := by decide +kernel
theorem dX12_told_121 : decode cX12_told 121 = .ok (.if_icmp .ne 11, 3) := by decide +kernel
theorem dX12_told_124 : decode cX12_told 124 = .ok (.aload_n 0, 1) := by decide +kernel
theorem dX12_told_125 : decode cX12_told 125 = .ok (.iload_n 1, 1) := by decide +kernel
theorem dX12_told_126 : decode cX12_told 126 = .ok (.invokevirtual 121, 3) := by decide +kernel
theorem dX12_told_129 : decode cX12_told 129 = .ok (.goto 8, 3) := by decide +kernel
theorem dX12_told_132 : decode cX12_told 132 = .ok (.aload_n 0, 1) := by decide +kernel
theorem dX12_told_133 : decode cX12_told 133 = .ok (.iload_n 1, 1) := by decide +kernel
theorem dX12_told_134 : decode cX12_told 134 = .ok (.invokevirtual 124, 3) := by decide +kernel
theorem dX12_told_137 : decode cX12_told 137 = .ok (.ireturn, 1) := by decide +kernel
theorem dX12_file_0 : decode cX12_file 0 = .ok (.aload_n 0, 1) := by decide +kernel
theorem dX12_file_1 : decode cX12_file 1 = .ok (.iload_n 1, 1) := by decide +kernel
theorem dX12_file_2 : decode cX12_file 2 = .ok (.invokevirtual 81, 3) := by decide +kernel
theorem dX12_file_5 : decode cX12_file 5 = .ok (.ifCond .eq 20, 3) := by decide +kernel
theorem dX12_file_8 : decode cX12_file 8 = .ok (.iload_n 2, 1) := by decide +kernel
theorem dX12_file_9 : decode cX12_file 9 = .ok (.invokestatic 127, 3) := by decide +kernel
theorem dX12_file_12 : decode cX12_file 12 = .ok (.ifCond .eq 13, 3) := by decide +kernel
theorem dX12_file_15 : decode cX12_file 15 = .ok (.iload_n 3, 1) := by decide +kernel
theorem dX12_file_16 : decode cX12_file 16 = .ok (.i2l, 1) := by decide +kernel
theorem dX12_file_17 : decode cX12_file 17 = .ok (.lconst 0, 1) := by decide +kernel
theorem dX12_file_18 : decode cX12_file 18 = .ok (.lconst 1, 1) := by decide +kernel
theorem dX12_file_19 : decode cX12_file 19 = .ok (.invokestatic 73, 3) := by decide +kernel
theorem dX12_file_22 : decode cX12_file 22 = .ok (.ifCond .ne 6, 3) := by decide +kernel
theorem dX12_file_25 : decode cX12_file 25 = .ok (.bipush (-2), 2) := by decide +kernel
theorem dX12_file_27 : decode cX12_file 27 = .ok (.ireturn, 1) := by decide +kernel
theorem dX12_file_28 : decode cX12_file 28 = .ok (.iload_n 3, 1) := by decide +kernel
theorem dX12_file_29 : decode cX12_file 29 = .ok (.ifCond .ne 17, 3) := by decide +kernel
theorem dX12_file_32 : decode cX12_file 32 = .ok (.aload_n 0, 1) := by decide +kernel
theorem dX12_file_33 : decode cX12_file 33 = .ok (.getfield 29, 3) := by decide +kernel
theorem dX12_file_36 : decode cX12_file 36 = .ok (.bipush 8, 2) := by decide +kernel
theorem dX12_file_38 : decode cX12_file 38 = .ok (.iload_n 1, 1) := by decide +kernel
