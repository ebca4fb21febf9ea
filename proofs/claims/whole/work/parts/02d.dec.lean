theorem dX12_again_21 : decode cX12_again 21 = .ok (.bipush (-2), 2) := by decide +kernel
theorem dX12_again_23 : decode cX12_again 23 = .ok (.ireturn, 1) := by decide +kernel
theorem dX12_again_24 : decode cX12_again 24 = .ok (.aload_n 0, 1) := by decide +kernel
theorem dX12_again_25 : decode cX12_again 25 = .ok (.iload_n 1, 1) := by decide +kernel
theorem dX12_again_26 : decode cX12_again 26 = .ok (.iload_n 2, 1) := by decide +kernel
theorem dX12_again_27 : decode cX12_again 27 = .ok (.invokevirtual 267, 3) := by decide +kernel
theorem dX12_again_30 : decode cX12_again 30 = .ok (.ifCond .ne 5, 3) := by decide +kernel
theorem dX12_again_33 : decode cX12_again 33 = .ok (.iconst 0, 1) := by decide +kernel
theorem dX12_again_34 : decode cX12_again 34 = .ok (.ireturn, 1) := by decide +kernel
theorem dX12_again_35 : decode cX12_again 35 = .ok (.aload_n 0, 1) := by decide +kernel
theorem dX12_again_36 : decode cX12_again 36 = .ok (.iload_n 2, 1) := by decide +kernel
theorem dX12_again_37 : decode cX12_again 37 = .ok (.invokevirtual 312, 3) := by decide +kernel
theorem dX12_again_40 : decode cX12_again 40 = .ok (.istore_n 3, 1) := by decide +kernel
theorem dX12_again_41 : decode cX12_again 41 = .ok (.aload_n 0, 1) := by decide +kernel
theorem dX12_again_42 : decode cX12_again 42 = .ok (.iconst 0, 1) := by decide +kernel
theorem dX12_again_43 : decode cX12_again 43 = .ok (.invokevirtual 302, 3) := by decide +kernel
theorem dX12_again_46 : decode cX12_again 46 = .ok (.aload_n 0, 1) := by decide +kernel
theorem dX12_again_47 : decode cX12_again 47 = .ok (.iload_n 1, 1) := by decide +kernel
theorem dX12_again_48 : decode cX12_again 48 = .ok (.iload_n 2, 1) := by decide +kernel
theorem dX12_again_49 : decode cX12_again 49 = .ok (.invokevirtual 270, 3) := by decide +kernel
theorem dX12_again_52 : decode cX12_again 52 = .ok (.pop, 1) := by decide +kernel
theorem dX12_again_53 : decode cX12_again 53 = .ok (.aload_n 0, 1) := by decide +kernel
theorem dX12_again_54 : decode cX12_again 54 = .ok (.iload_n 2, 1) := by decide +kernel
theorem dX12_again_55 : decode cX12_again 55 = .ok (.invokevirtual 312, 3) := by decide +kernel
theorem dX12_again_58 : decode cX12_again 58 = .ok (.istore 4, 2) := by decide +kernel
theorem dX12_again_60 : decode cX12_again 60 = .ok (.aload_n 0, 1) := by decide +kernel
theorem dX12_again_61 : decode cX12_again 61 = .ok (.iconst 0, 1) := by decide +kernel
theorem dX12_again_62 : decode cX12_again 62 = .ok (.invokevirtual 306, 3) := by decide +kernel
theorem dX12_again_65 : decode cX12_again 65 = .ok (.iload 4, 2) := by decide +kernel
theorem dX12_again_67 : decode cX12_again 67 = .ok (.iload_n 3, 1) := by decide +kernel
theorem dX12_again_68 : decode cX12_again 68 = .ok (.iconst (-1), 1) := by decide +kernel
theorem dX12_again_69 : decode cX12_again 69 = .ok (.ixor, 1) := by decide +kernel
theorem dX12_again_70 : decode cX12_again 70 = .ok (.iand, 1) := by decide +kernel
theorem dX12_again_71 : decode cX12_again 71 = .ok (.ireturn, 1) := by decide +kernel
theorem dX12_goes_0 : decode cX12_goes 0 = .ok (.aload_n 0, 1) := by decide +kernel
theorem dX12_goes_1 : decode cX12_goes 1 = .ok (.iload_n 1, 1) := by decide +kernel
theorem dX12_goes_2 : decode cX12_goes 2 = .ok (.invokevirtual 81, 3) := by decide +kernel
theorem dX12_goes_5 : decode cX12_goes 5 = .ok (.ifCond .ne 6, 3) := by decide +kernel
theorem dX12_goes_8 : decode cX12_goes 8 = .ok (.bipush (-2), 2) := by decide +kernel
theorem dX12_goes_10 : decode cX12_goes 10 = .ok (.ireturn, 1) := by decide +kernel
theorem dX12_goes_11 : decode cX12_goes 11 = .ok (.aload_n 0, 1) := by decide +kernel
theorem dX12_goes_12 : decode cX12_goes 12 = .ok (.getfield 97, 3) := by decide +kernel
theorem dX12_goes_15 : decode cX12_goes 15 = .ok (.istore_n 2, 1) := by decide +kernel
theorem dX12_goes_16 : decode cX12_goes 16 = .ok (.iconst (-1), 1) := by decide +kernel
theorem dX12_goes_17 : decode cX12_goes 17 = .ok (.istore_n 3, 1) := by decide +kernel
theorem dX12_goes_18 : decode cX12_goes 18 = .ok (.aload_n 0, 1) := by decide +kernel
theorem dX12_goes_19 : decode cX12_goes 19 = .ok (.iload_n 2, 1) := by decide +kernel
theorem dX12_goes_20 : decode cX12_goes 20 = .ok (.putfield 97, 3) := by decide +kernel
theorem dX12_goes_23 : decode cX12_goes 23 = .ok (.aload_n 0, 1) := by decide +kernel
theorem dX12_goes_24 : decode cX12_goes 24 = .ok (.getfield 97, 3) := by decide +kernel
theorem dX12_goes_27 : decode cX12_goes 27 = .ok (.sipush 999, 3) := by decide +kernel
theorem dX12_goes_30 : decode cX12_goes 30 = .ok (.if_icmp .gt 38, 3) := by decide +kernel
theorem dX12_goes_33 : decode cX12_goes 33 = .ok (.iload_n 3, 1) := by decide +kernel
theorem dX12_goes_34 : decode cX12_goes 34 = .ok (.iconst (-1), 1) := by decide +kernel
theorem dX12_goes_35 : decode cX12_goes 35 = .ok (.if_icmp .ne 33, 3) := by decide +kernel
theorem dX12_goes_38 : decode cX12_goes 38 = .ok (.aload_n 0, 1) := by decide +kernel
theorem dX12_goes_39 : decode cX12_goes 39 = .ok (.iload_n 1, 1) := by decide +kernel
theorem dX12_goes_40 : decode cX12_goes 40 = .ok (.invokevirtual 111, 3) := by decide +kernel
theorem dX12_goes_43 : decode cX12_goes 43 = .ok (.ifCond .eq 7, 3) := by decide +kernel
theorem dX12_goes_46 : decode cX12_goes 46 = .ok (.iconst (-1), 1) := by decide +kernel
theorem dX12_goes_47 : decode cX12_goes 47 = .ok (.goto 7, 3) := by decide +kernel
theorem dX12_goes_50 : decode cX12_goes 50 = .ok (.aload_n 0, 1) := by decide +kernel
theorem dX12_goes_51 : decode cX12_goes 51 = .ok (.getfield 97, 3) := by decide +kernel
theorem dX12_goes_54 : decode cX12_goes 54 = .ok (.istore_n 3, 1) := by decide +kernel
theorem dX12_goes_55 : decode cX12_goes 55 = .ok (.aload_n 0, 1) := by decide +kernel
theorem dX12_goes_56 : decode cX12_goes 56 = .ok (.dup, 1) := by decide +kernel
theorem dX12_goes_57 : decode cX12_goes 57 = .ok (.getfield 97, 3) := by decide +kernel
theorem dX12_goes_60 : decode cX12_goes 60 = .ok (.iconst 1, 1) := by decide +kernel
theorem dX12_goes_61 : decode cX12_goes 61 = .ok (.iadd, 1) := by decide +kernel
theorem dX12_goes_62 : decode cX12_goes 62 = .ok (.putfield 97, 3) := by decide +kernel
theorem dX12_goes_65 : decode cX12_goes 65 = .ok (.goto (-42), 3) := by decide +kernel
theorem dX12_goes_68 : decode cX12_goes 68 = .ok (.aload_n 0, 1) := by decide +kernel
theorem dX12_goes_69 : decode cX12_goes 69 = .ok (.iload_n 2, 1) := by decide +kernel
theorem dX12_goes_70 : decode cX12_goes 70 = .ok (.putfield 97, 3) := by decide +kernel
theorem dX12_goes_73 : decode cX12_goes 73 = .ok (.iload_n 3, 1) := by decide +kernel
theorem dX12_goes_74 : decode cX12_goes 74 = .ok (.ireturn, 1) := by decide +kernel
theorem dX12_isPlan_0 : decode cX12_isPlan 0 = .ok (.aload_n 0, 1) := by decide +kernel
theorem dX12_isPlan_1 : decode cX12_isPlan 1 = .ok (.getfield 57, 3) := by decide +kernel
theorem dX12_isPlan_4 : decode cX12_isPlan 4 = .ok (.iload_n 1, 1) := by decide +kernel
theorem dX12_isPlan_5 : decode cX12_isPlan 5 = .ok (.iaload, 1) := by decide +kernel
theorem dX12_isPlan_6 : decode cX12_isPlan 6 = .ok (.iconst 2, 1) := by decide +kernel
theorem dX12_isPlan_7 : decode cX12_isPlan 7 = .ok (.irem, 1) := by decide +kernel
theorem dX12_isPlan_8 : decode cX12_isPlan 8 = .ok (.ifCond .eq 5, 3) := by decide +kernel
theorem dX12_isPlan_11 : decode cX12_isPlan 11 = .ok (.iconst 0, 1) := by decide +kernel
theorem dX12_isPlan_12 : decode cX12_isPlan 12 = .ok (.ireturn, 1) := by decide +kernel
theorem dX12_isPlan_13 : decode cX12_isPlan 13 = .ok (.iconst 0, 1) := by decide +kernel
theorem dX12_isPlan_14 : decode cX12_isPlan 14 = .ok (.istore_n 2, 1) := by decide +kernel
theorem dX12_isPlan_15 : decode cX12_isPlan 15 = .ok (.iload_n 2, 1) := by decide +kernel
theorem dX12_isPlan_16 : decode cX12_isPlan 16 = .ok (.aload_n 0, 1) := by decide +kernel
theorem dX12_isPlan_17 : decode cX12_isPlan 17 = .ok (.getfield 57, 3) := by decide +kernel
theorem dX12_isPlan_20 : decode cX12_isPlan 20 = .ok (.iload_n 1, 1) := by decide +kernel
theorem dX12_isPlan_21 : decode cX12_isPlan 21 = .ok (.iaload, 1) := by decide +kernel
theorem dX12_isPlan_22 : decode cX12_isPlan 22 = .ok (.if_icmp .ge 29, 3) := by decide +kernel
theorem dX12_isPlan_25 : decode cX12_isPlan 25 = .ok (.aload_n 0, 1) := by decide +kernel
theorem dX12_isPlan_26 : decode cX12_isPlan 26 = .ok (.aload_n 0, 1) := by decide +kernel
theorem dX12_isPlan_27 : decode cX12_isPlan 27 = .ok (.getfield 60, 3) := by decide +kernel
theorem dX12_isPlan_30 : decode cX12_isPlan 30 = .ok (.bipush 40, 2) := by decide +kernel
theorem dX12_isPlan_32 : decode cX12_isPlan 32 = .ok (.iload_n 1, 1) := by decide +kernel
theorem dX12_isPlan_33 : decode cX12_isPlan 33 = .ok (.imul, 1) := by decide +kernel
theorem dX12_isPlan_34 : decode cX12_isPlan 34 = .ok (.iload_n 2, 1) := by decide +kernel
theorem dX12_isPlan_35 : decode cX12_isPlan 35 = .ok (.iadd, 1) := by decide +kernel
theorem dX12_isPlan_36 : decode cX12_isPlan 36 = .ok (.iaload, 1) := by decide +kernel
theorem dX12_isPlan_37 : decode cX12_isPlan 37 = .ok (.invokevirtual 81, 3) := by decide +kernel
theorem dX12_isPlan_40 : decode cX12_isPlan 40 = .ok (.ifCond .ne 5, 3) := by decide +kernel
theorem dX12_isPlan_43 : decode cX12_isPlan 43 = .ok (.iconst 0, 1) := by decide +kernel
theorem dX12_isPlan_44 : decode cX12_isPlan 44 = .ok (.ireturn, 1) := by decide +kernel
theorem dX12_isPlan_45 : decode cX12_isPlan 45 = .ok (.iinc 2 1, 3) := by decide +kernel
theorem dX12_isPlan_48 : decode cX12_isPlan 48 = .ok (.goto (-33), 3) := by decide +kernel
theorem dX12_isPlan_51 : decode cX12_isPlan 51 = .ok (.iconst 1, 1) := by decide +kernel
theorem dX12_isPlan_52 : decode cX12_isPlan 52 = .ok (.ireturn, 1) := by decide +kernel
theorem dX12_plan_0 : decode cX12_plan 0 = .ok (.iload_n 1, 1) := by decide +kernel
theorem dX12_plan_1 : decode cX12_plan 1 = .ok (.invokestatic 315, 3) := by decide +kernel
theorem dX12_plan_4 : decode cX12_plan 4 = .ok (.ifCond .eq 15, 3) := by decide +kernel
theorem dX12_plan_7 : decode cX12_plan 7 = .ok (.iload_n 2, 1) := by decide +kernel
theorem dX12_plan_8 : decode cX12_plan 8 = .ok (.i2l, 1) := by decide +kernel
theorem dX12_plan_9 : decode cX12_plan 9 = .ok (.lconst 0, 1) := by decide +kernel
theorem dX12_plan_10 : decode cX12_plan 10 = .ok (.ldc2_w 79, 3) := by decide +kernel
theorem dX12_plan_13 : decode cX12_plan 13 = .ok (.invokestatic 73, 3) := by decide +kernel
theorem dX12_plan_16 : decode cX12_plan 16 = .ok (.ifCond .ne 6, 3) := by decide +kernel
theorem dX12_plan_19 : decode cX12_plan 19 = .ok (.bipush (-2), 2) := by decide +kernel
theorem dX12_plan_21 : decode cX12_plan 21 = .ok (.ireturn, 1) := by decide +kernel
theorem dX12_plan_22 : decode cX12_plan 22 = .ok (.aload_n 0, 1) := by decide +kernel
theorem dX12_plan_23 : decode cX12_plan 23 = .ok (.getfield 50, 3) := by decide +kernel
theorem dX12_plan_26 : decode cX12_plan 26 = .ok (.iload_n 1, 1) := by decide +kernel
theorem dX12_plan_27 : decode cX12_plan 27 = .ok (.baload, 1) := by decide +kernel
theorem dX12_plan_28 : decode cX12_plan 28 = .ok (.ifCond .ne 6, 3) := by decide +kernel
theorem dX12_plan_31 : decode cX12_plan 31 = .ok (.bipush (-11), 2) := by decide +kernel
theorem dX12_plan_33 : decode cX12_plan 33 = .ok (.ireturn, 1) := by decide +kernel
theorem dX12_plan_34 : decode cX12_plan 34 = .ok (.aload_n 0, 1) := by decide +kernel
theorem dX12_plan_35 : decode cX12_plan 35 = .ok (.iload_n 1, 1) := by decide +kernel
theorem dX12_plan_36 : decode cX12_plan 36 = .ok (.invokevirtual 318, 3) := by decide +kernel
theorem dX12_plan_39 : decode cX12_plan 39 = .ok (.ifCond .ne 6, 3) := by decide +kernel
theorem dX12_plan_42 : decode cX12_plan 42 = .ok (.bipush (-2), 2) := by decide +kernel
theorem dX12_plan_44 : decode cX12_plan 44 = .ok (.ireturn, 1) := by decide +kernel
theorem dX12_plan_45 : decode cX12_plan 45 = .ok (.iconst (-1), 1) := by decide +kernel
theorem dX12_plan_46 : decode cX12_plan 46 = .ok (.istore_n 3, 1) := by decide +kernel
theorem dX12_plan_47 : decode cX12_plan 47 = .ok (.aload_n 0, 1) := by decide +kernel
theorem dX12_plan_48 : decode cX12_plan 48 = .ok (.iconst 0, 1) := by decide +kernel
theorem dX12_plan_49 : decode cX12_plan 49 = .ok (.invokevirtual 302, 3) := by decide +kernel
theorem dX12_plan_52 : decode cX12_plan 52 = .ok (.iconst 0, 1) := by decide +kernel
theorem dX12_plan_53 : decode cX12_plan 53 = .ok (.istore 4, 2) := by decide +kernel
theorem dX12_plan_55 : decode cX12_plan 55 = .ok (.iload 4, 2) := by decide +kernel
theorem dX12_plan_57 : decode cX12_plan 57 = .ok (.aload_n 0, 1) := by decide +kernel
theorem dX12_plan_58 : decode cX12_plan 58 = .ok (.getfield 57, 3) := by decide +kernel
theorem dX12_plan_61 : decode cX12_plan 61 = .ok (.iload_n 1, 1) := by decide +kernel
theorem dX12_plan_62 : decode cX12_plan 62 = .ok (.iaload, 1) := by decide +kernel
theorem dX12_plan_63 : decode cX12_plan 63 = .ok (.if_icmp .ge 75, 3) := by decide +kernel
theorem dX12_plan_66 : decode cX12_plan 66 = .ok (.iload_n 3, 1) := by decide +kernel
theorem dX12_plan_67 : decode cX12_plan 67 = .ok (.iconst (-1), 1) := by decide +kernel
theorem dX12_plan_68 : decode cX12_plan 68 = .ok (.if_icmp .ne 70, 3) := by decide +kernel
theorem dX12_plan_71 : decode cX12_plan 71 = .ok (.bipush 40, 2) := by decide +kernel
theorem dX12_plan_73 : decode cX12_plan 73 = .ok (.iload_n 1, 1) := by decide +kernel
theorem dX12_plan_74 : decode cX12_plan 74 = .ok (.imul, 1) := by decide +kernel
theorem dX12_plan_75 : decode cX12_plan 75 = .ok (.iload 4, 2) := by decide +kernel
theorem dX12_plan_77 : decode cX12_plan 77 = .ok (.iadd, 1) := by decide +kernel
theorem dX12_plan_78 : decode cX12_plan 78 = .ok (.istore 5, 2) := by decide +kernel
theorem dX12_plan_80 : decode cX12_plan 80 = .ok (.aload_n 0, 1) := by decide +kernel
theorem dX12_plan_81 : decode cX12_plan 81 = .ok (.aload_n 0, 1) := by decide +kernel
theorem dX12_plan_82 : decode cX12_plan 82 = .ok (.getfield 60, 3) := by decide +kernel
theorem dX12_plan_85 : decode cX12_plan 85 = .ok (.iload 5, 2) := by decide +kernel
theorem dX12_plan_87 : decode cX12_plan 87 = .ok (.iaload, 1) := by decide +kernel
theorem dX12_plan_88 : decode cX12_plan 88 = .ok (.aload_n 0, 1) := by decide +kernel
theorem dX12_plan_89 : decode cX12_plan 89 = .ok (.getfield 60, 3) := by decide +kernel
theorem dX12_plan_92 : decode cX12_plan 92 = .ok (.iload 5, 2) := by decide +kernel
theorem dX12_plan_94 : decode cX12_plan 94 = .ok (.iconst 1, 1) := by decide +kernel
theorem dX12_plan_95 : decode cX12_plan 95 = .ok (.iadd, 1) := by decide +kernel
theorem dX12_plan_96 : decode cX12_plan 96 = .ok (.iaload, 1) := by decide +kernel
theorem dX12_plan_97 : decode cX12_plan 97 = .ok (.invokevirtual 267, 3) := by decide +kernel
theorem dX12_plan_100 : decode cX12_plan 100 = .ok (.ifCond .eq 27, 3) := by decide +kernel
theorem dX12_plan_103 : decode cX12_plan 103 = .ok (.aload_n 0, 1) := by decide +kernel
theorem dX12_plan_104 : decode cX12_plan 104 = .ok (.aload_n 0, 1) := by decide +kernel
theorem dX12_plan_105 : decode cX12_plan 105 = .ok (.getfield 60, 3) := by decide +kernel
theorem dX12_plan_108 : decode cX12_plan 108 = .ok (.iload 5, 2) := by decide +kernel
theorem dX12_plan_110 : decode cX12_plan 110 = .ok (.iaload, 1) := by decide +kernel
theorem dX12_plan_111 : decode cX12_plan 111 = .ok (.aload_n 0, 1) := by decide +kernel
theorem dX12_plan_112 : decode cX12_plan 112 = .ok (.getfield 60, 3) := by decide +kernel
theorem dX12_plan_115 : decode cX12_plan 115 = .ok (.iload 5, 2) := by decide +kernel
theorem dX12_plan_117 : decode cX12_plan 117 = .ok (.iconst 1, 1) := by decide +kernel
theorem dX12_plan_118 : decode cX12_plan 118 = .ok (.iadd, 1) := by decide +kernel
theorem dX12_plan_119 : decode cX12_plan 119 = .ok (.iaload, 1) := by decide +kernel
theorem dX12_plan_120 : decode cX12_plan 120 = .ok (.invokevirtual 270, 3) := by decide +kernel
theorem dX12_plan_123 : decode cX12_plan 123 = .ok (.pop, 1) := by decide +kernel
theorem dX12_plan_124 : decode cX12_plan 124 = .ok (.goto 8, 3) := by decide +kernel
theorem dX12_plan_127 : decode cX12_plan 127 = .ok (.iload 4, 2) := by decide +kernel
theorem dX12_plan_129 : decode cX12_plan 129 = .ok (.iconst 2, 1) := by decide +kernel
theorem dX12_plan_130 : decode cX12_plan 130 = .ok (.idiv, 1) := by decide +kernel
theorem dX12_plan_131 : decode cX12_plan 131 = .ok (.istore_n 3, 1) := by decide +kernel
theorem dX12_plan_132 : decode cX12_plan 132 = .ok (.iinc 4 2, 3) := by decide +kernel
theorem dX12_plan_135 : decode cX12_plan 135 = .ok (.goto (-80), 3) := by decide +kernel
theorem dX12_plan_138 : decode cX12_plan 138 = .ok (.iload_n 2, 1) := by decide +kernel
theorem dX12_plan_139 : decode cX12_plan 139 = .ok (.ifCond .ne 7, 3) := by decide +kernel
theorem dX12_plan_142 : decode cX12_plan 142 = .ok (.iload_n 3, 1) := by decide +kernel
theorem dX12_plan_143 : decode cX12_plan 143 = .ok (.goto 20, 3) := by decide +kernel
theorem dX12_plan_146 : decode cX12_plan 146 = .ok (.iload_n 2, 1) := by decide +kernel
theorem dX12_plan_147 : decode cX12_plan 147 = .ok (.iconst 1, 1) := by decide +kernel
theorem dX12_plan_148 : decode cX12_plan 148 = .ok (.if_icmp .ne 11, 3) := by decide +kernel
theorem dX12_plan_151 : decode cX12_plan 151 = .ok (.aload_n 0, 1) := by decide +kernel
theorem dX12_plan_152 : decode cX12_plan 152 = .ok (.iconst 2, 1) := by decide +kernel
theorem dX12_plan_153 : decode cX12_plan 153 = .ok (.invokevirtual 291, 3) := by decide +kernel
theorem dX12_plan_156 : decode cX12_plan 156 = .ok (.goto 7, 3) := by decide +kernel
theorem dX12_plan_159 : decode cX12_plan 159 = .ok (.aload_n 0, 1) := by decide +kernel
theorem dX12_plan_160 : decode cX12_plan 160 = .ok (.invokevirtual 288, 3) := by decide +kernel
theorem dX12_plan_163 : decode cX12_plan 163 = .ok (.istore 4, 2) := by decide +kernel
theorem dX12_plan_165 : decode cX12_plan 165 = .ok (.aload_n 0, 1) := by decide +kernel
theorem dX12_plan_166 : decode cX12_plan 166 = .ok (.iconst 0, 1) := by decide +kernel
theorem dX12_plan_167 : decode cX12_plan 167 = .ok (.invokevirtual 306, 3) := by decide +kernel
theorem dX12_plan_170 : decode cX12_plan 170 = .ok (.iload 4, 2) := by decide +kernel
theorem dX12_plan_172 : decode cX12_plan 172 = .ok (.ireturn, 1) := by decide +kernel
theorem dX12_unlike_0 : decode cX12_unlike 0 = .ok (.iconst 0, 1) := by decide +kernel
theorem dX12_unlike_1 : decode cX12_unlike 1 = .ok (.istore_n 3, 1) := by decide +kernel
theorem dX12_unlike_2 : decode cX12_unlike 2 = .ok (.iconst 0, 1) := by decide +kernel
theorem dX12_unlike_3 : decode cX12_unlike 3 = .ok (.istore 4, 2) := by decide +kernel
theorem dX12_unlike_5 : decode cX12_unlike 5 = .ok (.iload 4, 2) := by decide +kernel
theorem dX12_unlike_7 : decode cX12_unlike 7 = .ok (.bipush 8, 2) := by decide +kernel
theorem dX12_unlike_9 : decode cX12_unlike 9 = .ok (.if_icmp .ge 47, 3) := by decide +kernel
theorem dX12_unlike_12 : decode cX12_unlike 12 = .ok (.iload_n 3, 1) := by decide +kernel
theorem dX12_unlike_13 : decode cX12_unlike 13 = .ok (.aload_n 0, 1) := by decide +kernel
theorem dX12_unlike_14 : decode cX12_unlike 14 = .ok (.getfield 29, 3) := by decide +kernel
theorem dX12_unlike_17 : decode cX12_unlike 17 = .ok (.bipush 8, 2) := by decide +kernel
theorem dX12_unlike_19 : decode cX12_unlike 19 = .ok (.iload_n 2, 1) := by decide +kernel
theorem dX12_unlike_20 : decode cX12_unlike 20 = .ok (.imul, 1) := by decide +kernel
theorem dX12_unlike_21 : decode cX12_unlike 21 = .ok (.iload 4, 2) := by decide +kernel
theorem dX12_unlike_23 : decode cX12_unlike 23 = .ok (.iadd, 1) := by decide +kernel
theorem dX12_unlike_24 : decode cX12_unlike 24 = .ok (.iaload, 1) := by decide +kernel
theorem dX12_unlike_25 : decode cX12_unlike 25 = .ok (.aload_n 0, 1) := by decide +kernel
theorem dX12_unlike_26 : decode cX12_unlike 26 = .ok (.getfield 60, 3) := by decide +kernel
theorem dX12_unlike_29 : decode cX12_unlike 29 = .ok (.bipush 40, 2) := by decide +kernel
theorem dX12_unlike_31 : decode cX12_unlike 31 = .ok (.iload_n 1, 1) := by decide +kernel
theorem dX12_unlike_32 : decode cX12_unlike 32 = .ok (.imul, 1) := by decide +kernel
theorem dX12_unlike_33 : decode cX12_unlike 33 = .ok (.iload 4, 2) := by decide +kernel
theorem dX12_unlike_35 : decode cX12_unlike 35 = .ok (.iadd, 1) := by decide +kernel
theorem dX12_unlike_36 : decode cX12_unlike 36 = .ok (.iaload, 1) := by decide +kernel
theorem dX12_unlike_37 : decode cX12_unlike 37 = .ok (.if_icmp .ne 7, 3) := by decide +kernel
theorem dX12_unlike_40 : decode cX12_unlike 40 = .ok (.iconst 0, 1) := by decide +kernel
theorem dX12_unlike_41 : decode cX12_unlike 41 = .ok (.goto 4, 3) := by decide +kernel
theorem dX12_unlike_44 : decode cX12_unlike 44 = .ok (.iconst 1, 1) := by decide +kernel
theorem dX12_unlike_45 : decode cX12_unlike 45 = .ok (.iload 4, 2) := by decide +kernel
theorem dX12_unlike_47 : decode cX12_unlike 47 = .ok (.ishl, 1) := by decide +kernel
theorem dX12_unlike_48 : decode cX12_unlike 48 = .ok (.ior, 1) := by decide +kernel
theorem dX12_unlike_49 : decode cX12_unlike 49 = .ok (.istore_n 3, 1) := by decide +kernel
theorem dX12_unlike_50 : decode cX12_unlike 50 = .ok (.iinc 4 1, 3) := by decide +kernel
theorem dX12_unlike_53 : decode cX12_unlike 53 = .ok (.goto (-48), 3) := by decide +kernel
theorem dX12_unlike_56 : decode cX12_unlike 56 = .ok (.iload_n 3, 1) := by decide +kernel
theorem dX12_unlike_57 : decode cX12_unlike 57 = .ok (.ireturn, 1) := by decide +kernel
theorem dX12_comesTo_0 : decode cX12_comesTo 0 = .ok (.aload_n 0, 1) := by decide +kernel
theorem dX12_comesTo_1 : decode cX12_comesTo 1 = .ok (.iload_n 2, 1) := by decide +kernel
theorem dX12_comesTo_2 : decode cX12_comesTo 2 = .ok (.iload_n 3, 1) := by decide +kernel
theorem dX12_comesTo_3 : decode cX12_comesTo 3 = .ok (.invokevirtual 267, 3) := by decide +kernel
theorem dX12_comesTo_6 : decode cX12_comesTo 6 = .ok (.ifCond .ne 5, 3) := by decide +kernel
theorem dX12_comesTo_9 : decode cX12_comesTo 9 = .ok (.iconst 0, 1) := by decide +kernel
theorem dX12_comesTo_10 : decode cX12_comesTo 10 = .ok (.ireturn, 1) := by decide +kernel
theorem dX12_comesTo_11 : decode cX12_comesTo 11 = .ok (.aload_n 0, 1) := by decide +kernel
theorem dX12_comesTo_12 : decode cX12_comesTo 12 = .ok (.iconst 0, 1) := by decide +kernel
theorem dX12_comesTo_13 : decode cX12_comesTo 13 = .ok (.invokevirtual 302, 3) := by decide +kernel
theorem dX12_comesTo_16 : decode cX12_comesTo 16 = .ok (.aload_n 0, 1) := by decide +kernel
theorem dX12_comesTo_17 : decode cX12_comesTo 17 = .ok (.iload_n 2, 1) := by decide +kernel
theorem dX12_comesTo_18 : decode cX12_comesTo 18 = .ok (.iload_n 3, 1) := by decide +kernel
theorem dX12_comesTo_19 : decode cX12_comesTo 19 = .ok (.invokevirtual 270, 3) := by decide +kernel
theorem dX12_comesTo_22 : decode cX12_comesTo 22 = .ok (.pop, 1) := by decide +kernel
theorem dX12_comesTo_23 : decode cX12_comesTo 23 = .ok (.aload_n 0, 1) := by decide +kernel
theorem dX12_comesTo_24 : decode cX12_comesTo 24 = .ok (.iload_n 1, 1) := by decide +kernel
theorem dX12_comesTo_25 : decode cX12_comesTo 25 = .ok (.iload_n 3, 1) := by decide +kernel
theorem dX12_comesTo_26 : decode cX12_comesTo 26 = .ok (.invokevirtual 321, 3) := by decide +kernel
theorem dX12_comesTo_29 : decode cX12_comesTo 29 = .ok (.ifCond .ne 7, 3) := by decide +kernel
theorem dX12_comesTo_32 : decode cX12_comesTo 32 = .ok (.iconst 1, 1) := by decide +kernel
theorem dX12_comesTo_33 : decode cX12_comesTo 33 = .ok (.goto 4, 3) := by decide +kernel
theorem dX12_comesTo_36 : decode cX12_comesTo 36 = .ok (.iconst 0, 1) := by decide +kernel
theorem dX12_comesTo_37 : decode cX12_comesTo 37 = .ok (.istore 4, 2) := by decide +kernel
theorem dX12_comesTo_39 : decode cX12_comesTo 39 = .ok (.aload_n 0, 1) := by decide +kernel
theorem dX12_comesTo_40 : decode cX12_comesTo 40 = .ok (.iconst 0, 1) := by decide +kernel
theorem dX12_comesTo_41 : decode cX12_comesTo 41 = .ok (.invokevirtual 306, 3) := by decide +kernel
theorem dX12_comesTo_44 : decode cX12_comesTo 44 = .ok (.iload 4, 2) := by decide +kernel
theorem dX12_comesTo_46 : decode cX12_comesTo 46 = .ok (.ireturn, 1) := by decide +kernel
theorem dX12_tells_0 : decode cX12_tells 0 = .ok (.iload_n 1, 1) := by decide +kernel
theorem dX12_tells_1 : decode cX12_tells 1 = .ok (.invokestatic 315, 3) := by decide +kernel
theorem dX12_tells_4 : decode cX12_tells 4 = .ok (.ifCond .eq 24, 3) := by decide +kernel
theorem dX12_tells_7 : decode cX12_tells 7 = .ok (.aload_n 0, 1) := by decide +kernel
theorem dX12_tells_8 : decode cX12_tells 8 = .ok (.iload_n 2, 1) := by decide +kernel
theorem dX12_tells_9 : decode cX12_tells 9 = .ok (.invokevirtual 81, 3) := by decide +kernel
theorem dX12_tells_12 : decode cX12_tells 12 = .ok (.ifCond .eq 16, 3) := by decide +kernel
theorem dX12_tells_15 : decode cX12_tells 15 = .ok (.iload 4, 2) := by decide +kernel
theorem dX12_tells_17 : decode cX12_tells 17 = .ok (.i2l, 1) := by decide +kernel
theorem dX12_tells_18 : decode cX12_tells 18 = .ok (.lconst 0, 1) := by decide +kernel
theorem dX12_tells_19 : decode cX12_tells 19 = .ok (.ldc2_w 324, 3) := by decide +kernel
theorem dX12_tells_22 : decode cX12_tells 22 = .ok (.invokestatic 73, 3) := by decide +kernel
theorem dX12_tells_25 : decode cX12_tells 25 = .ok (.ifCond .ne 6, 3) := by decide +kernel
theorem dX12_tells_28 : decode cX12_tells 28 = .ok (.bipush (-2), 2) := by decide +kernel
theorem dX12_tells_30 : decode cX12_tells 30 = .ok (.ireturn, 1) := by decide +kernel
theorem dX12_tells_31 : decode cX12_tells 31 = .ok (.iload 4, 2) := by decide +kernel
theorem dX12_tells_33 : decode cX12_tells 33 = .ok (.iconst 1, 1) := by decide +kernel
theorem dX12_tells_34 : decode cX12_tells 34 = .ok (.if_icmp .eq 15, 3) := by decide +kernel
theorem dX12_tells_37 : decode cX12_tells 37 = .ok (.iload 4, 2) := by decide +kernel
theorem dX12_tells_39 : decode cX12_tells 39 = .ok (.iconst 2, 1) := by decide +kernel
theorem dX12_tells_40 : decode cX12_tells 40 = .ok (.if_icmp .eq 9, 3) := by decide +kernel
theorem dX12_tells_43 : decode cX12_tells 43 = .ok (.iload 4, 2) := by decide +kernel
theorem dX12_tells_45 : decode cX12_tells 45 = .ok (.iconst 4, 1) := by decide +kernel
theorem dX12_tells_46 : decode cX12_tells 46 = .ok (.if_icmp .ne 7, 3) := by decide +kernel
theorem dX12_tells_49 : decode cX12_tells 49 = .ok (.iconst 1, 1) := by decide +kernel
theorem dX12_tells_50 : decode cX12_tells 50 = .ok (.goto 4, 3) := by decide +kernel
theorem dX12_tells_53 : decode cX12_tells 53 = .ok (.iconst 0, 1) := by decide +kernel
theorem dX12_tells_54 : decode cX12_tells 54 = .ok (.istore 5, 2) := by decide +kernel
theorem dX12_tells_56 : decode cX12_tells 56 = .ok (.iload 5, 2) := by decide +kernel
theorem dX12_tells_58 : decode cX12_tells 58 = .ok (.ifCond .eq 19, 3) := by decide +kernel
theorem dX12_tells_61 : decode cX12_tells 61 = .ok (.aload_n 0, 1) := by decide +kernel
theorem dX12_tells_62 : decode cX12_tells 62 = .ok (.iload_n 3, 1) := by decide +kernel
theorem dX12_tells_63 : decode cX12_tells 63 = .ok (.invokevirtual 81, 3) := by decide +kernel
theorem dX12_tells_66 : decode cX12_tells 66 = .ok (.ifCond .eq 8, 3) := by decide +kernel
theorem dX12_tells_69 : decode cX12_tells 69 = .ok (.iload_n 3, 1) := by decide +kernel
theorem dX12_tells_70 : decode cX12_tells 70 = .ok (.iload_n 2, 1) := by decide +kernel
theorem dX12_tells_71 : decode cX12_tells 71 = .ok (.if_icmp .ne 6, 3) := by decide +kernel
theorem dX12_tells_74 : decode cX12_tells 74 = .ok (.bipush (-2), 2) := by decide +kernel
theorem dX12_tells_76 : decode cX12_tells 76 = .ok (.ireturn, 1) := by decide +kernel
theorem dX12_tells_77 : decode cX12_tells 77 = .ok (.aload_n 0, 1) := by decide +kernel
theorem dX12_tells_78 : decode cX12_tells 78 = .ok (.getfield 50, 3) := by decide +kernel
theorem dX12_tells_81 : decode cX12_tells 81 = .ok (.iload_n 1, 1) := by decide +kernel
theorem dX12_tells_82 : decode cX12_tells 82 = .ok (.baload, 1) := by decide +kernel
theorem dX12_tells_83 : decode cX12_tells 83 = .ok (.ifCond .ne 6, 3) := by decide +kernel
theorem dX12_tells_86 : decode cX12_tells 86 = .ok (.bipush (-11), 2) := by decide +kernel
theorem dX12_tells_88 : decode cX12_tells 88 = .ok (.ireturn, 1) := by decide +kernel
theorem dX12_tells_89 : decode cX12_tells 89 = .ok (.aload_n 0, 1) := by decide +kernel
theorem dX12_tells_90 : decode cX12_tells 90 = .ok (.getfield 57, 3) := by decide +kernel
theorem dX12_tells_93 : decode cX12_tells 93 = .ok (.iload_n 1, 1) := by decide +kernel
theorem dX12_tells_94 : decode cX12_tells 94 = .ok (.iaload, 1) := by decide +kernel
theorem dX12_tells_95 : decode cX12_tells 95 = .ok (.bipush 8, 2) := by decide +kernel
theorem dX12_tells_97 : decode cX12_tells 97 = .ok (.if_icmp .eq 6, 3) := by decide +kernel
theorem dX12_tells_100 : decode cX12_tells 100 = .ok (.bipush (-2), 2) := by decide +kernel
theorem dX12_tells_102 : decode cX12_tells 102 = .ok (.ireturn, 1) := by decide +kernel
theorem dX12_tells_103 : decode cX12_tells 103 = .ok (.iload 4, 2) := by decide +kernel
theorem dX12_tells_105 : decode cX12_tells 105 = .ok (.ifCond .ne 10, 3) := by decide +kernel
theorem dX12_tells_108 : decode cX12_tells 108 = .ok (.aload_n 0, 1) := by decide +kernel
theorem dX12_tells_109 : decode cX12_tells 109 = .ok (.iload_n 1, 1) := by decide +kernel
theorem dX12_tells_110 : decode cX12_tells 110 = .ok (.iload_n 2, 1) := by decide +kernel
theorem dX12_tells_111 : decode cX12_tells 111 = .ok (.invokevirtual 321, 3) := by decide +kernel
theorem dX12_tells_114 : decode cX12_tells 114 = .ok (.ireturn, 1) := by decide +kernel
theorem dX12_tells_115 : decode cX12_tells 115 = .ok (.iconst 0, 1) := by decide +kernel
theorem dX12_tells_116 : decode cX12_tells 116 = .ok (.istore 6, 2) := by decide +kernel
theorem dX12_tells_118 : decode cX12_tells 118 = .ok (.iload 4, 2) := by decide +kernel
theorem dX12_tells_120 : decode cX12_tells 120 = .ok (.iconst 3, 1) := by decide +kernel
theorem dX12_tells_121 : decode cX12_tells 121 = .ok (.if_icmp .ne 48, 3) := by decide +kernel
theorem dX12_tells_124 : decode cX12_tells 124 = .ok (.iconst 0, 1) := by decide +kernel
theorem dX12_tells_125 : decode cX12_tells 125 = .ok (.istore 7, 2) := by decide +kernel
theorem dX12_tells_127 : decode cX12_tells 127 = .ok (.iload 7, 2) := by decide +kernel
theorem dX12_tells_129 : decode cX12_tells 129 = .ok (.aload_n 0, 1) := by decide +kernel
theorem dX12_tells_130 : decode cX12_tells 130 = .ok (.getfield 70, 3) := by decide +kernel
theorem dX12_tells_133 : decode cX12_tells 133 = .ok (.if_icmp .ge 33, 3) := by decide +kernel
theorem dX12_tells_136 : decode cX12_tells 136 = .ok (.iload 6, 2) := by decide +kernel
theorem dX12_tells_138 : decode cX12_tells 138 = .ok (.aload_n 0, 1) := by decide +kernel
theorem dX12_tells_139 : decode cX12_tells 139 = .ok (.iload_n 1, 1) := by decide +kernel
theorem dX12_tells_140 : decode cX12_tells 140 = .ok (.iload 7, 2) := by decide +kernel
theorem dX12_tells_142 : decode cX12_tells 142 = .ok (.iload_n 2, 1) := by decide +kernel
theorem dX12_tells_143 : decode cX12_tells 143 = .ok (.invokevirtual 326, 3) := by decide +kernel
theorem dX12_tells_146 : decode cX12_tells 146 = .ok (.ifCond .eq 7, 3) := by decide +kernel
theorem dX12_tells_149 : decode cX12_tells 149 = .ok (.iconst 1, 1) := by decide +kernel
theorem dX12_tells_150 : decode cX12_tells 150 = .ok (.goto 4, 3) := by decide +kernel
theorem dX12_tells_153 : decode cX12_tells 153 = .ok (.iconst 0, 1) := by decide +kernel
theorem dX12_tells_154 : decode cX12_tells 154 = .ok (.iload 7, 2) := by decide +kernel
theorem dX12_tells_156 : decode cX12_tells 156 = .ok (.ishl, 1) := by decide +kernel
theorem dX12_tells_157 : decode cX12_tells 157 = .ok (.ior, 1) := by decide +kernel
theorem dX12_tells_158 : decode cX12_tells 158 = .ok (.istore 6, 2) := by decide +kernel
theorem dX12_tells_160 : decode cX12_tells 160 = .ok (.iinc 7 1, 3) := by decide +kernel
theorem dX12_tells_163 : decode cX12_tells 163 = .ok (.goto (-36), 3) := by decide +kernel
theorem dX12_tells_166 : decode cX12_tells 166 = .ok (.iload 6, 2) := by decide +kernel
theorem dX12_tells_168 : decode cX12_tells 168 = .ok (.ireturn, 1) := by decide +kernel
theorem dX12_tells_169 : decode cX12_tells 169 = .ok (.iload 4, 2) := by decide +kernel
theorem dX12_tells_171 : decode cX12_tells 171 = .ok (.iconst 1, 1) := by decide +kernel
theorem dX12_tells_172 : decode cX12_tells 172 = .ok (.if_icmp .ne 7, 3) := by decide +kernel
theorem dX12_tells_175 : decode cX12_tells 175 = .ok (.iconst 3, 1) := by decide +kernel
theorem dX12_tells_176 : decode cX12_tells 176 = .ok (.goto 14, 3) := by decide +kernel
theorem dX12_tells_179 : decode cX12_tells 179 = .ok (.iload 4, 2) := by decide +kernel
theorem dX12_tells_181 : decode cX12_tells 181 = .ok (.iconst 2, 1) := by decide +kernel
theorem dX12_tells_182 : decode cX12_tells 182 = .ok (.if_icmp .ne 7, 3) := by decide +kernel
theorem dX12_tells_185 : decode cX12_tells 185 = .ok (.iconst 1, 1) := by decide +kernel
theorem dX12_tells_186 : decode cX12_tells 186 = .ok (.goto 4, 3) := by decide +kernel
theorem dX12_tells_189 : decode cX12_tells 189 = .ok (.iconst 4, 1) := by decide +kernel
theorem dX12_tells_190 : decode cX12_tells 190 = .ok (.istore 7, 2) := by decide +kernel
theorem dX12_tells_192 : decode cX12_tells 192 = .ok (.iload 7, 2) := by decide +kernel
theorem dX12_tells_194 : decode cX12_tells 194 = .ok (.iconst 4, 1) := by decide +kernel
theorem dX12_tells_195 : decode cX12_tells 195 = .ok (.if_icmp .ne 10, 3) := by decide +kernel
theorem dX12_tells_198 : decode cX12_tells 198 = .ok (.aload_n 0, 1) := by decide +kernel
theorem dX12_tells_199 : decode cX12_tells 199 = .ok (.getfield 100, 3) := by decide +kernel
theorem dX12_tells_202 : decode cX12_tells 202 = .ok (.goto 10, 3) := by decide +kernel
theorem dX12_tells_205 : decode cX12_tells 205 = .ok (.aload_n 0, 1) := by decide +kernel
theorem dX12_tells_206 : decode cX12_tells 206 = .ok (.iload_n 2, 1) := by decide +kernel
theorem dX12_tells_207 : decode cX12_tells 207 = .ok (.iload 7, 2) := by decide +kernel
theorem dX12_tells_209 : decode cX12_tells 209 = .ok (.invokevirtual 89, 3) := by decide +kernel
theorem dX12_tells_212 : decode cX12_tells 212 = .ok (.istore 8, 2) := by decide +kernel
theorem dX12_tells_214 : decode cX12_tells 214 = .ok (.iload 4, 2) := by decide +kernel
theorem dX12_tells_216 : decode cX12_tells 216 = .ok (.iconst 1, 1) := by decide +kernel
theorem dX12_tells_217 : decode cX12_tells 217 = .ok (.if_icmp .ne 8, 3) := by decide +kernel
theorem dX12_tells_220 : decode cX12_tells 220 = .ok (.bipush 6, 2) := by decide +kernel
theorem dX12_tells_222 : decode cX12_tells 222 = .ok (.goto 18, 3) := by decide +kernel
theorem dX12_tells_225 : decode cX12_tells 225 = .ok (.iload 4, 2) := by decide +kernel
theorem dX12_tells_227 : decode cX12_tells 227 = .ok (.iconst 2, 1) := by decide +kernel
theorem dX12_tells_228 : decode cX12_tells 228 = .ok (.if_icmp .ne 8, 3) := by decide +kernel
theorem dX12_tells_231 : decode cX12_tells 231 = .ok (.bipush 10, 2) := by decide +kernel
theorem dX12_tells_233 : decode cX12_tells 233 = .ok (.goto 7, 3) := by decide +kernel
theorem dX12_tells_236 : decode cX12_tells 236 = .ok (.aload_n 0, 1) := by decide +kernel
theorem dX12_tells_237 : decode cX12_tells 237 = .ok (.getfield 67, 3) := by decide +kernel
theorem dX12_tells_240 : decode cX12_tells 240 = .ok (.istore 9, 2) := by decide +kernel
theorem dX12_tells_242 : decode cX12_tells 242 = .ok (.iconst 0, 1) := by decide +kernel
theorem dX12_tells_243 : decode cX12_tells 243 = .ok (.istore 10, 2) := by decide +kernel
theorem dX12_tells_245 : decode cX12_tells 245 = .ok (.iload 10, 2) := by decide +kernel
theorem dX12_tells_247 : decode cX12_tells 247 = .ok (.iload 9, 2) := by decide +kernel
theorem dX12_tells_249 : decode cX12_tells 249 = .ok (.if_icmp .ge 41, 3) := by decide +kernel
theorem dX12_tells_252 : decode cX12_tells 252 = .ok (.aload_n 0, 1) := by decide +kernel
theorem dX12_tells_253 : decode cX12_tells 253 = .ok (.iload 7, 2) := by decide +kernel
theorem dX12_tells_255 : decode cX12_tells 255 = .ok (.iload_n 2, 1) := by decide +kernel
theorem dX12_tells_256 : decode cX12_tells 256 = .ok (.iload 10, 2) := by decide +kernel
theorem dX12_tells_258 : decode cX12_tells 258 = .ok (.invokevirtual 93, 3) := by decide +kernel
theorem dX12_tells_261 : decode cX12_tells 261 = .ok (.iload 6, 2) := by decide +kernel
theorem dX12_tells_263 : decode cX12_tells 263 = .ok (.aload_n 0, 1) := by decide +kernel
theorem dX12_tells_264 : decode cX12_tells 264 = .ok (.iload_n 1, 1) := by decide +kernel
theorem dX12_tells_265 : decode cX12_tells 265 = .ok (.iload_n 3, 1) := by decide +kernel
theorem dX12_tells_266 : decode cX12_tells 266 = .ok (.iload_n 2, 1) := by decide +kernel
theorem dX12_tells_267 : decode cX12_tells 267 = .ok (.invokevirtual 326, 3) := by decide +kernel
theorem dX12_tells_270 : decode cX12_tells 270 = .ok (.ifCond .eq 7, 3) := by decide +kernel
theorem dX12_tells_273 : decode cX12_tells 273 = .ok (.iconst 1, 1) := by decide +kernel
theorem dX12_tells_274 : decode cX12_tells 274 = .ok (.goto 4, 3) := by decide +kernel
theorem dX12_tells_277 : decode cX12_tells 277 = .ok (.iconst 0, 1) := by decide +kernel
theorem dX12_tells_278 : decode cX12_tells 278 = .ok (.iload 10, 2) := by decide +kernel
theorem dX12_tells_280 : decode cX12_tells 280 = .ok (.ishl, 1) := by decide +kernel
theorem dX12_tells_281 : decode cX12_tells 281 = .ok (.ior, 1) := by decide +kernel
theorem dX12_tells_282 : decode cX12_tells 282 = .ok (.istore 6, 2) := by decide +kernel
theorem dX12_tells_284 : decode cX12_tells 284 = .ok (.iinc 10 1, 3) := by decide +kernel
theorem dX12_tells_287 : decode cX12_tells 287 = .ok (.goto (-42), 3) := by decide +kernel
theorem dX12_tells_290 : decode cX12_tells 290 = .ok (.aload_n 0, 1) := by decide +kernel
theorem dX12_tells_291 : decode cX12_tells 291 = .ok (.iload 7, 2) := by decide +kernel
theorem dX12_tells_293 : decode cX12_tells 293 = .ok (.iload_n 2, 1) := by decide +kernel
theorem dX12_tells_294 : decode cX12_tells 294 = .ok (.iload 8, 2) := by decide +kernel
theorem dX12_tells_296 : decode cX12_tells 296 = .ok (.invokevirtual 93, 3) := by decide +kernel
theorem dX12_tells_299 : decode cX12_tells 299 = .ok (.iload 6, 2) := by decide +kernel
theorem dX12_tells_301 : decode cX12_tells 301 = .ok (.ireturn, 1) := by decide +kernel
theorem dX12_film_0 : decode cX12_film 0 = .ok (.iload_n 1, 1) := by decide +kernel
theorem dX12_film_1 : decode cX12_film 1 = .ok (.invokestatic 315, 3) := by decide +kernel
theorem dX12_film_4 : decode cX12_film 4 = .ok (.ifCond .eq 11, 3) := by decide +kernel
theorem dX12_film_7 : decode cX12_film 7 = .ok (.aload_n 0, 1) := by decide +kernel
theorem dX12_film_8 : decode cX12_film 8 = .ok (.iload_n 2, 1) := by decide +kernel
theorem dX12_film_9 : decode cX12_film 9 = .ok (.invokevirtual 81, 3) := by decide +kernel
theorem dX12_film_12 : decode cX12_film 12 = .ok (.ifCond .ne 6, 3) := by decide +kernel
theorem dX12_film_15 : decode cX12_film 15 = .ok (.bipush (-2), 2) := by decide +kernel
theorem dX12_film_17 : decode cX12_film 17 = .ok (.ireturn, 1) := by decide +kernel
theorem dX12_film_18 : decode cX12_film 18 = .ok (.aload_n 0, 1) := by decide +kernel
theorem dX12_film_19 : decode cX12_film 19 = .ok (.iload_n 1, 1) := by decide +kernel
theorem dX12_film_20 : decode cX12_film 20 = .ok (.iconst 1, 1) := by decide +kernel
theorem dX12_film_21 : decode cX12_film 21 = .ok (.bipush 8, 2) := by decide +kernel
theorem dX12_film_23 : decode cX12_film 23 = .ok (.invokevirtual 329, 3) := by decide +kernel
theorem dX12_film_26 : decode cX12_film 26 = .ok (.pop, 1) := by decide +kernel
theorem dX12_film_27 : decode cX12_film 27 = .ok (.iconst 0, 1) := by decide +kernel
theorem dX12_film_28 : decode cX12_film 28 = .ok (.istore_n 3, 1) := by decide +kernel
theorem dX12_film_29 : decode cX12_film 29 = .ok (.iload_n 3, 1) := by decide +kernel
theorem dX12_film_30 : decode cX12_film 30 = .ok (.bipush 8, 2) := by decide +kernel
theorem dX12_film_32 : decode cX12_film 32 = .ok (.if_icmp .ge 31, 3) := by decide +kernel
theorem dX12_film_35 : decode cX12_film 35 = .ok (.aload_n 0, 1) := by decide +kernel
theorem dX12_film_36 : decode cX12_film 36 = .ok (.getfield 60, 3) := by decide +kernel
theorem dX12_film_39 : decode cX12_film 39 = .ok (.bipush 40, 2) := by decide +kernel
theorem dX12_film_41 : decode cX12_film 41 = .ok (.iload_n 1, 1) := by decide +kernel
theorem dX12_film_42 : decode cX12_film 42 = .ok (.imul, 1) := by decide +kernel
theorem dX12_film_43 : decode cX12_film 43 = .ok (.iload_n 3, 1) := by decide +kernel
theorem dX12_film_44 : decode cX12_film 44 = .ok (.iadd, 1) := by decide +kernel
theorem dX12_film_45 : decode cX12_film 45 = .ok (.aload_n 0, 1) := by decide +kernel
theorem dX12_film_46 : decode cX12_film 46 = .ok (.getfield 29, 3) := by decide +kernel
theorem dX12_film_49 : decode cX12_film 49 = .ok (.bipush 8, 2) := by decide +kernel
theorem dX12_film_51 : decode cX12_film 51 = .ok (.iload_n 2, 1) := by decide +kernel
theorem dX12_film_52 : decode cX12_film 52 = .ok (.imul, 1) := by decide +kernel
theorem dX12_film_53 : decode cX12_film 53 = .ok (.iload_n 3, 1) := by decide +kernel
theorem dX12_film_54 : decode cX12_film 54 = .ok (.iadd, 1) := by decide +kernel
theorem dX12_film_55 : decode cX12_film 55 = .ok (.iaload, 1) := by decide +kernel
theorem dX12_film_56 : decode cX12_film 56 = .ok (.iastore, 1) := by decide +kernel
theorem dX12_film_57 : decode cX12_film 57 = .ok (.iinc 3 1, 3) := by decide +kernel
theorem dX12_film_60 : decode cX12_film 60 = .ok (.goto (-31), 3) := by decide +kernel
theorem dX12_film_63 : decode cX12_film 63 = .ok (.bipush 8, 2) := by decide +kernel
theorem dX12_film_65 : decode cX12_film 65 = .ok (.ireturn, 1) := by decide +kernel
theorem dX12_goneBy_0 : decode cX12_goneBy 0 = .ok (.iload_n 1, 1) := by decide +kernel
theorem dX12_goneBy_1 : decode cX12_goneBy 1 = .ok (.istore_n 2, 1) := by decide +kernel
theorem dX12_goneBy_2 : decode cX12_goneBy 2 = .ok (.iconst 0, 1) := by decide +kernel
theorem dX12_goneBy_3 : decode cX12_goneBy 3 = .ok (.istore_n 3, 1) := by decide +kernel
theorem dX12_goneBy_4 : decode cX12_goneBy 4 = .ok (.iconst 0, 1) := by decide +kernel
theorem dX12_goneBy_5 : decode cX12_goneBy 5 = .ok (.istore 4, 2) := by decide +kernel
theorem dX12_goneBy_7 : decode cX12_goneBy 7 = .ok (.iload 4, 2) := by decide +kernel
theorem dX12_goneBy_9 : decode cX12_goneBy 9 = .ok (.aload_n 0, 1) := by decide +kernel
theorem dX12_goneBy_10 : decode cX12_goneBy 10 = .ok (.getfield 70, 3) := by decide +kernel
theorem dX12_goneBy_13 : decode cX12_goneBy 13 = .ok (.if_icmp .ge 55, 3) := by decide +kernel
theorem dX12_goneBy_16 : decode cX12_goneBy 16 = .ok (.aload_n 0, 1) := by decide +kernel
theorem dX12_goneBy_17 : decode cX12_goneBy 17 = .ok (.iload 4, 2) := by decide +kernel
theorem dX12_goneBy_19 : decode cX12_goneBy 19 = .ok (.invokevirtual 111, 3) := by decide +kernel
theorem dX12_goneBy_22 : decode cX12_goneBy 22 = .ok (.ifCond .eq 40, 3) := by decide +kernel
theorem dX12_goneBy_25 : decode cX12_goneBy 25 = .ok (.iload_n 2, 1) := by decide +kernel
theorem dX12_goneBy_26 : decode cX12_goneBy 26 = .ok (.ldc_w 332, 3) := by decide +kernel
theorem dX12_goneBy_29 : decode cX12_goneBy 29 = .ok (.imul, 1) := by decide +kernel
theorem dX12_goneBy_30 : decode cX12_goneBy 30 = .ok (.sipush 12345, 3) := by decide +kernel
theorem dX12_goneBy_33 : decode cX12_goneBy 33 = .ok (.iadd, 1) := by decide +kernel
theorem dX12_goneBy_34 : decode cX12_goneBy 34 = .ok (.istore_n 2, 1) := by decide +kernel
theorem dX12_goneBy_35 : decode cX12_goneBy 35 = .ok (.iload_n 3, 1) := by decide +kernel
theorem dX12_goneBy_36 : decode cX12_goneBy 36 = .ok (.iload_n 2, 1) := by decide +kernel
theorem dX12_goneBy_37 : decode cX12_goneBy 37 = .ok (.bipush 9, 2) := by decide +kernel
theorem dX12_goneBy_39 : decode cX12_goneBy 39 = .ok (.iushr, 1) := by decide +kernel
theorem dX12_goneBy_40 : decode cX12_goneBy 40 = .ok (.bipush 100, 2) := by decide +kernel
theorem dX12_goneBy_42 : decode cX12_goneBy 42 = .ok (.irem, 1) := by decide +kernel
theorem dX12_goneBy_43 : decode cX12_goneBy 43 = .ok (.aload_n 0, 1) := by decide +kernel
theorem dX12_goneBy_44 : decode cX12_goneBy 44 = .ok (.iload 4, 2) := by decide +kernel
theorem dX12_goneBy_46 : decode cX12_goneBy 46 = .ok (.invokevirtual 124, 3) := by decide +kernel
theorem dX12_goneBy_49 : decode cX12_goneBy 49 = .ok (.if_icmp .ge 7, 3) := by decide +kernel
theorem dX12_goneBy_52 : decode cX12_goneBy 52 = .ok (.iconst 1, 1) := by decide +kernel
theorem dX12_goneBy_53 : decode cX12_goneBy 53 = .ok (.goto 4, 3) := by decide +kernel
theorem dX12_goneBy_56 : decode cX12_goneBy 56 = .ok (.iconst 0, 1) := by decide +kernel
theorem dX12_goneBy_57 : decode cX12_goneBy 57 = .ok (.iload 4, 2) := by decide +kernel
theorem dX12_goneBy_59 : decode cX12_goneBy 59 = .ok (.ishl, 1) := by decide +kernel
theorem dX12_goneBy_60 : decode cX12_goneBy 60 = .ok (.ior, 1) := by decide +kernel
theorem dX12_goneBy_61 : decode cX12_goneBy 61 = .ok (.istore_n 3, 1) := by decide +kernel
theorem dX12_goneBy_62 : decode cX12_goneBy 62 = .ok (.iinc 4 1, 3) := by decide +kernel
theorem dX12_goneBy_65 : decode cX12_goneBy 65 = .ok (.goto (-58), 3) := by decide +kernel
theorem dX12_goneBy_68 : decode cX12_goneBy 68 = .ok (.iload_n 3, 1) := by decide +kernel
theorem dX12_goneBy_69 : decode cX12_goneBy 69 = .ok (.ireturn, 1) := by decide +kernel
theorem dX12_lot_0 : decode cX12_lot 0 = .ok (.aload_n 0, 1) := by decide +kernel
theorem dX12_lot_1 : decode cX12_lot 1 = .ok (.aload_n 0, 1) := by decide +kernel
theorem dX12_lot_2 : decode cX12_lot 2 = .ok (.iload_n 1, 1) := by decide +kernel
theorem dX12_lot_3 : decode cX12_lot 3 = .ok (.invokevirtual 333, 3) := by decide +kernel
theorem dX12_lot_6 : decode cX12_lot 6 = .ok (.putfield 273, 3) := by decide +kernel
theorem dX12_lot_9 : decode cX12_lot 9 = .ok (.aload_n 0, 1) := by decide +kernel
theorem dX12_lot_10 : decode cX12_lot 10 = .ok (.invokevirtual 297, 3) := by decide +kernel
theorem dX12_lot_13 : decode cX12_lot 13 = .ok (.istore_n 2, 1) := by decide +kernel
theorem dX12_lot_14 : decode cX12_lot 14 = .ok (.aload_n 0, 1) := by decide +kernel
theorem dX12_lot_15 : decode cX12_lot 15 = .ok (.iconst 0, 1) := by decide +kernel
theorem dX12_lot_16 : decode cX12_lot 16 = .ok (.putfield 273, 3) := by decide +kernel
theorem dX12_lot_19 : decode cX12_lot 19 = .ok (.iload_n 2, 1) := by decide +kernel
theorem dX12_lot_20 : decode cX12_lot 20 = .ok (.ireturn, 1) := by decide +kernel
theorem dX12_chance_0 : decode cX12_chance 0 = .ok (.iload_n 2, 1) := by decide +kernel
theorem dX12_chance_1 : decode cX12_chance 1 = .ok (.i2l, 1) := by decide +kernel
theorem dX12_chance_2 : decode cX12_chance 2 = .ok (.lconst 1, 1) := by decide +kernel
theorem dX12_chance_3 : decode cX12_chance 3 = .ok (.ldc2_w 336, 3) := by decide +kernel
theorem dX12_chance_6 : decode cX12_chance 6 = .ok (.invokestatic 73, 3) := by decide +kernel
theorem dX12_chance_9 : decode cX12_chance 9 = .ok (.ifCond .eq 13, 3) := by decide +kernel
theorem dX12_chance_12 : decode cX12_chance 12 = .ok (.iload_n 3, 1) := by decide +kernel
theorem dX12_chance_13 : decode cX12_chance 13 = .ok (.i2l, 1) := by decide +kernel
theorem dX12_chance_14 : decode cX12_chance 14 = .ok (.lconst 0, 1) := by decide +kernel
theorem dX12_chance_15 : decode cX12_chance 15 = .ok (.lconst 1, 1) := by decide +kernel
theorem dX12_chance_16 : decode cX12_chance 16 = .ok (.invokestatic 73, 3) := by decide +kernel
theorem dX12_chance_19 : decode cX12_chance 19 = .ok (.ifCond .ne 7, 3) := by decide +kernel
theorem dX12_chance_22 : decode cX12_chance 22 = .ok (.ldc2_w 338, 3) := by decide +kernel
theorem dX12_chance_25 : decode cX12_chance 25 = .ok (.lreturn, 1) := by decide +kernel
theorem dX12_chance_26 : decode cX12_chance 26 = .ok (.aload_n 0, 1) := by decide +kernel
theorem dX12_chance_27 : decode cX12_chance 27 = .ok (.iconst 1, 1) := by decide +kernel
theorem dX12_chance_28 : decode cX12_chance 28 = .ok (.invokevirtual 291, 3) := by decide +kernel
theorem dX12_chance_31 : decode cX12_chance 31 = .ok (.istore 4, 2) := by decide +kernel
theorem dX12_chance_33 : decode cX12_chance 33 = .ok (.lconst 0, 1) := by decide +kernel
theorem dX12_chance_34 : decode cX12_chance 34 = .ok (.lstore 5, 2) := by decide +kernel
theorem dX12_chance_36 : decode cX12_chance 36 = .ok (.iconst 0, 1) := by decide +kernel
theorem dX12_chance_37 : decode cX12_chance 37 = .ok (.istore 7, 2) := by decide +kernel
theorem dX12_chance_39 : decode cX12_chance 39 = .ok (.iload 7, 2) := by decide +kernel
theorem dX12_chance_41 : decode cX12_chance 41 = .ok (.iload_n 2, 1) := by decide +kernel
theorem dX12_chance_42 : decode cX12_chance 42 = .ok (.if_icmp .ge 46, 3) := by decide +kernel
theorem dX12_chance_45 : decode cX12_chance 45 = .ok (.aload_n 0, 1) := by decide +kernel
theorem dX12_chance_46 : decode cX12_chance 46 = .ok (.aload_n 0, 1) := by decide +kernel
theorem dX12_chance_47 : decode cX12_chance 47 = .ok (.iload_n 1, 1) := by decide +kernel
theorem dX12_chance_48 : decode cX12_chance 48 = .ok (.iload 7, 2) := by decide +kernel
theorem dX12_chance_50 : decode cX12_chance 50 = .ok (.iadd, 1) := by decide +kernel
theorem dX12_chance_51 : decode cX12_chance 51 = .ok (.invokevirtual 333, 3) := by decide +kernel
theorem dX12_chance_54 : decode cX12_chance 54 = .ok (.putfield 273, 3) := by decide +kernel
theorem dX12_chance_57 : decode cX12_chance 57 = .ok (.lload 5, 2) := by decide +kernel
theorem dX12_chance_59 : decode cX12_chance 59 = .ok (.aload_n 0, 1) := by decide +kernel
theorem dX12_chance_60 : decode cX12_chance 60 = .ok (.iconst 1, 1) := by decide +kernel
theorem dX12_chance_61 : decode cX12_chance 61 = .ok (.invokevirtual 291, 3) := by decide +kernel
theorem dX12_chance_64 : decode cX12_chance 64 = .ok (.iload 4, 2) := by decide +kernel
theorem dX12_chance_66 : decode cX12_chance 66 = .ok (.if_icmp .ne 7, 3) := by decide +kernel
theorem dX12_chance_69 : decode cX12_chance 69 = .ok (.lconst 1, 1) := by decide +kernel
theorem dX12_chance_70 : decode cX12_chance 70 = .ok (.goto 4, 3) := by decide +kernel
theorem dX12_chance_73 : decode cX12_chance 73 = .ok (.lconst 0, 1) := by decide +kernel
theorem dX12_chance_74 : decode cX12_chance 74 = .ok (.ladd, 1) := by decide +kernel
theorem dX12_chance_75 : decode cX12_chance 75 = .ok (.lstore 5, 2) := by decide +kernel
theorem dX12_chance_77 : decode cX12_chance 77 = .ok (.aload_n 0, 1) := by decide +kernel
theorem dX12_chance_78 : decode cX12_chance 78 = .ok (.iconst 0, 1) := by decide +kernel
theorem dX12_chance_79 : decode cX12_chance 79 = .ok (.putfield 273, 3) := by decide +kernel
theorem dX12_chance_82 : decode cX12_chance 82 = .ok (.iinc 7 1, 3) := by decide +kernel
theorem dX12_chance_85 : decode cX12_chance 85 = .ok (.goto (-46), 3) := by decide +kernel
theorem dX12_chance_88 : decode cX12_chance 88 = .ok (.lload 5, 2) := by decide +kernel
theorem dX12_chance_90 : decode cX12_chance 90 = .ok (.lstore 7, 2) := by decide +kernel
theorem dX12_chance_92 : decode cX12_chance 92 = .ok (.iload_n 2, 1) := by decide +kernel
theorem dX12_chance_93 : decode cX12_chance 93 = .ok (.i2l, 1) := by decide +kernel
theorem dX12_chance_94 : decode cX12_chance 94 = .ok (.lstore 9, 2) := by decide +kernel
theorem dX12_chance_96 : decode cX12_chance 96 = .ok (.lload 9, 2) := by decide +kernel
theorem dX12_chance_98 : decode cX12_chance 98 = .ok (.lconst 0, 1) := by decide +kernel
theorem dX12_chance_99 : decode cX12_chance 99 = .ok (.lcmp, 1) := by decide +kernel
theorem dX12_chance_100 : decode cX12_chance 100 = .ok (.ifCond .eq 21, 3) := by decide +kernel
theorem dX12_chance_103 : decode cX12_chance 103 = .ok (.lload 7, 2) := by decide +kernel
theorem dX12_chance_105 : decode cX12_chance 105 = .ok (.lload 9, 2) := by decide +kernel
theorem dX12_chance_107 : decode cX12_chance 107 = .ok (.lrem, 1) := by decide +kernel
theorem dX12_chance_108 : decode cX12_chance 108 = .ok (.lstore 11, 2) := by decide +kernel
theorem dX12_chance_110 : decode cX12_chance 110 = .ok (.lload 9, 2) := by decide +kernel
theorem dX12_chance_112 : decode cX12_chance 112 = .ok (.lstore 7, 2) := by decide +kernel
theorem dX12_chance_114 : decode cX12_chance 114 = .ok (.lload 11, 2) := by decide +kernel
theorem dX12_chance_116 : decode cX12_chance 116 = .ok (.lstore 9, 2) := by decide +kernel
theorem dX12_chance_118 : decode cX12_chance 118 = .ok (.goto (-22), 3) := by decide +kernel
theorem dX12_chance_121 : decode cX12_chance 121 = .ok (.iload_n 3, 1) := by decide +kernel
theorem dX12_chance_122 : decode cX12_chance 122 = .ok (.ifCond .ne 11, 3) := by decide +kernel
theorem dX12_chance_125 : decode cX12_chance 125 = .ok (.lload 5, 2) := by decide +kernel
theorem dX12_chance_127 : decode cX12_chance 127 = .ok (.lload 7, 2) := by decide +kernel
theorem dX12_chance_129 : decode cX12_chance 129 = .ok (.ldiv, 1) := by decide +kernel
theorem dX12_chance_130 : decode cX12_chance 130 = .ok (.goto 8, 3) := by decide +kernel
theorem dX12_chance_133 : decode cX12_chance 133 = .ok (.iload_n 2, 1) := by decide +kernel
theorem dX12_chance_134 : decode cX12_chance 134 = .ok (.i2l, 1) := by decide +kernel
theorem dX12_chance_135 : decode cX12_chance 135 = .ok (.lload 7, 2) := by decide +kernel
theorem dX12_chance_137 : decode cX12_chance 137 = .ok (.ldiv, 1) := by decide +kernel
theorem dX12_chance_138 : decode cX12_chance 138 = .ok (.lreturn, 1) := by decide +kernel
theorem dX12_image_0 : decode cX12_image 0 = .ok (.iconst 0, 1) := by decide +kernel
theorem dX12_image_1 : decode cX12_image 1 = .ok (.istore_n 1, 1) := by decide +kernel
theorem dX12_image_2 : decode cX12_image 2 = .ok (.iload_n 1, 1) := by decide +kernel
theorem dX12_image_3 : decode cX12_image 3 = .ok (.bipush 12, 2) := by decide +kernel
theorem dX12_image_5 : decode cX12_image 5 = .ok (.if_icmp .ge 21, 3) := by decide +kernel
theorem dX12_image_8 : decode cX12_image 8 = .ok (.aload_n 0, 1) := by decide +kernel
theorem dX12_image_9 : decode cX12_image 9 = .ok (.getfield 38, 3) := by decide +kernel
theorem dX12_image_12 : decode cX12_image 12 = .ok (.iload_n 1, 1) := by decide +kernel
theorem dX12_image_13 : decode cX12_image 13 = .ok (.aload_n 0, 1) := by decide +kernel
theorem dX12_image_14 : decode cX12_image 14 = .ok (.getfield 26, 3) := by decide +kernel
theorem dX12_image_17 : decode cX12_image 17 = .ok (.iload_n 1, 1) := by decide +kernel
theorem dX12_image_18 : decode cX12_image 18 = .ok (.iaload, 1) := by decide +kernel
theorem dX12_image_19 : decode cX12_image 19 = .ok (.iastore, 1) := by decide +kernel
theorem dX12_image_20 : decode cX12_image 20 = .ok (.iinc 1 1, 3) := by decide +kernel
theorem dX12_image_23 : decode cX12_image 23 = .ok (.goto (-21), 3) := by decide +kernel
theorem dX12_image_26 : decode cX12_image 26 = .ok (.iconst 0, 1) := by decide +kernel
theorem dX12_image_27 : decode cX12_image 27 = .ok (.istore_n 1, 1) := by decide +kernel
theorem dX12_image_28 : decode cX12_image 28 = .ok (.iload_n 1, 1) := by decide +kernel
theorem dX12_image_29 : decode cX12_image 29 = .ok (.bipush 48, 2) := by decide +kernel
theorem dX12_image_31 : decode cX12_image 31 = .ok (.if_icmp .ge 33, 3) := by decide +kernel
theorem dX12_image_34 : decode cX12_image 34 = .ok (.aload_n 0, 1) := by decide +kernel
theorem dX12_image_35 : decode cX12_image 35 = .ok (.getfield 41, 3) := by decide +kernel
theorem dX12_image_38 : decode cX12_image 38 = .ok (.iload_n 1, 1) := by decide +kernel
theorem dX12_image_39 : decode cX12_image 39 = .ok (.aload_n 0, 1) := by decide +kernel
theorem dX12_image_40 : decode cX12_image 40 = .ok (.getfield 29, 3) := by decide +kernel
theorem dX12_image_43 : decode cX12_image 43 = .ok (.iload_n 1, 1) := by decide +kernel
theorem dX12_image_44 : decode cX12_image 44 = .ok (.iaload, 1) := by decide +kernel
theorem dX12_image_45 : decode cX12_image 45 = .ok (.iastore, 1) := by decide +kernel
theorem dX12_image_46 : decode cX12_image 46 = .ok (.aload_n 0, 1) := by decide +kernel
theorem dX12_image_47 : decode cX12_image 47 = .ok (.getfield 44, 3) := by decide +kernel
theorem dX12_image_50 : decode cX12_image 50 = .ok (.iload_n 1, 1) := by decide +kernel
theorem dX12_image_51 : decode cX12_image 51 = .ok (.aload_n 0, 1) := by decide +kernel
theorem dX12_image_52 : decode cX12_image 52 = .ok (.getfield 32, 3) := by decide +kernel
theorem dX12_image_55 : decode cX12_image 55 = .ok (.iload_n 1, 1) := by decide +kernel
theorem dX12_image_56 : decode cX12_image 56 = .ok (.iaload, 1) := by decide +kernel
theorem dX12_image_57 : decode cX12_image 57 = .ok (.iastore, 1) := by decide +kernel
theorem dX12_image_58 : decode cX12_image 58 = .ok (.iinc 1 1, 3) := by decide +kernel
theorem dX12_image_61 : decode cX12_image 61 = .ok (.goto (-33), 3) := by decide +kernel
theorem dX12_image_64 : decode cX12_image 64 = .ok (.aload_n 0, 1) := by decide +kernel
theorem dX12_image_65 : decode cX12_image 65 = .ok (.aload_n 0, 1) := by decide +kernel
theorem dX12_image_66 : decode cX12_image 66 = .ok (.getfield 70, 3) := by decide +kernel
theorem dX12_image_69 : decode cX12_image 69 = .ok (.putfield 47, 3) := by decide +kernel
theorem dX12_image_72 : decode cX12_image 72 = .ok (.aload_n 0, 1) := by decide +kernel
theorem dX12_image_73 : decode cX12_image 73 = .ok (.aload_n 0, 1) := by decide +kernel
theorem dX12_image_74 : decode cX12_image 74 = .ok (.getfield 97, 3) := by decide +kernel
theorem dX12_image_77 : decode cX12_image 77 = .ok (.putfield 340, 3) := by decide +kernel
theorem dX12_image_80 : decode cX12_image 80 = .ok (.aload_n 0, 1) := by decide +kernel
theorem dX12_image_81 : decode cX12_image 81 = .ok (.aload_n 0, 1) := by decide +kernel
theorem dX12_image_82 : decode cX12_image 82 = .ok (.getfield 100, 3) := by decide +kernel
theorem dX12_image_85 : decode cX12_image 85 = .ok (.putfield 343, 3) := by decide +kernel
theorem dX12_image_88 : decode cX12_image 88 = .ok (.aload_n 0, 1) := by decide +kernel
theorem dX12_image_89 : decode cX12_image 89 = .ok (.getfield 70, 3) := by decide +kernel
theorem dX12_image_92 : decode cX12_image 92 = .ok (.ireturn, 1) := by decide +kernel
theorem dX12_back_0 : decode cX12_back 0 = .ok (.aload_n 0, 1) := by decide +kernel
theorem dX12_back_1 : decode cX12_back 1 = .ok (.getfield 47, 3) := by decide +kernel
theorem dX12_back_4 : decode cX12_back 4 = .ok (.iconst (-1), 1) := by decide +kernel
theorem dX12_back_5 : decode cX12_back 5 = .ok (.if_icmp .ne 6, 3) := by decide +kernel
theorem dX12_back_8 : decode cX12_back 8 = .ok (.bipush (-3), 2) := by decide +kernel
theorem dX12_back_10 : decode cX12_back 10 = .ok (.ireturn, 1) := by decide +kernel
theorem dX12_back_11 : decode cX12_back 11 = .ok (.iconst 0, 1) := by decide +kernel
theorem dX12_back_12 : decode cX12_back 12 = .ok (.istore_n 1, 1) := by decide +kernel
theorem dX12_back_13 : decode cX12_back 13 = .ok (.iload_n 1, 1) := by decide +kernel
theorem dX12_back_14 : decode cX12_back 14 = .ok (.bipush 12, 2) := by decide +kernel
theorem dX12_back_16 : decode cX12_back 16 = .ok (.if_icmp .ge 21, 3) := by decide +kernel
theorem dX12_back_19 : decode cX12_back 19 = .ok (.aload_n 0, 1) := by decide +kernel
theorem dX12_back_20 : decode cX12_back 20 = .ok (.getfield 26, 3) := by decide +kernel
theorem dX12_back_23 : decode cX12_back 23 = .ok (.iload_n 1, 1) := by decide +kernel
theorem dX12_back_24 : decode cX12_back 24 = .ok (.aload_n 0, 1) := by decide +kernel
theorem dX12_back_25 : decode cX12_back 25 = .ok (.getfield 38, 3) := by decide +kernel
theorem dX12_back_28 : decode cX12_back 28 = .ok (.iload_n 1, 1) := by decide +kernel
theorem dX12_back_29 : decode cX12_back 29 = .ok (.iaload, 1) := by decide +kernel
theorem dX12_back_30 : decode cX12_back 30 = .ok (.iastore, 1) := by decide +kernel
theorem dX12_back_31 : decode cX12_back 31 = .ok (.iinc 1 1, 3) := by decide +kernel
theorem dX12_back_34 : decode cX12_back 34 = .ok (.goto (-21), 3) := by decide +kernel
theorem dX12_back_37 : decode cX12_back 37 = .ok (.iconst 0, 1) := by decide +kernel
theorem dX12_back_38 : decode cX12_back 38 = .ok (.istore_n 1, 1) := by decide +kernel
theorem dX12_back_39 : decode cX12_back 39 = .ok (.iload_n 1, 1) := by decide +kernel
theorem dX12_back_40 : decode cX12_back 40 = .ok (.bipush 48, 2) := by decide +kernel
theorem dX12_back_42 : decode cX12_back 42 = .ok (.if_icmp .ge 33, 3) := by decide +kernel
theorem dX12_back_45 : decode cX12_back 45 = .ok (.aload_n 0, 1) := by decide +kernel
theorem dX12_back_46 : decode cX12_back 46 = .ok (.getfield 29, 3) := by decide +kernel
theorem dX12_back_49 : decode cX12_back 49 = .ok (.iload_n 1, 1) := by decide +kernel
theorem dX12_back_50 : decode cX12_back 50 = .ok (.aload_n 0, 1) := by decide +kernel
theorem dX12_back_51 : decode cX12_back 51 = .ok (.getfield 41, 3) := by decide +kernel
theorem dX12_back_54 : decode cX12_back 54 = .ok (.iload_n 1, 1) := by decide +kernel
theorem dX12_back_55 : decode cX12_back 55 = .ok (.iaload, 1) := by decide +kernel
theorem dX12_back_56 : decode cX12_back 56 = .ok (.iastore, 1) := by decide +kernel
theorem dX12_back_57 : decode cX12_back 57 = .ok (.aload_n 0, 1) := by decide +kernel
theorem dX12_back_58 : decode cX12_back 58 = .ok (.getfield 32, 3) := by decide +kernel
theorem dX12_back_61 : decode cX12_back 61 = .ok (.iload_n 1, 1) := by decide +kernel
theorem dX12_back_62 : decode cX12_back 62 = .ok (.aload_n 0, 1) := by decide +kernel
theorem dX12_back_63 : decode cX12_back 63 = .ok (.getfield 44, 3) := by decide +kernel
theorem dX12_back_66 : decode cX12_back 66 = .ok (.iload_n 1, 1) := by decide +kernel
theorem dX12_back_67 : decode cX12_back 67 = .ok (.iaload, 1) := by decide +kernel
theorem dX12_back_68 : decode cX12_back 68 = .ok (.iastore, 1) := by decide +kernel
theorem dX12_back_69 : decode cX12_back 69 = .ok (.iinc 1 1, 3) := by decide +kernel
theorem dX12_back_72 : decode cX12_back 72 = .ok (.goto (-33), 3) := by decide +kernel
theorem dX12_back_75 : decode cX12_back 75 = .ok (.aload_n 0, 1) := by decide +kernel
theorem dX12_back_76 : decode cX12_back 76 = .ok (.aload_n 0, 1) := by decide +kernel
theorem dX12_back_77 : decode cX12_back 77 = .ok (.getfield 47, 3) := by decide +kernel
theorem dX12_back_80 : decode cX12_back 80 = .ok (.putfield 70, 3) := by decide +kernel
theorem dX12_back_83 : decode cX12_back 83 = .ok (.aload_n 0, 1) := by decide +kernel
theorem dX12_back_84 : decode cX12_back 84 = .ok (.aload_n 0, 1) := by decide +kernel
theorem dX12_back_85 : decode cX12_back 85 = .ok (.getfield 340, 3) := by decide +kernel
theorem dX12_back_88 : decode cX12_back 88 = .ok (.putfield 97, 3) := by decide +kernel
theorem dX12_back_91 : decode cX12_back 91 = .ok (.aload_n 0, 1) := by decide +kernel
theorem dX12_back_92 : decode cX12_back 92 = .ok (.aload_n 0, 1) := by decide +kernel
theorem dX12_back_93 : decode cX12_back 93 = .ok (.getfield 343, 3) := by decide +kernel
theorem dX12_back_96 : decode cX12_back 96 = .ok (.putfield 100, 3) := by decide +kernel
theorem dX12_back_99 : decode cX12_back 99 = .ok (.aload_n 0, 1) := by decide +kernel
theorem dX12_back_100 : decode cX12_back 100 = .ok (.getfield 70, 3) := by decide +kernel
theorem dX12_back_103 : decode cX12_back 103 = .ok (.ireturn, 1) := by decide +kernel
theorem dX12_count_0 : decode cX12_count 0 = .ok (.iload_n 1, 1) := by decide +kernel
theorem dX12_count_1 : decode cX12_count 1 = .ok (.i2l, 1) := by decide +kernel
theorem dX12_count_2 : decode cX12_count 2 = .ok (.lconst 0, 1) := by decide +kernel
theorem dX12_count_3 : decode cX12_count 3 = .ok (.ldc2_w 103, 3) := by decide +kernel
theorem dX12_count_6 : decode cX12_count 6 = .ok (.invokestatic 73, 3) := by decide +kernel
theorem dX12_count_9 : decode cX12_count 9 = .ok (.ifCond .ne 6, 3) := by decide +kernel
theorem dX12_count_12 : decode cX12_count 12 = .ok (.bipush (-2), 2) := by decide +kernel
theorem dX12_count_14 : decode cX12_count 14 = .ok (.ireturn, 1) := by decide +kernel
theorem dX12_count_15 : decode cX12_count 15 = .ok (.iload_n 1, 1) := by decide +kernel
theorem dX12_count_16 : decode cX12_count 16 = .ok (.iconst 2, 1) := by decide +kernel
theorem dX12_count_17 : decode cX12_count 17 = .ok (.if_icmp .le 32, 3) := by decide +kernel
theorem dX12_count_20 : decode cX12_count 20 = .ok (.iload_n 1, 1) := by decide +kernel
theorem dX12_count_21 : decode cX12_count 21 = .ok (.iconst 3, 1) := by decide +kernel
theorem dX12_count_22 : decode cX12_count 22 = .ok (.if_icmp .ne 10, 3) := by decide +kernel
theorem dX12_count_25 : decode cX12_count 25 = .ok (.aload_n 0, 1) := by decide +kernel
theorem dX12_count_26 : decode cX12_count 26 = .ok (.getfield 67, 3) := by decide +kernel
theorem dX12_count_29 : decode cX12_count 29 = .ok (.goto 19, 3) := by decide +kernel
theorem dX12_count_32 : decode cX12_count 32 = .ok (.iload_n 1, 1) := by decide +kernel
theorem dX12_count_33 : decode cX12_count 33 = .ok (.iconst 4, 1) := by decide +kernel
theorem dX12_count_34 : decode cX12_count 34 = .ok (.if_icmp .ne 10, 3) := by decide +kernel
theorem dX12_count_37 : decode cX12_count 37 = .ok (.aload_n 0, 1) := by decide +kernel
theorem dX12_count_38 : decode cX12_count 38 = .ok (.getfield 132, 3) := by decide +kernel
theorem dX12_count_41 : decode cX12_count 41 = .ok (.goto 7, 3) := by decide +kernel
theorem dX12_count_44 : decode cX12_count 44 = .ok (.aload_n 0, 1) := by decide +kernel
theorem dX12_count_45 : decode cX12_count 45 = .ok (.getfield 100, 3) := by decide +kernel
theorem dX12_count_48 : decode cX12_count 48 = .ok (.ireturn, 1) := by decide +kernel
theorem dX12_count_49 : decode cX12_count 49 = .ok (.iconst 0, 1) := by decide +kernel
theorem dX12_count_50 : decode cX12_count 50 = .ok (.istore_n 2, 1) := by decide +kernel
theorem dX12_count_51 : decode cX12_count 51 = .ok (.iconst 0, 1) := by decide +kernel
theorem dX12_count_52 : decode cX12_count 52 = .ok (.istore_n 3, 1) := by decide +kernel
theorem dX12_count_53 : decode cX12_count 53 = .ok (.iload_n 3, 1) := by decide +kernel
theorem dX12_count_54 : decode cX12_count 54 = .ok (.aload_n 0, 1) := by decide +kernel
theorem dX12_count_55 : decode cX12_count 55 = .ok (.getfield 70, 3) := by decide +kernel
theorem dX12_count_58 : decode cX12_count 58 = .ok (.if_icmp .ge 46, 3) := by decide +kernel
theorem dX12_count_61 : decode cX12_count 61 = .ok (.iload_n 2, 1) := by decide +kernel
theorem dX12_count_62 : decode cX12_count 62 = .ok (.iload_n 1, 1) := by decide +kernel
theorem dX12_count_63 : decode cX12_count 63 = .ok (.ifCond .ne 7, 3) := by decide +kernel
theorem dX12_count_66 : decode cX12_count 66 = .ok (.iconst 1, 1) := by decide +kernel
theorem dX12_count_67 : decode cX12_count 67 = .ok (.goto 29, 3) := by decide +kernel
theorem dX12_count_70 : decode cX12_count 70 = .ok (.iload_n 1, 1) := by decide +kernel
theorem dX12_count_71 : decode cX12_count 71 = .ok (.iconst 1, 1) := by decide +kernel
theorem dX12_count_72 : decode cX12_count 72 = .ok (.if_icmp .ne 19, 3) := by decide +kernel
theorem dX12_count_75 : decode cX12_count 75 = .ok (.aload_n 0, 1) := by decide +kernel
theorem dX12_count_76 : decode cX12_count 76 = .ok (.iload_n 3, 1) := by decide +kernel
theorem dX12_count_77 : decode cX12_count 77 = .ok (.invokevirtual 111, 3) := by decide +kernel
theorem dX12_count_80 : decode cX12_count 80 = .ok (.ifCond .eq 7, 3) := by decide +kernel
theorem dX12_count_83 : decode cX12_count 83 = .ok (.iconst 1, 1) := by decide +kernel
theorem dX12_count_84 : decode cX12_count 84 = .ok (.goto 12, 3) := by decide +kernel
theorem dX12_count_87 : decode cX12_count 87 = .ok (.iconst 0, 1) := by decide +kernel
theorem dX12_count_88 : decode cX12_count 88 = .ok (.goto 8, 3) := by decide +kernel
theorem dX12_count_91 : decode cX12_count 91 = .ok (.aload_n 0, 1) := by decide +kernel
theorem dX12_count_92 : decode cX12_count 92 = .ok (.iload_n 3, 1) := by decide +kernel
theorem dX12_count_93 : decode cX12_count 93 = .ok (.invokevirtual 121, 3) := by decide +kernel
theorem dX12_count_96 : decode cX12_count 96 = .ok (.iadd, 1) := by decide +kernel
theorem dX12_count_97 : decode cX12_count 97 = .ok (.istore_n 2, 1) := by decide +kernel
theorem dX12_count_98 : decode cX12_count 98 = .ok (.iinc 3 1, 3) := by decide +kernel
theorem dX12_count_101 : decode cX12_count 101 = .ok (.goto (-48), 3) := by decide +kernel
theorem dX12_count_104 : decode cX12_count 104 = .ok (.iload_n 2, 1) := by decide +kernel
theorem dX12_count_105 : decode cX12_count 105 = .ok (.ireturn, 1) := by decide +kernel
theorem dX12_isSheet_0 : decode cX12_isSheet 0 = .ok (.iload_n 0, 1) := by decide +kernel
theorem dX12_isSheet_1 : decode cX12_isSheet 1 = .ok (.i2l, 1) := by decide +kernel
theorem dX12_isSheet_2 : decode cX12_isSheet 2 = .ok (.lconst 0, 1) := by decide +kernel
theorem dX12_isSheet_3 : decode cX12_isSheet 3 = .ok (.ldc2_w 346, 3) := by decide +kernel
theorem dX12_isSheet_6 : decode cX12_isSheet 6 = .ok (.invokestatic 73, 3) := by decide +kernel
theorem dX12_isSheet_9 : decode cX12_isSheet 9 = .ok (.ireturn, 1) := by decide +kernel
theorem dX12_sheet_0 : decode cX12_sheet 0 = .ok (.iload_n 1, 1) := by decide +kernel
theorem dX12_sheet_1 : decode cX12_sheet 1 = .ok (.invokestatic 315, 3) := by decide +kernel
theorem dX12_sheet_4 : decode cX12_sheet 4 = .ok (.ifCond .eq 27, 3) := by decide +kernel
theorem dX12_sheet_7 : decode cX12_sheet 7 = .ok (.iload_n 2, 1) := by decide +kernel
theorem dX12_sheet_8 : decode cX12_sheet 8 = .ok (.i2l, 1) := by decide +kernel
theorem dX12_sheet_9 : decode cX12_sheet 9 = .ok (.ldc2_w 348, 3) := by decide +kernel
theorem dX12_sheet_12 : decode cX12_sheet 12 = .ok (.ldc2_w 79, 3) := by decide +kernel
theorem dX12_sheet_15 : decode cX12_sheet 15 = .ok (.invokestatic 73, 3) := by decide +kernel
theorem dX12_sheet_18 : decode cX12_sheet 18 = .ok (.ifCond .eq 13, 3) := by decide +kernel
theorem dX12_sheet_21 : decode cX12_sheet 21 = .ok (.iload_n 2, 1) := by decide +kernel
theorem dX12_sheet_22 : decode cX12_sheet 22 = .ok (.ifCond .lt 12, 3) := by decide +kernel
theorem dX12_sheet_25 : decode cX12_sheet 25 = .ok (.iload_n 3, 1) := by decide +kernel
theorem dX12_sheet_26 : decode cX12_sheet 26 = .ok (.bipush 40, 2) := by decide +kernel
theorem dX12_sheet_28 : decode cX12_sheet 28 = .ok (.if_icmp .le 6, 3) := by decide +kernel
theorem dX12_sheet_31 : decode cX12_sheet 31 = .ok (.bipush (-2), 2) := by decide +kernel
theorem dX12_sheet_33 : decode cX12_sheet 33 = .ok (.ireturn, 1) := by decide +kernel
theorem dX12_sheet_34 : decode cX12_sheet 34 = .ok (.iload_n 2, 1) := by decide +kernel
theorem dX12_sheet_35 : decode cX12_sheet 35 = .ok (.ifCond .lt 10, 3) := by decide +kernel
theorem dX12_sheet_38 : decode cX12_sheet 38 = .ok (.iload_n 3, 1) := by decide +kernel
theorem dX12_sheet_39 : decode cX12_sheet 39 = .ok (.ifCond .ge 6, 3) := by decide +kernel
theorem dX12_sheet_42 : decode cX12_sheet 42 = .ok (.bipush (-14), 2) := by decide +kernel
theorem dX12_sheet_44 : decode cX12_sheet 44 = .ok (.ireturn, 1) := by decide +kernel
theorem dX12_sheet_45 : decode cX12_sheet 45 = .ok (.aload_n 0, 1) := by decide +kernel
theorem dX12_sheet_46 : decode cX12_sheet 46 = .ok (.getfield 50, 3) := by decide +kernel
theorem dX12_sheet_49 : decode cX12_sheet 49 = .ok (.iload_n 1, 1) := by decide +kernel
theorem dX12_sheet_50 : decode cX12_sheet 50 = .ok (.iload_n 2, 1) := by decide +kernel
theorem dX12_sheet_51 : decode cX12_sheet 51 = .ok (.ifCond .lt 7, 3) := by decide +kernel
theorem dX12_sheet_54 : decode cX12_sheet 54 = .ok (.iconst 1, 1) := by decide +kernel
theorem dX12_sheet_55 : decode cX12_sheet 55 = .ok (.goto 4, 3) := by decide +kernel
theorem dX12_sheet_58 : decode cX12_sheet 58 = .ok (.iconst 0, 1) := by decide +kernel
theorem dX12_sheet_59 : decode cX12_sheet 59 = .ok (.bastore, 1) := by decide +kernel
theorem dX12_sheet_60 : decode cX12_sheet 60 = .ok (.aload_n 0, 1) := by decide +kernel
theorem dX12_sheet_61 : decode cX12_sheet 61 = .ok (.getfield 54, 3) := by decide +kernel
theorem dX12_sheet_64 : decode cX12_sheet 64 = .ok (.iload_n 1, 1) := by decide +kernel
theorem dX12_sheet_65 : decode cX12_sheet 65 = .ok (.iload_n 2, 1) := by decide +kernel
theorem dX12_sheet_66 : decode cX12_sheet 66 = .ok (.iastore, 1) := by decide +kernel
theorem dX12_sheet_67 : decode cX12_sheet 67 = .ok (.aload_n 0, 1) := by decide +kernel
theorem dX12_sheet_68 : decode cX12_sheet 68 = .ok (.getfield 57, 3) := by decide +kernel
theorem dX12_sheet_71 : decode cX12_sheet 71 = .ok (.iload_n 1, 1) := by decide +kernel
theorem dX12_sheet_72 : decode cX12_sheet 72 = .ok (.iload_n 3, 1) := by decide +kernel
theorem dX12_sheet_73 : decode cX12_sheet 73 = .ok (.iastore, 1) := by decide +kernel
theorem dX12_sheet_74 : decode cX12_sheet 74 = .ok (.iconst 0, 1) := by decide +kernel
theorem dX12_sheet_75 : decode cX12_sheet 75 = .ok (.istore 4, 2) := by decide +kernel
theorem dX12_sheet_77 : decode cX12_sheet 77 = .ok (.iload 4, 2) := by decide +kernel
theorem dX12_sheet_79 : decode cX12_sheet 79 = .ok (.iload_n 3, 1) := by decide +kernel
theorem dX12_sheet_80 : decode cX12_sheet 80 = .ok (.if_icmp .ge 26, 3) := by decide +kernel
theorem dX12_sheet_83 : decode cX12_sheet 83 = .ok (.iload_n 2, 1) := by decide +kernel
theorem dX12_sheet_84 : decode cX12_sheet 84 = .ok (.ifCond .lt 22, 3) := by decide +kernel
theorem dX12_sheet_87 : decode cX12_sheet 87 = .ok (.aload_n 0, 1) := by decide +kernel
theorem dX12_sheet_88 : decode cX12_sheet 88 = .ok (.getfield 60, 3) := by decide +kernel
theorem dX12_sheet_91 : decode cX12_sheet 91 = .ok (.bipush 40, 2) := by decide +kernel
theorem dX12_sheet_93 : decode cX12_sheet 93 = .ok (.iload_n 1, 1) := by decide +kernel
theorem dX12_sheet_94 : decode cX12_sheet 94 = .ok (.imul, 1) := by decide +kernel
theorem dX12_sheet_95 : decode cX12_sheet 95 = .ok (.iload 4, 2) := by decide +kernel
theorem dX12_sheet_97 : decode cX12_sheet 97 = .ok (.iadd, 1) := by decide +kernel
theorem dX12_sheet_98 : decode cX12_sheet 98 = .ok (.iconst 0, 1) := by decide +kernel
theorem dX12_sheet_99 : decode cX12_sheet 99 = .ok (.iastore, 1) := by decide +kernel
theorem dX12_sheet_100 : decode cX12_sheet 100 = .ok (.iinc 4 1, 3) := by decide +kernel
theorem dX12_sheet_103 : decode cX12_sheet 103 = .ok (.goto (-26), 3) := by decide +kernel
theorem dX12_sheet_106 : decode cX12_sheet 106 = .ok (.iconst 1, 1) := by decide +kernel
theorem dX12_sheet_107 : decode cX12_sheet 107 = .ok (.ireturn, 1) := by decide +kernel
theorem dX12_cell_0 : decode cX12_cell 0 = .ok (.iload_n 1, 1) := by decide +kernel
theorem dX12_cell_1 : decode cX12_cell 1 = .ok (.invokestatic 315, 3) := by decide +kernel
theorem dX12_cell_4 : decode cX12_cell 4 = .ok (.ifCond .ne 6, 3) := by decide +kernel
theorem dX12_cell_7 : decode cX12_cell 7 = .ok (.bipush (-2), 2) := by decide +kernel
theorem dX12_cell_9 : decode cX12_cell 9 = .ok (.ireturn, 1) := by decide +kernel
theorem dX12_cell_10 : decode cX12_cell 10 = .ok (.aload_n 0, 1) := by decide +kernel
theorem dX12_cell_11 : decode cX12_cell 11 = .ok (.getfield 50, 3) := by decide +kernel
theorem dX12_cell_14 : decode cX12_cell 14 = .ok (.iload_n 1, 1) := by decide +kernel
theorem dX12_cell_15 : decode cX12_cell 15 = .ok (.baload, 1) := by decide +kernel
theorem dX12_cell_16 : decode cX12_cell 16 = .ok (.ifCond .ne 6, 3) := by decide +kernel
theorem dX12_cell_19 : decode cX12_cell 19 = .ok (.bipush (-11), 2) := by decide +kernel
theorem dX12_cell_21 : decode cX12_cell 21 = .ok (.ireturn, 1) := by decide +kernel
theorem dX12_cell_22 : decode cX12_cell 22 = .ok (.iload_n 2, 1) := by decide +kernel
theorem dX12_cell_23 : decode cX12_cell 23 = .ok (.i2l, 1) := by decide +kernel
theorem dX12_cell_24 : decode cX12_cell 24 = .ok (.lconst 0, 1) := by decide +kernel
theorem dX12_cell_25 : decode cX12_cell 25 = .ok (.aload_n 0, 1) := by decide +kernel
theorem dX12_cell_26 : decode cX12_cell 26 = .ok (.getfield 57, 3) := by decide +kernel
theorem dX12_cell_29 : decode cX12_cell 29 = .ok (.iload_n 1, 1) := by decide +kernel
theorem dX12_cell_30 : decode cX12_cell 30 = .ok (.iaload, 1) := by decide +kernel
theorem dX12_cell_31 : decode cX12_cell 31 = .ok (.iconst 1, 1) := by decide +kernel
theorem dX12_cell_32 : decode cX12_cell 32 = .ok (.isub, 1) := by decide +kernel
theorem dX12_cell_33 : decode cX12_cell 33 = .ok (.i2l, 1) := by decide +kernel
theorem dX12_cell_34 : decode cX12_cell 34 = .ok (.invokestatic 73, 3) := by decide +kernel
theorem dX12_cell_37 : decode cX12_cell 37 = .ok (.ifCond .ne 6, 3) := by decide +kernel
theorem dX12_cell_40 : decode cX12_cell 40 = .ok (.bipush (-12), 2) := by decide +kernel
theorem dX12_cell_42 : decode cX12_cell 42 = .ok (.ireturn, 1) := by decide +kernel
theorem dX12_cell_43 : decode cX12_cell 43 = .ok (.aload_n 0, 1) := by decide +kernel
theorem dX12_cell_44 : decode cX12_cell 44 = .ok (.getfield 60, 3) := by decide +kernel
theorem dX12_cell_47 : decode cX12_cell 47 = .ok (.bipush 40, 2) := by decide +kernel
theorem dX12_cell_49 : decode cX12_cell 49 = .ok (.iload_n 1, 1) := by decide +kernel
theorem dX12_cell_50 : decode cX12_cell 50 = .ok (.imul, 1) := by decide +kernel
theorem dX12_cell_51 : decode cX12_cell 51 = .ok (.iload_n 2, 1) := by decide +kernel
theorem dX12_cell_52 : decode cX12_cell 52 = .ok (.iadd, 1) := by decide +kernel
theorem dX12_cell_53 : decode cX12_cell 53 = .ok (.aload_n 0, 1) := by decide +kernel
theorem dX12_cell_54 : decode cX12_cell 54 = .ok (.getfield 54, 3) := by decide +kernel
theorem dX12_cell_57 : decode cX12_cell 57 = .ok (.iload_n 1, 1) := by decide +kernel
theorem dX12_cell_58 : decode cX12_cell 58 = .ok (.iaload, 1) := by decide +kernel
theorem dX12_cell_59 : decode cX12_cell 59 = .ok (.ifCond .ne 8, 3) := by decide +kernel
theorem dX12_cell_62 : decode cX12_cell 62 = .ok (.iload_n 3, 1) := by decide +kernel
theorem dX12_cell_63 : decode cX12_cell 63 = .ok (.i2b, 1) := by decide +kernel
theorem dX12_cell_64 : decode cX12_cell 64 = .ok (.goto 19, 3) := by decide +kernel
theorem dX12_cell_67 : decode cX12_cell 67 = .ok (.aload_n 0, 1) := by decide +kernel
theorem dX12_cell_68 : decode cX12_cell 68 = .ok (.getfield 54, 3) := by decide +kernel
theorem dX12_cell_71 : decode cX12_cell 71 = .ok (.iload_n 1, 1) := by decide +kernel
theorem dX12_cell_72 : decode cX12_cell 72 = .ok (.iaload, 1) := by decide +kernel
theorem dX12_cell_73 : decode cX12_cell 73 = .ok (.iconst 1, 1) := by decide +kernel
theorem dX12_cell_74 : decode cX12_cell 74 = .ok (.if_icmp .ne 8, 3) := by decide +kernel
theorem dX12_cell_77 : decode cX12_cell 77 = .ok (.iload_n 3, 1) := by decide +kernel
theorem dX12_cell_78 : decode cX12_cell 78 = .ok (.i2s, 1) := by decide +kernel
theorem dX12_cell_79 : decode cX12_cell 79 = .ok (.goto 4, 3) := by decide +kernel
theorem dX12_cell_82 : decode cX12_cell 82 = .ok (.iload_n 3, 1) := by decide +kernel
theorem dX12_cell_83 : decode cX12_cell 83 = .ok (.iastore, 1) := by decide +kernel
theorem dX12_cell_84 : decode cX12_cell 84 = .ok (.iconst 1, 1) := by decide +kernel
theorem dX12_cell_85 : decode cX12_cell 85 = .ok (.ireturn, 1) := by decide +kernel
theorem dX12_copy_0 : decode cX12_copy 0 = .ok (.iload_n 1, 1) := by decide +kernel
theorem dX12_copy_1 : decode cX12_copy 1 = .ok (.invokestatic 315, 3) := by decide +kernel
theorem dX12_copy_4 : decode cX12_copy 4 = .ok (.ifCond .eq 10, 3) := by decide +kernel
theorem dX12_copy_7 : decode cX12_copy 7 = .ok (.iload_n 3, 1) := by decide +kernel
theorem dX12_copy_8 : decode cX12_copy 8 = .ok (.invokestatic 315, 3) := by decide +kernel
theorem dX12_copy_11 : decode cX12_copy 11 = .ok (.ifCond .ne 6, 3) := by decide +kernel
theorem dX12_copy_14 : decode cX12_copy 14 = .ok (.bipush (-2), 2) := by decide +kernel
theorem dX12_copy_16 : decode cX12_copy 16 = .ok (.ireturn, 1) := by decide +kernel
theorem dX12_copy_17 : decode cX12_copy 17 = .ok (.aload_n 0, 1) := by decide +kernel
theorem dX12_copy_18 : decode cX12_copy 18 = .ok (.getfield 50, 3) := by decide +kernel
theorem dX12_copy_21 : decode cX12_copy 21 = .ok (.iload_n 1, 1) := by decide +kernel
theorem dX12_copy_22 : decode cX12_copy 22 = .ok (.baload, 1) := by decide +kernel
theorem dX12_copy_23 : decode cX12_copy 23 = .ok (.ifCond .eq 12, 3) := by decide +kernel
theorem dX12_copy_26 : decode cX12_copy 26 = .ok (.aload_n 0, 1) := by decide +kernel
theorem dX12_copy_27 : decode cX12_copy 27 = .ok (.getfield 50, 3) := by decide +kernel
theorem dX12_copy_30 : decode cX12_copy 30 = .ok (.iload_n 3, 1) := by decide +kernel
theorem dX12_copy_31 : decode cX12_copy 31 = .ok (.baload, 1) := by decide +kernel
theorem dX12_copy_32 : decode cX12_copy 32 = .ok (.ifCond .ne 6, 3) := by decide +kernel
theorem dX12_copy_35 : decode cX12_copy 35 = .ok (.bipush (-11), 2) := by decide +kernel
theorem dX12_copy_37 : decode cX12_copy 37 = .ok (.ireturn, 1) := by decide +kernel
theorem dX12_copy_38 : decode cX12_copy 38 = .ok (.aload_n 0, 1) := by decide +kernel
theorem dX12_copy_39 : decode cX12_copy 39 = .ok (.getfield 54, 3) := by decide +kernel
theorem dX12_copy_42 : decode cX12_copy 42 = .ok (.iload_n 1, 1) := by decide +kernel
theorem dX12_copy_43 : decode cX12_copy 43 = .ok (.iaload, 1) := by decide +kernel
theorem dX12_copy_44 : decode cX12_copy 44 = .ok (.aload_n 0, 1) := by decide +kernel
theorem dX12_copy_45 : decode cX12_copy 45 = .ok (.getfield 54, 3) := by decide +kernel
theorem dX12_copy_48 : decode cX12_copy 48 = .ok (.iload_n 3, 1) := by decide +kernel
theorem dX12_copy_49 : decode cX12_copy 49 = .ok (.iaload, 1) := by decide +kernel
theorem dX12_copy_50 : decode cX12_copy 50 = .ok (.if_icmp .eq 6, 3) := by decide +kernel
theorem dX12_copy_53 : decode cX12_copy 53 = .ok (.bipush (-13), 2) := by decide +kernel
theorem dX12_copy_55 : decode cX12_copy 55 = .ok (.ireturn, 1) := by decide +kernel
theorem dX12_copy_56 : decode cX12_copy 56 = .ok (.iload 5, 2) := by decide +kernel
theorem dX12_copy_58 : decode cX12_copy 58 = .ok (.ifCond .lt 39, 3) := by decide +kernel
theorem dX12_copy_61 : decode cX12_copy 61 = .ok (.iload_n 2, 1) := by decide +kernel
theorem dX12_copy_62 : decode cX12_copy 62 = .ok (.ifCond .lt 35, 3) := by decide +kernel
theorem dX12_copy_65 : decode cX12_copy 65 = .ok (.iload 4, 2) := by decide +kernel
theorem dX12_copy_67 : decode cX12_copy 67 = .ok (.ifCond .lt 30, 3) := by decide +kernel
theorem dX12_copy_70 : decode cX12_copy 70 = .ok (.iload_n 2, 1) := by decide +kernel
theorem dX12_copy_71 : decode cX12_copy 71 = .ok (.aload_n 0, 1) := by decide +kernel
theorem dX12_copy_72 : decode cX12_copy 72 = .ok (.getfield 57, 3) := by decide +kernel
theorem dX12_copy_75 : decode cX12_copy 75 = .ok (.iload_n 1, 1) := by decide +kernel
theorem dX12_copy_76 : decode cX12_copy 76 = .ok (.iaload, 1) := by decide +kernel
theorem dX12_copy_77 : decode cX12_copy 77 = .ok (.iload 5, 2) := by decide +kernel
theorem dX12_copy_79 : decode cX12_copy 79 = .ok (.isub, 1) := by decide +kernel
theorem dX12_copy_80 : decode cX12_copy 80 = .ok (.if_icmp .gt 17, 3) := by decide +kernel
theorem dX12_copy_83 : decode cX12_copy 83 = .ok (.iload 4, 2) := by decide +kernel
theorem dX12_copy_85 : decode cX12_copy 85 = .ok (.aload_n 0, 1) := by decide +kernel
theorem dX12_copy_86 : decode cX12_copy 86 = .ok (.getfield 57, 3) := by decide +kernel
theorem dX12_copy_89 : decode cX12_copy 89 = .ok (.iload_n 3, 1) := by decide +kernel
theorem dX12_copy_90 : decode cX12_copy 90 = .ok (.iaload, 1) := by decide +kernel
theorem dX12_copy_91 : decode cX12_copy 91 = .ok (.iload 5, 2) := by decide +kernel
theorem dX12_copy_93 : decode cX12_copy 93 = .ok (.isub, 1) := by decide +kernel
theorem dX12_copy_94 : decode cX12_copy 94 = .ok (.if_icmp .le 6, 3) := by decide +kernel
theorem dX12_copy_97 : decode cX12_copy 97 = .ok (.bipush (-12), 2) := by decide +kernel
theorem dX12_copy_99 : decode cX12_copy 99 = .ok (.ireturn, 1) := by decide +kernel
theorem dX12_copy_100 : decode cX12_copy 100 = .ok (.iload_n 1, 1) := by decide +kernel
theorem dX12_copy_101 : decode cX12_copy 101 = .ok (.iload_n 3, 1) := by decide +kernel
theorem dX12_copy_102 : decode cX12_copy 102 = .ok (.if_icmp .ne 13, 3) := by decide +kernel
theorem dX12_copy_105 : decode cX12_copy 105 = .ok (.iload_n 2, 1) := by decide +kernel
theorem dX12_copy_106 : decode cX12_copy 106 = .ok (.iload 4, 2) := by decide +kernel
theorem dX12_copy_108 : decode cX12_copy 108 = .ok (.if_icmp .ge 7, 3) := by decide +kernel
theorem dX12_copy_111 : decode cX12_copy 111 = .ok (.iconst 1, 1) := by decide +kernel
theorem dX12_copy_112 : decode cX12_copy 112 = .ok (.goto 4, 3) := by decide +kernel
theorem dX12_copy_115 : decode cX12_copy 115 = .ok (.iconst 0, 1) := by decide +kernel
theorem dX12_copy_116 : decode cX12_copy 116 = .ok (.istore 6, 2) := by decide +kernel
theorem dX12_copy_118 : decode cX12_copy 118 = .ok (.iconst 0, 1) := by decide +kernel
theorem dX12_copy_119 : decode cX12_copy 119 = .ok (.istore 7, 2) := by decide +kernel
theorem dX12_copy_121 : decode cX12_copy 121 = .ok (.iload 7, 2) := by decide +kernel
theorem dX12_copy_123 : decode cX12_copy 123 = .ok (.iload 5, 2) := by decide +kernel
theorem dX12_copy_125 : decode cX12_copy 125 = .ok (.if_icmp .ge 57, 3) := by decide +kernel
theorem dX12_copy_128 : decode cX12_copy 128 = .ok (.iload 6, 2) := by decide +kernel
theorem dX12_copy_130 : decode cX12_copy 130 = .ok (.ifCond .eq 13, 3) := by decide +kernel
theorem dX12_copy_133 : decode cX12_copy 133 = .ok (.iload 5, 2) := by decide +kernel
theorem dX12_copy_135 : decode cX12_copy 135 = .ok (.iconst 1, 1) := by decide +kernel
theorem dX12_copy_136 : decode cX12_copy 136 = .ok (.isub, 1) := by decide +kernel
theorem dX12_copy_137 : decode cX12_copy 137 = .ok (.iload 7, 2) := by decide +kernel
theorem dX12_copy_139 : decode cX12_copy 139 = .ok (.isub, 1) := by decide +kernel
theorem dX12_copy_140 : decode cX12_copy 140 = .ok (.goto 5, 3) := by decide +kernel
theorem dX12_copy_143 : decode cX12_copy 143 = .ok (.iload 7, 2) := by decide +kernel
theorem dX12_copy_145 : decode cX12_copy 145 = .ok (.istore 8, 2) := by decide +kernel
theorem dX12_copy_147 : decode cX12_copy 147 = .ok (.aload_n 0, 1) := by decide +kernel
theorem dX12_copy_148 : decode cX12_copy 148 = .ok (.getfield 60, 3) := by decide +kernel
theorem dX12_copy_151 : decode cX12_copy 151 = .ok (.bipush 40, 2) := by decide +kernel
theorem dX12_copy_153 : decode cX12_copy 153 = .ok (.iload_n 3, 1) := by decide +kernel
theorem dX12_copy_154 : decode cX12_copy 154 = .ok (.imul, 1) := by decide +kernel
theorem dX12_copy_155 : decode cX12_copy 155 = .ok (.iload 4, 2) := by decide +kernel
theorem dX12_copy_157 : decode cX12_copy 157 = .ok (.iadd, 1) := by decide +kernel
theorem dX12_copy_158 : decode cX12_copy 158 = .ok (.iload 8, 2) := by decide +kernel
theorem dX12_copy_160 : decode cX12_copy 160 = .ok (.iadd, 1) := by decide +kernel
theorem dX12_copy_161 : decode cX12_copy 161 = .ok (.aload_n 0, 1) := by decide +kernel
theorem dX12_copy_162 : decode cX12_copy 162 = .ok (.getfield 60, 3) := by decide +kernel
theorem dX12_copy_165 : decode cX12_copy 165 = .ok (.bipush 40, 2) := by decide +kernel
theorem dX12_copy_167 : decode cX12_copy 167 = .ok (.iload_n 1, 1) := by decide +kernel
theorem dX12_copy_168 : decode cX12_copy 168 = .ok (.imul, 1) := by decide +kernel
theorem dX12_copy_169 : decode cX12_copy 169 = .ok (.iload_n 2, 1) := by decide +kernel
theorem dX12_copy_170 : decode cX12_copy 170 = .ok (.iadd, 1) := by decide +kernel
theorem dX12_copy_171 : decode cX12_copy 171 = .ok (.iload 8, 2) := by decide +kernel
theorem dX12_copy_173 : decode cX12_copy 173 = .ok (.iadd, 1) := by decide +kernel
theorem dX12_copy_174 : decode cX12_copy 174 = .ok (.iaload, 1) := by decide +kernel
theorem dX12_copy_175 : decode cX12_copy 175 = .ok (.iastore, 1) := by decide +kernel
theorem dX12_copy_176 : decode cX12_copy 176 = .ok (.iinc 7 1, 3) := by decide +kernel
theorem dX12_copy_179 : decode cX12_copy 179 = .ok (.goto (-58), 3) := by decide +kernel
theorem dX12_copy_182 : decode cX12_copy 182 = .ok (.iload 5, 2) := by decide +kernel
theorem dX12_copy_184 : decode cX12_copy 184 = .ok (.ireturn, 1) := by decide +kernel
theorem dX12_disks_0 : decode cX12_disks 0 = .ok (.iload_n 1, 1) := by decide +kernel
theorem dX12_disks_1 : decode cX12_disks 1 = .ok (.invokestatic 315, 3) := by decide +kernel
theorem dX12_disks_4 : decode cX12_disks 4 = .ok (.ifCond .eq 28, 3) := by decide +kernel
theorem dX12_disks_7 : decode cX12_disks 7 = .ok (.iload_n 2, 1) := by decide +kernel
theorem dX12_disks_8 : decode cX12_disks 8 = .ok (.i2l, 1) := by decide +kernel
theorem dX12_disks_9 : decode cX12_disks 9 = .ok (.lconst 0, 1) := by decide +kernel
theorem dX12_disks_10 : decode cX12_disks 10 = .ok (.ldc2_w 79, 3) := by decide +kernel
theorem dX12_disks_13 : decode cX12_disks 13 = .ok (.invokestatic 73, 3) := by decide +kernel
theorem dX12_disks_16 : decode cX12_disks 16 = .ok (.ifCond .eq 16, 3) := by decide +kernel
theorem dX12_disks_19 : decode cX12_disks 19 = .ok (.iload 4, 2) := by decide +kernel
theorem dX12_disks_21 : decode cX12_disks 21 = .ok (.i2l, 1) := by decide +kernel
theorem dX12_disks_22 : decode cX12_disks 22 = .ok (.lconst 0, 1) := by decide +kernel
theorem dX12_disks_23 : decode cX12_disks 23 = .ok (.ldc2_w 300, 3) := by decide +kernel
theorem dX12_disks_26 : decode cX12_disks 26 = .ok (.invokestatic 73, 3) := by decide +kernel
theorem dX12_disks_29 : decode cX12_disks 29 = .ok (.ifCond .ne 6, 3) := by decide +kernel
theorem dX12_disks_32 : decode cX12_disks 32 = .ok (.bipush (-2), 2) := by decide +kernel
theorem dX12_disks_34 : decode cX12_disks 34 = .ok (.ireturn, 1) := by decide +kernel
theorem dX12_disks_35 : decode cX12_disks 35 = .ok (.aload_n 0, 1) := by decide +kernel
theorem dX12_disks_36 : decode cX12_disks 36 = .ok (.getfield 50, 3) := by decide +kernel
theorem dX12_disks_39 : decode cX12_disks 39 = .ok (.iload_n 1, 1) := by decide +kernel
theorem dX12_disks_40 : decode cX12_disks 40 = .ok (.baload, 1) := by decide +kernel
theorem dX12_disks_41 : decode cX12_disks 41 = .ok (.ifCond .eq 16, 3) := by decide +kernel
theorem dX12_disks_44 : decode cX12_disks 44 = .ok (.aload_n 0, 1) := by decide +kernel
theorem dX12_disks_45 : decode cX12_disks 45 = .ok (.getfield 54, 3) := by decide +kernel
theorem dX12_disks_48 : decode cX12_disks 48 = .ok (.iload_n 1, 1) := by decide +kernel
theorem dX12_disks_49 : decode cX12_disks 49 = .ok (.iaload, 1) := by decide +kernel
theorem dX12_disks_50 : decode cX12_disks 50 = .ok (.iload_n 2, 1) := by decide +kernel
theorem dX12_disks_51 : decode cX12_disks 51 = .ok (.if_icmp .eq 6, 3) := by decide +kernel
theorem dX12_disks_54 : decode cX12_disks 54 = .ok (.bipush (-13), 2) := by decide +kernel
theorem dX12_disks_56 : decode cX12_disks 56 = .ok (.ireturn, 1) := by decide +kernel
theorem dX12_disks_57 : decode cX12_disks 57 = .ok (.aload_n 0, 1) := by decide +kernel
theorem dX12_disks_58 : decode cX12_disks 58 = .ok (.getfield 50, 3) := by decide +kernel
theorem dX12_disks_61 : decode cX12_disks 61 = .ok (.iload_n 1, 1) := by decide +kernel
theorem dX12_disks_62 : decode cX12_disks 62 = .ok (.baload, 1) := by decide +kernel
theorem dX12_disks_63 : decode cX12_disks 63 = .ok (.ifCond .ne 6, 3) := by decide +kernel
theorem dX12_disks_66 : decode cX12_disks 66 = .ok (.bipush (-11), 2) := by decide +kernel
theorem dX12_disks_68 : decode cX12_disks 68 = .ok (.ireturn, 1) := by decide +kernel
theorem dX12_disks_69 : decode cX12_disks 69 = .ok (.iconst 0, 1) := by decide +kernel
theorem dX12_disks_70 : decode cX12_disks 70 = .ok (.istore 5, 2) := by decide +kernel
theorem dX12_disks_72 : decode cX12_disks 72 = .ok (.iconst 0, 1) := by decide +kernel
theorem dX12_disks_73 : decode cX12_disks 73 = .ok (.istore 6, 2) := by decide +kernel
theorem dX12_disks_75 : decode cX12_disks 75 = .ok (.iload 6, 2) := by decide +kernel
theorem dX12_disks_77 : decode cX12_disks 77 = .ok (.iload 4, 2) := by decide +kernel
theorem dX12_disks_79 : decode cX12_disks 79 = .ok (.if_icmp .ge 79, 3) := by decide +kernel
theorem dX12_disks_82 : decode cX12_disks 82 = .ok (.iload_n 3, 1) := by decide +kernel
theorem dX12_disks_83 : decode cX12_disks 83 = .ok (.ifCond .lt 20, 3) := by decide +kernel
theorem dX12_disks_86 : decode cX12_disks 86 = .ok (.iload_n 3, 1) := by decide +kernel
theorem dX12_disks_87 : decode cX12_disks 87 = .ok (.aload_n 0, 1) := by decide +kernel
theorem dX12_disks_88 : decode cX12_disks 88 = .ok (.getfield 57, 3) := by decide +kernel
theorem dX12_disks_91 : decode cX12_disks 91 = .ok (.iload_n 1, 1) := by decide +kernel
theorem dX12_disks_92 : decode cX12_disks 92 = .ok (.iaload, 1) := by decide +kernel
theorem dX12_disks_93 : decode cX12_disks 93 = .ok (.iconst 2, 1) := by decide +kernel
theorem dX12_disks_94 : decode cX12_disks 94 = .ok (.iload 6, 2) := by decide +kernel
theorem dX12_disks_96 : decode cX12_disks 96 = .ok (.imul, 1) := by decide +kernel
theorem dX12_disks_97 : decode cX12_disks 97 = .ok (.isub, 1) := by decide +kernel
theorem dX12_disks_98 : decode cX12_disks 98 = .ok (.iconst 2, 1) := by decide +kernel
theorem dX12_disks_99 : decode cX12_disks 99 = .ok (.isub, 1) := by decide +kernel
theorem dX12_disks_100 : decode cX12_disks 100 = .ok (.if_icmp .le 6, 3) := by decide +kernel
theorem dX12_disks_103 : decode cX12_disks 103 = .ok (.bipush (-12), 2) := by decide +kernel
theorem dX12_disks_105 : decode cX12_disks 105 = .ok (.ireturn, 1) := by decide +kernel
theorem dX12_disks_106 : decode cX12_disks 106 = .ok (.bipush 40, 2) := by decide +kernel
theorem dX12_disks_108 : decode cX12_disks 108 = .ok (.iload_n 1, 1) := by decide +kernel
theorem dX12_disks_109 : decode cX12_disks 109 = .ok (.imul, 1) := by decide +kernel
theorem dX12_disks_110 : decode cX12_disks 110 = .ok (.iload_n 3, 1) := by decide +kernel
theorem dX12_disks_111 : decode cX12_disks 111 = .ok (.iadd, 1) := by decide +kernel
theorem dX12_disks_112 : decode cX12_disks 112 = .ok (.iconst 2, 1) := by decide +kernel
theorem dX12_disks_113 : decode cX12_disks 113 = .ok (.iload 6, 2) := by decide +kernel
theorem dX12_disks_115 : decode cX12_disks 115 = .ok (.imul, 1) := by decide +kernel
theorem dX12_disks_116 : decode cX12_disks 116 = .ok (.iadd, 1) := by decide +kernel
theorem dX12_disks_117 : decode cX12_disks 117 = .ok (.istore 7, 2) := by decide +kernel
theorem dX12_disks_119 : decode cX12_disks 119 = .ok (.iload 5, 2) := by decide +kernel
theorem dX12_disks_121 : decode cX12_disks 121 = .ok (.aload_n 0, 1) := by decide +kernel
theorem dX12_disks_122 : decode cX12_disks 122 = .ok (.aload_n 0, 1) := by decide +kernel
theorem dX12_disks_123 : decode cX12_disks 123 = .ok (.getfield 60, 3) := by decide +kernel
theorem dX12_disks_126 : decode cX12_disks 126 = .ok (.iload 7, 2) := by decide +kernel
theorem dX12_disks_128 : decode cX12_disks 128 = .ok (.iaload, 1) := by decide +kernel
theorem dX12_disks_129 : decode cX12_disks 129 = .ok (.aload_n 0, 1) := by decide +kernel
theorem dX12_disks_130 : decode cX12_disks 130 = .ok (.getfield 60, 3) := by decide +kernel
theorem dX12_disks_133 : decode cX12_disks 133 = .ok (.iload 7, 2) := by decide +kernel
theorem dX12_disks_135 : decode cX12_disks 135 = .ok (.iconst 1, 1) := by decide +kernel
theorem dX12_disks_136 : decode cX12_disks 136 = .ok (.iadd, 1) := by decide +kernel
theorem dX12_disks_137 : decode cX12_disks 137 = .ok (.iaload, 1) := by decide +kernel
theorem dX12_disks_138 : decode cX12_disks 138 = .ok (.invokevirtual 350, 3) := by decide +kernel
theorem dX12_disks_141 : decode cX12_disks 141 = .ok (.ifCond .lt 7, 3) := by decide +kernel
theorem dX12_disks_144 : decode cX12_disks 144 = .ok (.iconst 1, 1) := by decide +kernel
theorem dX12_disks_145 : decode cX12_disks 145 = .ok (.goto 4, 3) := by decide +kernel
theorem dX12_disks_148 : decode cX12_disks 148 = .ok (.iconst 0, 1) := by decide +kernel
theorem dX12_disks_149 : decode cX12_disks 149 = .ok (.iadd, 1) := by decide +kernel
theorem dX12_disks_150 : decode cX12_disks 150 = .ok (.istore 5, 2) := by decide +kernel
theorem dX12_disks_152 : decode cX12_disks 152 = .ok (.iinc 6 1, 3) := by decide +kernel
theorem dX12_disks_155 : decode cX12_disks 155 = .ok (.goto (-80), 3) := by decide +kernel
theorem dX12_disks_158 : decode cX12_disks 158 = .ok (.iload 5, 2) := by decide +kernel
theorem dX12_disks_160 : decode cX12_disks 160 = .ok (.ireturn, 1) := by decide +kernel
theorem dX12_over_0 : decode cX12_over 0 = .ok (.iload_n 0, 1) := by decide +kernel
theorem dX12_over_1 : decode cX12_over 1 = .ok (.ifCond .ne 7, 3) := by decide +kernel
theorem dX12_over_4 : decode cX12_over 4 = .ok (.iconst (-1), 1) := by decide +kernel
theorem dX12_over_5 : decode cX12_over 5 = .ok (.goto 22, 3) := by decide +kernel
theorem dX12_over_8 : decode cX12_over 8 = .ok (.iload_n 0, 1) := by decide +kernel
theorem dX12_over_9 : decode cX12_over 9 = .ok (.iconst 3, 1) := by decide +kernel
theorem dX12_over_10 : decode cX12_over 10 = .ok (.if_icmp .ne 7, 3) := by decide +kernel
theorem dX12_over_13 : decode cX12_over 13 = .ok (.iconst 1, 1) := by decide +kernel
theorem dX12_over_14 : decode cX12_over 14 = .ok (.goto 13, 3) := by decide +kernel
theorem dX12_over_17 : decode cX12_over 17 = .ok (.iload_n 0, 1) := by decide +kernel
theorem dX12_over_18 : decode cX12_over 18 = .ok (.iconst 4, 1) := by decide +kernel
theorem dX12_over_19 : decode cX12_over 19 = .ok (.if_icmp .ne 7, 3) := by decide +kernel
theorem dX12_over_22 : decode cX12_over 22 = .ok (.iconst 2, 1) := by decide +kernel
theorem dX12_over_23 : decode cX12_over 23 = .ok (.goto 4, 3) := by decide +kernel
theorem dX12_over_26 : decode cX12_over 26 = .ok (.iconst 0, 1) := by decide +kernel
theorem dX12_over_27 : decode cX12_over 27 = .ok (.ireturn, 1) := by decide +kernel
theorem dX12_taken_0 : decode cX12_taken 0 = .ok (.iload_n 2, 1) := by decide +kernel
theorem dX12_taken_1 : decode cX12_taken 1 = .ok (.i2l, 1) := by decide +kernel
theorem dX12_taken_2 : decode cX12_taken 2 = .ok (.lconst 0, 1) := by decide +kernel
theorem dX12_taken_3 : decode cX12_taken 3 = .ok (.ldc2_w 103, 3) := by decide +kernel
theorem dX12_taken_6 : decode cX12_taken 6 = .ok (.invokestatic 73, 3) := by decide +kernel
theorem dX12_taken_9 : decode cX12_taken 9 = .ok (.ifCond .ne 6, 3) := by decide +kernel
theorem dX12_taken_12 : decode cX12_taken 12 = .ok (.bipush (-2), 2) := by decide +kernel
theorem dX12_taken_14 : decode cX12_taken 14 = .ok (.ireturn, 1) := by decide +kernel
theorem dX12_taken_15 : decode cX12_taken 15 = .ok (.aload_n 0, 1) := by decide +kernel
theorem dX12_taken_16 : decode cX12_taken 16 = .ok (.iload_n 1, 1) := by decide +kernel
theorem dX12_taken_17 : decode cX12_taken 17 = .ok (.invokevirtual 81, 3) := by decide +kernel
theorem dX12_taken_20 : decode cX12_taken 20 = .ok (.ifCond .ne 6, 3) := by decide +kernel
theorem dX12_taken_23 : decode cX12_taken 23 = .ok (.bipush (-11), 2) := by decide +kernel
theorem dX12_taken_25 : decode cX12_taken 25 = .ok (.ireturn, 1) := by decide +kernel
theorem dX12_taken_26 : decode cX12_taken 26 = .ok (.aload_n 0, 1) := by decide +kernel
theorem dX12_taken_27 : decode cX12_taken 27 = .ok (.getfield 23, 3) := by decide +kernel
theorem dX12_taken_30 : decode cX12_taken 30 = .ok (.iload_n 1, 1) := by decide +kernel
theorem dX12_taken_31 : decode cX12_taken 31 = .ok (.iaload, 1) := by decide +kernel
theorem dX12_taken_32 : decode cX12_taken 32 = .ok (.istore_n 3, 1) := by decide +kernel
theorem dX12_taken_33 : decode cX12_taken 33 = .ok (.iload_n 3, 1) := by decide +kernel
theorem dX12_taken_34 : decode cX12_taken 34 = .ok (.iconst (-1), 1) := by decide +kernel
theorem dX12_taken_35 : decode cX12_taken 35 = .ok (.if_icmp .eq 16, 3) := by decide +kernel
theorem dX12_taken_38 : decode cX12_taken 38 = .ok (.iload_n 3, 1) := by decide +kernel
theorem dX12_taken_39 : decode cX12_taken 39 = .ok (.iload_n 2, 1) := by decide +kernel
theorem dX12_taken_40 : decode cX12_taken 40 = .ok (.if_icmp .eq 11, 3) := by decide +kernel
theorem dX12_taken_43 : decode cX12_taken 43 = .ok (.iload_n 3, 1) := by decide +kernel
theorem dX12_taken_44 : decode cX12_taken 44 = .ok (.invokestatic 353, 3) := by decide +kernel
theorem dX12_taken_47 : decode cX12_taken 47 = .ok (.istore_n 3, 1) := by decide +kernel
theorem dX12_taken_48 : decode cX12_taken 48 = .ok (.goto (-15), 3) := by decide +kernel
theorem dX12_taken_51 : decode cX12_taken 51 = .ok (.iload_n 3, 1) := by decide +kernel
theorem dX12_taken_52 : decode cX12_taken 52 = .ok (.iload_n 2, 1) := by decide +kernel
theorem dX12_taken_53 : decode cX12_taken 53 = .ok (.if_icmp .ne 14, 3) := by decide +kernel
theorem dX12_taken_56 : decode cX12_taken 56 = .ok (.aload_n 0, 1) := by decide +kernel
theorem dX12_taken_57 : decode cX12_taken 57 = .ok (.getfield 26, 3) := by decide +kernel
theorem dX12_taken_60 : decode cX12_taken 60 = .ok (.iconst 2, 1) := by decide +kernel
theorem dX12_taken_61 : decode cX12_taken 61 = .ok (.iload_n 1, 1) := by decide +kernel
theorem dX12_taken_62 : decode cX12_taken 62 = .ok (.imul, 1) := by decide +kernel
theorem dX12_taken_63 : decode cX12_taken 63 = .ok (.iaload, 1) := by decide +kernel
theorem dX12_taken_64 : decode cX12_taken 64 = .ok (.goto 5, 3) := by decide +kernel
theorem dX12_taken_67 : decode cX12_taken 67 = .ok (.bipush (-13), 2) := by decide +kernel
theorem dX12_taken_69 : decode cX12_taken 69 = .ok (.ireturn, 1) := by decide +kernel
theorem dJ6_bitCount_0f7a4_0 : decode cJ6_bitCount_0f7a4 0 = .ok (.iload_n 0, 1) := by decide +kernel
theorem dJ6_bitCount_0f7a4_1 : decode cJ6_bitCount_0f7a4 1 = .ok (.iload_n 0, 1) := by decide +kernel
theorem dJ6_bitCount_0f7a4_2 : decode cJ6_bitCount_0f7a4 2 = .ok (.iconst 1, 1) := by decide +kernel
theorem dJ6_bitCount_0f7a4_3 : decode cJ6_bitCount_0f7a4 3 = .ok (.iushr, 1) := by decide +kernel
theorem dJ6_bitCount_0f7a4_4 : decode cJ6_bitCount_0f7a4 4 = .ok (.ldc_w 265, 3) := by decide +kernel
theorem dJ6_bitCount_0f7a4_7 : decode cJ6_bitCount_0f7a4 7 = .ok (.iand, 1) := by decide +kernel
theorem dJ6_bitCount_0f7a4_8 : decode cJ6_bitCount_0f7a4 8 = .ok (.isub, 1) := by decide +kernel
theorem dJ6_bitCount_0f7a4_9 : decode cJ6_bitCount_0f7a4 9 = .ok (.istore_n 0, 1) := by decide +kernel
theorem dJ6_bitCount_0f7a4_10 : decode cJ6_bitCount_0f7a4 10 = .ok (.iload_n 0, 1) := by decide +kernel
theorem dJ6_bitCount_0f7a4_11 : decode cJ6_bitCount_0f7a4 11 = .ok (.ldc_w 266, 3) := by decide +kernel
theorem dJ6_bitCount_0f7a4_14 : decode cJ6_bitCount_0f7a4 14 = .ok (.iand, 1) := by decide +kernel
theorem dJ6_bitCount_0f7a4_15 : decode cJ6_bitCount_0f7a4 15 = .ok (.iload_n 0, 1) := by decide +kernel
theorem dJ6_bitCount_0f7a4_16 : decode cJ6_bitCount_0f7a4 16 = .ok (.iconst 2, 1) := by decide +kernel
theorem dJ6_bitCount_0f7a4_17 : decode cJ6_bitCount_0f7a4 17 = .ok (.iushr, 1) := by decide +kernel
theorem dJ6_bitCount_0f7a4_18 : decode cJ6_bitCount_0f7a4 18 = .ok (.ldc_w 266, 3) := by decide +kernel
theorem dJ6_bitCount_0f7a4_21 : decode cJ6_bitCount_0f7a4 21 = .ok (.iand, 1) := by decide +kernel
theorem dJ6_bitCount_0f7a4_22 : decode cJ6_bitCount_0f7a4 22 = .ok (.iadd, 1) := by decide +kernel
theorem dJ6_bitCount_0f7a4_23 : decode cJ6_bitCount_0f7a4 23 = .ok (.istore_n 0, 1) := by decide +kernel
theorem dJ6_bitCount_0f7a4_24 : decode cJ6_bitCount_0f7a4 24 = .ok (.iload_n 0, 1) := by decide +kernel
theorem dJ6_bitCount_0f7a4_25 : decode cJ6_bitCount_0f7a4 25 = .ok (.iload_n 0, 1) := by decide +kernel
theorem dJ6_bitCount_0f7a4_26 : decode cJ6_bitCount_0f7a4 26 = .ok (.iconst 4, 1) := by decide +kernel
theorem dJ6_bitCount_0f7a4_27 : decode cJ6_bitCount_0f7a4 27 = .ok (.iushr, 1) := by decide +kernel
theorem dJ6_bitCount_0f7a4_28 : decode cJ6_bitCount_0f7a4 28 = .ok (.iadd, 1) := by decide +kernel
theorem dJ6_bitCount_0f7a4_29 : decode cJ6_bitCount_0f7a4 29 = .ok (.ldc_w 267, 3) := by decide +kernel
theorem dJ6_bitCount_0f7a4_32 : decode cJ6_bitCount_0f7a4 32 = .ok (.iand, 1) := by decide +kernel
theorem dJ6_bitCount_0f7a4_33 : decode cJ6_bitCount_0f7a4 33 = .ok (.istore_n 0, 1) := by decide +kernel
theorem dJ6_bitCount_0f7a4_34 : decode cJ6_bitCount_0f7a4 34 = .ok (.iload_n 0, 1) := by decide +kernel
theorem dJ6_bitCount_0f7a4_35 : decode cJ6_bitCount_0f7a4 35 = .ok (.iload_n 0, 1) := by decide +kernel
theorem dJ6_bitCount_0f7a4_36 : decode cJ6_bitCount_0f7a4 36 = .ok (.bipush 8, 2) := by decide +kernel
theorem dJ6_bitCount_0f7a4_38 : decode cJ6_bitCount_0f7a4 38 = .ok (.iushr, 1) := by decide +kernel
theorem dJ6_bitCount_0f7a4_39 : decode cJ6_bitCount_0f7a4 39 = .ok (.iadd, 1) := by decide +kernel
theorem dJ6_bitCount_0f7a4_40 : decode cJ6_bitCount_0f7a4 40 = .ok (.istore_n 0, 1) := by decide +kernel
theorem dJ6_bitCount_0f7a4_41 : decode cJ6_bitCount_0f7a4 41 = .ok (.iload_n 0, 1) := by decide +kernel
theorem dJ6_bitCount_0f7a4_42 : decode cJ6_bitCount_0f7a4 42 = .ok (.iload_n 0, 1) := by decide +kernel
theorem dJ6_bitCount_0f7a4_43 : decode cJ6_bitCount_0f7a4 43 = .ok (.bipush 16, 2) := by decide +kernel
theorem dJ6_bitCount_0f7a4_45 : decode cJ6_bitCount_0f7a4 45 = .ok (.iushr, 1) := by decide +kernel
theorem dJ6_bitCount_0f7a4_46 : decode cJ6_bitCount_0f7a4 46 = .ok (.iadd, 1) := by decide +kernel
theorem dJ6_bitCount_0f7a4_47 : decode cJ6_bitCount_0f7a4 47 = .ok (.istore_n 0, 1) := by decide +kernel
theorem dJ6_bitCount_0f7a4_48 : decode cJ6_bitCount_0f7a4 48 = .ok (.iload_n 0, 1) := by decide +kernel
theorem dJ6_bitCount_0f7a4_49 : decode cJ6_bitCount_0f7a4 49 = .ok (.bipush 63, 2) := by decide +kernel
theorem dJ6_bitCount_0f7a4_51 : decode cJ6_bitCount_0f7a4 51 = .ok (.iand, 1) := by decide +kernel
theorem dJ6_bitCount_0f7a4_52 : decode cJ6_bitCount_0f7a4 52 = .ok (.ireturn, 1) := by decide +kernel
theorem dJ9_max_7cf53_0 : decode cJ9_max_7cf53 0 = .ok (.iload_n 0, 1) := by decide +kernel
theorem dJ9_max_7cf53_1 : decode cJ9_max_7cf53 1 = .ok (.iload_n 1, 1) := by decide +kernel
theorem dJ9_max_7cf53_2 : decode cJ9_max_7cf53 2 = .ok (.if_icmp .lt 7, 3) := by decide +kernel
theorem dJ9_max_7cf53_5 : decode cJ9_max_7cf53 5 = .ok (.iload_n 0, 1) := by decide +kernel
theorem dJ9_max_7cf53_6 : decode cJ9_max_7cf53 6 = .ok (.goto 4, 3) := by decide +kernel
theorem dJ9_max_7cf53_9 : decode cJ9_max_7cf53 9 = .ok (.iload_n 1, 1) := by decide +kernel
theorem dJ9_max_7cf53_10 : decode cJ9_max_7cf53 10 = .ok (.ireturn, 1) := by decide +kernel
theorem dJ9_min_7cf53_0 : decode cJ9_min_7cf53 0 = .ok (.iload_n 0, 1) := by decide +kernel
theorem dJ9_min_7cf53_1 : decode cJ9_min_7cf53 1 = .ok (.iload_n 1, 1) := by decide +kernel
theorem dJ9_min_7cf53_2 : decode cJ9_min_7cf53 2 = .ok (.if_icmp .gt 7, 3) := by decide +kernel
theorem dJ9_min_7cf53_5 : decode cJ9_min_7cf53 5 = .ok (.iload_n 0, 1) := by decide +kernel
theorem dJ9_min_7cf53_6 : decode cJ9_min_7cf53 6 = .ok (.goto 4, 3) := by decide +kernel
theorem dJ9_min_7cf53_9 : decode cJ9_min_7cf53 9 = .ok (.iload_n 1, 1) := by decide +kernel
theorem dJ9_min_7cf53_10 : decode cJ9_min_7cf53 10 = .ok (.ireturn, 1) := by decide +kernel
theorem dJ0_length_8abf5_0 : decode cJ0_length_8abf5 0 = .ok (.aload_n 0, 1) := by decide +kernel
theorem dJ0_length_8abf5_1 : decode cJ0_length_8abf5 1 = .ok (.getfield 9, 3) := by decide +kernel
theorem dJ0_length_8abf5_4 : decode cJ0_length_8abf5 4 = .ok (.arraylength, 1) := by decide +kernel
theorem dJ0_length_8abf5_5 : decode cJ0_length_8abf5 5 = .ok (.aload_n 0, 1) := by decide +kernel
theorem dJ0_length_8abf5_6 : decode cJ0_length_8abf5 6 = .ok (.invokevirtual 335, 3) := by decide +kernel
theorem dJ0_length_8abf5_9 : decode cJ0_length_8abf5 9 = .ok (.ishr, 1) := by decide +kernel
theorem dJ0_length_8abf5_10 : decode cJ0_length_8abf5 10 = .ok (.ireturn, 1) := by decide +kernel
theorem dJ0_charAt_5068e_0 : decode cJ0_charAt_5068e 0 = .ok (.aload_n 0, 1) := by decide +kernel
theorem dJ0_charAt_5068e_1 : decode cJ0_charAt_5068e 1 = .ok (.invokevirtual 492, 3) := by decide +kernel
theorem dJ0_charAt_5068e_4 : decode cJ0_charAt_5068e 4 = .ok (.ifCond .eq 12, 3) := by decide +kernel
theorem dJ0_charAt_5068e_7 : decode cJ0_charAt_5068e 7 = .ok (.aload_n 0, 1) := by decide +kernel
theorem dJ0_charAt_5068e_8 : decode cJ0_charAt_5068e 8 = .ok (.getfield 9, 3) := by decide +kernel
theorem dJ0_charAt_5068e_11 : decode cJ0_charAt_5068e 11 = .ok (.iload_n 1, 1) := by decide +kernel
theorem dJ0_charAt_5068e_12 : decode cJ0_charAt_5068e 12 = .ok (.invokestatic 495, 3) := by decide +kernel
theorem dJ0_charAt_5068e_15 : decode cJ0_charAt_5068e 15 = .ok (.ireturn, 1) := by decide +kernel
theorem dJ0_charAt_5068e_16 : decode cJ0_charAt_5068e 16 = .ok (.aload_n 0, 1) := by decide +kernel
theorem dJ0_charAt_5068e_17 : decode cJ0_charAt_5068e 17 = .ok (.getfield 9, 3) := by decide +kernel
theorem dJ0_charAt_5068e_20 : decode cJ0_charAt_5068e 20 = .ok (.iload_n 1, 1) := by decide +kernel
theorem dJ0_charAt_5068e_21 : decode cJ0_charAt_5068e 21 = .ok (.invokestatic 498, 3) := by decide +kernel
theorem dJ0_charAt_5068e_24 : decode cJ0_charAt_5068e 24 = .ok (.ireturn, 1) := by decide +kernel
theorem dJ0_coder_7d493_0 : decode cJ0_coder_7d493 0 = .ok (.getstatic 38, 3) := by decide +kernel
theorem dJ0_coder_7d493_3 : decode cJ0_coder_7d493 3 = .ok (.ifCond .eq 10, 3) := by decide +kernel
theorem dJ0_coder_7d493_6 : decode cJ0_coder_7d493 6 = .ok (.aload_n 0, 1) := by decide +kernel
theorem dJ0_coder_7d493_7 : decode cJ0_coder_7d493 7 = .ok (.getfield 15, 3) := by decide +kernel
theorem dJ0_coder_7d493_10 : decode cJ0_coder_7d493 10 = .ok (.goto 4, 3) := by decide +kernel
theorem dJ0_coder_7d493_13 : decode cJ0_coder_7d493 13 = .ok (.iconst 1, 1) := by decide +kernel
theorem dJ0_coder_7d493_14 : decode cJ0_coder_7d493 14 = .ok (.ireturn, 1) := by decide +kernel
theorem dJ0_isLatin1_aae02_0 : decode cJ0_isLatin1_aae02 0 = .ok (.getstatic 38, 3) := by decide +kernel
theorem dJ0_isLatin1_aae02_3 : decode cJ0_isLatin1_aae02 3 = .ok (.ifCond .eq 14, 3) := by decide +kernel
theorem dJ0_isLatin1_aae02_6 : decode cJ0_isLatin1_aae02 6 = .ok (.aload_n 0, 1) := by decide +kernel
theorem dJ0_isLatin1_aae02_7 : decode cJ0_isLatin1_aae02 7 = .ok (.getfield 15, 3) := by decide +kernel
theorem dJ0_isLatin1_aae02_10 : decode cJ0_isLatin1_aae02 10 = .ok (.ifCond .ne 7, 3) := by decide +kernel
theorem dJ0_isLatin1_aae02_13 : decode cJ0_isLatin1_aae02 13 = .ok (.iconst 1, 1) := by decide +kernel
theorem dJ0_isLatin1_aae02_14 : decode cJ0_isLatin1_aae02 14 = .ok (.goto 4, 3) := by decide +kernel
theorem dJ0_isLatin1_aae02_17 : decode cJ0_isLatin1_aae02 17 = .ok (.iconst 0, 1) := by decide +kernel
theorem dJ0_isLatin1_aae02_18 : decode cJ0_isLatin1_aae02 18 = .ok (.ireturn, 1) := by decide +kernel
theorem dJ0_checkIndex_df160_0 : decode cJ0_checkIndex_df160 0 = .ok (.iload_n 0, 1) := by decide +kernel
theorem dJ0_checkIndex_df160_1 : decode cJ0_checkIndex_df160 1 = .ok (.iload_n 1, 1) := by decide +kernel
theorem dJ0_checkIndex_df160_2 : decode cJ0_checkIndex_df160 2 = .ok (.getstatic 1053, 3) := by decide +kernel
theorem dJ0_checkIndex_df160_5 : decode cJ0_checkIndex_df160 5 = .ok (.invokestatic 1059, 3) := by decide +kernel
theorem dJ0_checkIndex_df160_8 : decode cJ0_checkIndex_df160 8 = .ok (.pop, 1) := by decide +kernel
theorem dJ0_checkIndex_df160_9 : decode cJ0_checkIndex_df160 9 = .ok (.return_, 1) := by decide +kernel
theorem dJ1_charAt_3b067_0 : decode cJ1_charAt_3b067 0 = .ok (.iload_n 1, 1) := by decide +kernel
theorem dJ1_charAt_3b067_1 : decode cJ1_charAt_3b067 1 = .ok (.aload_n 0, 1) := by decide +kernel
theorem dJ1_charAt_3b067_2 : decode cJ1_charAt_3b067 2 = .ok (.arraylength, 1) := by decide +kernel
theorem dJ1_charAt_3b067_3 : decode cJ1_charAt_3b067 3 = .ok (.invokestatic 9, 3) := by decide +kernel
theorem dJ1_charAt_3b067_6 : decode cJ1_charAt_3b067 6 = .ok (.aload_n 0, 1) := by decide +kernel
theorem dJ1_charAt_3b067_7 : decode cJ1_charAt_3b067 7 = .ok (.iload_n 1, 1) := by decide +kernel
theorem dJ1_charAt_3b067_8 : decode cJ1_charAt_3b067 8 = .ok (.baload, 1) := by decide +kernel
theorem dJ1_charAt_3b067_9 : decode cJ1_charAt_3b067 9 = .ok (.sipush 255, 3) := by decide +kernel
theorem dJ1_charAt_3b067_12 : decode cJ1_charAt_3b067 12 = .ok (.iand, 1) := by decide +kernel
theorem dJ1_charAt_3b067_13 : decode cJ1_charAt_3b067 13 = .ok (.i2c, 1) := by decide +kernel
theorem dJ1_charAt_3b067_14 : decode cJ1_charAt_3b067 14 = .ok (.ireturn, 1) := by decide +kernel
theorem dJ7_fill_53178_0 : decode cJ7_fill_53178 0 = .ok (.iconst 0, 1) := by decide +kernel
theorem dJ7_fill_53178_1 : decode cJ7_fill_53178 1 = .ok (.istore_n 2, 1) := by decide +kernel
theorem dJ7_fill_53178_2 : decode cJ7_fill_53178 2 = .ok (.aload_n 0, 1) := by decide +kernel
theorem dJ7_fill_53178_3 : decode cJ7_fill_53178 3 = .ok (.arraylength, 1) := by decide +kernel
theorem dJ7_fill_53178_4 : decode cJ7_fill_53178 4 = .ok (.istore_n 3, 1) := by decide +kernel
theorem dJ7_fill_53178_5 : decode cJ7_fill_53178 5 = .ok (.iload_n 2, 1) := by decide +kernel
theorem dJ7_fill_53178_6 : decode cJ7_fill_53178 6 = .ok (.iload_n 3, 1) := by decide +kernel
theorem dJ7_fill_53178_7 : decode cJ7_fill_53178 7 = .ok (.if_icmp .ge 13, 3) := by decide +kernel
theorem dJ7_fill_53178_10 : decode cJ7_fill_53178 10 = .ok (.aload_n 0, 1) := by decide +kernel
theorem dJ7_fill_53178_11 : decode cJ7_fill_53178 11 = .ok (.iload_n 2, 1) := by decide +kernel
theorem dJ7_fill_53178_12 : decode cJ7_fill_53178 12 = .ok (.iload_n 1, 1) := by decide +kernel
theorem dJ7_fill_53178_13 : decode cJ7_fill_53178 13 = .ok (.iastore, 1) := by decide +kernel
theorem dJ7_fill_53178_14 : decode cJ7_fill_53178 14 = .ok (.iinc 2 1, 3) := by decide +kernel
theorem dJ7_fill_53178_17 : decode cJ7_fill_53178 17 = .ok (.goto (-12), 3) := by decide +kernel
theorem dJ7_fill_53178_20 : decode cJ7_fill_53178 20 = .ok (.return_, 1) := by decide +kernel
theorem dJ3_checkIndex_8e157_0 : decode cJ3_checkIndex_8e157 0 = .ok (.iload_n 0, 1) := by decide +kernel
theorem dJ3_checkIndex_8e157_1 : decode cJ3_checkIndex_8e157 1 = .ok (.ifCond .lt 8, 3) := by decide +kernel
theorem dJ3_checkIndex_8e157_4 : decode cJ3_checkIndex_8e157 4 = .ok (.iload_n 0, 1) := by decide +kernel
theorem dJ3_checkIndex_8e157_5 : decode cJ3_checkIndex_8e157 5 = .ok (.iload_n 1, 1) := by decide +kernel
theorem dJ3_checkIndex_8e157_6 : decode cJ3_checkIndex_8e157 6 = .ok (.if_icmp .lt 10, 3) := by decide +kernel
theorem dJ3_checkIndex_8e157_9 : decode cJ3_checkIndex_8e157 9 = .ok (.aload_n 2, 1) := by decide +kernel
theorem dJ3_checkIndex_8e157_10 : decode cJ3_checkIndex_8e157 10 = .ok (.iload_n 0, 1) := by decide +kernel
theorem dJ3_checkIndex_8e157_11 : decode cJ3_checkIndex_8e157 11 = .ok (.iload_n 1, 1) := by decide +kernel
theorem dJ3_checkIndex_8e157_12 : decode cJ3_checkIndex_8e157 12 = .ok (.invokestatic 95, 3) := by decide +kernel
theorem dJ3_checkIndex_8e157_15 : decode cJ3_checkIndex_8e157 15 = .ok (.athrow, 1) := by decide +kernel
theorem dJ3_checkIndex_8e157_16 : decode cJ3_checkIndex_8e157 16 = .ok (.iload_n 0, 1) := by decide +kernel
theorem dJ3_checkIndex_8e157_17 : decode cJ3_checkIndex_8e157 17 = .ok (.ireturn, 1) := by decide +kernel
theorem dL_law_0 : decode cL_law 0 = .ok (.new 7, 3) := by decide +kernel
theorem dL_law_3 : decode cL_law 3 = .ok (.dup, 1) := by decide +kernel
theorem dL_law_4 : decode cL_law 4 = .ok (.invokespecial 9, 3) := by decide +kernel
theorem dL_law_7 : decode cL_law 7 = .ok (.astore_n 1, 1) := by decide +kernel
theorem dL_law_8 : decode cL_law 8 = .ok (.new 10, 3) := by decide +kernel
theorem dL_law_11 : decode cL_law 11 = .ok (.dup, 1) := by decide +kernel
theorem dL_law_12 : decode cL_law 12 = .ok (.invokespecial 12, 3) := by decide +kernel
theorem dL_law_15 : decode cL_law 15 = .ok (.astore_n 2, 1) := by decide +kernel
theorem dL_law_16 : decode cL_law 16 = .ok (.iconst 0, 1) := by decide +kernel
theorem dL_law_17 : decode cL_law 17 = .ok (.istore_n 3, 1) := by decide +kernel
theorem dL_law_18 : decode cL_law 18 = .ok (.iload_n 3, 1) := by decide +kernel
theorem dL_law_19 : decode cL_law 19 = .ok (.aload_n 0, 1) := by decide +kernel
theorem dL_law_20 : decode cL_law 20 = .ok (.arraylength, 1) := by decide +kernel
theorem dL_law_21 : decode cL_law 21 = .ok (.bipush 6, 2) := by decide +kernel
theorem dL_law_23 : decode cL_law 23 = .ok (.isub, 1) := by decide +kernel
theorem dL_law_24 : decode cL_law 24 = .ok (.if_icmp .gt 1175, 3) := by decide +kernel
theorem dL_law_27 : decode cL_law 27 = .ok (.aload_n 0, 1) := by decide +kernel
theorem dL_law_28 : decode cL_law 28 = .ok (.iload_n 3, 1) := by decide +kernel
theorem dL_law_29 : decode cL_law 29 = .ok (.iaload, 1) := by decide +kernel
theorem dL_law_30 : decode cL_law 30 = .ok (.bipush 31, 2) := by decide +kernel
theorem dL_law_32 : decode cL_law 32 = .ok (.iand, 1) := by decide +kernel
theorem dL_law_33 : decode cL_law 33 = .ok (.tableswitch 1160 0 31 #[143, 186, 219, 252, 295, 318, 331, 354, 397, 430, 463, 486, 519, 542, 575, 598, 621, 634, 667, 690, 723, 776, 809, 832, 876, 889, 902, 925, 968, 1011, 1074, 1127], 143) := by decide +kernel
theorem dL_law_176 : decode cL_law 176 = .ok (.aload_n 1, 1) := by decide +kernel
theorem dL_law_177 : decode cL_law 177 = .ok (.aload_n 0, 1) := by decide +kernel
theorem dL_law_178 : decode cL_law 178 = .ok (.iload_n 3, 1) := by decide +kernel
theorem dL_law_179 : decode cL_law 179 = .ok (.iconst 1, 1) := by decide +kernel
theorem dL_law_180 : decode cL_law 180 = .ok (.iadd, 1) := by decide +kernel
theorem dL_law_181 : decode cL_law 181 = .ok (.iaload, 1) := by decide +kernel
theorem dL_law_182 : decode cL_law 182 = .ok (.aload_n 0, 1) := by decide +kernel
theorem dL_law_183 : decode cL_law 183 = .ok (.iload_n 3, 1) := by decide +kernel
theorem dL_law_184 : decode cL_law 184 = .ok (.iconst 2, 1) := by decide +kernel
theorem dL_law_185 : decode cL_law 185 = .ok (.iadd, 1) := by decide +kernel
theorem dL_law_186 : decode cL_law 186 = .ok (.iaload, 1) := by decide +kernel
theorem dL_law_187 : decode cL_law 187 = .ok (.aload_n 0, 1) := by decide +kernel
theorem dL_law_188 : decode cL_law 188 = .ok (.iload_n 3, 1) := by decide +kernel
theorem dL_law_189 : decode cL_law 189 = .ok (.iconst 3, 1) := by decide +kernel
theorem dL_law_190 : decode cL_law 190 = .ok (.iadd, 1) := by decide +kernel
theorem dL_law_191 : decode cL_law 191 = .ok (.iaload, 1) := by decide +kernel
theorem dL_law_192 : decode cL_law 192 = .ok (.invokevirtual 13, 3) := by decide +kernel
theorem dL_law_195 : decode cL_law 195 = .ok (.aload_n 2, 1) := by decide +kernel
theorem dL_law_196 : decode cL_law 196 = .ok (.aload_n 0, 1) := by decide +kernel
theorem dL_law_197 : decode cL_law 197 = .ok (.iload_n 3, 1) := by decide +kernel
theorem dL_law_198 : decode cL_law 198 = .ok (.iconst 1, 1) := by decide +kernel
theorem dL_law_199 : decode cL_law 199 = .ok (.iadd, 1) := by decide +kernel
theorem dL_law_200 : decode cL_law 200 = .ok (.iaload, 1) := by decide +kernel
theorem dL_law_201 : decode cL_law 201 = .ok (.aload_n 0, 1) := by decide +kernel
theorem dL_law_202 : decode cL_law 202 = .ok (.iload_n 3, 1) := by decide +kernel
theorem dL_law_203 : decode cL_law 203 = .ok (.iconst 2, 1) := by decide +kernel
theorem dL_law_204 : decode cL_law 204 = .ok (.iadd, 1) := by decide +kernel
theorem dL_law_205 : decode cL_law 205 = .ok (.iaload, 1) := by decide +kernel
theorem dL_law_206 : decode cL_law 206 = .ok (.aload_n 0, 1) := by decide +kernel
theorem dL_law_207 : decode cL_law 207 = .ok (.iload_n 3, 1) := by decide +kernel
theorem dL_law_208 : decode cL_law 208 = .ok (.iconst 3, 1) := by decide +kernel
theorem dL_law_209 : decode cL_law 209 = .ok (.iadd, 1) := by decide +kernel
theorem dL_law_210 : decode cL_law 210 = .ok (.iaload, 1) := by decide +kernel
theorem dL_law_211 : decode cL_law 211 = .ok (.invokevirtual 17, 3) := by decide +kernel
theorem dL_law_214 : decode cL_law 214 = .ok (.if_icmp .eq 979, 3) := by decide +kernel
theorem dL_law_217 : decode cL_law 217 = .ok (.iconst 0, 1) := by decide +kernel
theorem dL_law_218 : decode cL_law 218 = .ok (.ireturn, 1) := by decide +kernel
theorem dL_law_219 : decode cL_law 219 = .ok (.aload_n 1, 1) := by decide +kernel
theorem dL_law_220 : decode cL_law 220 = .ok (.aload_n 0, 1) := by decide +kernel
theorem dL_law_221 : decode cL_law 221 = .ok (.iload_n 3, 1) := by decide +kernel
theorem dL_law_222 : decode cL_law 222 = .ok (.iconst 1, 1) := by decide +kernel
theorem dL_law_223 : decode cL_law 223 = .ok (.iadd, 1) := by decide +kernel
theorem dL_law_224 : decode cL_law 224 = .ok (.iaload, 1) := by decide +kernel
theorem dL_law_225 : decode cL_law 225 = .ok (.aload_n 0, 1) := by decide +kernel
theorem dL_law_226 : decode cL_law 226 = .ok (.iload_n 3, 1) := by decide +kernel
theorem dL_law_227 : decode cL_law 227 = .ok (.iconst 2, 1) := by decide +kernel
theorem dL_law_228 : decode cL_law 228 = .ok (.iadd, 1) := by decide +kernel
theorem dL_law_229 : decode cL_law 229 = .ok (.iaload, 1) := by decide +kernel
theorem dL_law_230 : decode cL_law 230 = .ok (.invokevirtual 18, 3) := by decide +kernel
theorem dL_law_233 : decode cL_law 233 = .ok (.aload_n 2, 1) := by decide +kernel
theorem dL_law_234 : decode cL_law 234 = .ok (.aload_n 0, 1) := by decide +kernel
theorem dL_law_235 : decode cL_law 235 = .ok (.iload_n 3, 1) := by decide +kernel
theorem dL_law_236 : decode cL_law 236 = .ok (.iconst 1, 1) := by decide +kernel
theorem dL_law_237 : decode cL_law 237 = .ok (.iadd, 1) := by decide +kernel
theorem dL_law_238 : decode cL_law 238 = .ok (.iaload, 1) := by decide +kernel
theorem dL_law_239 : decode cL_law 239 = .ok (.aload_n 0, 1) := by decide +kernel
theorem dL_law_240 : decode cL_law 240 = .ok (.iload_n 3, 1) := by decide +kernel
theorem dL_law_241 : decode cL_law 241 = .ok (.iconst 2, 1) := by decide +kernel
theorem dL_law_242 : decode cL_law 242 = .ok (.iadd, 1) := by decide +kernel
theorem dL_law_243 : decode cL_law 243 = .ok (.iaload, 1) := by decide +kernel
theorem dL_law_244 : decode cL_law 244 = .ok (.invokevirtual 22, 3) := by decide +kernel
theorem dL_law_247 : decode cL_law 247 = .ok (.if_icmp .eq 946, 3) := by decide +kernel
theorem dL_law_250 : decode cL_law 250 = .ok (.iconst 0, 1) := by decide +kernel
theorem dL_law_251 : decode cL_law 251 = .ok (.ireturn, 1) := by decide +kernel
theorem dL_law_252 : decode cL_law 252 = .ok (.aload_n 1, 1) := by decide +kernel
theorem dL_law_253 : decode cL_law 253 = .ok (.aload_n 0, 1) := by decide +kernel
theorem dL_law_254 : decode cL_law 254 = .ok (.iload_n 3, 1) := by decide +kernel
theorem dL_law_255 : decode cL_law 255 = .ok (.iconst 1, 1) := by decide +kernel
theorem dL_law_256 : decode cL_law 256 = .ok (.iadd, 1) := by decide +kernel
theorem dL_law_257 : decode cL_law 257 = .ok (.iaload, 1) := by decide +kernel
theorem dL_law_258 : decode cL_law 258 = .ok (.aload_n 0, 1) := by decide +kernel
theorem dL_law_259 : decode cL_law 259 = .ok (.iload_n 3, 1) := by decide +kernel
theorem dL_law_260 : decode cL_law 260 = .ok (.iconst 2, 1) := by decide +kernel
theorem dL_law_261 : decode cL_law 261 = .ok (.iadd, 1) := by decide +kernel
theorem dL_law_262 : decode cL_law 262 = .ok (.iaload, 1) := by decide +kernel
theorem dL_law_263 : decode cL_law 263 = .ok (.invokevirtual 23, 3) := by decide +kernel
theorem dL_law_266 : decode cL_law 266 = .ok (.aload_n 2, 1) := by decide +kernel
theorem dL_law_267 : decode cL_law 267 = .ok (.aload_n 0, 1) := by decide +kernel
theorem dL_law_268 : decode cL_law 268 = .ok (.iload_n 3, 1) := by decide +kernel
theorem dL_law_269 : decode cL_law 269 = .ok (.iconst 1, 1) := by decide +kernel
theorem dL_law_270 : decode cL_law 270 = .ok (.iadd, 1) := by decide +kernel
theorem dL_law_271 : decode cL_law 271 = .ok (.iaload, 1) := by decide +kernel
theorem dL_law_272 : decode cL_law 272 = .ok (.aload_n 0, 1) := by decide +kernel
theorem dL_law_273 : decode cL_law 273 = .ok (.iload_n 3, 1) := by decide +kernel
theorem dL_law_274 : decode cL_law 274 = .ok (.iconst 2, 1) := by decide +kernel
theorem dL_law_275 : decode cL_law 275 = .ok (.iadd, 1) := by decide +kernel
theorem dL_law_276 : decode cL_law 276 = .ok (.iaload, 1) := by decide +kernel
theorem dL_law_277 : decode cL_law 277 = .ok (.invokevirtual 26, 3) := by decide +kernel
theorem dL_law_280 : decode cL_law 280 = .ok (.if_icmp .eq 913, 3) := by decide +kernel
theorem dL_law_283 : decode cL_law 283 = .ok (.iconst 0, 1) := by decide +kernel
theorem dL_law_284 : decode cL_law 284 = .ok (.ireturn, 1) := by decide +kernel
theorem dL_law_285 : decode cL_law 285 = .ok (.aload_n 1, 1) := by decide +kernel
theorem dL_law_286 : decode cL_law 286 = .ok (.aload_n 0, 1) := by decide +kernel
theorem dL_law_287 : decode cL_law 287 = .ok (.iload_n 3, 1) := by decide +kernel
theorem dL_law_288 : decode cL_law 288 = .ok (.iconst 1, 1) := by decide +kernel
theorem dL_law_289 : decode cL_law 289 = .ok (.iadd, 1) := by decide +kernel
theorem dL_law_290 : decode cL_law 290 = .ok (.iaload, 1) := by decide +kernel
theorem dL_law_291 : decode cL_law 291 = .ok (.aload_n 0, 1) := by decide +kernel
theorem dL_law_292 : decode cL_law 292 = .ok (.iload_n 3, 1) := by decide +kernel
theorem dL_law_293 : decode cL_law 293 = .ok (.iconst 2, 1) := by decide +kernel
theorem dL_law_294 : decode cL_law 294 = .ok (.iadd, 1) := by decide +kernel
theorem dL_law_295 : decode cL_law 295 = .ok (.iaload, 1) := by decide +kernel
theorem dL_law_296 : decode cL_law 296 = .ok (.aload_n 0, 1) := by decide +kernel
theorem dL_law_297 : decode cL_law 297 = .ok (.iload_n 3, 1) := by decide +kernel
theorem dL_law_298 : decode cL_law 298 = .ok (.iconst 3, 1) := by decide +kernel
theorem dL_law_299 : decode cL_law 299 = .ok (.iadd, 1) := by decide +kernel
theorem dL_law_300 : decode cL_law 300 = .ok (.iaload, 1) := by decide +kernel
theorem dL_law_301 : decode cL_law 301 = .ok (.invokevirtual 27, 3) := by decide +kernel
theorem dL_law_304 : decode cL_law 304 = .ok (.aload_n 2, 1) := by decide +kernel
theorem dL_law_305 : decode cL_law 305 = .ok (.aload_n 0, 1) := by decide +kernel
theorem dL_law_306 : decode cL_law 306 = .ok (.iload_n 3, 1) := by decide +kernel
theorem dL_law_307 : decode cL_law 307 = .ok (.iconst 1, 1) := by decide +kernel
theorem dL_law_308 : decode cL_law 308 = .ok (.iadd, 1) := by decide +kernel
theorem dL_law_309 : decode cL_law 309 = .ok (.iaload, 1) := by decide +kernel
theorem dL_law_310 : decode cL_law 310 = .ok (.aload_n 0, 1) := by decide +kernel
theorem dL_law_311 : decode cL_law 311 = .ok (.iload_n 3, 1) := by decide +kernel
theorem dL_law_312 : decode cL_law 312 = .ok (.iconst 2, 1) := by decide +kernel
theorem dL_law_313 : decode cL_law 313 = .ok (.iadd, 1) := by decide +kernel
theorem dL_law_314 : decode cL_law 314 = .ok (.iaload, 1) := by decide +kernel
theorem dL_law_315 : decode cL_law 315 = .ok (.aload_n 0, 1) := by decide +kernel
theorem dL_law_316 : decode cL_law 316 = .ok (.iload_n 3, 1) := by decide +kernel
theorem dL_law_317 : decode cL_law 317 = .ok (.iconst 3, 1) := by decide +kernel
theorem dL_law_318 : decode cL_law 318 = .ok (.iadd, 1) := by decide +kernel
theorem dL_law_319 : decode cL_law 319 = .ok (.iaload, 1) := by decide +kernel
theorem dL_law_320 : decode cL_law 320 = .ok (.invokevirtual 30, 3) := by decide +kernel
theorem dL_law_323 : decode cL_law 323 = .ok (.if_icmp .eq 870, 3) := by decide +kernel
theorem dL_law_326 : decode cL_law 326 = .ok (.iconst 0, 1) := by decide +kernel
theorem dL_law_327 : decode cL_law 327 = .ok (.ireturn, 1) := by decide +kernel
theorem dL_law_328 : decode cL_law 328 = .ok (.aload_n 1, 1) := by decide +kernel
theorem dL_law_329 : decode cL_law 329 = .ok (.aload_n 0, 1) := by decide +kernel
theorem dL_law_330 : decode cL_law 330 = .ok (.iload_n 3, 1) := by decide +kernel
theorem dL_law_331 : decode cL_law 331 = .ok (.iconst 1, 1) := by decide +kernel
theorem dL_law_332 : decode cL_law 332 = .ok (.iadd, 1) := by decide +kernel
theorem dL_law_333 : decode cL_law 333 = .ok (.iaload, 1) := by decide +kernel
theorem dL_law_334 : decode cL_law 334 = .ok (.invokevirtual 31, 3) := by decide +kernel
theorem dL_law_337 : decode cL_law 337 = .ok (.aload_n 2, 1) := by decide +kernel
theorem dL_law_338 : decode cL_law 338 = .ok (.aload_n 0, 1) := by decide +kernel
theorem dL_law_339 : decode cL_law 339 = .ok (.iload_n 3, 1) := by decide +kernel
theorem dL_law_340 : decode cL_law 340 = .ok (.iconst 1, 1) := by decide +kernel
theorem dL_law_341 : decode cL_law 341 = .ok (.iadd, 1) := by decide +kernel
theorem dL_law_342 : decode cL_law 342 = .ok (.iaload, 1) := by decide +kernel
theorem dL_law_343 : decode cL_law 343 = .ok (.invokevirtual 35, 3) := by decide +kernel
theorem dL_law_346 : decode cL_law 346 = .ok (.if_icmp .eq 847, 3) := by decide +kernel
theorem dL_law_349 : decode cL_law 349 = .ok (.iconst 0, 1) := by decide +kernel
theorem dL_law_350 : decode cL_law 350 = .ok (.ireturn, 1) := by decide +kernel
theorem dL_law_351 : decode cL_law 351 = .ok (.aload_n 1, 1) := by decide +kernel
theorem dL_law_352 : decode cL_law 352 = .ok (.invokevirtual 36, 3) := by decide +kernel
theorem dL_law_355 : decode cL_law 355 = .ok (.aload_n 2, 1) := by decide +kernel
theorem dL_law_356 : decode cL_law 356 = .ok (.invokevirtual 40, 3) := by decide +kernel
theorem dL_law_359 : decode cL_law 359 = .ok (.if_icmp .eq 834, 3) := by decide +kernel
theorem dL_law_362 : decode cL_law 362 = .ok (.iconst 0, 1) := by decide +kernel
theorem dL_law_363 : decode cL_law 363 = .ok (.ireturn, 1) := by decide +kernel
theorem dL_law_364 : decode cL_law 364 = .ok (.aload_n 1, 1) := by decide +kernel
theorem dL_law_365 : decode cL_law 365 = .ok (.aload_n 0, 1) := by decide +kernel
theorem dL_law_366 : decode cL_law 366 = .ok (.iload_n 3, 1) := by decide +kernel
theorem dL_law_367 : decode cL_law 367 = .ok (.iconst 1, 1) := by decide +kernel
theorem dL_law_368 : decode cL_law 368 = .ok (.iadd, 1) := by decide +kernel
theorem dL_law_369 : decode cL_law 369 = .ok (.iaload, 1) := by decide +kernel
theorem dL_law_370 : decode cL_law 370 = .ok (.invokevirtual 41, 3) := by decide +kernel
theorem dL_law_373 : decode cL_law 373 = .ok (.aload_n 2, 1) := by decide +kernel
theorem dL_law_374 : decode cL_law 374 = .ok (.aload_n 0, 1) := by decide +kernel
theorem dL_law_375 : decode cL_law 375 = .ok (.iload_n 3, 1) := by decide +kernel
theorem dL_law_376 : decode cL_law 376 = .ok (.iconst 1, 1) := by decide +kernel
theorem dL_law_377 : decode cL_law 377 = .ok (.iadd, 1) := by decide +kernel
theorem dL_law_378 : decode cL_law 378 = .ok (.iaload, 1) := by decide +kernel
theorem dL_law_379 : decode cL_law 379 = .ok (.invokevirtual 44, 3) := by decide +kernel
theorem dL_law_382 : decode cL_law 382 = .ok (.if_icmp .eq 811, 3) := by decide +kernel
theorem dL_law_385 : decode cL_law 385 = .ok (.iconst 0, 1) := by decide +kernel
theorem dL_law_386 : decode cL_law 386 = .ok (.ireturn, 1) := by decide +kernel
theorem dL_law_387 : decode cL_law 387 = .ok (.aload_n 1, 1) := by decide +kernel
theorem dL_law_388 : decode cL_law 388 = .ok (.aload_n 0, 1) := by decide +kernel
theorem dL_law_389 : decode cL_law 389 = .ok (.iload_n 3, 1) := by decide +kernel
theorem dL_law_390 : decode cL_law 390 = .ok (.iconst 1, 1) := by decide +kernel
theorem dL_law_391 : decode cL_law 391 = .ok (.iadd, 1) := by decide +kernel
theorem dL_law_392 : decode cL_law 392 = .ok (.iaload, 1) := by decide +kernel
theorem dL_law_393 : decode cL_law 393 = .ok (.aload_n 0, 1) := by decide +kernel
theorem dL_law_394 : decode cL_law 394 = .ok (.iload_n 3, 1) := by decide +kernel
theorem dL_law_395 : decode cL_law 395 = .ok (.iconst 2, 1) := by decide +kernel
theorem dL_law_396 : decode cL_law 396 = .ok (.iadd, 1) := by decide +kernel
theorem dL_law_397 : decode cL_law 397 = .ok (.iaload, 1) := by decide +kernel
theorem dL_law_398 : decode cL_law 398 = .ok (.aload_n 0, 1) := by decide +kernel
theorem dL_law_399 : decode cL_law 399 = .ok (.iload_n 3, 1) := by decide +kernel
theorem dL_law_400 : decode cL_law 400 = .ok (.iconst 3, 1) := by decide +kernel
theorem dL_law_401 : decode cL_law 401 = .ok (.iadd, 1) := by decide +kernel
theorem dL_law_402 : decode cL_law 402 = .ok (.iaload, 1) := by decide +kernel
theorem dL_law_403 : decode cL_law 403 = .ok (.invokevirtual 45, 3) := by decide +kernel
theorem dL_law_406 : decode cL_law 406 = .ok (.aload_n 2, 1) := by decide +kernel
theorem dL_law_407 : decode cL_law 407 = .ok (.aload_n 0, 1) := by decide +kernel
theorem dL_law_408 : decode cL_law 408 = .ok (.iload_n 3, 1) := by decide +kernel
theorem dL_law_409 : decode cL_law 409 = .ok (.iconst 1, 1) := by decide +kernel
theorem dL_law_410 : decode cL_law 410 = .ok (.iadd, 1) := by decide +kernel
theorem dL_law_411 : decode cL_law 411 = .ok (.iaload, 1) := by decide +kernel
theorem dL_law_412 : decode cL_law 412 = .ok (.aload_n 0, 1) := by decide +kernel
theorem dL_law_413 : decode cL_law 413 = .ok (.iload_n 3, 1) := by decide +kernel
theorem dL_law_414 : decode cL_law 414 = .ok (.iconst 2, 1) := by decide +kernel
theorem dL_law_415 : decode cL_law 415 = .ok (.iadd, 1) := by decide +kernel
theorem dL_law_416 : decode cL_law 416 = .ok (.iaload, 1) := by decide +kernel
theorem dL_law_417 : decode cL_law 417 = .ok (.aload_n 0, 1) := by decide +kernel
theorem dL_law_418 : decode cL_law 418 = .ok (.iload_n 3, 1) := by decide +kernel
theorem dL_law_419 : decode cL_law 419 = .ok (.iconst 3, 1) := by decide +kernel
theorem dL_law_420 : decode cL_law 420 = .ok (.iadd, 1) := by decide +kernel
theorem dL_law_421 : decode cL_law 421 = .ok (.iaload, 1) := by decide +kernel
theorem dL_law_422 : decode cL_law 422 = .ok (.invokevirtual 48, 3) := by decide +kernel
theorem dL_law_425 : decode cL_law 425 = .ok (.if_icmp .eq 768, 3) := by decide +kernel
theorem dL_law_428 : decode cL_law 428 = .ok (.iconst 0, 1) := by decide +kernel
theorem dL_law_429 : decode cL_law 429 = .ok (.ireturn, 1) := by decide +kernel
theorem dL_law_430 : decode cL_law 430 = .ok (.aload_n 1, 1) := by decide +kernel
theorem dL_law_431 : decode cL_law 431 = .ok (.aload_n 0, 1) := by decide +kernel
theorem dL_law_432 : decode cL_law 432 = .ok (.iload_n 3, 1) := by decide +kernel
theorem dL_law_433 : decode cL_law 433 = .ok (.iconst 1, 1) := by decide +kernel
theorem dL_law_434 : decode cL_law 434 = .ok (.iadd, 1) := by decide +kernel
theorem dL_law_435 : decode cL_law 435 = .ok (.iaload, 1) := by decide +kernel
theorem dL_law_436 : decode cL_law 436 = .ok (.aload_n 0, 1) := by decide +kernel
theorem dL_law_437 : decode cL_law 437 = .ok (.iload_n 3, 1) := by decide +kernel
theorem dL_law_438 : decode cL_law 438 = .ok (.iconst 2, 1) := by decide +kernel
theorem dL_law_439 : decode cL_law 439 = .ok (.iadd, 1) := by decide +kernel
theorem dL_law_440 : decode cL_law 440 = .ok (.iaload, 1) := by decide +kernel
theorem dL_law_441 : decode cL_law 441 = .ok (.invokevirtual 49, 3) := by decide +kernel
theorem dL_law_444 : decode cL_law 444 = .ok (.aload_n 2, 1) := by decide +kernel
theorem dL_law_445 : decode cL_law 445 = .ok (.aload_n 0, 1) := by decide +kernel
theorem dL_law_446 : decode cL_law 446 = .ok (.iload_n 3, 1) := by decide +kernel
theorem dL_law_447 : decode cL_law 447 = .ok (.iconst 1, 1) := by decide +kernel
theorem dL_law_448 : decode cL_law 448 = .ok (.iadd, 1) := by decide +kernel
theorem dL_law_449 : decode cL_law 449 = .ok (.iaload, 1) := by decide +kernel
theorem dL_law_450 : decode cL_law 450 = .ok (.aload_n 0, 1) := by decide +kernel
theorem dL_law_451 : decode cL_law 451 = .ok (.iload_n 3, 1) := by decide +kernel
theorem dL_law_452 : decode cL_law 452 = .ok (.iconst 2, 1) := by decide +kernel
theorem dL_law_453 : decode cL_law 453 = .ok (.iadd, 1) := by decide +kernel
theorem dL_law_454 : decode cL_law 454 = .ok (.iaload, 1) := by decide +kernel
theorem dL_law_455 : decode cL_law 455 = .ok (.invokevirtual 52, 3) := by decide +kernel
theorem dL_law_458 : decode cL_law 458 = .ok (.if_icmp .eq 735, 3) := by decide +kernel
theorem dL_law_461 : decode cL_law 461 = .ok (.iconst 0, 1) := by decide +kernel
theorem dL_law_462 : decode cL_law 462 = .ok (.ireturn, 1) := by decide +kernel
theorem dL_law_463 : decode cL_law 463 = .ok (.aload_n 1, 1) := by decide +kernel
theorem dL_law_464 : decode cL_law 464 = .ok (.aload_n 0, 1) := by decide +kernel
theorem dL_law_465 : decode cL_law 465 = .ok (.iload_n 3, 1) := by decide +kernel
theorem dL_law_466 : decode cL_law 466 = .ok (.iconst 1, 1) := by decide +kernel
theorem dL_law_467 : decode cL_law 467 = .ok (.iadd, 1) := by decide +kernel
theorem dL_law_468 : decode cL_law 468 = .ok (.iaload, 1) := by decide +kernel
theorem dL_law_469 : decode cL_law 469 = .ok (.aload_n 0, 1) := by decide +kernel
theorem dL_law_470 : decode cL_law 470 = .ok (.iload_n 3, 1) := by decide +kernel
theorem dL_law_471 : decode cL_law 471 = .ok (.iconst 2, 1) := by decide +kernel
theorem dL_law_472 : decode cL_law 472 = .ok (.iadd, 1) := by decide +kernel
theorem dL_law_473 : decode cL_law 473 = .ok (.iaload, 1) := by decide +kernel
theorem dL_law_474 : decode cL_law 474 = .ok (.invokevirtual 53, 3) := by decide +kernel
theorem dL_law_477 : decode cL_law 477 = .ok (.aload_n 2, 1) := by decide +kernel
theorem dL_law_478 : decode cL_law 478 = .ok (.aload_n 0, 1) := by decide +kernel
theorem dL_law_479 : decode cL_law 479 = .ok (.iload_n 3, 1) := by decide +kernel
theorem dL_law_480 : decode cL_law 480 = .ok (.iconst 1, 1) := by decide +kernel
theorem dL_law_481 : decode cL_law 481 = .ok (.iadd, 1) := by decide +kernel
theorem dL_law_482 : decode cL_law 482 = .ok (.iaload, 1) := by decide +kernel
theorem dL_law_483 : decode cL_law 483 = .ok (.aload_n 0, 1) := by decide +kernel
theorem dL_law_484 : decode cL_law 484 = .ok (.iload_n 3, 1) := by decide +kernel
theorem dL_law_485 : decode cL_law 485 = .ok (.iconst 2, 1) := by decide +kernel
theorem dL_law_486 : decode cL_law 486 = .ok (.iadd, 1) := by decide +kernel
theorem dL_law_487 : decode cL_law 487 = .ok (.iaload, 1) := by decide +kernel
theorem dL_law_488 : decode cL_law 488 = .ok (.invokevirtual 56, 3) := by decide +kernel
theorem dL_law_491 : decode cL_law 491 = .ok (.if_icmp .eq 702, 3) := by decide +kernel
theorem dL_law_494 : decode cL_law 494 = .ok (.iconst 0, 1) := by decide +kernel
theorem dL_law_495 : decode cL_law 495 = .ok (.ireturn, 1) := by decide +kernel
theorem dL_law_496 : decode cL_law 496 = .ok (.aload_n 1, 1) := by decide +kernel
theorem dL_law_497 : decode cL_law 497 = .ok (.aload_n 0, 1) := by decide +kernel
theorem dL_law_498 : decode cL_law 498 = .ok (.iload_n 3, 1) := by decide +kernel
theorem dL_law_499 : decode cL_law 499 = .ok (.iconst 1, 1) := by decide +kernel
theorem dL_law_500 : decode cL_law 500 = .ok (.iadd, 1) := by decide +kernel
theorem dL_law_501 : decode cL_law 501 = .ok (.iaload, 1) := by decide +kernel
theorem dL_law_502 : decode cL_law 502 = .ok (.invokevirtual 57, 3) := by decide +kernel
theorem dL_law_505 : decode cL_law 505 = .ok (.aload_n 2, 1) := by decide +kernel
theorem dL_law_506 : decode cL_law 506 = .ok (.aload_n 0, 1) := by decide +kernel
theorem dL_law_507 : decode cL_law 507 = .ok (.iload_n 3, 1) := by decide +kernel
theorem dL_law_508 : decode cL_law 508 = .ok (.iconst 1, 1) := by decide +kernel
theorem dL_law_509 : decode cL_law 509 = .ok (.iadd, 1) := by decide +kernel
theorem dL_law_510 : decode cL_law 510 = .ok (.iaload, 1) := by decide +kernel
theorem dL_law_511 : decode cL_law 511 = .ok (.invokevirtual 60, 3) := by decide +kernel
theorem dL_law_514 : decode cL_law 514 = .ok (.if_icmp .eq 679, 3) := by decide +kernel
theorem dL_law_517 : decode cL_law 517 = .ok (.iconst 0, 1) := by decide +kernel
theorem dL_law_518 : decode cL_law 518 = .ok (.ireturn, 1) := by decide +kernel
theorem dL_law_519 : decode cL_law 519 = .ok (.aload_n 1, 1) := by decide +kernel
theorem dL_law_520 : decode cL_law 520 = .ok (.aload_n 0, 1) := by decide +kernel
theorem dL_law_521 : decode cL_law 521 = .ok (.iload_n 3, 1) := by decide +kernel
theorem dL_law_522 : decode cL_law 522 = .ok (.iconst 1, 1) := by decide +kernel
theorem dL_law_523 : decode cL_law 523 = .ok (.iadd, 1) := by decide +kernel
theorem dL_law_524 : decode cL_law 524 = .ok (.iaload, 1) := by decide +kernel
theorem dL_law_525 : decode cL_law 525 = .ok (.aload_n 0, 1) := by decide +kernel
theorem dL_law_526 : decode cL_law 526 = .ok (.iload_n 3, 1) := by decide +kernel
theorem dL_law_527 : decode cL_law 527 = .ok (.iconst 2, 1) := by decide +kernel
theorem dL_law_528 : decode cL_law 528 = .ok (.iadd, 1) := by decide +kernel
theorem dL_law_529 : decode cL_law 529 = .ok (.iaload, 1) := by decide +kernel
theorem dL_law_530 : decode cL_law 530 = .ok (.invokevirtual 61, 3) := by decide +kernel
theorem dL_law_533 : decode cL_law 533 = .ok (.aload_n 2, 1) := by decide +kernel
theorem dL_law_534 : decode cL_law 534 = .ok (.aload_n 0, 1) := by decide +kernel
theorem dL_law_535 : decode cL_law 535 = .ok (.iload_n 3, 1) := by decide +kernel
theorem dL_law_536 : decode cL_law 536 = .ok (.iconst 1, 1) := by decide +kernel
theorem dL_law_537 : decode cL_law 537 = .ok (.iadd, 1) := by decide +kernel
theorem dL_law_538 : decode cL_law 538 = .ok (.iaload, 1) := by decide +kernel
theorem dL_law_539 : decode cL_law 539 = .ok (.aload_n 0, 1) := by decide +kernel
theorem dL_law_540 : decode cL_law 540 = .ok (.iload_n 3, 1) := by decide +kernel
theorem dL_law_541 : decode cL_law 541 = .ok (.iconst 2, 1) := by decide +kernel
theorem dL_law_542 : decode cL_law 542 = .ok (.iadd, 1) := by decide +kernel
theorem dL_law_543 : decode cL_law 543 = .ok (.iaload, 1) := by decide +kernel
theorem dL_law_544 : decode cL_law 544 = .ok (.invokevirtual 64, 3) := by decide +kernel
theorem dL_law_547 : decode cL_law 547 = .ok (.if_icmp .eq 646, 3) := by decide +kernel
theorem dL_law_550 : decode cL_law 550 = .ok (.iconst 0, 1) := by decide +kernel
theorem dL_law_551 : decode cL_law 551 = .ok (.ireturn, 1) := by decide +kernel
theorem dL_law_552 : decode cL_law 552 = .ok (.aload_n 1, 1) := by decide +kernel
theorem dL_law_553 : decode cL_law 553 = .ok (.aload_n 0, 1) := by decide +kernel
theorem dL_law_554 : decode cL_law 554 = .ok (.iload_n 3, 1) := by decide +kernel
theorem dL_law_555 : decode cL_law 555 = .ok (.iconst 1, 1) := by decide +kernel
theorem dL_law_556 : decode cL_law 556 = .ok (.iadd, 1) := by decide +kernel
theorem dL_law_557 : decode cL_law 557 = .ok (.iaload, 1) := by decide +kernel
theorem dL_law_558 : decode cL_law 558 = .ok (.invokevirtual 65, 3) := by decide +kernel
theorem dL_law_561 : decode cL_law 561 = .ok (.aload_n 2, 1) := by decide +kernel
theorem dL_law_562 : decode cL_law 562 = .ok (.aload_n 0, 1) := by decide +kernel
theorem dL_law_563 : decode cL_law 563 = .ok (.iload_n 3, 1) := by decide +kernel
theorem dL_law_564 : decode cL_law 564 = .ok (.iconst 1, 1) := by decide +kernel
theorem dL_law_565 : decode cL_law 565 = .ok (.iadd, 1) := by decide +kernel
theorem dL_law_566 : decode cL_law 566 = .ok (.iaload, 1) := by decide +kernel
theorem dL_law_567 : decode cL_law 567 = .ok (.invokevirtual 68, 3) := by decide +kernel
theorem dL_law_570 : decode cL_law 570 = .ok (.if_icmp .eq 623, 3) := by decide +kernel
theorem dL_law_573 : decode cL_law 573 = .ok (.iconst 0, 1) := by decide +kernel
theorem dL_law_574 : decode cL_law 574 = .ok (.ireturn, 1) := by decide +kernel
theorem dL_law_575 : decode cL_law 575 = .ok (.aload_n 1, 1) := by decide +kernel
theorem dL_law_576 : decode cL_law 576 = .ok (.aload_n 0, 1) := by decide +kernel
theorem dL_law_577 : decode cL_law 577 = .ok (.iload_n 3, 1) := by decide +kernel
theorem dL_law_578 : decode cL_law 578 = .ok (.iconst 1, 1) := by decide +kernel
theorem dL_law_579 : decode cL_law 579 = .ok (.iadd, 1) := by decide +kernel
theorem dL_law_580 : decode cL_law 580 = .ok (.iaload, 1) := by decide +kernel
theorem dL_law_581 : decode cL_law 581 = .ok (.aload_n 0, 1) := by decide +kernel
theorem dL_law_582 : decode cL_law 582 = .ok (.iload_n 3, 1) := by decide +kernel
theorem dL_law_583 : decode cL_law 583 = .ok (.iconst 2, 1) := by decide +kernel
theorem dL_law_584 : decode cL_law 584 = .ok (.iadd, 1) := by decide +kernel
theorem dL_law_585 : decode cL_law 585 = .ok (.iaload, 1) := by decide +kernel
theorem dL_law_586 : decode cL_law 586 = .ok (.invokevirtual 69, 3) := by decide +kernel
theorem dL_law_589 : decode cL_law 589 = .ok (.aload_n 2, 1) := by decide +kernel
theorem dL_law_590 : decode cL_law 590 = .ok (.aload_n 0, 1) := by decide +kernel
theorem dL_law_591 : decode cL_law 591 = .ok (.iload_n 3, 1) := by decide +kernel
theorem dL_law_592 : decode cL_law 592 = .ok (.iconst 1, 1) := by decide +kernel
theorem dL_law_593 : decode cL_law 593 = .ok (.iadd, 1) := by decide +kernel
theorem dL_law_594 : decode cL_law 594 = .ok (.iaload, 1) := by decide +kernel
theorem dL_law_595 : decode cL_law 595 = .ok (.aload_n 0, 1) := by decide +kernel
theorem dL_law_596 : decode cL_law 596 = .ok (.iload_n 3, 1) := by decide +kernel
theorem dL_law_597 : decode cL_law 597 = .ok (.iconst 2, 1) := by decide +kernel
theorem dL_law_598 : decode cL_law 598 = .ok (.iadd, 1) := by decide +kernel
theorem dL_law_599 : decode cL_law 599 = .ok (.iaload, 1) := by decide +kernel
theorem dL_law_600 : decode cL_law 600 = .ok (.invokevirtual 72, 3) := by decide +kernel
theorem dL_law_603 : decode cL_law 603 = .ok (.if_icmp .eq 590, 3) := by decide +kernel
theorem dL_law_606 : decode cL_law 606 = .ok (.iconst 0, 1) := by decide +kernel
theorem dL_law_607 : decode cL_law 607 = .ok (.ireturn, 1) := by decide +kernel
theorem dL_law_608 : decode cL_law 608 = .ok (.aload_n 1, 1) := by decide +kernel
theorem dL_law_609 : decode cL_law 609 = .ok (.aload_n 0, 1) := by decide +kernel
theorem dL_law_610 : decode cL_law 610 = .ok (.iload_n 3, 1) := by decide +kernel
theorem dL_law_611 : decode cL_law 611 = .ok (.iconst 1, 1) := by decide +kernel
theorem dL_law_612 : decode cL_law 612 = .ok (.iadd, 1) := by decide +kernel
theorem dL_law_613 : decode cL_law 613 = .ok (.iaload, 1) := by decide +kernel
theorem dL_law_614 : decode cL_law 614 = .ok (.invokevirtual 73, 3) := by decide +kernel
theorem dL_law_617 : decode cL_law 617 = .ok (.aload_n 2, 1) := by decide +kernel
theorem dL_law_618 : decode cL_law 618 = .ok (.aload_n 0, 1) := by decide +kernel
theorem dL_law_619 : decode cL_law 619 = .ok (.iload_n 3, 1) := by decide +kernel
theorem dL_law_620 : decode cL_law 620 = .ok (.iconst 1, 1) := by decide +kernel
theorem dL_law_621 : decode cL_law 621 = .ok (.iadd, 1) := by decide +kernel
theorem dL_law_622 : decode cL_law 622 = .ok (.iaload, 1) := by decide +kernel
theorem dL_law_623 : decode cL_law 623 = .ok (.invokevirtual 76, 3) := by decide +kernel
theorem dL_law_626 : decode cL_law 626 = .ok (.if_icmp .eq 567, 3) := by decide +kernel
theorem dL_law_629 : decode cL_law 629 = .ok (.iconst 0, 1) := by decide +kernel
theorem dL_law_630 : decode cL_law 630 = .ok (.ireturn, 1) := by decide +kernel
theorem dL_law_631 : decode cL_law 631 = .ok (.aload_n 1, 1) := by decide +kernel
theorem dL_law_632 : decode cL_law 632 = .ok (.aload_n 0, 1) := by decide +kernel
theorem dL_law_633 : decode cL_law 633 = .ok (.iload_n 3, 1) := by decide +kernel
theorem dL_law_634 : decode cL_law 634 = .ok (.iconst 1, 1) := by decide +kernel
theorem dL_law_635 : decode cL_law 635 = .ok (.iadd, 1) := by decide +kernel
theorem dL_law_636 : decode cL_law 636 = .ok (.iaload, 1) := by decide +kernel
theorem dL_law_637 : decode cL_law 637 = .ok (.invokevirtual 77, 3) := by decide +kernel
theorem dL_law_640 : decode cL_law 640 = .ok (.aload_n 2, 1) := by decide +kernel
theorem dL_law_641 : decode cL_law 641 = .ok (.aload_n 0, 1) := by decide +kernel
theorem dL_law_642 : decode cL_law 642 = .ok (.iload_n 3, 1) := by decide +kernel
theorem dL_law_643 : decode cL_law 643 = .ok (.iconst 1, 1) := by decide +kernel
theorem dL_law_644 : decode cL_law 644 = .ok (.iadd, 1) := by decide +kernel
theorem dL_law_645 : decode cL_law 645 = .ok (.iaload, 1) := by decide +kernel
theorem dL_law_646 : decode cL_law 646 = .ok (.invokevirtual 80, 3) := by decide +kernel
theorem dL_law_649 : decode cL_law 649 = .ok (.if_icmp .eq 544, 3) := by decide +kernel
theorem dL_law_652 : decode cL_law 652 = .ok (.iconst 0, 1) := by decide +kernel
theorem dL_law_653 : decode cL_law 653 = .ok (.ireturn, 1) := by decide +kernel
theorem dL_law_654 : decode cL_law 654 = .ok (.aload_n 1, 1) := by decide +kernel
theorem dL_law_655 : decode cL_law 655 = .ok (.invokevirtual 81, 3) := by decide +kernel
theorem dL_law_658 : decode cL_law 658 = .ok (.aload_n 2, 1) := by decide +kernel
theorem dL_law_659 : decode cL_law 659 = .ok (.invokevirtual 84, 3) := by decide +kernel
theorem dL_law_662 : decode cL_law 662 = .ok (.if_icmp .eq 531, 3) := by decide +kernel
theorem dL_law_665 : decode cL_law 665 = .ok (.iconst 0, 1) := by decide +kernel
theorem dL_law_666 : decode cL_law 666 = .ok (.ireturn, 1) := by decide +kernel
theorem dL_law_667 : decode cL_law 667 = .ok (.aload_n 1, 1) := by decide +kernel
theorem dL_law_668 : decode cL_law 668 = .ok (.aload_n 0, 1) := by decide +kernel
theorem dL_law_669 : decode cL_law 669 = .ok (.iload_n 3, 1) := by decide +kernel
theorem dL_law_670 : decode cL_law 670 = .ok (.iconst 1, 1) := by decide +kernel
theorem dL_law_671 : decode cL_law 671 = .ok (.iadd, 1) := by decide +kernel
theorem dL_law_672 : decode cL_law 672 = .ok (.iaload, 1) := by decide +kernel
theorem dL_law_673 : decode cL_law 673 = .ok (.aload_n 0, 1) := by decide +kernel
theorem dL_law_674 : decode cL_law 674 = .ok (.iload_n 3, 1) := by decide +kernel
theorem dL_law_675 : decode cL_law 675 = .ok (.iconst 2, 1) := by decide +kernel
theorem dL_law_676 : decode cL_law 676 = .ok (.iadd, 1) := by decide +kernel
theorem dL_law_677 : decode cL_law 677 = .ok (.iaload, 1) := by decide +kernel
theorem dL_law_678 : decode cL_law 678 = .ok (.invokevirtual 85, 3) := by decide +kernel
theorem dL_law_681 : decode cL_law 681 = .ok (.aload_n 2, 1) := by decide +kernel
theorem dL_law_682 : decode cL_law 682 = .ok (.aload_n 0, 1) := by decide +kernel
theorem dL_law_683 : decode cL_law 683 = .ok (.iload_n 3, 1) := by decide +kernel
theorem dL_law_684 : decode cL_law 684 = .ok (.iconst 1, 1) := by decide +kernel
theorem dL_law_685 : decode cL_law 685 = .ok (.iadd, 1) := by decide +kernel
theorem dL_law_686 : decode cL_law 686 = .ok (.iaload, 1) := by decide +kernel
theorem dL_law_687 : decode cL_law 687 = .ok (.aload_n 0, 1) := by decide +kernel
theorem dL_law_688 : decode cL_law 688 = .ok (.iload_n 3, 1) := by decide +kernel
theorem dL_law_689 : decode cL_law 689 = .ok (.iconst 2, 1) := by decide +kernel
theorem dL_law_690 : decode cL_law 690 = .ok (.iadd, 1) := by decide +kernel
theorem dL_law_691 : decode cL_law 691 = .ok (.iaload, 1) := by decide +kernel
theorem dL_law_692 : decode cL_law 692 = .ok (.invokevirtual 88, 3) := by decide +kernel
theorem dL_law_695 : decode cL_law 695 = .ok (.if_icmp .eq 498, 3) := by decide +kernel
theorem dL_law_698 : decode cL_law 698 = .ok (.iconst 0, 1) := by decide +kernel
theorem dL_law_699 : decode cL_law 699 = .ok (.ireturn, 1) := by decide +kernel
theorem dL_law_700 : decode cL_law 700 = .ok (.aload_n 1, 1) := by decide +kernel
theorem dL_law_701 : decode cL_law 701 = .ok (.aload_n 0, 1) := by decide +kernel
theorem dL_law_702 : decode cL_law 702 = .ok (.iload_n 3, 1) := by decide +kernel
theorem dL_law_703 : decode cL_law 703 = .ok (.iconst 1, 1) := by decide +kernel
theorem dL_law_704 : decode cL_law 704 = .ok (.iadd, 1) := by decide +kernel
theorem dL_law_705 : decode cL_law 705 = .ok (.iaload, 1) := by decide +kernel
theorem dL_law_706 : decode cL_law 706 = .ok (.invokevirtual 89, 3) := by decide +kernel
theorem dL_law_709 : decode cL_law 709 = .ok (.aload_n 2, 1) := by decide +kernel
theorem dL_law_710 : decode cL_law 710 = .ok (.aload_n 0, 1) := by decide +kernel
theorem dL_law_711 : decode cL_law 711 = .ok (.iload_n 3, 1) := by decide +kernel
theorem dL_law_712 : decode cL_law 712 = .ok (.iconst 1, 1) := by decide +kernel
theorem dL_law_713 : decode cL_law 713 = .ok (.iadd, 1) := by decide +kernel
theorem dL_law_714 : decode cL_law 714 = .ok (.iaload, 1) := by decide +kernel
theorem dL_law_715 : decode cL_law 715 = .ok (.invokevirtual 92, 3) := by decide +kernel
theorem dL_law_718 : decode cL_law 718 = .ok (.if_icmp .eq 475, 3) := by decide +kernel
theorem dL_law_721 : decode cL_law 721 = .ok (.iconst 0, 1) := by decide +kernel
theorem dL_law_722 : decode cL_law 722 = .ok (.ireturn, 1) := by decide +kernel
theorem dL_law_723 : decode cL_law 723 = .ok (.aload_n 1, 1) := by decide +kernel
theorem dL_law_724 : decode cL_law 724 = .ok (.aload_n 0, 1) := by decide +kernel
theorem dL_law_725 : decode cL_law 725 = .ok (.iload_n 3, 1) := by decide +kernel
theorem dL_law_726 : decode cL_law 726 = .ok (.iconst 1, 1) := by decide +kernel
theorem dL_law_727 : decode cL_law 727 = .ok (.iadd, 1) := by decide +kernel
theorem dL_law_728 : decode cL_law 728 = .ok (.iaload, 1) := by decide +kernel
theorem dL_law_729 : decode cL_law 729 = .ok (.aload_n 0, 1) := by decide +kernel
theorem dL_law_730 : decode cL_law 730 = .ok (.iload_n 3, 1) := by decide +kernel
theorem dL_law_731 : decode cL_law 731 = .ok (.iconst 2, 1) := by decide +kernel
theorem dL_law_732 : decode cL_law 732 = .ok (.iadd, 1) := by decide +kernel
theorem dL_law_733 : decode cL_law 733 = .ok (.iaload, 1) := by decide +kernel
theorem dL_law_734 : decode cL_law 734 = .ok (.invokevirtual 93, 3) := by decide +kernel
theorem dL_law_737 : decode cL_law 737 = .ok (.aload_n 2, 1) := by decide +kernel
theorem dL_law_738 : decode cL_law 738 = .ok (.aload_n 0, 1) := by decide +kernel
theorem dL_law_739 : decode cL_law 739 = .ok (.iload_n 3, 1) := by decide +kernel
theorem dL_law_740 : decode cL_law 740 = .ok (.iconst 1, 1) := by decide +kernel
theorem dL_law_741 : decode cL_law 741 = .ok (.iadd, 1) := by decide +kernel
theorem dL_law_742 : decode cL_law 742 = .ok (.iaload, 1) := by decide +kernel
theorem dL_law_743 : decode cL_law 743 = .ok (.aload_n 0, 1) := by decide +kernel
theorem dL_law_744 : decode cL_law 744 = .ok (.iload_n 3, 1) := by decide +kernel
theorem dL_law_745 : decode cL_law 745 = .ok (.iconst 2, 1) := by decide +kernel
theorem dL_law_746 : decode cL_law 746 = .ok (.iadd, 1) := by decide +kernel
theorem dL_law_747 : decode cL_law 747 = .ok (.iaload, 1) := by decide +kernel
theorem dL_law_748 : decode cL_law 748 = .ok (.invokevirtual 96, 3) := by decide +kernel
theorem dL_law_751 : decode cL_law 751 = .ok (.if_icmp .eq 442, 3) := by decide +kernel
theorem dL_law_754 : decode cL_law 754 = .ok (.iconst 0, 1) := by decide +kernel
theorem dL_law_755 : decode cL_law 755 = .ok (.ireturn, 1) := by decide +kernel
theorem dL_law_756 : decode cL_law 756 = .ok (.aload_n 1, 1) := by decide +kernel
theorem dL_law_757 : decode cL_law 757 = .ok (.aload_n 0, 1) := by decide +kernel
theorem dL_law_758 : decode cL_law 758 = .ok (.iload_n 3, 1) := by decide +kernel
theorem dL_law_759 : decode cL_law 759 = .ok (.iconst 1, 1) := by decide +kernel
theorem dL_law_760 : decode cL_law 760 = .ok (.iadd, 1) := by decide +kernel
theorem dL_law_761 : decode cL_law 761 = .ok (.iaload, 1) := by decide +kernel
theorem dL_law_762 : decode cL_law 762 = .ok (.aload_n 0, 1) := by decide +kernel
theorem dL_law_763 : decode cL_law 763 = .ok (.iload_n 3, 1) := by decide +kernel
theorem dL_law_764 : decode cL_law 764 = .ok (.iconst 2, 1) := by decide +kernel
theorem dL_law_765 : decode cL_law 765 = .ok (.iadd, 1) := by decide +kernel
theorem dL_law_766 : decode cL_law 766 = .ok (.iaload, 1) := by decide +kernel
theorem dL_law_767 : decode cL_law 767 = .ok (.aload_n 0, 1) := by decide +kernel
theorem dL_law_768 : decode cL_law 768 = .ok (.iload_n 3, 1) := by decide +kernel
theorem dL_law_769 : decode cL_law 769 = .ok (.iconst 3, 1) := by decide +kernel
theorem dL_law_770 : decode cL_law 770 = .ok (.iadd, 1) := by decide +kernel
theorem dL_law_771 : decode cL_law 771 = .ok (.iaload, 1) := by decide +kernel
theorem dL_law_772 : decode cL_law 772 = .ok (.aload_n 0, 1) := by decide +kernel
theorem dL_law_773 : decode cL_law 773 = .ok (.iload_n 3, 1) := by decide +kernel
theorem dL_law_774 : decode cL_law 774 = .ok (.iconst 4, 1) := by decide +kernel
theorem dL_law_775 : decode cL_law 775 = .ok (.iadd, 1) := by decide +kernel
theorem dL_law_776 : decode cL_law 776 = .ok (.iaload, 1) := by decide +kernel
theorem dL_law_777 : decode cL_law 777 = .ok (.invokevirtual 97, 3) := by decide +kernel
theorem dL_law_780 : decode cL_law 780 = .ok (.aload_n 2, 1) := by decide +kernel
theorem dL_law_781 : decode cL_law 781 = .ok (.aload_n 0, 1) := by decide +kernel
theorem dL_law_782 : decode cL_law 782 = .ok (.iload_n 3, 1) := by decide +kernel
theorem dL_law_783 : decode cL_law 783 = .ok (.iconst 1, 1) := by decide +kernel
theorem dL_law_784 : decode cL_law 784 = .ok (.iadd, 1) := by decide +kernel
theorem dL_law_785 : decode cL_law 785 = .ok (.iaload, 1) := by decide +kernel
theorem dL_law_786 : decode cL_law 786 = .ok (.aload_n 0, 1) := by decide +kernel
theorem dL_law_787 : decode cL_law 787 = .ok (.iload_n 3, 1) := by decide +kernel
theorem dL_law_788 : decode cL_law 788 = .ok (.iconst 2, 1) := by decide +kernel
theorem dL_law_789 : decode cL_law 789 = .ok (.iadd, 1) := by decide +kernel
theorem dL_law_790 : decode cL_law 790 = .ok (.iaload, 1) := by decide +kernel
theorem dL_law_791 : decode cL_law 791 = .ok (.aload_n 0, 1) := by decide +kernel
theorem dL_law_792 : decode cL_law 792 = .ok (.iload_n 3, 1) := by decide +kernel
theorem dL_law_793 : decode cL_law 793 = .ok (.iconst 3, 1) := by decide +kernel
theorem dL_law_794 : decode cL_law 794 = .ok (.iadd, 1) := by decide +kernel
theorem dL_law_795 : decode cL_law 795 = .ok (.iaload, 1) := by decide +kernel
theorem dL_law_796 : decode cL_law 796 = .ok (.aload_n 0, 1) := by decide +kernel
theorem dL_law_797 : decode cL_law 797 = .ok (.iload_n 3, 1) := by decide +kernel
theorem dL_law_798 : decode cL_law 798 = .ok (.iconst 4, 1) := by decide +kernel
theorem dL_law_799 : decode cL_law 799 = .ok (.iadd, 1) := by decide +kernel
theorem dL_law_800 : decode cL_law 800 = .ok (.iaload, 1) := by decide +kernel
theorem dL_law_801 : decode cL_law 801 = .ok (.invokevirtual 101, 3) := by decide +kernel
theorem dL_law_804 : decode cL_law 804 = .ok (.if_icmp .eq 389, 3) := by decide +kernel
theorem dL_law_807 : decode cL_law 807 = .ok (.iconst 0, 1) := by decide +kernel
theorem dL_law_808 : decode cL_law 808 = .ok (.ireturn, 1) := by decide +kernel
theorem dL_law_809 : decode cL_law 809 = .ok (.aload_n 1, 1) := by decide +kernel
theorem dL_law_810 : decode cL_law 810 = .ok (.aload_n 0, 1) := by decide +kernel
theorem dL_law_811 : decode cL_law 811 = .ok (.iload_n 3, 1) := by decide +kernel
theorem dL_law_812 : decode cL_law 812 = .ok (.iconst 1, 1) := by decide +kernel
theorem dL_law_813 : decode cL_law 813 = .ok (.iadd, 1) := by decide +kernel
theorem dL_law_814 : decode cL_law 814 = .ok (.iaload, 1) := by decide +kernel
theorem dL_law_815 : decode cL_law 815 = .ok (.aload_n 0, 1) := by decide +kernel
theorem dL_law_816 : decode cL_law 816 = .ok (.iload_n 3, 1) := by decide +kernel
theorem dL_law_817 : decode cL_law 817 = .ok (.iconst 2, 1) := by decide +kernel
theorem dL_law_818 : decode cL_law 818 = .ok (.iadd, 1) := by decide +kernel
theorem dL_law_819 : decode cL_law 819 = .ok (.iaload, 1) := by decide +kernel
theorem dL_law_820 : decode cL_law 820 = .ok (.invokevirtual 102, 3) := by decide +kernel
theorem dL_law_823 : decode cL_law 823 = .ok (.aload_n 2, 1) := by decide +kernel
theorem dL_law_824 : decode cL_law 824 = .ok (.aload_n 0, 1) := by decide +kernel
theorem dL_law_825 : decode cL_law 825 = .ok (.iload_n 3, 1) := by decide +kernel
theorem dL_law_826 : decode cL_law 826 = .ok (.iconst 1, 1) := by decide +kernel
theorem dL_law_827 : decode cL_law 827 = .ok (.iadd, 1) := by decide +kernel
theorem dL_law_828 : decode cL_law 828 = .ok (.iaload, 1) := by decide +kernel
theorem dL_law_829 : decode cL_law 829 = .ok (.aload_n 0, 1) := by decide +kernel
theorem dL_law_830 : decode cL_law 830 = .ok (.iload_n 3, 1) := by decide +kernel
theorem dL_law_831 : decode cL_law 831 = .ok (.iconst 2, 1) := by decide +kernel
theorem dL_law_832 : decode cL_law 832 = .ok (.iadd, 1) := by decide +kernel
theorem dL_law_833 : decode cL_law 833 = .ok (.iaload, 1) := by decide +kernel
theorem dL_law_834 : decode cL_law 834 = .ok (.invokevirtual 105, 3) := by decide +kernel
theorem dL_law_837 : decode cL_law 837 = .ok (.if_icmp .eq 356, 3) := by decide +kernel
theorem dL_law_840 : decode cL_law 840 = .ok (.iconst 0, 1) := by decide +kernel
theorem dL_law_841 : decode cL_law 841 = .ok (.ireturn, 1) := by decide +kernel
theorem dL_law_842 : decode cL_law 842 = .ok (.aload_n 1, 1) := by decide +kernel
theorem dL_law_843 : decode cL_law 843 = .ok (.aload_n 0, 1) := by decide +kernel
theorem dL_law_844 : decode cL_law 844 = .ok (.iload_n 3, 1) := by decide +kernel
theorem dL_law_845 : decode cL_law 845 = .ok (.iconst 1, 1) := by decide +kernel
theorem dL_law_846 : decode cL_law 846 = .ok (.iadd, 1) := by decide +kernel
theorem dL_law_847 : decode cL_law 847 = .ok (.iaload, 1) := by decide +kernel
theorem dL_law_848 : decode cL_law 848 = .ok (.invokevirtual 106, 3) := by decide +kernel
theorem dL_law_851 : decode cL_law 851 = .ok (.aload_n 2, 1) := by decide +kernel
theorem dL_law_852 : decode cL_law 852 = .ok (.aload_n 0, 1) := by decide +kernel
theorem dL_law_853 : decode cL_law 853 = .ok (.iload_n 3, 1) := by decide +kernel
theorem dL_law_854 : decode cL_law 854 = .ok (.iconst 1, 1) := by decide +kernel
theorem dL_law_855 : decode cL_law 855 = .ok (.iadd, 1) := by decide +kernel
theorem dL_law_856 : decode cL_law 856 = .ok (.iaload, 1) := by decide +kernel
theorem dL_law_857 : decode cL_law 857 = .ok (.invokevirtual 109, 3) := by decide +kernel
theorem dL_law_860 : decode cL_law 860 = .ok (.if_icmp .eq 333, 3) := by decide +kernel
theorem dL_law_863 : decode cL_law 863 = .ok (.iconst 0, 1) := by decide +kernel
theorem dL_law_864 : decode cL_law 864 = .ok (.ireturn, 1) := by decide +kernel
theorem dL_law_865 : decode cL_law 865 = .ok (.aload_n 1, 1) := by decide +kernel
theorem dL_law_866 : decode cL_law 866 = .ok (.aload_n 0, 1) := by decide +kernel
theorem dL_law_867 : decode cL_law 867 = .ok (.iload_n 3, 1) := by decide +kernel
theorem dL_law_868 : decode cL_law 868 = .ok (.iconst 1, 1) := by decide +kernel
theorem dL_law_869 : decode cL_law 869 = .ok (.iadd, 1) := by decide +kernel
theorem dL_law_870 : decode cL_law 870 = .ok (.iaload, 1) := by decide +kernel
theorem dL_law_871 : decode cL_law 871 = .ok (.aload_n 0, 1) := by decide +kernel
theorem dL_law_872 : decode cL_law 872 = .ok (.iload_n 3, 1) := by decide +kernel
theorem dL_law_873 : decode cL_law 873 = .ok (.iconst 2, 1) := by decide +kernel
theorem dL_law_874 : decode cL_law 874 = .ok (.iadd, 1) := by decide +kernel
theorem dL_law_875 : decode cL_law 875 = .ok (.iaload, 1) := by decide +kernel
theorem dL_law_876 : decode cL_law 876 = .ok (.aload_n 0, 1) := by decide +kernel
theorem dL_law_877 : decode cL_law 877 = .ok (.iload_n 3, 1) := by decide +kernel
theorem dL_law_878 : decode cL_law 878 = .ok (.iconst 3, 1) := by decide +kernel
theorem dL_law_879 : decode cL_law 879 = .ok (.iadd, 1) := by decide +kernel
theorem dL_law_880 : decode cL_law 880 = .ok (.iaload, 1) := by decide +kernel
theorem dL_law_881 : decode cL_law 881 = .ok (.invokevirtual 110, 3) := by decide +kernel
theorem dL_law_884 : decode cL_law 884 = .ok (.aload_n 2, 1) := by decide +kernel
theorem dL_law_885 : decode cL_law 885 = .ok (.aload_n 0, 1) := by decide +kernel
theorem dL_law_886 : decode cL_law 886 = .ok (.iload_n 3, 1) := by decide +kernel
theorem dL_law_887 : decode cL_law 887 = .ok (.iconst 1, 1) := by decide +kernel
theorem dL_law_888 : decode cL_law 888 = .ok (.iadd, 1) := by decide +kernel
theorem dL_law_889 : decode cL_law 889 = .ok (.iaload, 1) := by decide +kernel
theorem dL_law_890 : decode cL_law 890 = .ok (.aload_n 0, 1) := by decide +kernel
theorem dL_law_891 : decode cL_law 891 = .ok (.iload_n 3, 1) := by decide +kernel
theorem dL_law_892 : decode cL_law 892 = .ok (.iconst 2, 1) := by decide +kernel
theorem dL_law_893 : decode cL_law 893 = .ok (.iadd, 1) := by decide +kernel
theorem dL_law_894 : decode cL_law 894 = .ok (.iaload, 1) := by decide +kernel
theorem dL_law_895 : decode cL_law 895 = .ok (.aload_n 0, 1) := by decide +kernel
theorem dL_law_896 : decode cL_law 896 = .ok (.iload_n 3, 1) := by decide +kernel
theorem dL_law_897 : decode cL_law 897 = .ok (.iconst 3, 1) := by decide +kernel
theorem dL_law_898 : decode cL_law 898 = .ok (.iadd, 1) := by decide +kernel
theorem dL_law_899 : decode cL_law 899 = .ok (.iaload, 1) := by decide +kernel
theorem dL_law_900 : decode cL_law 900 = .ok (.invokevirtual 114, 3) := by decide +kernel
theorem dL_law_903 : decode cL_law 903 = .ok (.lcmp, 1) := by decide +kernel
theorem dL_law_904 : decode cL_law 904 = .ok (.ifCond .eq 289, 3) := by decide +kernel
theorem dL_law_907 : decode cL_law 907 = .ok (.iconst 0, 1) := by decide +kernel
theorem dL_law_908 : decode cL_law 908 = .ok (.ireturn, 1) := by decide +kernel
theorem dL_law_909 : decode cL_law 909 = .ok (.aload_n 1, 1) := by decide +kernel
theorem dL_law_910 : decode cL_law 910 = .ok (.invokevirtual 115, 3) := by decide +kernel
theorem dL_law_913 : decode cL_law 913 = .ok (.aload_n 2, 1) := by decide +kernel
theorem dL_law_914 : decode cL_law 914 = .ok (.invokevirtual 118, 3) := by decide +kernel
theorem dL_law_917 : decode cL_law 917 = .ok (.if_icmp .eq 276, 3) := by decide +kernel
theorem dL_law_920 : decode cL_law 920 = .ok (.iconst 0, 1) := by decide +kernel
theorem dL_law_921 : decode cL_law 921 = .ok (.ireturn, 1) := by decide +kernel
theorem dL_law_922 : decode cL_law 922 = .ok (.aload_n 1, 1) := by decide +kernel
theorem dL_law_923 : decode cL_law 923 = .ok (.invokevirtual 119, 3) := by decide +kernel
theorem dL_law_926 : decode cL_law 926 = .ok (.aload_n 2, 1) := by decide +kernel
theorem dL_law_927 : decode cL_law 927 = .ok (.invokevirtual 122, 3) := by decide +kernel
theorem dL_law_930 : decode cL_law 930 = .ok (.if_icmp .eq 263, 3) := by decide +kernel
theorem dL_law_933 : decode cL_law 933 = .ok (.iconst 0, 1) := by decide +kernel
theorem dL_law_934 : decode cL_law 934 = .ok (.ireturn, 1) := by decide +kernel
theorem dL_law_935 : decode cL_law 935 = .ok (.aload_n 1, 1) := by decide +kernel
theorem dL_law_936 : decode cL_law 936 = .ok (.aload_n 0, 1) := by decide +kernel
theorem dL_law_937 : decode cL_law 937 = .ok (.iload_n 3, 1) := by decide +kernel
theorem dL_law_938 : decode cL_law 938 = .ok (.iconst 1, 1) := by decide +kernel
theorem dL_law_939 : decode cL_law 939 = .ok (.iadd, 1) := by decide +kernel
theorem dL_law_940 : decode cL_law 940 = .ok (.iaload, 1) := by decide +kernel
theorem dL_law_941 : decode cL_law 941 = .ok (.invokevirtual 123, 3) := by decide +kernel
theorem dL_law_944 : decode cL_law 944 = .ok (.aload_n 2, 1) := by decide +kernel
theorem dL_law_945 : decode cL_law 945 = .ok (.aload_n 0, 1) := by decide +kernel
theorem dL_law_946 : decode cL_law 946 = .ok (.iload_n 3, 1) := by decide +kernel
theorem dL_law_947 : decode cL_law 947 = .ok (.iconst 1, 1) := by decide +kernel
theorem dL_law_948 : decode cL_law 948 = .ok (.iadd, 1) := by decide +kernel
theorem dL_law_949 : decode cL_law 949 = .ok (.iaload, 1) := by decide +kernel
theorem dL_law_950 : decode cL_law 950 = .ok (.invokevirtual 126, 3) := by decide +kernel
theorem dL_law_953 : decode cL_law 953 = .ok (.if_icmp .eq 240, 3) := by decide +kernel
theorem dL_law_956 : decode cL_law 956 = .ok (.iconst 0, 1) := by decide +kernel
theorem dL_law_957 : decode cL_law 957 = .ok (.ireturn, 1) := by decide +kernel
theorem dL_law_958 : decode cL_law 958 = .ok (.aload_n 1, 1) := by decide +kernel
theorem dL_law_959 : decode cL_law 959 = .ok (.aload_n 0, 1) := by decide +kernel
theorem dL_law_960 : decode cL_law 960 = .ok (.iload_n 3, 1) := by decide +kernel
theorem dL_law_961 : decode cL_law 961 = .ok (.iconst 1, 1) := by decide +kernel
theorem dL_law_962 : decode cL_law 962 = .ok (.iadd, 1) := by decide +kernel
theorem dL_law_963 : decode cL_law 963 = .ok (.iaload, 1) := by decide +kernel
theorem dL_law_964 : decode cL_law 964 = .ok (.aload_n 0, 1) := by decide +kernel
theorem dL_law_965 : decode cL_law 965 = .ok (.iload_n 3, 1) := by decide +kernel
theorem dL_law_966 : decode cL_law 966 = .ok (.iconst 2, 1) := by decide +kernel
theorem dL_law_967 : decode cL_law 967 = .ok (.iadd, 1) := by decide +kernel
theorem dL_law_968 : decode cL_law 968 = .ok (.iaload, 1) := by decide +kernel
theorem dL_law_969 : decode cL_law 969 = .ok (.aload_n 0, 1) := by decide +kernel
theorem dL_law_970 : decode cL_law 970 = .ok (.iload_n 3, 1) := by decide +kernel
theorem dL_law_971 : decode cL_law 971 = .ok (.iconst 3, 1) := by decide +kernel
theorem dL_law_972 : decode cL_law 972 = .ok (.iadd, 1) := by decide +kernel
theorem dL_law_973 : decode cL_law 973 = .ok (.iaload, 1) := by decide +kernel
theorem dL_law_974 : decode cL_law 974 = .ok (.invokevirtual 127, 3) := by decide +kernel
theorem dL_law_977 : decode cL_law 977 = .ok (.aload_n 2, 1) := by decide +kernel
theorem dL_law_978 : decode cL_law 978 = .ok (.aload_n 0, 1) := by decide +kernel
theorem dL_law_979 : decode cL_law 979 = .ok (.iload_n 3, 1) := by decide +kernel
theorem dL_law_980 : decode cL_law 980 = .ok (.iconst 1, 1) := by decide +kernel
theorem dL_law_981 : decode cL_law 981 = .ok (.iadd, 1) := by decide +kernel
theorem dL_law_982 : decode cL_law 982 = .ok (.iaload, 1) := by decide +kernel
theorem dL_law_983 : decode cL_law 983 = .ok (.aload_n 0, 1) := by decide +kernel
theorem dL_law_984 : decode cL_law 984 = .ok (.iload_n 3, 1) := by decide +kernel
theorem dL_law_985 : decode cL_law 985 = .ok (.iconst 2, 1) := by decide +kernel
theorem dL_law_986 : decode cL_law 986 = .ok (.iadd, 1) := by decide +kernel
theorem dL_law_987 : decode cL_law 987 = .ok (.iaload, 1) := by decide +kernel
theorem dL_law_988 : decode cL_law 988 = .ok (.aload_n 0, 1) := by decide +kernel
theorem dL_law_989 : decode cL_law 989 = .ok (.iload_n 3, 1) := by decide +kernel
theorem dL_law_990 : decode cL_law 990 = .ok (.iconst 3, 1) := by decide +kernel
theorem dL_law_991 : decode cL_law 991 = .ok (.iadd, 1) := by decide +kernel
theorem dL_law_992 : decode cL_law 992 = .ok (.iaload, 1) := by decide +kernel
theorem dL_law_993 : decode cL_law 993 = .ok (.invokevirtual 130, 3) := by decide +kernel
theorem dL_law_996 : decode cL_law 996 = .ok (.if_icmp .eq 197, 3) := by decide +kernel
theorem dL_law_999 : decode cL_law 999 = .ok (.iconst 0, 1) := by decide +kernel
theorem dL_law_1000 : decode cL_law 1000 = .ok (.ireturn, 1) := by decide +kernel
theorem dL_law_1001 : decode cL_law 1001 = .ok (.aload_n 1, 1) := by decide +kernel
theorem dL_law_1002 : decode cL_law 1002 = .ok (.aload_n 0, 1) := by decide +kernel
theorem dL_law_1003 : decode cL_law 1003 = .ok (.iload_n 3, 1) := by decide +kernel
theorem dL_law_1004 : decode cL_law 1004 = .ok (.iconst 1, 1) := by decide +kernel
theorem dL_law_1005 : decode cL_law 1005 = .ok (.iadd, 1) := by decide +kernel
theorem dL_law_1006 : decode cL_law 1006 = .ok (.iaload, 1) := by decide +kernel
theorem dL_law_1007 : decode cL_law 1007 = .ok (.aload_n 0, 1) := by decide +kernel
theorem dL_law_1008 : decode cL_law 1008 = .ok (.iload_n 3, 1) := by decide +kernel
theorem dL_law_1009 : decode cL_law 1009 = .ok (.iconst 2, 1) := by decide +kernel
theorem dL_law_1010 : decode cL_law 1010 = .ok (.iadd, 1) := by decide +kernel
theorem dL_law_1011 : decode cL_law 1011 = .ok (.iaload, 1) := by decide +kernel
theorem dL_law_1012 : decode cL_law 1012 = .ok (.aload_n 0, 1) := by decide +kernel
theorem dL_law_1013 : decode cL_law 1013 = .ok (.iload_n 3, 1) := by decide +kernel
theorem dL_law_1014 : decode cL_law 1014 = .ok (.iconst 3, 1) := by decide +kernel
theorem dL_law_1015 : decode cL_law 1015 = .ok (.iadd, 1) := by decide +kernel
theorem dL_law_1016 : decode cL_law 1016 = .ok (.iaload, 1) := by decide +kernel
theorem dL_law_1017 : decode cL_law 1017 = .ok (.invokevirtual 131, 3) := by decide +kernel
theorem dL_law_1020 : decode cL_law 1020 = .ok (.aload_n 2, 1) := by decide +kernel
theorem dL_law_1021 : decode cL_law 1021 = .ok (.aload_n 0, 1) := by decide +kernel
theorem dL_law_1022 : decode cL_law 1022 = .ok (.iload_n 3, 1) := by decide +kernel
theorem dL_law_1023 : decode cL_law 1023 = .ok (.iconst 1, 1) := by decide +kernel
theorem dL_law_1024 : decode cL_law 1024 = .ok (.iadd, 1) := by decide +kernel
theorem dL_law_1025 : decode cL_law 1025 = .ok (.iaload, 1) := by decide +kernel
theorem dL_law_1026 : decode cL_law 1026 = .ok (.aload_n 0, 1) := by decide +kernel
theorem dL_law_1027 : decode cL_law 1027 = .ok (.iload_n 3, 1) := by decide +kernel
theorem dL_law_1028 : decode cL_law 1028 = .ok (.iconst 2, 1) := by decide +kernel
theorem dL_law_1029 : decode cL_law 1029 = .ok (.iadd, 1) := by decide +kernel
theorem dL_law_1030 : decode cL_law 1030 = .ok (.iaload, 1) := by decide +kernel
theorem dL_law_1031 : decode cL_law 1031 = .ok (.aload_n 0, 1) := by decide +kernel
theorem dL_law_1032 : decode cL_law 1032 = .ok (.iload_n 3, 1) := by decide +kernel
theorem dL_law_1033 : decode cL_law 1033 = .ok (.iconst 3, 1) := by decide +kernel
theorem dL_law_1034 : decode cL_law 1034 = .ok (.iadd, 1) := by decide +kernel
theorem dL_law_1035 : decode cL_law 1035 = .ok (.iaload, 1) := by decide +kernel
theorem dL_law_1036 : decode cL_law 1036 = .ok (.invokevirtual 134, 3) := by decide +kernel
theorem dL_law_1039 : decode cL_law 1039 = .ok (.if_icmp .eq 154, 3) := by decide +kernel
theorem dL_law_1042 : decode cL_law 1042 = .ok (.iconst 0, 1) := by decide +kernel
theorem dL_law_1043 : decode cL_law 1043 = .ok (.ireturn, 1) := by decide +kernel
theorem dL_law_1044 : decode cL_law 1044 = .ok (.aload_n 1, 1) := by decide +kernel
theorem dL_law_1045 : decode cL_law 1045 = .ok (.aload_n 0, 1) := by decide +kernel
theorem dL_law_1046 : decode cL_law 1046 = .ok (.iload_n 3, 1) := by decide +kernel
theorem dL_law_1047 : decode cL_law 1047 = .ok (.iconst 1, 1) := by decide +kernel
theorem dL_law_1048 : decode cL_law 1048 = .ok (.iadd, 1) := by decide +kernel
theorem dL_law_1049 : decode cL_law 1049 = .ok (.iaload, 1) := by decide +kernel
theorem dL_law_1050 : decode cL_law 1050 = .ok (.aload_n 0, 1) := by decide +kernel
theorem dL_law_1051 : decode cL_law 1051 = .ok (.iload_n 3, 1) := by decide +kernel
theorem dL_law_1052 : decode cL_law 1052 = .ok (.iconst 2, 1) := by decide +kernel
theorem dL_law_1053 : decode cL_law 1053 = .ok (.iadd, 1) := by decide +kernel
theorem dL_law_1054 : decode cL_law 1054 = .ok (.iaload, 1) := by decide +kernel
theorem dL_law_1055 : decode cL_law 1055 = .ok (.aload_n 0, 1) := by decide +kernel
theorem dL_law_1056 : decode cL_law 1056 = .ok (.iload_n 3, 1) := by decide +kernel
theorem dL_law_1057 : decode cL_law 1057 = .ok (.iconst 3, 1) := by decide +kernel
theorem dL_law_1058 : decode cL_law 1058 = .ok (.iadd, 1) := by decide +kernel
theorem dL_law_1059 : decode cL_law 1059 = .ok (.iaload, 1) := by decide +kernel
theorem dL_law_1060 : decode cL_law 1060 = .ok (.aload_n 0, 1) := by decide +kernel
theorem dL_law_1061 : decode cL_law 1061 = .ok (.iload_n 3, 1) := by decide +kernel
theorem dL_law_1062 : decode cL_law 1062 = .ok (.iconst 4, 1) := by decide +kernel
theorem dL_law_1063 : decode cL_law 1063 = .ok (.iadd, 1) := by decide +kernel
theorem dL_law_1064 : decode cL_law 1064 = .ok (.iaload, 1) := by decide +kernel
theorem dL_law_1065 : decode cL_law 1065 = .ok (.aload_n 0, 1) := by decide +kernel
theorem dL_law_1066 : decode cL_law 1066 = .ok (.iload_n 3, 1) := by decide +kernel
theorem dL_law_1067 : decode cL_law 1067 = .ok (.iconst 5, 1) := by decide +kernel
theorem dL_law_1068 : decode cL_law 1068 = .ok (.iadd, 1) := by decide +kernel
theorem dL_law_1069 : decode cL_law 1069 = .ok (.iaload, 1) := by decide +kernel
theorem dL_law_1070 : decode cL_law 1070 = .ok (.invokevirtual 135, 3) := by decide +kernel
theorem dL_law_1073 : decode cL_law 1073 = .ok (.aload_n 2, 1) := by decide +kernel
theorem dL_law_1074 : decode cL_law 1074 = .ok (.aload_n 0, 1) := by decide +kernel
theorem dL_law_1075 : decode cL_law 1075 = .ok (.iload_n 3, 1) := by decide +kernel
theorem dL_law_1076 : decode cL_law 1076 = .ok (.iconst 1, 1) := by decide +kernel
theorem dL_law_1077 : decode cL_law 1077 = .ok (.iadd, 1) := by decide +kernel
theorem dL_law_1078 : decode cL_law 1078 = .ok (.iaload, 1) := by decide +kernel
theorem dL_law_1079 : decode cL_law 1079 = .ok (.aload_n 0, 1) := by decide +kernel
theorem dL_law_1080 : decode cL_law 1080 = .ok (.iload_n 3, 1) := by decide +kernel
theorem dL_law_1081 : decode cL_law 1081 = .ok (.iconst 2, 1) := by decide +kernel
theorem dL_law_1082 : decode cL_law 1082 = .ok (.iadd, 1) := by decide +kernel
theorem dL_law_1083 : decode cL_law 1083 = .ok (.iaload, 1) := by decide +kernel
theorem dL_law_1084 : decode cL_law 1084 = .ok (.aload_n 0, 1) := by decide +kernel
theorem dL_law_1085 : decode cL_law 1085 = .ok (.iload_n 3, 1) := by decide +kernel
theorem dL_law_1086 : decode cL_law 1086 = .ok (.iconst 3, 1) := by decide +kernel
theorem dL_law_1087 : decode cL_law 1087 = .ok (.iadd, 1) := by decide +kernel
theorem dL_law_1088 : decode cL_law 1088 = .ok (.iaload, 1) := by decide +kernel
theorem dL_law_1089 : decode cL_law 1089 = .ok (.aload_n 0, 1) := by decide +kernel
theorem dL_law_1090 : decode cL_law 1090 = .ok (.iload_n 3, 1) := by decide +kernel
theorem dL_law_1091 : decode cL_law 1091 = .ok (.iconst 4, 1) := by decide +kernel
theorem dL_law_1092 : decode cL_law 1092 = .ok (.iadd, 1) := by decide +kernel
theorem dL_law_1093 : decode cL_law 1093 = .ok (.iaload, 1) := by decide +kernel
theorem dL_law_1094 : decode cL_law 1094 = .ok (.aload_n 0, 1) := by decide +kernel
theorem dL_law_1095 : decode cL_law 1095 = .ok (.iload_n 3, 1) := by decide +kernel
theorem dL_law_1096 : decode cL_law 1096 = .ok (.iconst 5, 1) := by decide +kernel
theorem dL_law_1097 : decode cL_law 1097 = .ok (.iadd, 1) := by decide +kernel
theorem dL_law_1098 : decode cL_law 1098 = .ok (.iaload, 1) := by decide +kernel
theorem dL_law_1099 : decode cL_law 1099 = .ok (.invokevirtual 139, 3) := by decide +kernel
theorem dL_law_1102 : decode cL_law 1102 = .ok (.if_icmp .eq 91, 3) := by decide +kernel
theorem dL_law_1105 : decode cL_law 1105 = .ok (.iconst 0, 1) := by decide +kernel
theorem dL_law_1106 : decode cL_law 1106 = .ok (.ireturn, 1) := by decide +kernel
theorem dL_law_1107 : decode cL_law 1107 = .ok (.aload_n 1, 1) := by decide +kernel
theorem dL_law_1108 : decode cL_law 1108 = .ok (.aload_n 0, 1) := by decide +kernel
theorem dL_law_1109 : decode cL_law 1109 = .ok (.iload_n 3, 1) := by decide +kernel
theorem dL_law_1110 : decode cL_law 1110 = .ok (.iconst 1, 1) := by decide +kernel
theorem dL_law_1111 : decode cL_law 1111 = .ok (.iadd, 1) := by decide +kernel
theorem dL_law_1112 : decode cL_law 1112 = .ok (.iaload, 1) := by decide +kernel
theorem dL_law_1113 : decode cL_law 1113 = .ok (.aload_n 0, 1) := by decide +kernel
theorem dL_law_1114 : decode cL_law 1114 = .ok (.iload_n 3, 1) := by decide +kernel
theorem dL_law_1115 : decode cL_law 1115 = .ok (.iconst 2, 1) := by decide +kernel
theorem dL_law_1116 : decode cL_law 1116 = .ok (.iadd, 1) := by decide +kernel
theorem dL_law_1117 : decode cL_law 1117 = .ok (.iaload, 1) := by decide +kernel
theorem dL_law_1118 : decode cL_law 1118 = .ok (.aload_n 0, 1) := by decide +kernel
theorem dL_law_1119 : decode cL_law 1119 = .ok (.iload_n 3, 1) := by decide +kernel
theorem dL_law_1120 : decode cL_law 1120 = .ok (.iconst 3, 1) := by decide +kernel
theorem dL_law_1121 : decode cL_law 1121 = .ok (.iadd, 1) := by decide +kernel
theorem dL_law_1122 : decode cL_law 1122 = .ok (.iaload, 1) := by decide +kernel
theorem dL_law_1123 : decode cL_law 1123 = .ok (.aload_n 0, 1) := by decide +kernel
theorem dL_law_1124 : decode cL_law 1124 = .ok (.iload_n 3, 1) := by decide +kernel
theorem dL_law_1125 : decode cL_law 1125 = .ok (.iconst 4, 1) := by decide +kernel
theorem dL_law_1126 : decode cL_law 1126 = .ok (.iadd, 1) := by decide +kernel
theorem dL_law_1127 : decode cL_law 1127 = .ok (.iaload, 1) := by decide +kernel
theorem dL_law_1128 : decode cL_law 1128 = .ok (.invokevirtual 140, 3) := by decide +kernel
theorem dL_law_1131 : decode cL_law 1131 = .ok (.aload_n 2, 1) := by decide +kernel
theorem dL_law_1132 : decode cL_law 1132 = .ok (.aload_n 0, 1) := by decide +kernel
theorem dL_law_1133 : decode cL_law 1133 = .ok (.iload_n 3, 1) := by decide +kernel
theorem dL_law_1134 : decode cL_law 1134 = .ok (.iconst 1, 1) := by decide +kernel
theorem dL_law_1135 : decode cL_law 1135 = .ok (.iadd, 1) := by decide +kernel
theorem dL_law_1136 : decode cL_law 1136 = .ok (.iaload, 1) := by decide +kernel
theorem dL_law_1137 : decode cL_law 1137 = .ok (.aload_n 0, 1) := by decide +kernel
theorem dL_law_1138 : decode cL_law 1138 = .ok (.iload_n 3, 1) := by decide +kernel
theorem dL_law_1139 : decode cL_law 1139 = .ok (.iconst 2, 1) := by decide +kernel
theorem dL_law_1140 : decode cL_law 1140 = .ok (.iadd, 1) := by decide +kernel
theorem dL_law_1141 : decode cL_law 1141 = .ok (.iaload, 1) := by decide +kernel
theorem dL_law_1142 : decode cL_law 1142 = .ok (.aload_n 0, 1) := by decide +kernel
theorem dL_law_1143 : decode cL_law 1143 = .ok (.iload_n 3, 1) := by decide +kernel
theorem dL_law_1144 : decode cL_law 1144 = .ok (.iconst 3, 1) := by decide +kernel
theorem dL_law_1145 : decode cL_law 1145 = .ok (.iadd, 1) := by decide +kernel
theorem dL_law_1146 : decode cL_law 1146 = .ok (.iaload, 1) := by decide +kernel
theorem dL_law_1147 : decode cL_law 1147 = .ok (.aload_n 0, 1) := by decide +kernel
theorem dL_law_1148 : decode cL_law 1148 = .ok (.iload_n 3, 1) := by decide +kernel
theorem dL_law_1149 : decode cL_law 1149 = .ok (.iconst 4, 1) := by decide +kernel
theorem dL_law_1150 : decode cL_law 1150 = .ok (.iadd, 1) := by decide +kernel
theorem dL_law_1151 : decode cL_law 1151 = .ok (.iaload, 1) := by decide +kernel
theorem dL_law_1152 : decode cL_law 1152 = .ok (.invokevirtual 143, 3) := by decide +kernel
theorem dL_law_1155 : decode cL_law 1155 = .ok (.if_icmp .eq 38, 3) := by decide +kernel
theorem dL_law_1158 : decode cL_law 1158 = .ok (.iconst 0, 1) := by decide +kernel
theorem dL_law_1159 : decode cL_law 1159 = .ok (.ireturn, 1) := by decide +kernel
theorem dL_law_1160 : decode cL_law 1160 = .ok (.aload_n 1, 1) := by decide +kernel
theorem dL_law_1161 : decode cL_law 1161 = .ok (.aload_n 0, 1) := by decide +kernel
theorem dL_law_1162 : decode cL_law 1162 = .ok (.iload_n 3, 1) := by decide +kernel
theorem dL_law_1163 : decode cL_law 1163 = .ok (.iconst 1, 1) := by decide +kernel
theorem dL_law_1164 : decode cL_law 1164 = .ok (.iadd, 1) := by decide +kernel
theorem dL_law_1165 : decode cL_law 1165 = .ok (.iaload, 1) := by decide +kernel
theorem dL_law_1166 : decode cL_law 1166 = .ok (.aload_n 0, 1) := by decide +kernel
theorem dL_law_1167 : decode cL_law 1167 = .ok (.iload_n 3, 1) := by decide +kernel
theorem dL_law_1168 : decode cL_law 1168 = .ok (.iconst 2, 1) := by decide +kernel
theorem dL_law_1169 : decode cL_law 1169 = .ok (.iadd, 1) := by decide +kernel
theorem dL_law_1170 : decode cL_law 1170 = .ok (.iaload, 1) := by decide +kernel
theorem dL_law_1171 : decode cL_law 1171 = .ok (.invokevirtual 144, 3) := by decide +kernel
theorem dL_law_1174 : decode cL_law 1174 = .ok (.aload_n 2, 1) := by decide +kernel
theorem dL_law_1175 : decode cL_law 1175 = .ok (.aload_n 0, 1) := by decide +kernel
theorem dL_law_1176 : decode cL_law 1176 = .ok (.iload_n 3, 1) := by decide +kernel
theorem dL_law_1177 : decode cL_law 1177 = .ok (.iconst 1, 1) := by decide +kernel
theorem dL_law_1178 : decode cL_law 1178 = .ok (.iadd, 1) := by decide +kernel
theorem dL_law_1179 : decode cL_law 1179 = .ok (.iaload, 1) := by decide +kernel
theorem dL_law_1180 : decode cL_law 1180 = .ok (.aload_n 0, 1) := by decide +kernel
theorem dL_law_1181 : decode cL_law 1181 = .ok (.iload_n 3, 1) := by decide +kernel
theorem dL_law_1182 : decode cL_law 1182 = .ok (.iconst 2, 1) := by decide +kernel
theorem dL_law_1183 : decode cL_law 1183 = .ok (.iadd, 1) := by decide +kernel
theorem dL_law_1184 : decode cL_law 1184 = .ok (.iaload, 1) := by decide +kernel
theorem dL_law_1185 : decode cL_law 1185 = .ok (.invokevirtual 147, 3) := by decide +kernel
theorem dL_law_1188 : decode cL_law 1188 = .ok (.if_icmp .eq 5, 3) := by decide +kernel
theorem dL_law_1191 : decode cL_law 1191 = .ok (.iconst 0, 1) := by decide +kernel
theorem dL_law_1192 : decode cL_law 1192 = .ok (.ireturn, 1) := by decide +kernel
theorem dL_law_1193 : decode cL_law 1193 = .ok (.iinc 3 6, 3) := by decide +kernel
theorem dL_law_1196 : decode cL_law 1196 = .ok (.goto (-1178), 3) := by decide +kernel
theorem dL_law_1199 : decode cL_law 1199 = .ok (.iconst 1, 1) := by decide +kernel
theorem dL_law_1200 : decode cL_law 1200 = .ok (.ireturn, 1) := by decide +kernel
