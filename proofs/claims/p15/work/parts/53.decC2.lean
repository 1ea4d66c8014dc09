theorem dX7_skipComment_0g : decode cX7_skipComment 0 = .ok (.aload_n 0, 1) ∧ decode cX7_skipComment 1 = .ok (.bipush 60, 2) ∧ decode cX7_skipComment 3 = .ok (.invokevirtual 64, 3) ∧ decode cX7_skipComment 6 = .ok (.aload_n 0, 1) ∧ decode cX7_skipComment 7 = .ok (.bipush 33, 2) ∧ decode cX7_skipComment 9 = .ok (.invokevirtual 64, 3) ∧ decode cX7_skipComment 12 = .ok (.aload_n 0, 1) ∧ decode cX7_skipComment 13 = .ok (.bipush 45, 2) ∧ decode cX7_skipComment 15 = .ok (.invokevirtual 64, 3) ∧ decode cX7_skipComment 18 = .ok (.aload_n 0, 1) ∧ decode cX7_skipComment 19 = .ok (.bipush 45, 2) ∧ decode cX7_skipComment 21 = .ok (.invokevirtual 64, 3) ∧ decode cX7_skipComment 24 = .ok (.aload_n 0, 1) ∧ decode cX7_skipComment 25 = .ok (.getfield 23, 3) ∧ decode cX7_skipComment 28 = .ok (.aload_n 0, 1) ∧ decode cX7_skipComment 29 = .ok (.getfield 19, 3) := by decide +kernel
theorem dX7_skipComment_0 : decode cX7_skipComment 0 = .ok (.aload_n 0, 1) := dX7_skipComment_0g.1
theorem dX7_skipComment_1 : decode cX7_skipComment 1 = .ok (.bipush 60, 2) := dX7_skipComment_0g.2.1
theorem dX7_skipComment_3 : decode cX7_skipComment 3 = .ok (.invokevirtual 64, 3) := dX7_skipComment_0g.2.2.1
theorem dX7_skipComment_6 : decode cX7_skipComment 6 = .ok (.aload_n 0, 1) := dX7_skipComment_0g.2.2.2.1
theorem dX7_skipComment_7 : decode cX7_skipComment 7 = .ok (.bipush 33, 2) := dX7_skipComment_0g.2.2.2.2.1
theorem dX7_skipComment_9 : decode cX7_skipComment 9 = .ok (.invokevirtual 64, 3) := dX7_skipComment_0g.2.2.2.2.2.1
theorem dX7_skipComment_12 : decode cX7_skipComment 12 = .ok (.aload_n 0, 1) := dX7_skipComment_0g.2.2.2.2.2.2.1
theorem dX7_skipComment_13 : decode cX7_skipComment 13 = .ok (.bipush 45, 2) := dX7_skipComment_0g.2.2.2.2.2.2.2.1
theorem dX7_skipComment_15 : decode cX7_skipComment 15 = .ok (.invokevirtual 64, 3) := dX7_skipComment_0g.2.2.2.2.2.2.2.2.1
theorem dX7_skipComment_18 : decode cX7_skipComment 18 = .ok (.aload_n 0, 1) := dX7_skipComment_0g.2.2.2.2.2.2.2.2.2.1
theorem dX7_skipComment_19 : decode cX7_skipComment 19 = .ok (.bipush 45, 2) := dX7_skipComment_0g.2.2.2.2.2.2.2.2.2.2.1
theorem dX7_skipComment_21 : decode cX7_skipComment 21 = .ok (.invokevirtual 64, 3) := dX7_skipComment_0g.2.2.2.2.2.2.2.2.2.2.2.1
theorem dX7_skipComment_24 : decode cX7_skipComment 24 = .ok (.aload_n 0, 1) := dX7_skipComment_0g.2.2.2.2.2.2.2.2.2.2.2.2.1
theorem dX7_skipComment_25 : decode cX7_skipComment 25 = .ok (.getfield 23, 3) := dX7_skipComment_0g.2.2.2.2.2.2.2.2.2.2.2.2.2.1
theorem dX7_skipComment_28 : decode cX7_skipComment 28 = .ok (.aload_n 0, 1) := dX7_skipComment_0g.2.2.2.2.2.2.2.2.2.2.2.2.2.2.1
theorem dX7_skipComment_29 : decode cX7_skipComment 29 = .ok (.getfield 19, 3) := dX7_skipComment_0g.2.2.2.2.2.2.2.2.2.2.2.2.2.2.2
theorem dX7_skipComment_32g : decode cX7_skipComment 32 = .ok (.if_icmp .ge 44, 3) ∧ decode cX7_skipComment 35 = .ok (.aload_n 0, 1) ∧ decode cX7_skipComment 36 = .ok (.aload_n 0, 1) ∧ decode cX7_skipComment 37 = .ok (.getfield 23, 3) ∧ decode cX7_skipComment 40 = .ok (.invokevirtual 57, 3) ∧ decode cX7_skipComment 43 = .ok (.bipush 45, 2) ∧ decode cX7_skipComment 45 = .ok (.if_icmp .ne 18, 3) ∧ decode cX7_skipComment 48 = .ok (.aload_n 0, 1) ∧ decode cX7_skipComment 49 = .ok (.aload_n 0, 1) ∧ decode cX7_skipComment 50 = .ok (.getfield 23, 3) ∧ decode cX7_skipComment 53 = .ok (.iconst 1, 1) ∧ decode cX7_skipComment 54 = .ok (.iadd, 1) ∧ decode cX7_skipComment 55 = .ok (.invokevirtual 57, 3) ∧ decode cX7_skipComment 58 = .ok (.bipush 45, 2) ∧ decode cX7_skipComment 60 = .ok (.if_icmp .eq 16, 3) ∧ decode cX7_skipComment 63 = .ok (.aload_n 0, 1) := by decide +kernel
theorem dX7_skipComment_32 : decode cX7_skipComment 32 = .ok (.if_icmp .ge 44, 3) := dX7_skipComment_32g.1
theorem dX7_skipComment_35 : decode cX7_skipComment 35 = .ok (.aload_n 0, 1) := dX7_skipComment_32g.2.1
theorem dX7_skipComment_36 : decode cX7_skipComment 36 = .ok (.aload_n 0, 1) := dX7_skipComment_32g.2.2.1
theorem dX7_skipComment_37 : decode cX7_skipComment 37 = .ok (.getfield 23, 3) := dX7_skipComment_32g.2.2.2.1
theorem dX7_skipComment_40 : decode cX7_skipComment 40 = .ok (.invokevirtual 57, 3) := dX7_skipComment_32g.2.2.2.2.1
theorem dX7_skipComment_43 : decode cX7_skipComment 43 = .ok (.bipush 45, 2) := dX7_skipComment_32g.2.2.2.2.2.1
theorem dX7_skipComment_45 : decode cX7_skipComment 45 = .ok (.if_icmp .ne 18, 3) := dX7_skipComment_32g.2.2.2.2.2.2.1
theorem dX7_skipComment_48 : decode cX7_skipComment 48 = .ok (.aload_n 0, 1) := dX7_skipComment_32g.2.2.2.2.2.2.2.1
theorem dX7_skipComment_49 : decode cX7_skipComment 49 = .ok (.aload_n 0, 1) := dX7_skipComment_32g.2.2.2.2.2.2.2.2.1
theorem dX7_skipComment_50 : decode cX7_skipComment 50 = .ok (.getfield 23, 3) := dX7_skipComment_32g.2.2.2.2.2.2.2.2.2.1
theorem dX7_skipComment_53 : decode cX7_skipComment 53 = .ok (.iconst 1, 1) := dX7_skipComment_32g.2.2.2.2.2.2.2.2.2.2.1
theorem dX7_skipComment_54 : decode cX7_skipComment 54 = .ok (.iadd, 1) := dX7_skipComment_32g.2.2.2.2.2.2.2.2.2.2.2.1
theorem dX7_skipComment_55 : decode cX7_skipComment 55 = .ok (.invokevirtual 57, 3) := dX7_skipComment_32g.2.2.2.2.2.2.2.2.2.2.2.2.1
theorem dX7_skipComment_58 : decode cX7_skipComment 58 = .ok (.bipush 45, 2) := dX7_skipComment_32g.2.2.2.2.2.2.2.2.2.2.2.2.2.1
theorem dX7_skipComment_60 : decode cX7_skipComment 60 = .ok (.if_icmp .eq 16, 3) := dX7_skipComment_32g.2.2.2.2.2.2.2.2.2.2.2.2.2.2.1
theorem dX7_skipComment_63 : decode cX7_skipComment 63 = .ok (.aload_n 0, 1) := dX7_skipComment_32g.2.2.2.2.2.2.2.2.2.2.2.2.2.2.2
theorem dX7_skipComment_64g : decode cX7_skipComment 64 = .ok (.dup, 1) ∧ decode cX7_skipComment 65 = .ok (.getfield 23, 3) ∧ decode cX7_skipComment 68 = .ok (.iconst 1, 1) ∧ decode cX7_skipComment 69 = .ok (.iadd, 1) ∧ decode cX7_skipComment 70 = .ok (.putfield 23, 3) ∧ decode cX7_skipComment 73 = .ok (.goto (-49), 3) ∧ decode cX7_skipComment 76 = .ok (.aload_n 0, 1) ∧ decode cX7_skipComment 77 = .ok (.bipush 45, 2) ∧ decode cX7_skipComment 79 = .ok (.invokevirtual 64, 3) ∧ decode cX7_skipComment 82 = .ok (.aload_n 0, 1) ∧ decode cX7_skipComment 83 = .ok (.getfield 23, 3) ∧ decode cX7_skipComment 86 = .ok (.iconst 1, 1) ∧ decode cX7_skipComment 87 = .ok (.iadd, 1) ∧ decode cX7_skipComment 88 = .ok (.aload_n 0, 1) ∧ decode cX7_skipComment 89 = .ok (.getfield 19, 3) ∧ decode cX7_skipComment 92 = .ok (.if_icmp .ge 26, 3) := by decide +kernel
theorem dX7_skipComment_64 : decode cX7_skipComment 64 = .ok (.dup, 1) := dX7_skipComment_64g.1
theorem dX7_skipComment_65 : decode cX7_skipComment 65 = .ok (.getfield 23, 3) := dX7_skipComment_64g.2.1
theorem dX7_skipComment_68 : decode cX7_skipComment 68 = .ok (.iconst 1, 1) := dX7_skipComment_64g.2.2.1
theorem dX7_skipComment_69 : decode cX7_skipComment 69 = .ok (.iadd, 1) := dX7_skipComment_64g.2.2.2.1
theorem dX7_skipComment_70 : decode cX7_skipComment 70 = .ok (.putfield 23, 3) := dX7_skipComment_64g.2.2.2.2.1
theorem dX7_skipComment_73 : decode cX7_skipComment 73 = .ok (.goto (-49), 3) := dX7_skipComment_64g.2.2.2.2.2.1
theorem dX7_skipComment_76 : decode cX7_skipComment 76 = .ok (.aload_n 0, 1) := dX7_skipComment_64g.2.2.2.2.2.2.1
theorem dX7_skipComment_77 : decode cX7_skipComment 77 = .ok (.bipush 45, 2) := dX7_skipComment_64g.2.2.2.2.2.2.2.1
theorem dX7_skipComment_79 : decode cX7_skipComment 79 = .ok (.invokevirtual 64, 3) := dX7_skipComment_64g.2.2.2.2.2.2.2.2.1
theorem dX7_skipComment_82 : decode cX7_skipComment 82 = .ok (.aload_n 0, 1) := dX7_skipComment_64g.2.2.2.2.2.2.2.2.2.1
theorem dX7_skipComment_83 : decode cX7_skipComment 83 = .ok (.getfield 23, 3) := dX7_skipComment_64g.2.2.2.2.2.2.2.2.2.2.1
theorem dX7_skipComment_86 : decode cX7_skipComment 86 = .ok (.iconst 1, 1) := dX7_skipComment_64g.2.2.2.2.2.2.2.2.2.2.2.1
theorem dX7_skipComment_87 : decode cX7_skipComment 87 = .ok (.iadd, 1) := dX7_skipComment_64g.2.2.2.2.2.2.2.2.2.2.2.2.1
theorem dX7_skipComment_88 : decode cX7_skipComment 88 = .ok (.aload_n 0, 1) := dX7_skipComment_64g.2.2.2.2.2.2.2.2.2.2.2.2.2.1
theorem dX7_skipComment_89 : decode cX7_skipComment 89 = .ok (.getfield 19, 3) := dX7_skipComment_64g.2.2.2.2.2.2.2.2.2.2.2.2.2.2.1
theorem dX7_skipComment_92 : decode cX7_skipComment 92 = .ok (.if_icmp .ge 26, 3) := dX7_skipComment_64g.2.2.2.2.2.2.2.2.2.2.2.2.2.2.2
theorem dX7_skipComment_95g : decode cX7_skipComment 95 = .ok (.aload_n 0, 1) ∧ decode cX7_skipComment 96 = .ok (.aload_n 0, 1) ∧ decode cX7_skipComment 97 = .ok (.getfield 23, 3) ∧ decode cX7_skipComment 100 = .ok (.iconst 1, 1) ∧ decode cX7_skipComment 101 = .ok (.iadd, 1) ∧ decode cX7_skipComment 102 = .ok (.invokevirtual 57, 3) ∧ decode cX7_skipComment 105 = .ok (.bipush 62, 2) ∧ decode cX7_skipComment 107 = .ok (.if_icmp .eq 11, 3) ∧ decode cX7_skipComment 110 = .ok (.new 50, 3) ∧ decode cX7_skipComment 113 = .ok (.dup, 1) ∧ decode cX7_skipComment 114 = .ok (.invokespecial 52, 3) ∧ decode cX7_skipComment 117 = .ok (.athrow, 1) ∧ decode cX7_skipComment 118 = .ok (.aload_n 0, 1) ∧ decode cX7_skipComment 119 = .ok (.bipush 45, 2) ∧ decode cX7_skipComment 121 = .ok (.invokevirtual 64, 3) ∧ decode cX7_skipComment 124 = .ok (.aload_n 0, 1) := by decide +kernel
theorem dX7_skipComment_95 : decode cX7_skipComment 95 = .ok (.aload_n 0, 1) := dX7_skipComment_95g.1
theorem dX7_skipComment_96 : decode cX7_skipComment 96 = .ok (.aload_n 0, 1) := dX7_skipComment_95g.2.1
theorem dX7_skipComment_97 : decode cX7_skipComment 97 = .ok (.getfield 23, 3) := dX7_skipComment_95g.2.2.1
theorem dX7_skipComment_100 : decode cX7_skipComment 100 = .ok (.iconst 1, 1) := dX7_skipComment_95g.2.2.2.1
theorem dX7_skipComment_101 : decode cX7_skipComment 101 = .ok (.iadd, 1) := dX7_skipComment_95g.2.2.2.2.1
theorem dX7_skipComment_102 : decode cX7_skipComment 102 = .ok (.invokevirtual 57, 3) := dX7_skipComment_95g.2.2.2.2.2.1
theorem dX7_skipComment_105 : decode cX7_skipComment 105 = .ok (.bipush 62, 2) := dX7_skipComment_95g.2.2.2.2.2.2.1
theorem dX7_skipComment_107 : decode cX7_skipComment 107 = .ok (.if_icmp .eq 11, 3) := dX7_skipComment_95g.2.2.2.2.2.2.2.1
theorem dX7_skipComment_110 : decode cX7_skipComment 110 = .ok (.new 50, 3) := dX7_skipComment_95g.2.2.2.2.2.2.2.2.1
theorem dX7_skipComment_113 : decode cX7_skipComment 113 = .ok (.dup, 1) := dX7_skipComment_95g.2.2.2.2.2.2.2.2.2.1
theorem dX7_skipComment_114 : decode cX7_skipComment 114 = .ok (.invokespecial 52, 3) := dX7_skipComment_95g.2.2.2.2.2.2.2.2.2.2.1
theorem dX7_skipComment_117 : decode cX7_skipComment 117 = .ok (.athrow, 1) := dX7_skipComment_95g.2.2.2.2.2.2.2.2.2.2.2.1
theorem dX7_skipComment_118 : decode cX7_skipComment 118 = .ok (.aload_n 0, 1) := dX7_skipComment_95g.2.2.2.2.2.2.2.2.2.2.2.2.1
theorem dX7_skipComment_119 : decode cX7_skipComment 119 = .ok (.bipush 45, 2) := dX7_skipComment_95g.2.2.2.2.2.2.2.2.2.2.2.2.2.1
theorem dX7_skipComment_121 : decode cX7_skipComment 121 = .ok (.invokevirtual 64, 3) := dX7_skipComment_95g.2.2.2.2.2.2.2.2.2.2.2.2.2.2.1
theorem dX7_skipComment_124 : decode cX7_skipComment 124 = .ok (.aload_n 0, 1) := dX7_skipComment_95g.2.2.2.2.2.2.2.2.2.2.2.2.2.2.2
theorem dX7_skipComment_125g : decode cX7_skipComment 125 = .ok (.bipush 62, 2) ∧ decode cX7_skipComment 127 = .ok (.invokevirtual 64, 3) ∧ decode cX7_skipComment 130 = .ok (.return_, 1) := by decide +kernel
theorem dX7_skipComment_125 : decode cX7_skipComment 125 = .ok (.bipush 62, 2) := dX7_skipComment_125g.1
theorem dX7_skipComment_127 : decode cX7_skipComment 127 = .ok (.invokevirtual 64, 3) := dX7_skipComment_125g.2.1
theorem dX7_skipComment_130 : decode cX7_skipComment 130 = .ok (.return_, 1) := dX7_skipComment_125g.2.2
theorem dX7_readContent_0g : decode cX7_readContent 0 = .ok (.aload_n 0, 1) ∧ decode cX7_readContent 1 = .ok (.aload_n 0, 1) ∧ decode cX7_readContent 2 = .ok (.getfield 23, 3) ∧ decode cX7_readContent 5 = .ok (.invokevirtual 57, 3) ∧ decode cX7_readContent 8 = .ok (.bipush 60, 2) ∧ decode cX7_readContent 10 = .ok (.if_icmp .eq 40, 3) ∧ decode cX7_readContent 13 = .ok (.aload_n 0, 1) ∧ decode cX7_readContent 14 = .ok (.invokevirtual 68, 3) ∧ decode cX7_readContent 17 = .ok (.istore_n 1, 1) ∧ decode cX7_readContent 18 = .ok (.aload_n 0, 1) ∧ decode cX7_readContent 19 = .ok (.getfield 29, 3) ∧ decode cX7_readContent 22 = .ok (.iload_n 1, 1) ∧ decode cX7_readContent 23 = .ok (.invokevirtual 72, 3) ∧ decode cX7_readContent 26 = .ok (.ifCond .ne 11, 3) ∧ decode cX7_readContent 29 = .ok (.new 50, 3) ∧ decode cX7_readContent 32 = .ok (.dup, 1) := by decide +kernel
theorem dX7_readContent_0 : decode cX7_readContent 0 = .ok (.aload_n 0, 1) := dX7_readContent_0g.1
theorem dX7_readContent_1 : decode cX7_readContent 1 = .ok (.aload_n 0, 1) := dX7_readContent_0g.2.1
theorem dX7_readContent_2 : decode cX7_readContent 2 = .ok (.getfield 23, 3) := dX7_readContent_0g.2.2.1
theorem dX7_readContent_5 : decode cX7_readContent 5 = .ok (.invokevirtual 57, 3) := dX7_readContent_0g.2.2.2.1
theorem dX7_readContent_8 : decode cX7_readContent 8 = .ok (.bipush 60, 2) := dX7_readContent_0g.2.2.2.2.1
theorem dX7_readContent_10 : decode cX7_readContent 10 = .ok (.if_icmp .eq 40, 3) := dX7_readContent_0g.2.2.2.2.2.1
theorem dX7_readContent_13 : decode cX7_readContent 13 = .ok (.aload_n 0, 1) := dX7_readContent_0g.2.2.2.2.2.2.1
theorem dX7_readContent_14 : decode cX7_readContent 14 = .ok (.invokevirtual 68, 3) := dX7_readContent_0g.2.2.2.2.2.2.2.1
theorem dX7_readContent_17 : decode cX7_readContent 17 = .ok (.istore_n 1, 1) := dX7_readContent_0g.2.2.2.2.2.2.2.2.1
theorem dX7_readContent_18 : decode cX7_readContent 18 = .ok (.aload_n 0, 1) := dX7_readContent_0g.2.2.2.2.2.2.2.2.2.1
theorem dX7_readContent_19 : decode cX7_readContent 19 = .ok (.getfield 29, 3) := dX7_readContent_0g.2.2.2.2.2.2.2.2.2.2.1
theorem dX7_readContent_22 : decode cX7_readContent 22 = .ok (.iload_n 1, 1) := dX7_readContent_0g.2.2.2.2.2.2.2.2.2.2.2.1
theorem dX7_readContent_23 : decode cX7_readContent 23 = .ok (.invokevirtual 72, 3) := dX7_readContent_0g.2.2.2.2.2.2.2.2.2.2.2.2.1
theorem dX7_readContent_26 : decode cX7_readContent 26 = .ok (.ifCond .ne 11, 3) := dX7_readContent_0g.2.2.2.2.2.2.2.2.2.2.2.2.2.1
theorem dX7_readContent_29 : decode cX7_readContent 29 = .ok (.new 50, 3) := dX7_readContent_0g.2.2.2.2.2.2.2.2.2.2.2.2.2.2.1
theorem dX7_readContent_32 : decode cX7_readContent 32 = .ok (.dup, 1) := dX7_readContent_0g.2.2.2.2.2.2.2.2.2.2.2.2.2.2.2
theorem dX7_readContent_33g : decode cX7_readContent 33 = .ok (.invokespecial 52, 3) ∧ decode cX7_readContent 36 = .ok (.athrow, 1) ∧ decode cX7_readContent 37 = .ok (.aload_n 0, 1) ∧ decode cX7_readContent 38 = .ok (.dup, 1) ∧ decode cX7_readContent 39 = .ok (.getfield 23, 3) ∧ decode cX7_readContent 42 = .ok (.iconst 1, 1) ∧ decode cX7_readContent 43 = .ok (.iadd, 1) ∧ decode cX7_readContent 44 = .ok (.putfield 23, 3) ∧ decode cX7_readContent 47 = .ok (.goto 51, 3) ∧ decode cX7_readContent 50 = .ok (.aload_n 0, 1) ∧ decode cX7_readContent 51 = .ok (.aload_n 0, 1) ∧ decode cX7_readContent 52 = .ok (.getfield 23, 3) ∧ decode cX7_readContent 55 = .ok (.iconst 1, 1) ∧ decode cX7_readContent 56 = .ok (.iadd, 1) ∧ decode cX7_readContent 57 = .ok (.invokevirtual 57, 3) ∧ decode cX7_readContent 60 = .ok (.bipush 33, 2) := by decide +kernel
theorem dX7_readContent_33 : decode cX7_readContent 33 = .ok (.invokespecial 52, 3) := dX7_readContent_33g.1
theorem dX7_readContent_36 : decode cX7_readContent 36 = .ok (.athrow, 1) := dX7_readContent_33g.2.1
theorem dX7_readContent_37 : decode cX7_readContent 37 = .ok (.aload_n 0, 1) := dX7_readContent_33g.2.2.1
theorem dX7_readContent_38 : decode cX7_readContent 38 = .ok (.dup, 1) := dX7_readContent_33g.2.2.2.1
theorem dX7_readContent_39 : decode cX7_readContent 39 = .ok (.getfield 23, 3) := dX7_readContent_33g.2.2.2.2.1
theorem dX7_readContent_42 : decode cX7_readContent 42 = .ok (.iconst 1, 1) := dX7_readContent_33g.2.2.2.2.2.1
theorem dX7_readContent_43 : decode cX7_readContent 43 = .ok (.iadd, 1) := dX7_readContent_33g.2.2.2.2.2.2.1
theorem dX7_readContent_44 : decode cX7_readContent 44 = .ok (.putfield 23, 3) := dX7_readContent_33g.2.2.2.2.2.2.2.1
theorem dX7_readContent_47 : decode cX7_readContent 47 = .ok (.goto 51, 3) := dX7_readContent_33g.2.2.2.2.2.2.2.2.1
theorem dX7_readContent_50 : decode cX7_readContent 50 = .ok (.aload_n 0, 1) := dX7_readContent_33g.2.2.2.2.2.2.2.2.2.1
theorem dX7_readContent_51 : decode cX7_readContent 51 = .ok (.aload_n 0, 1) := dX7_readContent_33g.2.2.2.2.2.2.2.2.2.2.1
theorem dX7_readContent_52 : decode cX7_readContent 52 = .ok (.getfield 23, 3) := dX7_readContent_33g.2.2.2.2.2.2.2.2.2.2.2.1
theorem dX7_readContent_55 : decode cX7_readContent 55 = .ok (.iconst 1, 1) := dX7_readContent_33g.2.2.2.2.2.2.2.2.2.2.2.2.1
theorem dX7_readContent_56 : decode cX7_readContent 56 = .ok (.iadd, 1) := dX7_readContent_33g.2.2.2.2.2.2.2.2.2.2.2.2.2.1
theorem dX7_readContent_57 : decode cX7_readContent 57 = .ok (.invokevirtual 57, 3) := dX7_readContent_33g.2.2.2.2.2.2.2.2.2.2.2.2.2.2.1
theorem dX7_readContent_60 : decode cX7_readContent 60 = .ok (.bipush 33, 2) := dX7_readContent_33g.2.2.2.2.2.2.2.2.2.2.2.2.2.2.2
theorem dX7_readContent_62g : decode cX7_readContent 62 = .ok (.if_icmp .ne 10, 3) ∧ decode cX7_readContent 65 = .ok (.aload_n 0, 1) ∧ decode cX7_readContent 66 = .ok (.invokevirtual 61, 3) ∧ decode cX7_readContent 69 = .ok (.goto 29, 3) ∧ decode cX7_readContent 72 = .ok (.aload_n 0, 1) ∧ decode cX7_readContent 73 = .ok (.aload_n 0, 1) ∧ decode cX7_readContent 74 = .ok (.getfield 23, 3) ∧ decode cX7_readContent 77 = .ok (.iconst 1, 1) ∧ decode cX7_readContent 78 = .ok (.iadd, 1) ∧ decode cX7_readContent 79 = .ok (.invokevirtual 57, 3) ∧ decode cX7_readContent 82 = .ok (.bipush 47, 2) ∧ decode cX7_readContent 84 = .ok (.if_icmp .ne 10, 3) ∧ decode cX7_readContent 87 = .ok (.aload_n 0, 1) ∧ decode cX7_readContent 88 = .ok (.invokevirtual 78, 3) ∧ decode cX7_readContent 91 = .ok (.goto 7, 3) ∧ decode cX7_readContent 94 = .ok (.aload_n 0, 1) := by decide +kernel
theorem dX7_readContent_62 : decode cX7_readContent 62 = .ok (.if_icmp .ne 10, 3) := dX7_readContent_62g.1
theorem dX7_readContent_65 : decode cX7_readContent 65 = .ok (.aload_n 0, 1) := dX7_readContent_62g.2.1
theorem dX7_readContent_66 : decode cX7_readContent 66 = .ok (.invokevirtual 61, 3) := dX7_readContent_62g.2.2.1
theorem dX7_readContent_69 : decode cX7_readContent 69 = .ok (.goto 29, 3) := dX7_readContent_62g.2.2.2.1
theorem dX7_readContent_72 : decode cX7_readContent 72 = .ok (.aload_n 0, 1) := dX7_readContent_62g.2.2.2.2.1
theorem dX7_readContent_73 : decode cX7_readContent 73 = .ok (.aload_n 0, 1) := dX7_readContent_62g.2.2.2.2.2.1
theorem dX7_readContent_74 : decode cX7_readContent 74 = .ok (.getfield 23, 3) := dX7_readContent_62g.2.2.2.2.2.2.1
theorem dX7_readContent_77 : decode cX7_readContent 77 = .ok (.iconst 1, 1) := dX7_readContent_62g.2.2.2.2.2.2.2.1
theorem dX7_readContent_78 : decode cX7_readContent 78 = .ok (.iadd, 1) := dX7_readContent_62g.2.2.2.2.2.2.2.2.1
theorem dX7_readContent_79 : decode cX7_readContent 79 = .ok (.invokevirtual 57, 3) := dX7_readContent_62g.2.2.2.2.2.2.2.2.2.1
theorem dX7_readContent_82 : decode cX7_readContent 82 = .ok (.bipush 47, 2) := dX7_readContent_62g.2.2.2.2.2.2.2.2.2.2.1
theorem dX7_readContent_84 : decode cX7_readContent 84 = .ok (.if_icmp .ne 10, 3) := dX7_readContent_62g.2.2.2.2.2.2.2.2.2.2.2.1
theorem dX7_readContent_87 : decode cX7_readContent 87 = .ok (.aload_n 0, 1) := dX7_readContent_62g.2.2.2.2.2.2.2.2.2.2.2.2.1
theorem dX7_readContent_88 : decode cX7_readContent 88 = .ok (.invokevirtual 78, 3) := dX7_readContent_62g.2.2.2.2.2.2.2.2.2.2.2.2.2.1
theorem dX7_readContent_91 : decode cX7_readContent 91 = .ok (.goto 7, 3) := dX7_readContent_62g.2.2.2.2.2.2.2.2.2.2.2.2.2.2.1
theorem dX7_readContent_94 : decode cX7_readContent 94 = .ok (.aload_n 0, 1) := dX7_readContent_62g.2.2.2.2.2.2.2.2.2.2.2.2.2.2.2
theorem dX7_readContent_95 : decode cX7_readContent 95 = .ok (.invokevirtual 41, 3) := by decide +kernel
theorem dX7_readContent_98 : decode cX7_readContent 98 = .ok (.return_, 1) := by decide +kernel
theorem dX7_openElement_0g : decode cX7_openElement 0 = .ok (.aload_n 0, 1) ∧ decode cX7_openElement 1 = .ok (.getfield 23, 3) ∧ decode cX7_openElement 4 = .ok (.istore_n 1, 1) ∧ decode cX7_openElement 5 = .ok (.aload_n 0, 1) ∧ decode cX7_openElement 6 = .ok (.bipush 60, 2) ∧ decode cX7_openElement 8 = .ok (.invokevirtual 64, 3) ∧ decode cX7_openElement 11 = .ok (.aload_n 0, 1) ∧ decode cX7_openElement 12 = .ok (.aload_n 0, 1) ∧ decode cX7_openElement 13 = .ok (.getfield 23, 3) ∧ decode cX7_openElement 16 = .ok (.invokevirtual 57, 3) ∧ decode cX7_openElement 19 = .ok (.invokestatic 81, 3) ∧ decode cX7_openElement 22 = .ok (.ifCond .eq 35, 3) ∧ decode cX7_openElement 25 = .ok (.aload_n 0, 1) ∧ decode cX7_openElement 26 = .ok (.getfield 26, 3) ∧ decode cX7_openElement 29 = .ok (.bipush 6, 2) ∧ decode cX7_openElement 31 = .ok (.if_icmp .ge 13, 3) := by decide +kernel
theorem dX7_openElement_0 : decode cX7_openElement 0 = .ok (.aload_n 0, 1) := dX7_openElement_0g.1
theorem dX7_openElement_1 : decode cX7_openElement 1 = .ok (.getfield 23, 3) := dX7_openElement_0g.2.1
theorem dX7_openElement_4 : decode cX7_openElement 4 = .ok (.istore_n 1, 1) := dX7_openElement_0g.2.2.1
theorem dX7_openElement_5 : decode cX7_openElement 5 = .ok (.aload_n 0, 1) := dX7_openElement_0g.2.2.2.1
theorem dX7_openElement_6 : decode cX7_openElement 6 = .ok (.bipush 60, 2) := dX7_openElement_0g.2.2.2.2.1
theorem dX7_openElement_8 : decode cX7_openElement 8 = .ok (.invokevirtual 64, 3) := dX7_openElement_0g.2.2.2.2.2.1
theorem dX7_openElement_11 : decode cX7_openElement 11 = .ok (.aload_n 0, 1) := dX7_openElement_0g.2.2.2.2.2.2.1
theorem dX7_openElement_12 : decode cX7_openElement 12 = .ok (.aload_n 0, 1) := dX7_openElement_0g.2.2.2.2.2.2.2.1
theorem dX7_openElement_13 : decode cX7_openElement 13 = .ok (.getfield 23, 3) := dX7_openElement_0g.2.2.2.2.2.2.2.2.1
theorem dX7_openElement_16 : decode cX7_openElement 16 = .ok (.invokevirtual 57, 3) := dX7_openElement_0g.2.2.2.2.2.2.2.2.2.1
theorem dX7_openElement_19 : decode cX7_openElement 19 = .ok (.invokestatic 81, 3) := dX7_openElement_0g.2.2.2.2.2.2.2.2.2.2.1
theorem dX7_openElement_22 : decode cX7_openElement 22 = .ok (.ifCond .eq 35, 3) := dX7_openElement_0g.2.2.2.2.2.2.2.2.2.2.2.1
theorem dX7_openElement_25 : decode cX7_openElement 25 = .ok (.aload_n 0, 1) := dX7_openElement_0g.2.2.2.2.2.2.2.2.2.2.2.2.1
theorem dX7_openElement_26 : decode cX7_openElement 26 = .ok (.getfield 26, 3) := dX7_openElement_0g.2.2.2.2.2.2.2.2.2.2.2.2.2.1
theorem dX7_openElement_29 : decode cX7_openElement 29 = .ok (.bipush 6, 2) := dX7_openElement_0g.2.2.2.2.2.2.2.2.2.2.2.2.2.2.1
theorem dX7_openElement_31 : decode cX7_openElement 31 = .ok (.if_icmp .ge 13, 3) := dX7_openElement_0g.2.2.2.2.2.2.2.2.2.2.2.2.2.2.2
theorem dX7_openElement_34g : decode cX7_openElement 34 = .ok (.aload_n 0, 1) ∧ decode cX7_openElement 35 = .ok (.getfield 9, 3) ∧ decode cX7_openElement 38 = .ok (.invokevirtual 84, 3) ∧ decode cX7_openElement 41 = .ok (.ifCond .eq 16, 3) ∧ decode cX7_openElement 44 = .ok (.aload_n 0, 1) ∧ decode cX7_openElement 45 = .ok (.iload_n 1, 1) ∧ decode cX7_openElement 46 = .ok (.putfield 23, 3) ∧ decode cX7_openElement 49 = .ok (.new 50, 3) ∧ decode cX7_openElement 52 = .ok (.dup, 1) ∧ decode cX7_openElement 53 = .ok (.invokespecial 52, 3) ∧ decode cX7_openElement 56 = .ok (.athrow, 1) ∧ decode cX7_openElement 57 = .ok (.aload_n 0, 1) ∧ decode cX7_openElement 58 = .ok (.invokevirtual 87, 3) ∧ decode cX7_openElement 61 = .ok (.lstore_n 2, 1) ∧ decode cX7_openElement 62 = .ok (.aload_n 0, 1) ∧ decode cX7_openElement 63 = .ok (.aload_n 0, 1) := by decide +kernel
theorem dX7_openElement_34 : decode cX7_openElement 34 = .ok (.aload_n 0, 1) := dX7_openElement_34g.1
theorem dX7_openElement_35 : decode cX7_openElement 35 = .ok (.getfield 9, 3) := dX7_openElement_34g.2.1
theorem dX7_openElement_38 : decode cX7_openElement 38 = .ok (.invokevirtual 84, 3) := dX7_openElement_34g.2.2.1
theorem dX7_openElement_41 : decode cX7_openElement 41 = .ok (.ifCond .eq 16, 3) := dX7_openElement_34g.2.2.2.1
theorem dX7_openElement_44 : decode cX7_openElement 44 = .ok (.aload_n 0, 1) := dX7_openElement_34g.2.2.2.2.1
theorem dX7_openElement_45 : decode cX7_openElement 45 = .ok (.iload_n 1, 1) := dX7_openElement_34g.2.2.2.2.2.1
theorem dX7_openElement_46 : decode cX7_openElement 46 = .ok (.putfield 23, 3) := dX7_openElement_34g.2.2.2.2.2.2.1
theorem dX7_openElement_49 : decode cX7_openElement 49 = .ok (.new 50, 3) := dX7_openElement_34g.2.2.2.2.2.2.2.1
theorem dX7_openElement_52 : decode cX7_openElement 52 = .ok (.dup, 1) := dX7_openElement_34g.2.2.2.2.2.2.2.2.1
theorem dX7_openElement_53 : decode cX7_openElement 53 = .ok (.invokespecial 52, 3) := dX7_openElement_34g.2.2.2.2.2.2.2.2.2.1
theorem dX7_openElement_56 : decode cX7_openElement 56 = .ok (.athrow, 1) := dX7_openElement_34g.2.2.2.2.2.2.2.2.2.2.1
theorem dX7_openElement_57 : decode cX7_openElement 57 = .ok (.aload_n 0, 1) := dX7_openElement_34g.2.2.2.2.2.2.2.2.2.2.2.1
theorem dX7_openElement_58 : decode cX7_openElement 58 = .ok (.invokevirtual 87, 3) := dX7_openElement_34g.2.2.2.2.2.2.2.2.2.2.2.2.1
theorem dX7_openElement_61 : decode cX7_openElement 61 = .ok (.lstore_n 2, 1) := dX7_openElement_34g.2.2.2.2.2.2.2.2.2.2.2.2.2.1
theorem dX7_openElement_62 : decode cX7_openElement 62 = .ok (.aload_n 0, 1) := dX7_openElement_34g.2.2.2.2.2.2.2.2.2.2.2.2.2.2.1
theorem dX7_openElement_63 : decode cX7_openElement 63 = .ok (.aload_n 0, 1) := dX7_openElement_34g.2.2.2.2.2.2.2.2.2.2.2.2.2.2.2
theorem dX7_openElement_64g : decode cX7_openElement 64 = .ok (.getfield 9, 3) ∧ decode cX7_openElement 67 = .ok (.iload_n 1, 1) ∧ decode cX7_openElement 68 = .ok (.aload_n 0, 1) ∧ decode cX7_openElement 69 = .ok (.getfield 29, 3) ∧ decode cX7_openElement 72 = .ok (.invokevirtual 91, 3) ∧ decode cX7_openElement 75 = .ok (.putfield 29, 3) ∧ decode cX7_openElement 78 = .ok (.aload_n 0, 1) ∧ decode cX7_openElement 79 = .ok (.getfield 29, 3) ∧ decode cX7_openElement 82 = .ok (.lload_n 2, 1) ∧ decode cX7_openElement 83 = .ok (.invokestatic 95, 3) ∧ decode cX7_openElement 86 = .ok (.putfield 101, 3) ∧ decode cX7_openElement 89 = .ok (.aload_n 0, 1) ∧ decode cX7_openElement 90 = .ok (.dup, 1) ∧ decode cX7_openElement 91 = .ok (.getfield 26, 3) ∧ decode cX7_openElement 94 = .ok (.iconst 1, 1) ∧ decode cX7_openElement 95 = .ok (.iadd, 1) := by decide +kernel
theorem dX7_openElement_64 : decode cX7_openElement 64 = .ok (.getfield 9, 3) := dX7_openElement_64g.1
theorem dX7_openElement_67 : decode cX7_openElement 67 = .ok (.iload_n 1, 1) := dX7_openElement_64g.2.1
theorem dX7_openElement_68 : decode cX7_openElement 68 = .ok (.aload_n 0, 1) := dX7_openElement_64g.2.2.1
theorem dX7_openElement_69 : decode cX7_openElement 69 = .ok (.getfield 29, 3) := dX7_openElement_64g.2.2.2.1
theorem dX7_openElement_72 : decode cX7_openElement 72 = .ok (.invokevirtual 91, 3) := dX7_openElement_64g.2.2.2.2.1
theorem dX7_openElement_75 : decode cX7_openElement 75 = .ok (.putfield 29, 3) := dX7_openElement_64g.2.2.2.2.2.1
theorem dX7_openElement_78 : decode cX7_openElement 78 = .ok (.aload_n 0, 1) := dX7_openElement_64g.2.2.2.2.2.2.1
theorem dX7_openElement_79 : decode cX7_openElement 79 = .ok (.getfield 29, 3) := dX7_openElement_64g.2.2.2.2.2.2.2.1
theorem dX7_openElement_82 : decode cX7_openElement 82 = .ok (.lload_n 2, 1) := dX7_openElement_64g.2.2.2.2.2.2.2.2.1
theorem dX7_openElement_83 : decode cX7_openElement 83 = .ok (.invokestatic 95, 3) := dX7_openElement_64g.2.2.2.2.2.2.2.2.2.1
theorem dX7_openElement_86 : decode cX7_openElement 86 = .ok (.putfield 101, 3) := dX7_openElement_64g.2.2.2.2.2.2.2.2.2.2.1
theorem dX7_openElement_89 : decode cX7_openElement 89 = .ok (.aload_n 0, 1) := dX7_openElement_64g.2.2.2.2.2.2.2.2.2.2.2.1
theorem dX7_openElement_90 : decode cX7_openElement 90 = .ok (.dup, 1) := dX7_openElement_64g.2.2.2.2.2.2.2.2.2.2.2.2.1
theorem dX7_openElement_91 : decode cX7_openElement 91 = .ok (.getfield 26, 3) := dX7_openElement_64g.2.2.2.2.2.2.2.2.2.2.2.2.2.1
theorem dX7_openElement_94 : decode cX7_openElement 94 = .ok (.iconst 1, 1) := dX7_openElement_64g.2.2.2.2.2.2.2.2.2.2.2.2.2.2.1
theorem dX7_openElement_95 : decode cX7_openElement 95 = .ok (.iadd, 1) := dX7_openElement_64g.2.2.2.2.2.2.2.2.2.2.2.2.2.2.2
theorem dX7_openElement_96g : decode cX7_openElement 96 = .ok (.putfield 26, 3) ∧ decode cX7_openElement 99 = .ok (.iconst 0, 1) ∧ decode cX7_openElement 100 = .ok (.istore 4, 2) ∧ decode cX7_openElement 102 = .ok (.iload 4, 2) ∧ decode cX7_openElement 104 = .ok (.bipush 12, 2) ∧ decode cX7_openElement 106 = .ok (.if_icmp .gt 34, 3) ∧ decode cX7_openElement 109 = .ok (.aload_n 0, 1) ∧ decode cX7_openElement 110 = .ok (.invokevirtual 53, 3) ∧ decode cX7_openElement 113 = .ok (.ifCond .eq 27, 3) ∧ decode cX7_openElement 116 = .ok (.aload_n 0, 1) ∧ decode cX7_openElement 117 = .ok (.aload_n 0, 1) ∧ decode cX7_openElement 118 = .ok (.getfield 23, 3) ∧ decode cX7_openElement 121 = .ok (.invokevirtual 57, 3) ∧ decode cX7_openElement 124 = .ok (.invokestatic 81, 3) ∧ decode cX7_openElement 127 = .ok (.ifCond .eq 13, 3) ∧ decode cX7_openElement 130 = .ok (.aload_n 0, 1) := by decide +kernel
theorem dX7_openElement_96 : decode cX7_openElement 96 = .ok (.putfield 26, 3) := dX7_openElement_96g.1
theorem dX7_openElement_99 : decode cX7_openElement 99 = .ok (.iconst 0, 1) := dX7_openElement_96g.2.1
theorem dX7_openElement_100 : decode cX7_openElement 100 = .ok (.istore 4, 2) := dX7_openElement_96g.2.2.1
theorem dX7_openElement_102 : decode cX7_openElement 102 = .ok (.iload 4, 2) := dX7_openElement_96g.2.2.2.1
theorem dX7_openElement_104 : decode cX7_openElement 104 = .ok (.bipush 12, 2) := dX7_openElement_96g.2.2.2.2.1
theorem dX7_openElement_106 : decode cX7_openElement 106 = .ok (.if_icmp .gt 34, 3) := dX7_openElement_96g.2.2.2.2.2.1
theorem dX7_openElement_109 : decode cX7_openElement 109 = .ok (.aload_n 0, 1) := dX7_openElement_96g.2.2.2.2.2.2.1
theorem dX7_openElement_110 : decode cX7_openElement 110 = .ok (.invokevirtual 53, 3) := dX7_openElement_96g.2.2.2.2.2.2.2.1
theorem dX7_openElement_113 : decode cX7_openElement 113 = .ok (.ifCond .eq 27, 3) := dX7_openElement_96g.2.2.2.2.2.2.2.2.1
theorem dX7_openElement_116 : decode cX7_openElement 116 = .ok (.aload_n 0, 1) := dX7_openElement_96g.2.2.2.2.2.2.2.2.2.1
theorem dX7_openElement_117 : decode cX7_openElement 117 = .ok (.aload_n 0, 1) := dX7_openElement_96g.2.2.2.2.2.2.2.2.2.2.1
theorem dX7_openElement_118 : decode cX7_openElement 118 = .ok (.getfield 23, 3) := dX7_openElement_96g.2.2.2.2.2.2.2.2.2.2.2.1
theorem dX7_openElement_121 : decode cX7_openElement 121 = .ok (.invokevirtual 57, 3) := dX7_openElement_96g.2.2.2.2.2.2.2.2.2.2.2.2.1
theorem dX7_openElement_124 : decode cX7_openElement 124 = .ok (.invokestatic 81, 3) := dX7_openElement_96g.2.2.2.2.2.2.2.2.2.2.2.2.2.1
theorem dX7_openElement_127 : decode cX7_openElement 127 = .ok (.ifCond .eq 13, 3) := dX7_openElement_96g.2.2.2.2.2.2.2.2.2.2.2.2.2.2.1
theorem dX7_openElement_130 : decode cX7_openElement 130 = .ok (.aload_n 0, 1) := dX7_openElement_96g.2.2.2.2.2.2.2.2.2.2.2.2.2.2.2
theorem dX7_openElement_131g : decode cX7_openElement 131 = .ok (.invokevirtual 105, 3) ∧ decode cX7_openElement 134 = .ok (.iinc 4 1, 3) ∧ decode cX7_openElement 137 = .ok (.goto (-35), 3) ∧ decode cX7_openElement 140 = .ok (.aload_n 0, 1) ∧ decode cX7_openElement 141 = .ok (.aload_n 0, 1) ∧ decode cX7_openElement 142 = .ok (.getfield 23, 3) ∧ decode cX7_openElement 145 = .ok (.invokevirtual 57, 3) ∧ decode cX7_openElement 148 = .ok (.bipush 47, 2) ∧ decode cX7_openElement 150 = .ok (.if_icmp .ne 7, 3) ∧ decode cX7_openElement 153 = .ok (.iconst 1, 1) ∧ decode cX7_openElement 154 = .ok (.goto 4, 3) ∧ decode cX7_openElement 157 = .ok (.iconst 0, 1) ∧ decode cX7_openElement 158 = .ok (.istore 4, 2) ∧ decode cX7_openElement 160 = .ok (.iload 4, 2) ∧ decode cX7_openElement 162 = .ok (.ifCond .eq 13, 3) ∧ decode cX7_openElement 165 = .ok (.aload_n 0, 1) := by decide +kernel
theorem dX7_openElement_131 : decode cX7_openElement 131 = .ok (.invokevirtual 105, 3) := dX7_openElement_131g.1
theorem dX7_openElement_134 : decode cX7_openElement 134 = .ok (.iinc 4 1, 3) := dX7_openElement_131g.2.1
theorem dX7_openElement_137 : decode cX7_openElement 137 = .ok (.goto (-35), 3) := dX7_openElement_131g.2.2.1
theorem dX7_openElement_140 : decode cX7_openElement 140 = .ok (.aload_n 0, 1) := dX7_openElement_131g.2.2.2.1
theorem dX7_openElement_141 : decode cX7_openElement 141 = .ok (.aload_n 0, 1) := dX7_openElement_131g.2.2.2.2.1
theorem dX7_openElement_142 : decode cX7_openElement 142 = .ok (.getfield 23, 3) := dX7_openElement_131g.2.2.2.2.2.1
theorem dX7_openElement_145 : decode cX7_openElement 145 = .ok (.invokevirtual 57, 3) := dX7_openElement_131g.2.2.2.2.2.2.1
theorem dX7_openElement_148 : decode cX7_openElement 148 = .ok (.bipush 47, 2) := dX7_openElement_131g.2.2.2.2.2.2.2.1
theorem dX7_openElement_150 : decode cX7_openElement 150 = .ok (.if_icmp .ne 7, 3) := dX7_openElement_131g.2.2.2.2.2.2.2.2.1
theorem dX7_openElement_153 : decode cX7_openElement 153 = .ok (.iconst 1, 1) := dX7_openElement_131g.2.2.2.2.2.2.2.2.2.1
theorem dX7_openElement_154 : decode cX7_openElement 154 = .ok (.goto 4, 3) := dX7_openElement_131g.2.2.2.2.2.2.2.2.2.2.1
theorem dX7_openElement_157 : decode cX7_openElement 157 = .ok (.iconst 0, 1) := dX7_openElement_131g.2.2.2.2.2.2.2.2.2.2.2.1
theorem dX7_openElement_158 : decode cX7_openElement 158 = .ok (.istore 4, 2) := dX7_openElement_131g.2.2.2.2.2.2.2.2.2.2.2.2.1
theorem dX7_openElement_160 : decode cX7_openElement 160 = .ok (.iload 4, 2) := dX7_openElement_131g.2.2.2.2.2.2.2.2.2.2.2.2.2.1
theorem dX7_openElement_162 : decode cX7_openElement 162 = .ok (.ifCond .eq 13, 3) := dX7_openElement_131g.2.2.2.2.2.2.2.2.2.2.2.2.2.2.1
theorem dX7_openElement_165 : decode cX7_openElement 165 = .ok (.aload_n 0, 1) := dX7_openElement_131g.2.2.2.2.2.2.2.2.2.2.2.2.2.2.2
theorem dX7_openElement_166g : decode cX7_openElement 166 = .ok (.dup, 1) ∧ decode cX7_openElement 167 = .ok (.getfield 23, 3) ∧ decode cX7_openElement 170 = .ok (.iconst 1, 1) ∧ decode cX7_openElement 171 = .ok (.iadd, 1) ∧ decode cX7_openElement 172 = .ok (.putfield 23, 3) ∧ decode cX7_openElement 175 = .ok (.aload_n 0, 1) ∧ decode cX7_openElement 176 = .ok (.bipush 62, 2) ∧ decode cX7_openElement 178 = .ok (.invokevirtual 64, 3) ∧ decode cX7_openElement 181 = .ok (.iload 4, 2) ∧ decode cX7_openElement 183 = .ok (.ifCond .eq 7, 3) ∧ decode cX7_openElement 186 = .ok (.aload_n 0, 1) ∧ decode cX7_openElement 187 = .ok (.invokevirtual 108, 3) ∧ decode cX7_openElement 190 = .ok (.return_, 1) := by decide +kernel
theorem dX7_openElement_166 : decode cX7_openElement 166 = .ok (.dup, 1) := dX7_openElement_166g.1
theorem dX7_openElement_167 : decode cX7_openElement 167 = .ok (.getfield 23, 3) := dX7_openElement_166g.2.1
theorem dX7_openElement_170 : decode cX7_openElement 170 = .ok (.iconst 1, 1) := dX7_openElement_166g.2.2.1
theorem dX7_openElement_171 : decode cX7_openElement 171 = .ok (.iadd, 1) := dX7_openElement_166g.2.2.2.1
theorem dX7_openElement_172 : decode cX7_openElement 172 = .ok (.putfield 23, 3) := dX7_openElement_166g.2.2.2.2.1
theorem dX7_openElement_175 : decode cX7_openElement 175 = .ok (.aload_n 0, 1) := dX7_openElement_166g.2.2.2.2.2.1
theorem dX7_openElement_176 : decode cX7_openElement 176 = .ok (.bipush 62, 2) := dX7_openElement_166g.2.2.2.2.2.2.1
theorem dX7_openElement_178 : decode cX7_openElement 178 = .ok (.invokevirtual 64, 3) := dX7_openElement_166g.2.2.2.2.2.2.2.1
theorem dX7_openElement_181 : decode cX7_openElement 181 = .ok (.iload 4, 2) := dX7_openElement_166g.2.2.2.2.2.2.2.2.1
theorem dX7_openElement_183 : decode cX7_openElement 183 = .ok (.ifCond .eq 7, 3) := dX7_openElement_166g.2.2.2.2.2.2.2.2.2.1
theorem dX7_openElement_186 : decode cX7_openElement 186 = .ok (.aload_n 0, 1) := dX7_openElement_166g.2.2.2.2.2.2.2.2.2.2.1
theorem dX7_openElement_187 : decode cX7_openElement 187 = .ok (.invokevirtual 108, 3) := dX7_openElement_166g.2.2.2.2.2.2.2.2.2.2.2.1
theorem dX7_openElement_190 : decode cX7_openElement 190 = .ok (.return_, 1) := dX7_openElement_166g.2.2.2.2.2.2.2.2.2.2.2.2
theorem dX7_closeElement_0g : decode cX7_closeElement 0 = .ok (.aload_n 0, 1) ∧ decode cX7_closeElement 1 = .ok (.dup, 1) ∧ decode cX7_closeElement 2 = .ok (.getfield 23, 3) ∧ decode cX7_closeElement 5 = .ok (.iconst 2, 1) ∧ decode cX7_closeElement 6 = .ok (.iadd, 1) ∧ decode cX7_closeElement 7 = .ok (.putfield 23, 3) ∧ decode cX7_closeElement 10 = .ok (.aload_n 0, 1) ∧ decode cX7_closeElement 11 = .ok (.getfield 29, 3) ∧ decode cX7_closeElement 14 = .ok (.getfield 111, 3) ∧ decode cX7_closeElement 17 = .ok (.iconst 1, 1) ∧ decode cX7_closeElement 18 = .ok (.iadd, 1) ∧ decode cX7_closeElement 19 = .ok (.istore_n 1, 1) ∧ decode cX7_closeElement 20 = .ok (.iconst 0, 1) ∧ decode cX7_closeElement 21 = .ok (.istore_n 2, 1) ∧ decode cX7_closeElement 22 = .ok (.iload_n 2, 1) ∧ decode cX7_closeElement 23 = .ok (.bipush 8, 2) := by decide +kernel
theorem dX7_closeElement_0 : decode cX7_closeElement 0 = .ok (.aload_n 0, 1) := dX7_closeElement_0g.1
theorem dX7_closeElement_1 : decode cX7_closeElement 1 = .ok (.dup, 1) := dX7_closeElement_0g.2.1
theorem dX7_closeElement_2 : decode cX7_closeElement 2 = .ok (.getfield 23, 3) := dX7_closeElement_0g.2.2.1
theorem dX7_closeElement_5 : decode cX7_closeElement 5 = .ok (.iconst 2, 1) := dX7_closeElement_0g.2.2.2.1
theorem dX7_closeElement_6 : decode cX7_closeElement 6 = .ok (.iadd, 1) := dX7_closeElement_0g.2.2.2.2.1
theorem dX7_closeElement_7 : decode cX7_closeElement 7 = .ok (.putfield 23, 3) := dX7_closeElement_0g.2.2.2.2.2.1
theorem dX7_closeElement_10 : decode cX7_closeElement 10 = .ok (.aload_n 0, 1) := dX7_closeElement_0g.2.2.2.2.2.2.1
theorem dX7_closeElement_11 : decode cX7_closeElement 11 = .ok (.getfield 29, 3) := dX7_closeElement_0g.2.2.2.2.2.2.2.1
theorem dX7_closeElement_14 : decode cX7_closeElement 14 = .ok (.getfield 111, 3) := dX7_closeElement_0g.2.2.2.2.2.2.2.2.1
theorem dX7_closeElement_17 : decode cX7_closeElement 17 = .ok (.iconst 1, 1) := dX7_closeElement_0g.2.2.2.2.2.2.2.2.2.1
theorem dX7_closeElement_18 : decode cX7_closeElement 18 = .ok (.iadd, 1) := dX7_closeElement_0g.2.2.2.2.2.2.2.2.2.2.1
theorem dX7_closeElement_19 : decode cX7_closeElement 19 = .ok (.istore_n 1, 1) := dX7_closeElement_0g.2.2.2.2.2.2.2.2.2.2.2.1
theorem dX7_closeElement_20 : decode cX7_closeElement 20 = .ok (.iconst 0, 1) := dX7_closeElement_0g.2.2.2.2.2.2.2.2.2.2.2.2.1
theorem dX7_closeElement_21 : decode cX7_closeElement 21 = .ok (.istore_n 2, 1) := dX7_closeElement_0g.2.2.2.2.2.2.2.2.2.2.2.2.2.1
theorem dX7_closeElement_22 : decode cX7_closeElement 22 = .ok (.iload_n 2, 1) := dX7_closeElement_0g.2.2.2.2.2.2.2.2.2.2.2.2.2.2.1
theorem dX7_closeElement_23 : decode cX7_closeElement 23 = .ok (.bipush 8, 2) := dX7_closeElement_0g.2.2.2.2.2.2.2.2.2.2.2.2.2.2.2
theorem dX7_closeElement_25g : decode cX7_closeElement 25 = .ok (.if_icmp .ge 33, 3) ∧ decode cX7_closeElement 28 = .ok (.aload_n 0, 1) ∧ decode cX7_closeElement 29 = .ok (.iload_n 1, 1) ∧ decode cX7_closeElement 30 = .ok (.iload_n 2, 1) ∧ decode cX7_closeElement 31 = .ok (.iadd, 1) ∧ decode cX7_closeElement 32 = .ok (.invokevirtual 57, 3) ∧ decode cX7_closeElement 35 = .ok (.invokestatic 81, 3) ∧ decode cX7_closeElement 38 = .ok (.ifCond .eq 20, 3) ∧ decode cX7_closeElement 41 = .ok (.aload_n 0, 1) ∧ decode cX7_closeElement 42 = .ok (.aload_n 0, 1) ∧ decode cX7_closeElement 43 = .ok (.iload_n 1, 1) ∧ decode cX7_closeElement 44 = .ok (.iload_n 2, 1) ∧ decode cX7_closeElement 45 = .ok (.iadd, 1) ∧ decode cX7_closeElement 46 = .ok (.invokevirtual 57, 3) ∧ decode cX7_closeElement 49 = .ok (.invokevirtual 64, 3) ∧ decode cX7_closeElement 52 = .ok (.iinc 2 1, 3) := by decide +kernel
theorem dX7_closeElement_25 : decode cX7_closeElement 25 = .ok (.if_icmp .ge 33, 3) := dX7_closeElement_25g.1
theorem dX7_closeElement_28 : decode cX7_closeElement 28 = .ok (.aload_n 0, 1) := dX7_closeElement_25g.2.1
theorem dX7_closeElement_29 : decode cX7_closeElement 29 = .ok (.iload_n 1, 1) := dX7_closeElement_25g.2.2.1
theorem dX7_closeElement_30 : decode cX7_closeElement 30 = .ok (.iload_n 2, 1) := dX7_closeElement_25g.2.2.2.1
theorem dX7_closeElement_31 : decode cX7_closeElement 31 = .ok (.iadd, 1) := dX7_closeElement_25g.2.2.2.2.1
theorem dX7_closeElement_32 : decode cX7_closeElement 32 = .ok (.invokevirtual 57, 3) := dX7_closeElement_25g.2.2.2.2.2.1
theorem dX7_closeElement_35 : decode cX7_closeElement 35 = .ok (.invokestatic 81, 3) := dX7_closeElement_25g.2.2.2.2.2.2.1
theorem dX7_closeElement_38 : decode cX7_closeElement 38 = .ok (.ifCond .eq 20, 3) := dX7_closeElement_25g.2.2.2.2.2.2.2.1
theorem dX7_closeElement_41 : decode cX7_closeElement 41 = .ok (.aload_n 0, 1) := dX7_closeElement_25g.2.2.2.2.2.2.2.2.1
theorem dX7_closeElement_42 : decode cX7_closeElement 42 = .ok (.aload_n 0, 1) := dX7_closeElement_25g.2.2.2.2.2.2.2.2.2.1
theorem dX7_closeElement_43 : decode cX7_closeElement 43 = .ok (.iload_n 1, 1) := dX7_closeElement_25g.2.2.2.2.2.2.2.2.2.2.1
theorem dX7_closeElement_44 : decode cX7_closeElement 44 = .ok (.iload_n 2, 1) := dX7_closeElement_25g.2.2.2.2.2.2.2.2.2.2.2.1
theorem dX7_closeElement_45 : decode cX7_closeElement 45 = .ok (.iadd, 1) := dX7_closeElement_25g.2.2.2.2.2.2.2.2.2.2.2.2.1
theorem dX7_closeElement_46 : decode cX7_closeElement 46 = .ok (.invokevirtual 57, 3) := dX7_closeElement_25g.2.2.2.2.2.2.2.2.2.2.2.2.2.1
theorem dX7_closeElement_49 : decode cX7_closeElement 49 = .ok (.invokevirtual 64, 3) := dX7_closeElement_25g.2.2.2.2.2.2.2.2.2.2.2.2.2.2.1
theorem dX7_closeElement_52 : decode cX7_closeElement 52 = .ok (.iinc 2 1, 3) := dX7_closeElement_25g.2.2.2.2.2.2.2.2.2.2.2.2.2.2.2
theorem dX7_closeElement_55g : decode cX7_closeElement 55 = .ok (.goto (-33), 3) ∧ decode cX7_closeElement 58 = .ok (.aload_n 0, 1) ∧ decode cX7_closeElement 59 = .ok (.invokevirtual 53, 3) ∧ decode cX7_closeElement 62 = .ok (.pop, 1) ∧ decode cX7_closeElement 63 = .ok (.aload_n 0, 1) ∧ decode cX7_closeElement 64 = .ok (.bipush 62, 2) ∧ decode cX7_closeElement 66 = .ok (.invokevirtual 64, 3) ∧ decode cX7_closeElement 69 = .ok (.aload_n 0, 1) ∧ decode cX7_closeElement 70 = .ok (.invokevirtual 108, 3) ∧ decode cX7_closeElement 73 = .ok (.return_, 1) := by decide +kernel
theorem dX7_closeElement_55 : decode cX7_closeElement 55 = .ok (.goto (-33), 3) := dX7_closeElement_55g.1
theorem dX7_closeElement_58 : decode cX7_closeElement 58 = .ok (.aload_n 0, 1) := dX7_closeElement_55g.2.1
theorem dX7_closeElement_59 : decode cX7_closeElement 59 = .ok (.invokevirtual 53, 3) := dX7_closeElement_55g.2.2.1
theorem dX7_closeElement_62 : decode cX7_closeElement 62 = .ok (.pop, 1) := dX7_closeElement_55g.2.2.2.1
theorem dX7_closeElement_63 : decode cX7_closeElement 63 = .ok (.aload_n 0, 1) := dX7_closeElement_55g.2.2.2.2.1
theorem dX7_closeElement_64 : decode cX7_closeElement 64 = .ok (.bipush 62, 2) := dX7_closeElement_55g.2.2.2.2.2.1
theorem dX7_closeElement_66 : decode cX7_closeElement 66 = .ok (.invokevirtual 64, 3) := dX7_closeElement_55g.2.2.2.2.2.2.1
theorem dX7_closeElement_69 : decode cX7_closeElement 69 = .ok (.aload_n 0, 1) := dX7_closeElement_55g.2.2.2.2.2.2.2.1
theorem dX7_closeElement_70 : decode cX7_closeElement 70 = .ok (.invokevirtual 108, 3) := dX7_closeElement_55g.2.2.2.2.2.2.2.2.1
theorem dX7_closeElement_73 : decode cX7_closeElement 73 = .ok (.return_, 1) := dX7_closeElement_55g.2.2.2.2.2.2.2.2.2
theorem dX7_leaveElement_0g : decode cX7_leaveElement 0 = .ok (.aload_n 0, 1) ∧ decode cX7_leaveElement 1 = .ok (.aload_n 0, 1) ∧ decode cX7_leaveElement 2 = .ok (.getfield 29, 3) ∧ decode cX7_leaveElement 5 = .ok (.getfield 114, 3) ∧ decode cX7_leaveElement 8 = .ok (.putfield 29, 3) ∧ decode cX7_leaveElement 11 = .ok (.aload_n 0, 1) ∧ decode cX7_leaveElement 12 = .ok (.dup, 1) ∧ decode cX7_leaveElement 13 = .ok (.getfield 26, 3) ∧ decode cX7_leaveElement 16 = .ok (.iconst 1, 1) ∧ decode cX7_leaveElement 17 = .ok (.isub, 1) ∧ decode cX7_leaveElement 18 = .ok (.putfield 26, 3) ∧ decode cX7_leaveElement 21 = .ok (.return_, 1) := by decide +kernel
theorem dX7_leaveElement_0 : decode cX7_leaveElement 0 = .ok (.aload_n 0, 1) := dX7_leaveElement_0g.1
theorem dX7_leaveElement_1 : decode cX7_leaveElement 1 = .ok (.aload_n 0, 1) := dX7_leaveElement_0g.2.1
theorem dX7_leaveElement_2 : decode cX7_leaveElement 2 = .ok (.getfield 29, 3) := dX7_leaveElement_0g.2.2.1
theorem dX7_leaveElement_5 : decode cX7_leaveElement 5 = .ok (.getfield 114, 3) := dX7_leaveElement_0g.2.2.2.1
theorem dX7_leaveElement_8 : decode cX7_leaveElement 8 = .ok (.putfield 29, 3) := dX7_leaveElement_0g.2.2.2.2.1
theorem dX7_leaveElement_11 : decode cX7_leaveElement 11 = .ok (.aload_n 0, 1) := dX7_leaveElement_0g.2.2.2.2.2.1
theorem dX7_leaveElement_12 : decode cX7_leaveElement 12 = .ok (.dup, 1) := dX7_leaveElement_0g.2.2.2.2.2.2.1
theorem dX7_leaveElement_13 : decode cX7_leaveElement 13 = .ok (.getfield 26, 3) := dX7_leaveElement_0g.2.2.2.2.2.2.2.1
theorem dX7_leaveElement_16 : decode cX7_leaveElement 16 = .ok (.iconst 1, 1) := dX7_leaveElement_0g.2.2.2.2.2.2.2.2.1
theorem dX7_leaveElement_17 : decode cX7_leaveElement 17 = .ok (.isub, 1) := dX7_leaveElement_0g.2.2.2.2.2.2.2.2.2.1
theorem dX7_leaveElement_18 : decode cX7_leaveElement 18 = .ok (.putfield 26, 3) := dX7_leaveElement_0g.2.2.2.2.2.2.2.2.2.2.1
theorem dX7_leaveElement_21 : decode cX7_leaveElement 21 = .ok (.return_, 1) := dX7_leaveElement_0g.2.2.2.2.2.2.2.2.2.2.2
theorem dX7_readName_0g : decode cX7_readName 0 = .ok (.lconst 0, 1) ∧ decode cX7_readName 1 = .ok (.lstore_n 1, 1) ∧ decode cX7_readName 2 = .ok (.iconst 0, 1) ∧ decode cX7_readName 3 = .ok (.istore_n 3, 1) ∧ decode cX7_readName 4 = .ok (.iload_n 3, 1) ∧ decode cX7_readName 5 = .ok (.bipush 8, 2) ∧ decode cX7_readName 7 = .ok (.if_icmp .ge 48, 3) ∧ decode cX7_readName 10 = .ok (.aload_n 0, 1) ∧ decode cX7_readName 11 = .ok (.aload_n 0, 1) ∧ decode cX7_readName 12 = .ok (.getfield 23, 3) ∧ decode cX7_readName 15 = .ok (.invokevirtual 57, 3) ∧ decode cX7_readName 18 = .ok (.invokestatic 81, 3) ∧ decode cX7_readName 21 = .ok (.ifCond .eq 34, 3) ∧ decode cX7_readName 24 = .ok (.lload_n 1, 1) ∧ decode cX7_readName 25 = .ok (.bipush 8, 2) ∧ decode cX7_readName 27 = .ok (.lshl, 1) := by decide +kernel
theorem dX7_readName_0 : decode cX7_readName 0 = .ok (.lconst 0, 1) := dX7_readName_0g.1
theorem dX7_readName_1 : decode cX7_readName 1 = .ok (.lstore_n 1, 1) := dX7_readName_0g.2.1
theorem dX7_readName_2 : decode cX7_readName 2 = .ok (.iconst 0, 1) := dX7_readName_0g.2.2.1
theorem dX7_readName_3 : decode cX7_readName 3 = .ok (.istore_n 3, 1) := dX7_readName_0g.2.2.2.1
theorem dX7_readName_4 : decode cX7_readName 4 = .ok (.iload_n 3, 1) := dX7_readName_0g.2.2.2.2.1
theorem dX7_readName_5 : decode cX7_readName 5 = .ok (.bipush 8, 2) := dX7_readName_0g.2.2.2.2.2.1
theorem dX7_readName_7 : decode cX7_readName 7 = .ok (.if_icmp .ge 48, 3) := dX7_readName_0g.2.2.2.2.2.2.1
theorem dX7_readName_10 : decode cX7_readName 10 = .ok (.aload_n 0, 1) := dX7_readName_0g.2.2.2.2.2.2.2.1
theorem dX7_readName_11 : decode cX7_readName 11 = .ok (.aload_n 0, 1) := dX7_readName_0g.2.2.2.2.2.2.2.2.1
theorem dX7_readName_12 : decode cX7_readName 12 = .ok (.getfield 23, 3) := dX7_readName_0g.2.2.2.2.2.2.2.2.2.1
theorem dX7_readName_15 : decode cX7_readName 15 = .ok (.invokevirtual 57, 3) := dX7_readName_0g.2.2.2.2.2.2.2.2.2.2.1
theorem dX7_readName_18 : decode cX7_readName 18 = .ok (.invokestatic 81, 3) := dX7_readName_0g.2.2.2.2.2.2.2.2.2.2.2.1
theorem dX7_readName_21 : decode cX7_readName 21 = .ok (.ifCond .eq 34, 3) := dX7_readName_0g.2.2.2.2.2.2.2.2.2.2.2.2.1
theorem dX7_readName_24 : decode cX7_readName 24 = .ok (.lload_n 1, 1) := dX7_readName_0g.2.2.2.2.2.2.2.2.2.2.2.2.2.1
theorem dX7_readName_25 : decode cX7_readName 25 = .ok (.bipush 8, 2) := dX7_readName_0g.2.2.2.2.2.2.2.2.2.2.2.2.2.2.1
theorem dX7_readName_27 : decode cX7_readName 27 = .ok (.lshl, 1) := dX7_readName_0g.2.2.2.2.2.2.2.2.2.2.2.2.2.2.2
theorem dX7_readName_28g : decode cX7_readName 28 = .ok (.aload_n 0, 1) ∧ decode cX7_readName 29 = .ok (.aload_n 0, 1) ∧ decode cX7_readName 30 = .ok (.getfield 23, 3) ∧ decode cX7_readName 33 = .ok (.invokevirtual 57, 3) ∧ decode cX7_readName 36 = .ok (.i2l, 1) ∧ decode cX7_readName 37 = .ok (.lor, 1) ∧ decode cX7_readName 38 = .ok (.lstore_n 1, 1) ∧ decode cX7_readName 39 = .ok (.iinc 3 1, 3) ∧ decode cX7_readName 42 = .ok (.aload_n 0, 1) ∧ decode cX7_readName 43 = .ok (.dup, 1) ∧ decode cX7_readName 44 = .ok (.getfield 23, 3) ∧ decode cX7_readName 47 = .ok (.iconst 1, 1) ∧ decode cX7_readName 48 = .ok (.iadd, 1) ∧ decode cX7_readName 49 = .ok (.putfield 23, 3) ∧ decode cX7_readName 52 = .ok (.goto (-48), 3) ∧ decode cX7_readName 55 = .ok (.iload_n 3, 1) := by decide +kernel
theorem dX7_readName_28 : decode cX7_readName 28 = .ok (.aload_n 0, 1) := dX7_readName_28g.1
theorem dX7_readName_29 : decode cX7_readName 29 = .ok (.aload_n 0, 1) := dX7_readName_28g.2.1
theorem dX7_readName_30 : decode cX7_readName 30 = .ok (.getfield 23, 3) := dX7_readName_28g.2.2.1
theorem dX7_readName_33 : decode cX7_readName 33 = .ok (.invokevirtual 57, 3) := dX7_readName_28g.2.2.2.1
theorem dX7_readName_36 : decode cX7_readName 36 = .ok (.i2l, 1) := dX7_readName_28g.2.2.2.2.1
theorem dX7_readName_37 : decode cX7_readName 37 = .ok (.lor, 1) := dX7_readName_28g.2.2.2.2.2.1
theorem dX7_readName_38 : decode cX7_readName 38 = .ok (.lstore_n 1, 1) := dX7_readName_28g.2.2.2.2.2.2.1
theorem dX7_readName_39 : decode cX7_readName 39 = .ok (.iinc 3 1, 3) := dX7_readName_28g.2.2.2.2.2.2.2.1
theorem dX7_readName_42 : decode cX7_readName 42 = .ok (.aload_n 0, 1) := dX7_readName_28g.2.2.2.2.2.2.2.2.1
theorem dX7_readName_43 : decode cX7_readName 43 = .ok (.dup, 1) := dX7_readName_28g.2.2.2.2.2.2.2.2.2.1
theorem dX7_readName_44 : decode cX7_readName 44 = .ok (.getfield 23, 3) := dX7_readName_28g.2.2.2.2.2.2.2.2.2.2.1
theorem dX7_readName_47 : decode cX7_readName 47 = .ok (.iconst 1, 1) := dX7_readName_28g.2.2.2.2.2.2.2.2.2.2.2.1
theorem dX7_readName_48 : decode cX7_readName 48 = .ok (.iadd, 1) := dX7_readName_28g.2.2.2.2.2.2.2.2.2.2.2.2.1
theorem dX7_readName_49 : decode cX7_readName 49 = .ok (.putfield 23, 3) := dX7_readName_28g.2.2.2.2.2.2.2.2.2.2.2.2.2.1
theorem dX7_readName_52 : decode cX7_readName 52 = .ok (.goto (-48), 3) := dX7_readName_28g.2.2.2.2.2.2.2.2.2.2.2.2.2.2.1
theorem dX7_readName_55 : decode cX7_readName 55 = .ok (.iload_n 3, 1) := dX7_readName_28g.2.2.2.2.2.2.2.2.2.2.2.2.2.2.2
theorem dX7_readName_56g : decode cX7_readName 56 = .ok (.ifCond .eq 17, 3) ∧ decode cX7_readName 59 = .ok (.aload_n 0, 1) ∧ decode cX7_readName 60 = .ok (.aload_n 0, 1) ∧ decode cX7_readName 61 = .ok (.getfield 23, 3) ∧ decode cX7_readName 64 = .ok (.invokevirtual 57, 3) ∧ decode cX7_readName 67 = .ok (.invokestatic 81, 3) ∧ decode cX7_readName 70 = .ok (.ifCond .eq 11, 3) ∧ decode cX7_readName 73 = .ok (.new 50, 3) ∧ decode cX7_readName 76 = .ok (.dup, 1) ∧ decode cX7_readName 77 = .ok (.invokespecial 52, 3) ∧ decode cX7_readName 80 = .ok (.athrow, 1) ∧ decode cX7_readName 81 = .ok (.lload_n 1, 1) ∧ decode cX7_readName 82 = .ok (.lreturn, 1) := by decide +kernel
theorem dX7_readName_56 : decode cX7_readName 56 = .ok (.ifCond .eq 17, 3) := dX7_readName_56g.1
theorem dX7_readName_59 : decode cX7_readName 59 = .ok (.aload_n 0, 1) := dX7_readName_56g.2.1
theorem dX7_readName_60 : decode cX7_readName 60 = .ok (.aload_n 0, 1) := dX7_readName_56g.2.2.1
theorem dX7_readName_61 : decode cX7_readName 61 = .ok (.getfield 23, 3) := dX7_readName_56g.2.2.2.1
theorem dX7_readName_64 : decode cX7_readName 64 = .ok (.invokevirtual 57, 3) := dX7_readName_56g.2.2.2.2.1
theorem dX7_readName_67 : decode cX7_readName 67 = .ok (.invokestatic 81, 3) := dX7_readName_56g.2.2.2.2.2.1
theorem dX7_readName_70 : decode cX7_readName 70 = .ok (.ifCond .eq 11, 3) := dX7_readName_56g.2.2.2.2.2.2.1
theorem dX7_readName_73 : decode cX7_readName 73 = .ok (.new 50, 3) := dX7_readName_56g.2.2.2.2.2.2.2.1
theorem dX7_readName_76 : decode cX7_readName 76 = .ok (.dup, 1) := dX7_readName_56g.2.2.2.2.2.2.2.2.1
theorem dX7_readName_77 : decode cX7_readName 77 = .ok (.invokespecial 52, 3) := dX7_readName_56g.2.2.2.2.2.2.2.2.2.1
theorem dX7_readName_80 : decode cX7_readName 80 = .ok (.athrow, 1) := dX7_readName_56g.2.2.2.2.2.2.2.2.2.2.1
theorem dX7_readName_81 : decode cX7_readName 81 = .ok (.lload_n 1, 1) := dX7_readName_56g.2.2.2.2.2.2.2.2.2.2.2.1
theorem dX7_readName_82 : decode cX7_readName 82 = .ok (.lreturn, 1) := dX7_readName_56g.2.2.2.2.2.2.2.2.2.2.2.2
theorem dX7_readAttribute_0g : decode cX7_readAttribute 0 = .ok (.aload_n 0, 1) ∧ decode cX7_readAttribute 1 = .ok (.getfield 29, 3) ∧ decode cX7_readAttribute 4 = .ok (.getfield 117, 3) ∧ decode cX7_readAttribute 7 = .ok (.bipush 12, 2) ∧ decode cX7_readAttribute 9 = .ok (.if_icmp .lt 11, 3) ∧ decode cX7_readAttribute 12 = .ok (.new 50, 3) ∧ decode cX7_readAttribute 15 = .ok (.dup, 1) ∧ decode cX7_readAttribute 16 = .ok (.invokespecial 52, 3) ∧ decode cX7_readAttribute 19 = .ok (.athrow, 1) ∧ decode cX7_readAttribute 20 = .ok (.aload_n 0, 1) ∧ decode cX7_readAttribute 21 = .ok (.invokevirtual 87, 3) ∧ decode cX7_readAttribute 24 = .ok (.lstore_n 1, 1) ∧ decode cX7_readAttribute 25 = .ok (.aload_n 0, 1) ∧ decode cX7_readAttribute 26 = .ok (.getfield 9, 3) ∧ decode cX7_readAttribute 29 = .ok (.aload_n 0, 1) ∧ decode cX7_readAttribute 30 = .ok (.getfield 29, 3) := by decide +kernel
theorem dX7_readAttribute_0 : decode cX7_readAttribute 0 = .ok (.aload_n 0, 1) := dX7_readAttribute_0g.1
theorem dX7_readAttribute_1 : decode cX7_readAttribute 1 = .ok (.getfield 29, 3) := dX7_readAttribute_0g.2.1
theorem dX7_readAttribute_4 : decode cX7_readAttribute 4 = .ok (.getfield 117, 3) := dX7_readAttribute_0g.2.2.1
theorem dX7_readAttribute_7 : decode cX7_readAttribute 7 = .ok (.bipush 12, 2) := dX7_readAttribute_0g.2.2.2.1
theorem dX7_readAttribute_9 : decode cX7_readAttribute 9 = .ok (.if_icmp .lt 11, 3) := dX7_readAttribute_0g.2.2.2.2.1
theorem dX7_readAttribute_12 : decode cX7_readAttribute 12 = .ok (.new 50, 3) := dX7_readAttribute_0g.2.2.2.2.2.1
theorem dX7_readAttribute_15 : decode cX7_readAttribute 15 = .ok (.dup, 1) := dX7_readAttribute_0g.2.2.2.2.2.2.1
theorem dX7_readAttribute_16 : decode cX7_readAttribute 16 = .ok (.invokespecial 52, 3) := dX7_readAttribute_0g.2.2.2.2.2.2.2.1
theorem dX7_readAttribute_19 : decode cX7_readAttribute 19 = .ok (.athrow, 1) := dX7_readAttribute_0g.2.2.2.2.2.2.2.2.1
theorem dX7_readAttribute_20 : decode cX7_readAttribute 20 = .ok (.aload_n 0, 1) := dX7_readAttribute_0g.2.2.2.2.2.2.2.2.2.1
theorem dX7_readAttribute_21 : decode cX7_readAttribute 21 = .ok (.invokevirtual 87, 3) := dX7_readAttribute_0g.2.2.2.2.2.2.2.2.2.2.1
theorem dX7_readAttribute_24 : decode cX7_readAttribute 24 = .ok (.lstore_n 1, 1) := dX7_readAttribute_0g.2.2.2.2.2.2.2.2.2.2.2.1
theorem dX7_readAttribute_25 : decode cX7_readAttribute 25 = .ok (.aload_n 0, 1) := dX7_readAttribute_0g.2.2.2.2.2.2.2.2.2.2.2.2.1
theorem dX7_readAttribute_26 : decode cX7_readAttribute 26 = .ok (.getfield 9, 3) := dX7_readAttribute_0g.2.2.2.2.2.2.2.2.2.2.2.2.2.1
theorem dX7_readAttribute_29 : decode cX7_readAttribute 29 = .ok (.aload_n 0, 1) := dX7_readAttribute_0g.2.2.2.2.2.2.2.2.2.2.2.2.2.2.1
theorem dX7_readAttribute_30 : decode cX7_readAttribute 30 = .ok (.getfield 29, 3) := dX7_readAttribute_0g.2.2.2.2.2.2.2.2.2.2.2.2.2.2.2
theorem dX7_readAttribute_33g : decode cX7_readAttribute 33 = .ok (.lload_n 1, 1) ∧ decode cX7_readAttribute 34 = .ok (.invokevirtual 120, 3) ∧ decode cX7_readAttribute 37 = .ok (.ifCond .eq 11, 3) ∧ decode cX7_readAttribute 40 = .ok (.new 50, 3) ∧ decode cX7_readAttribute 43 = .ok (.dup, 1) ∧ decode cX7_readAttribute 44 = .ok (.invokespecial 52, 3) ∧ decode cX7_readAttribute 47 = .ok (.athrow, 1) ∧ decode cX7_readAttribute 48 = .ok (.aload_n 0, 1) ∧ decode cX7_readAttribute 49 = .ok (.bipush 61, 2) ∧ decode cX7_readAttribute 51 = .ok (.invokevirtual 64, 3) ∧ decode cX7_readAttribute 54 = .ok (.aload_n 0, 1) ∧ decode cX7_readAttribute 55 = .ok (.bipush 34, 2) ∧ decode cX7_readAttribute 57 = .ok (.invokevirtual 64, 3) ∧ decode cX7_readAttribute 60 = .ok (.aload_n 0, 1) ∧ decode cX7_readAttribute 61 = .ok (.getfield 9, 3) ∧ decode cX7_readAttribute 64 = .ok (.aload_n 0, 1) := by decide +kernel
theorem dX7_readAttribute_33 : decode cX7_readAttribute 33 = .ok (.lload_n 1, 1) := dX7_readAttribute_33g.1
theorem dX7_readAttribute_34 : decode cX7_readAttribute 34 = .ok (.invokevirtual 120, 3) := dX7_readAttribute_33g.2.1
theorem dX7_readAttribute_37 : decode cX7_readAttribute 37 = .ok (.ifCond .eq 11, 3) := dX7_readAttribute_33g.2.2.1
theorem dX7_readAttribute_40 : decode cX7_readAttribute 40 = .ok (.new 50, 3) := dX7_readAttribute_33g.2.2.2.1
theorem dX7_readAttribute_43 : decode cX7_readAttribute 43 = .ok (.dup, 1) := dX7_readAttribute_33g.2.2.2.2.1
theorem dX7_readAttribute_44 : decode cX7_readAttribute 44 = .ok (.invokespecial 52, 3) := dX7_readAttribute_33g.2.2.2.2.2.1
theorem dX7_readAttribute_47 : decode cX7_readAttribute 47 = .ok (.athrow, 1) := dX7_readAttribute_33g.2.2.2.2.2.2.1
theorem dX7_readAttribute_48 : decode cX7_readAttribute 48 = .ok (.aload_n 0, 1) := dX7_readAttribute_33g.2.2.2.2.2.2.2.1
theorem dX7_readAttribute_49 : decode cX7_readAttribute 49 = .ok (.bipush 61, 2) := dX7_readAttribute_33g.2.2.2.2.2.2.2.2.1
theorem dX7_readAttribute_51 : decode cX7_readAttribute 51 = .ok (.invokevirtual 64, 3) := dX7_readAttribute_33g.2.2.2.2.2.2.2.2.2.1
theorem dX7_readAttribute_54 : decode cX7_readAttribute 54 = .ok (.aload_n 0, 1) := dX7_readAttribute_33g.2.2.2.2.2.2.2.2.2.2.1
theorem dX7_readAttribute_55 : decode cX7_readAttribute 55 = .ok (.bipush 34, 2) := dX7_readAttribute_33g.2.2.2.2.2.2.2.2.2.2.2.1
theorem dX7_readAttribute_57 : decode cX7_readAttribute 57 = .ok (.invokevirtual 64, 3) := dX7_readAttribute_33g.2.2.2.2.2.2.2.2.2.2.2.2.1
theorem dX7_readAttribute_60 : decode cX7_readAttribute 60 = .ok (.aload_n 0, 1) := dX7_readAttribute_33g.2.2.2.2.2.2.2.2.2.2.2.2.2.1
theorem dX7_readAttribute_61 : decode cX7_readAttribute 61 = .ok (.getfield 9, 3) := dX7_readAttribute_33g.2.2.2.2.2.2.2.2.2.2.2.2.2.2.1
theorem dX7_readAttribute_64 : decode cX7_readAttribute 64 = .ok (.aload_n 0, 1) := dX7_readAttribute_33g.2.2.2.2.2.2.2.2.2.2.2.2.2.2.2
theorem dX7_readAttribute_65g : decode cX7_readAttribute 65 = .ok (.getfield 29, 3) ∧ decode cX7_readAttribute 68 = .ok (.lload_n 1, 1) ∧ decode cX7_readAttribute 69 = .ok (.invokevirtual 124, 3) ∧ decode cX7_readAttribute 72 = .ok (.iconst 0, 1) ∧ decode cX7_readAttribute 73 = .ok (.istore_n 3, 1) ∧ decode cX7_readAttribute 74 = .ok (.iload_n 3, 1) ∧ decode cX7_readAttribute 75 = .ok (.aload_n 0, 1) ∧ decode cX7_readAttribute 76 = .ok (.getfield 19, 3) ∧ decode cX7_readAttribute 79 = .ok (.if_icmp .gt 67, 3) ∧ decode cX7_readAttribute 82 = .ok (.aload_n 0, 1) ∧ decode cX7_readAttribute 83 = .ok (.aload_n 0, 1) ∧ decode cX7_readAttribute 84 = .ok (.getfield 23, 3) ∧ decode cX7_readAttribute 87 = .ok (.invokevirtual 57, 3) ∧ decode cX7_readAttribute 90 = .ok (.bipush 34, 2) ∧ decode cX7_readAttribute 92 = .ok (.if_icmp .eq 54, 3) ∧ decode cX7_readAttribute 95 = .ok (.aload_n 0, 1) := by decide +kernel
theorem dX7_readAttribute_65 : decode cX7_readAttribute 65 = .ok (.getfield 29, 3) := dX7_readAttribute_65g.1
theorem dX7_readAttribute_68 : decode cX7_readAttribute 68 = .ok (.lload_n 1, 1) := dX7_readAttribute_65g.2.1
theorem dX7_readAttribute_69 : decode cX7_readAttribute 69 = .ok (.invokevirtual 124, 3) := dX7_readAttribute_65g.2.2.1
theorem dX7_readAttribute_72 : decode cX7_readAttribute 72 = .ok (.iconst 0, 1) := dX7_readAttribute_65g.2.2.2.1
theorem dX7_readAttribute_73 : decode cX7_readAttribute 73 = .ok (.istore_n 3, 1) := dX7_readAttribute_65g.2.2.2.2.1
theorem dX7_readAttribute_74 : decode cX7_readAttribute 74 = .ok (.iload_n 3, 1) := dX7_readAttribute_65g.2.2.2.2.2.1
theorem dX7_readAttribute_75 : decode cX7_readAttribute 75 = .ok (.aload_n 0, 1) := dX7_readAttribute_65g.2.2.2.2.2.2.1
theorem dX7_readAttribute_76 : decode cX7_readAttribute 76 = .ok (.getfield 19, 3) := dX7_readAttribute_65g.2.2.2.2.2.2.2.1
theorem dX7_readAttribute_79 : decode cX7_readAttribute 79 = .ok (.if_icmp .gt 67, 3) := dX7_readAttribute_65g.2.2.2.2.2.2.2.2.1
theorem dX7_readAttribute_82 : decode cX7_readAttribute 82 = .ok (.aload_n 0, 1) := dX7_readAttribute_65g.2.2.2.2.2.2.2.2.2.1
theorem dX7_readAttribute_83 : decode cX7_readAttribute 83 = .ok (.aload_n 0, 1) := dX7_readAttribute_65g.2.2.2.2.2.2.2.2.2.2.1
theorem dX7_readAttribute_84 : decode cX7_readAttribute 84 = .ok (.getfield 23, 3) := dX7_readAttribute_65g.2.2.2.2.2.2.2.2.2.2.2.1
theorem dX7_readAttribute_87 : decode cX7_readAttribute 87 = .ok (.invokevirtual 57, 3) := dX7_readAttribute_65g.2.2.2.2.2.2.2.2.2.2.2.2.1
theorem dX7_readAttribute_90 : decode cX7_readAttribute 90 = .ok (.bipush 34, 2) := dX7_readAttribute_65g.2.2.2.2.2.2.2.2.2.2.2.2.2.1
theorem dX7_readAttribute_92 : decode cX7_readAttribute 92 = .ok (.if_icmp .eq 54, 3) := dX7_readAttribute_65g.2.2.2.2.2.2.2.2.2.2.2.2.2.2.1
theorem dX7_readAttribute_95 : decode cX7_readAttribute 95 = .ok (.aload_n 0, 1) := dX7_readAttribute_65g.2.2.2.2.2.2.2.2.2.2.2.2.2.2.2
theorem dX7_readAttribute_96g : decode cX7_readAttribute 96 = .ok (.aload_n 0, 1) ∧ decode cX7_readAttribute 97 = .ok (.getfield 23, 3) ∧ decode cX7_readAttribute 100 = .ok (.invokevirtual 57, 3) ∧ decode cX7_readAttribute 103 = .ok (.bipush 60, 2) ∧ decode cX7_readAttribute 105 = .ok (.if_icmp .eq 17, 3) ∧ decode cX7_readAttribute 108 = .ok (.aload_n 0, 1) ∧ decode cX7_readAttribute 109 = .ok (.getfield 9, 3) ∧ decode cX7_readAttribute 112 = .ok (.aload_n 0, 1) ∧ decode cX7_readAttribute 113 = .ok (.invokevirtual 68, 3) ∧ decode cX7_readAttribute 116 = .ok (.invokevirtual 128, 3) ∧ decode cX7_readAttribute 119 = .ok (.ifCond .ne 11, 3) ∧ decode cX7_readAttribute 122 = .ok (.new 50, 3) ∧ decode cX7_readAttribute 125 = .ok (.dup, 1) ∧ decode cX7_readAttribute 126 = .ok (.invokespecial 52, 3) ∧ decode cX7_readAttribute 129 = .ok (.athrow, 1) ∧ decode cX7_readAttribute 130 = .ok (.aload_n 0, 1) := by decide +kernel
theorem dX7_readAttribute_96 : decode cX7_readAttribute 96 = .ok (.aload_n 0, 1) := dX7_readAttribute_96g.1
theorem dX7_readAttribute_97 : decode cX7_readAttribute 97 = .ok (.getfield 23, 3) := dX7_readAttribute_96g.2.1
theorem dX7_readAttribute_100 : decode cX7_readAttribute 100 = .ok (.invokevirtual 57, 3) := dX7_readAttribute_96g.2.2.1
theorem dX7_readAttribute_103 : decode cX7_readAttribute 103 = .ok (.bipush 60, 2) := dX7_readAttribute_96g.2.2.2.1
theorem dX7_readAttribute_105 : decode cX7_readAttribute 105 = .ok (.if_icmp .eq 17, 3) := dX7_readAttribute_96g.2.2.2.2.1
theorem dX7_readAttribute_108 : decode cX7_readAttribute 108 = .ok (.aload_n 0, 1) := dX7_readAttribute_96g.2.2.2.2.2.1
theorem dX7_readAttribute_109 : decode cX7_readAttribute 109 = .ok (.getfield 9, 3) := dX7_readAttribute_96g.2.2.2.2.2.2.1
theorem dX7_readAttribute_112 : decode cX7_readAttribute 112 = .ok (.aload_n 0, 1) := dX7_readAttribute_96g.2.2.2.2.2.2.2.1
theorem dX7_readAttribute_113 : decode cX7_readAttribute 113 = .ok (.invokevirtual 68, 3) := dX7_readAttribute_96g.2.2.2.2.2.2.2.2.1
theorem dX7_readAttribute_116 : decode cX7_readAttribute 116 = .ok (.invokevirtual 128, 3) := dX7_readAttribute_96g.2.2.2.2.2.2.2.2.2.1
theorem dX7_readAttribute_119 : decode cX7_readAttribute 119 = .ok (.ifCond .ne 11, 3) := dX7_readAttribute_96g.2.2.2.2.2.2.2.2.2.2.1
theorem dX7_readAttribute_122 : decode cX7_readAttribute 122 = .ok (.new 50, 3) := dX7_readAttribute_96g.2.2.2.2.2.2.2.2.2.2.2.1
theorem dX7_readAttribute_125 : decode cX7_readAttribute 125 = .ok (.dup, 1) := dX7_readAttribute_96g.2.2.2.2.2.2.2.2.2.2.2.2.1
theorem dX7_readAttribute_126 : decode cX7_readAttribute 126 = .ok (.invokespecial 52, 3) := dX7_readAttribute_96g.2.2.2.2.2.2.2.2.2.2.2.2.2.1
theorem dX7_readAttribute_129 : decode cX7_readAttribute 129 = .ok (.athrow, 1) := dX7_readAttribute_96g.2.2.2.2.2.2.2.2.2.2.2.2.2.2.1
theorem dX7_readAttribute_130 : decode cX7_readAttribute 130 = .ok (.aload_n 0, 1) := dX7_readAttribute_96g.2.2.2.2.2.2.2.2.2.2.2.2.2.2.2
theorem dX7_readAttribute_131g : decode cX7_readAttribute 131 = .ok (.dup, 1) ∧ decode cX7_readAttribute 132 = .ok (.getfield 23, 3) ∧ decode cX7_readAttribute 135 = .ok (.iconst 1, 1) ∧ decode cX7_readAttribute 136 = .ok (.iadd, 1) ∧ decode cX7_readAttribute 137 = .ok (.putfield 23, 3) ∧ decode cX7_readAttribute 140 = .ok (.iinc 3 1, 3) ∧ decode cX7_readAttribute 143 = .ok (.goto (-69), 3) ∧ decode cX7_readAttribute 146 = .ok (.aload_n 0, 1) ∧ decode cX7_readAttribute 147 = .ok (.bipush 34, 2) ∧ decode cX7_readAttribute 149 = .ok (.invokevirtual 64, 3) ∧ decode cX7_readAttribute 152 = .ok (.return_, 1) := by decide +kernel
theorem dX7_readAttribute_131 : decode cX7_readAttribute 131 = .ok (.dup, 1) := dX7_readAttribute_131g.1
theorem dX7_readAttribute_132 : decode cX7_readAttribute 132 = .ok (.getfield 23, 3) := dX7_readAttribute_131g.2.1
theorem dX7_readAttribute_135 : decode cX7_readAttribute 135 = .ok (.iconst 1, 1) := dX7_readAttribute_131g.2.2.1
theorem dX7_readAttribute_136 : decode cX7_readAttribute 136 = .ok (.iadd, 1) := dX7_readAttribute_131g.2.2.2.1
theorem dX7_readAttribute_137 : decode cX7_readAttribute 137 = .ok (.putfield 23, 3) := dX7_readAttribute_131g.2.2.2.2.1
theorem dX7_readAttribute_140 : decode cX7_readAttribute 140 = .ok (.iinc 3 1, 3) := dX7_readAttribute_131g.2.2.2.2.2.1
theorem dX7_readAttribute_143 : decode cX7_readAttribute 143 = .ok (.goto (-69), 3) := dX7_readAttribute_131g.2.2.2.2.2.2.1
theorem dX7_readAttribute_146 : decode cX7_readAttribute 146 = .ok (.aload_n 0, 1) := dX7_readAttribute_131g.2.2.2.2.2.2.2.1
theorem dX7_readAttribute_147 : decode cX7_readAttribute 147 = .ok (.bipush 34, 2) := dX7_readAttribute_131g.2.2.2.2.2.2.2.2.1
theorem dX7_readAttribute_149 : decode cX7_readAttribute 149 = .ok (.invokevirtual 64, 3) := dX7_readAttribute_131g.2.2.2.2.2.2.2.2.2.1
theorem dX7_readAttribute_152 : decode cX7_readAttribute 152 = .ok (.return_, 1) := dX7_readAttribute_131g.2.2.2.2.2.2.2.2.2.2
theorem dX7_readCharacter_0g : decode cX7_readCharacter 0 = .ok (.aload_n 0, 1) ∧ decode cX7_readCharacter 1 = .ok (.getfield 23, 3) ∧ decode cX7_readCharacter 4 = .ok (.aload_n 0, 1) ∧ decode cX7_readCharacter 5 = .ok (.getfield 19, 3) ∧ decode cX7_readCharacter 8 = .ok (.if_icmp .lt 11, 3) ∧ decode cX7_readCharacter 11 = .ok (.new 50, 3) ∧ decode cX7_readCharacter 14 = .ok (.dup, 1) ∧ decode cX7_readCharacter 15 = .ok (.invokespecial 52, 3) ∧ decode cX7_readCharacter 18 = .ok (.athrow, 1) ∧ decode cX7_readCharacter 19 = .ok (.aload_n 0, 1) ∧ decode cX7_readCharacter 20 = .ok (.getfield 15, 3) ∧ decode cX7_readCharacter 23 = .ok (.aload_n 0, 1) ∧ decode cX7_readCharacter 24 = .ok (.getfield 23, 3) ∧ decode cX7_readCharacter 27 = .ok (.caload, 1) ∧ decode cX7_readCharacter 28 = .ok (.bipush 38, 2) ∧ decode cX7_readCharacter 30 = .ok (.if_icmp .eq 13, 3) := by decide +kernel
theorem dX7_readCharacter_0 : decode cX7_readCharacter 0 = .ok (.aload_n 0, 1) := dX7_readCharacter_0g.1
theorem dX7_readCharacter_1 : decode cX7_readCharacter 1 = .ok (.getfield 23, 3) := dX7_readCharacter_0g.2.1
theorem dX7_readCharacter_4 : decode cX7_readCharacter 4 = .ok (.aload_n 0, 1) := dX7_readCharacter_0g.2.2.1
theorem dX7_readCharacter_5 : decode cX7_readCharacter 5 = .ok (.getfield 19, 3) := dX7_readCharacter_0g.2.2.2.1
theorem dX7_readCharacter_8 : decode cX7_readCharacter 8 = .ok (.if_icmp .lt 11, 3) := dX7_readCharacter_0g.2.2.2.2.1
theorem dX7_readCharacter_11 : decode cX7_readCharacter 11 = .ok (.new 50, 3) := dX7_readCharacter_0g.2.2.2.2.2.1
theorem dX7_readCharacter_14 : decode cX7_readCharacter 14 = .ok (.dup, 1) := dX7_readCharacter_0g.2.2.2.2.2.2.1
theorem dX7_readCharacter_15 : decode cX7_readCharacter 15 = .ok (.invokespecial 52, 3) := dX7_readCharacter_0g.2.2.2.2.2.2.2.1
theorem dX7_readCharacter_18 : decode cX7_readCharacter 18 = .ok (.athrow, 1) := dX7_readCharacter_0g.2.2.2.2.2.2.2.2.1
theorem dX7_readCharacter_19 : decode cX7_readCharacter 19 = .ok (.aload_n 0, 1) := dX7_readCharacter_0g.2.2.2.2.2.2.2.2.2.1
theorem dX7_readCharacter_20 : decode cX7_readCharacter 20 = .ok (.getfield 15, 3) := dX7_readCharacter_0g.2.2.2.2.2.2.2.2.2.2.1
theorem dX7_readCharacter_23 : decode cX7_readCharacter 23 = .ok (.aload_n 0, 1) := dX7_readCharacter_0g.2.2.2.2.2.2.2.2.2.2.2.1
theorem dX7_readCharacter_24 : decode cX7_readCharacter 24 = .ok (.getfield 23, 3) := dX7_readCharacter_0g.2.2.2.2.2.2.2.2.2.2.2.2.1
theorem dX7_readCharacter_27 : decode cX7_readCharacter 27 = .ok (.caload, 1) := dX7_readCharacter_0g.2.2.2.2.2.2.2.2.2.2.2.2.2.1
theorem dX7_readCharacter_28 : decode cX7_readCharacter 28 = .ok (.bipush 38, 2) := dX7_readCharacter_0g.2.2.2.2.2.2.2.2.2.2.2.2.2.2.1
theorem dX7_readCharacter_30 : decode cX7_readCharacter 30 = .ok (.if_icmp .eq 13, 3) := dX7_readCharacter_0g.2.2.2.2.2.2.2.2.2.2.2.2.2.2.2
theorem dX7_readCharacter_33g : decode cX7_readCharacter 33 = .ok (.aload_n 0, 1) ∧ decode cX7_readCharacter 34 = .ok (.getfield 15, 3) ∧ decode cX7_readCharacter 37 = .ok (.aload_n 0, 1) ∧ decode cX7_readCharacter 38 = .ok (.getfield 23, 3) ∧ decode cX7_readCharacter 41 = .ok (.caload, 1) ∧ decode cX7_readCharacter 42 = .ok (.ireturn, 1) ∧ decode cX7_readCharacter 43 = .ok (.aload_n 0, 1) ∧ decode cX7_readCharacter 44 = .ok (.dup, 1) ∧ decode cX7_readCharacter 45 = .ok (.getfield 23, 3) ∧ decode cX7_readCharacter 48 = .ok (.iconst 1, 1) ∧ decode cX7_readCharacter 49 = .ok (.iadd, 1) ∧ decode cX7_readCharacter 50 = .ok (.putfield 23, 3) ∧ decode cX7_readCharacter 53 = .ok (.aload_n 0, 1) ∧ decode cX7_readCharacter 54 = .ok (.aload_n 0, 1) ∧ decode cX7_readCharacter 55 = .ok (.getfield 23, 3) ∧ decode cX7_readCharacter 58 = .ok (.invokevirtual 57, 3) := by decide +kernel
theorem dX7_readCharacter_33 : decode cX7_readCharacter 33 = .ok (.aload_n 0, 1) := dX7_readCharacter_33g.1
theorem dX7_readCharacter_34 : decode cX7_readCharacter 34 = .ok (.getfield 15, 3) := dX7_readCharacter_33g.2.1
theorem dX7_readCharacter_37 : decode cX7_readCharacter 37 = .ok (.aload_n 0, 1) := dX7_readCharacter_33g.2.2.1
theorem dX7_readCharacter_38 : decode cX7_readCharacter 38 = .ok (.getfield 23, 3) := dX7_readCharacter_33g.2.2.2.1
theorem dX7_readCharacter_41 : decode cX7_readCharacter 41 = .ok (.caload, 1) := dX7_readCharacter_33g.2.2.2.2.1
theorem dX7_readCharacter_42 : decode cX7_readCharacter 42 = .ok (.ireturn, 1) := dX7_readCharacter_33g.2.2.2.2.2.1
theorem dX7_readCharacter_43 : decode cX7_readCharacter 43 = .ok (.aload_n 0, 1) := dX7_readCharacter_33g.2.2.2.2.2.2.1
theorem dX7_readCharacter_44 : decode cX7_readCharacter 44 = .ok (.dup, 1) := dX7_readCharacter_33g.2.2.2.2.2.2.2.1
theorem dX7_readCharacter_45 : decode cX7_readCharacter 45 = .ok (.getfield 23, 3) := dX7_readCharacter_33g.2.2.2.2.2.2.2.2.1
theorem dX7_readCharacter_48 : decode cX7_readCharacter 48 = .ok (.iconst 1, 1) := dX7_readCharacter_33g.2.2.2.2.2.2.2.2.2.1
theorem dX7_readCharacter_49 : decode cX7_readCharacter 49 = .ok (.iadd, 1) := dX7_readCharacter_33g.2.2.2.2.2.2.2.2.2.2.1
theorem dX7_readCharacter_50 : decode cX7_readCharacter 50 = .ok (.putfield 23, 3) := dX7_readCharacter_33g.2.2.2.2.2.2.2.2.2.2.2.1
theorem dX7_readCharacter_53 : decode cX7_readCharacter 53 = .ok (.aload_n 0, 1) := dX7_readCharacter_33g.2.2.2.2.2.2.2.2.2.2.2.2.1
theorem dX7_readCharacter_54 : decode cX7_readCharacter 54 = .ok (.aload_n 0, 1) := dX7_readCharacter_33g.2.2.2.2.2.2.2.2.2.2.2.2.2.1
theorem dX7_readCharacter_55 : decode cX7_readCharacter 55 = .ok (.getfield 23, 3) := dX7_readCharacter_33g.2.2.2.2.2.2.2.2.2.2.2.2.2.2.1
theorem dX7_readCharacter_58 : decode cX7_readCharacter 58 = .ok (.invokevirtual 57, 3) := dX7_readCharacter_33g.2.2.2.2.2.2.2.2.2.2.2.2.2.2.2
theorem dX7_readCharacter_61g : decode cX7_readCharacter 61 = .ok (.lookupswitch 105 #[(97, 70), (103, 52), (108, 43), (113, 61)], 43) ∧ decode cX7_readCharacter 104 = .ok (.aload_n 0, 1) ∧ decode cX7_readCharacter 105 = .ok (.ldc 131, 2) ∧ decode cX7_readCharacter 107 = .ok (.bipush 60, 2) ∧ decode cX7_readCharacter 109 = .ok (.invokevirtual 133, 3) ∧ decode cX7_readCharacter 112 = .ok (.ireturn, 1) ∧ decode cX7_readCharacter 113 = .ok (.aload_n 0, 1) ∧ decode cX7_readCharacter 114 = .ok (.ldc 137, 2) ∧ decode cX7_readCharacter 116 = .ok (.bipush 62, 2) ∧ decode cX7_readCharacter 118 = .ok (.invokevirtual 133, 3) ∧ decode cX7_readCharacter 121 = .ok (.ireturn, 1) ∧ decode cX7_readCharacter 122 = .ok (.aload_n 0, 1) ∧ decode cX7_readCharacter 123 = .ok (.ldc 139, 2) ∧ decode cX7_readCharacter 125 = .ok (.bipush 34, 2) ∧ decode cX7_readCharacter 127 = .ok (.invokevirtual 133, 3) ∧ decode cX7_readCharacter 130 = .ok (.ireturn, 1) := by decide +kernel
theorem dX7_readCharacter_61 : decode cX7_readCharacter 61 = .ok (.lookupswitch 105 #[(97, 70), (103, 52), (108, 43), (113, 61)], 43) := dX7_readCharacter_61g.1
theorem dX7_readCharacter_104 : decode cX7_readCharacter 104 = .ok (.aload_n 0, 1) := dX7_readCharacter_61g.2.1
theorem dX7_readCharacter_105 : decode cX7_readCharacter 105 = .ok (.ldc 131, 2) := dX7_readCharacter_61g.2.2.1
theorem dX7_readCharacter_107 : decode cX7_readCharacter 107 = .ok (.bipush 60, 2) := dX7_readCharacter_61g.2.2.2.1
theorem dX7_readCharacter_109 : decode cX7_readCharacter 109 = .ok (.invokevirtual 133, 3) := dX7_readCharacter_61g.2.2.2.2.1
theorem dX7_readCharacter_112 : decode cX7_readCharacter 112 = .ok (.ireturn, 1) := dX7_readCharacter_61g.2.2.2.2.2.1
theorem dX7_readCharacter_113 : decode cX7_readCharacter 113 = .ok (.aload_n 0, 1) := dX7_readCharacter_61g.2.2.2.2.2.2.1
theorem dX7_readCharacter_114 : decode cX7_readCharacter 114 = .ok (.ldc 137, 2) := dX7_readCharacter_61g.2.2.2.2.2.2.2.1
theorem dX7_readCharacter_116 : decode cX7_readCharacter 116 = .ok (.bipush 62, 2) := dX7_readCharacter_61g.2.2.2.2.2.2.2.2.1
theorem dX7_readCharacter_118 : decode cX7_readCharacter 118 = .ok (.invokevirtual 133, 3) := dX7_readCharacter_61g.2.2.2.2.2.2.2.2.2.1
theorem dX7_readCharacter_121 : decode cX7_readCharacter 121 = .ok (.ireturn, 1) := dX7_readCharacter_61g.2.2.2.2.2.2.2.2.2.2.1
theorem dX7_readCharacter_122 : decode cX7_readCharacter 122 = .ok (.aload_n 0, 1) := dX7_readCharacter_61g.2.2.2.2.2.2.2.2.2.2.2.1
theorem dX7_readCharacter_123 : decode cX7_readCharacter 123 = .ok (.ldc 139, 2) := dX7_readCharacter_61g.2.2.2.2.2.2.2.2.2.2.2.2.1
theorem dX7_readCharacter_125 : decode cX7_readCharacter 125 = .ok (.bipush 34, 2) := dX7_readCharacter_61g.2.2.2.2.2.2.2.2.2.2.2.2.2.1
theorem dX7_readCharacter_127 : decode cX7_readCharacter 127 = .ok (.invokevirtual 133, 3) := dX7_readCharacter_61g.2.2.2.2.2.2.2.2.2.2.2.2.2.2.1
theorem dX7_readCharacter_130 : decode cX7_readCharacter 130 = .ok (.ireturn, 1) := dX7_readCharacter_61g.2.2.2.2.2.2.2.2.2.2.2.2.2.2.2
theorem dX7_readCharacter_131g : decode cX7_readCharacter 131 = .ok (.aload_n 0, 1) ∧ decode cX7_readCharacter 132 = .ok (.aload_n 0, 1) ∧ decode cX7_readCharacter 133 = .ok (.getfield 23, 3) ∧ decode cX7_readCharacter 136 = .ok (.iconst 1, 1) ∧ decode cX7_readCharacter 137 = .ok (.iadd, 1) ∧ decode cX7_readCharacter 138 = .ok (.invokevirtual 57, 3) ∧ decode cX7_readCharacter 141 = .ok (.bipush 109, 2) ∧ decode cX7_readCharacter 143 = .ok (.if_icmp .ne 14, 3) ∧ decode cX7_readCharacter 146 = .ok (.aload_n 0, 1) ∧ decode cX7_readCharacter 147 = .ok (.ldc 141, 2) ∧ decode cX7_readCharacter 149 = .ok (.bipush 38, 2) ∧ decode cX7_readCharacter 151 = .ok (.invokevirtual 133, 3) ∧ decode cX7_readCharacter 154 = .ok (.goto 11, 3) ∧ decode cX7_readCharacter 157 = .ok (.aload_n 0, 1) ∧ decode cX7_readCharacter 158 = .ok (.ldc 143, 2) ∧ decode cX7_readCharacter 160 = .ok (.bipush 39, 2) := by decide +kernel
theorem dX7_readCharacter_131 : decode cX7_readCharacter 131 = .ok (.aload_n 0, 1) := dX7_readCharacter_131g.1
theorem dX7_readCharacter_132 : decode cX7_readCharacter 132 = .ok (.aload_n 0, 1) := dX7_readCharacter_131g.2.1
theorem dX7_readCharacter_133 : decode cX7_readCharacter 133 = .ok (.getfield 23, 3) := dX7_readCharacter_131g.2.2.1
theorem dX7_readCharacter_136 : decode cX7_readCharacter 136 = .ok (.iconst 1, 1) := dX7_readCharacter_131g.2.2.2.1
theorem dX7_readCharacter_137 : decode cX7_readCharacter 137 = .ok (.iadd, 1) := dX7_readCharacter_131g.2.2.2.2.1
theorem dX7_readCharacter_138 : decode cX7_readCharacter 138 = .ok (.invokevirtual 57, 3) := dX7_readCharacter_131g.2.2.2.2.2.1
theorem dX7_readCharacter_141 : decode cX7_readCharacter 141 = .ok (.bipush 109, 2) := dX7_readCharacter_131g.2.2.2.2.2.2.1
theorem dX7_readCharacter_143 : decode cX7_readCharacter 143 = .ok (.if_icmp .ne 14, 3) := dX7_readCharacter_131g.2.2.2.2.2.2.2.1
theorem dX7_readCharacter_146 : decode cX7_readCharacter 146 = .ok (.aload_n 0, 1) := dX7_readCharacter_131g.2.2.2.2.2.2.2.2.1
theorem dX7_readCharacter_147 : decode cX7_readCharacter 147 = .ok (.ldc 141, 2) := dX7_readCharacter_131g.2.2.2.2.2.2.2.2.2.1
theorem dX7_readCharacter_149 : decode cX7_readCharacter 149 = .ok (.bipush 38, 2) := dX7_readCharacter_131g.2.2.2.2.2.2.2.2.2.2.1
theorem dX7_readCharacter_151 : decode cX7_readCharacter 151 = .ok (.invokevirtual 133, 3) := dX7_readCharacter_131g.2.2.2.2.2.2.2.2.2.2.2.1
theorem dX7_readCharacter_154 : decode cX7_readCharacter 154 = .ok (.goto 11, 3) := dX7_readCharacter_131g.2.2.2.2.2.2.2.2.2.2.2.2.1
theorem dX7_readCharacter_157 : decode cX7_readCharacter 157 = .ok (.aload_n 0, 1) := dX7_readCharacter_131g.2.2.2.2.2.2.2.2.2.2.2.2.2.1
theorem dX7_readCharacter_158 : decode cX7_readCharacter 158 = .ok (.ldc 143, 2) := dX7_readCharacter_131g.2.2.2.2.2.2.2.2.2.2.2.2.2.2.1
theorem dX7_readCharacter_160 : decode cX7_readCharacter 160 = .ok (.bipush 39, 2) := dX7_readCharacter_131g.2.2.2.2.2.2.2.2.2.2.2.2.2.2.2
theorem dX7_readCharacter_162g : decode cX7_readCharacter 162 = .ok (.invokevirtual 133, 3) ∧ decode cX7_readCharacter 165 = .ok (.ireturn, 1) ∧ decode cX7_readCharacter 166 = .ok (.aload_n 0, 1) ∧ decode cX7_readCharacter 167 = .ok (.bipush 35, 2) ∧ decode cX7_readCharacter 169 = .ok (.invokevirtual 64, 3) ∧ decode cX7_readCharacter 172 = .ok (.aload_n 0, 1) ∧ decode cX7_readCharacter 173 = .ok (.invokevirtual 145, 3) ∧ decode cX7_readCharacter 176 = .ok (.ireturn, 1) := by decide +kernel
theorem dX7_readCharacter_162 : decode cX7_readCharacter 162 = .ok (.invokevirtual 133, 3) := dX7_readCharacter_162g.1
theorem dX7_readCharacter_165 : decode cX7_readCharacter 165 = .ok (.ireturn, 1) := dX7_readCharacter_162g.2.1
theorem dX7_readCharacter_166 : decode cX7_readCharacter 166 = .ok (.aload_n 0, 1) := dX7_readCharacter_162g.2.2.1
theorem dX7_readCharacter_167 : decode cX7_readCharacter 167 = .ok (.bipush 35, 2) := dX7_readCharacter_162g.2.2.2.1
theorem dX7_readCharacter_169 : decode cX7_readCharacter 169 = .ok (.invokevirtual 64, 3) := dX7_readCharacter_162g.2.2.2.2.1
theorem dX7_readCharacter_172 : decode cX7_readCharacter 172 = .ok (.aload_n 0, 1) := dX7_readCharacter_162g.2.2.2.2.2.1
theorem dX7_readCharacter_173 : decode cX7_readCharacter 173 = .ok (.invokevirtual 145, 3) := dX7_readCharacter_162g.2.2.2.2.2.2.1
theorem dX7_readCharacter_176 : decode cX7_readCharacter 176 = .ok (.ireturn, 1) := dX7_readCharacter_162g.2.2.2.2.2.2.2
theorem dX7_readEntity_0g : decode cX7_readEntity 0 = .ok (.iconst 0, 1) ∧ decode cX7_readEntity 1 = .ok (.istore_n 3, 1) ∧ decode cX7_readEntity 2 = .ok (.iload_n 3, 1) ∧ decode cX7_readEntity 3 = .ok (.aload_n 1, 1) ∧ decode cX7_readEntity 4 = .ok (.invokevirtual 148, 3) ∧ decode cX7_readEntity 7 = .ok (.if_icmp .ge 18, 3) ∧ decode cX7_readEntity 10 = .ok (.aload_n 0, 1) ∧ decode cX7_readEntity 11 = .ok (.aload_n 1, 1) ∧ decode cX7_readEntity 12 = .ok (.iload_n 3, 1) ∧ decode cX7_readEntity 13 = .ok (.invokevirtual 153, 3) ∧ decode cX7_readEntity 16 = .ok (.invokevirtual 64, 3) ∧ decode cX7_readEntity 19 = .ok (.iinc 3 1, 3) ∧ decode cX7_readEntity 22 = .ok (.goto (-20), 3) ∧ decode cX7_readEntity 25 = .ok (.aload_n 0, 1) ∧ decode cX7_readEntity 26 = .ok (.aload_n 0, 1) ∧ decode cX7_readEntity 27 = .ok (.getfield 23, 3) := by decide +kernel
theorem dX7_readEntity_0 : decode cX7_readEntity 0 = .ok (.iconst 0, 1) := dX7_readEntity_0g.1
theorem dX7_readEntity_1 : decode cX7_readEntity 1 = .ok (.istore_n 3, 1) := dX7_readEntity_0g.2.1
theorem dX7_readEntity_2 : decode cX7_readEntity 2 = .ok (.iload_n 3, 1) := dX7_readEntity_0g.2.2.1
theorem dX7_readEntity_3 : decode cX7_readEntity 3 = .ok (.aload_n 1, 1) := dX7_readEntity_0g.2.2.2.1
theorem dX7_readEntity_4 : decode cX7_readEntity 4 = .ok (.invokevirtual 148, 3) := dX7_readEntity_0g.2.2.2.2.1
theorem dX7_readEntity_7 : decode cX7_readEntity 7 = .ok (.if_icmp .ge 18, 3) := dX7_readEntity_0g.2.2.2.2.2.1
theorem dX7_readEntity_10 : decode cX7_readEntity 10 = .ok (.aload_n 0, 1) := dX7_readEntity_0g.2.2.2.2.2.2.1
theorem dX7_readEntity_11 : decode cX7_readEntity 11 = .ok (.aload_n 1, 1) := dX7_readEntity_0g.2.2.2.2.2.2.2.1
theorem dX7_readEntity_12 : decode cX7_readEntity 12 = .ok (.iload_n 3, 1) := dX7_readEntity_0g.2.2.2.2.2.2.2.2.1
theorem dX7_readEntity_13 : decode cX7_readEntity 13 = .ok (.invokevirtual 153, 3) := dX7_readEntity_0g.2.2.2.2.2.2.2.2.2.1
theorem dX7_readEntity_16 : decode cX7_readEntity 16 = .ok (.invokevirtual 64, 3) := dX7_readEntity_0g.2.2.2.2.2.2.2.2.2.2.1
theorem dX7_readEntity_19 : decode cX7_readEntity 19 = .ok (.iinc 3 1, 3) := dX7_readEntity_0g.2.2.2.2.2.2.2.2.2.2.2.1
theorem dX7_readEntity_22 : decode cX7_readEntity 22 = .ok (.goto (-20), 3) := dX7_readEntity_0g.2.2.2.2.2.2.2.2.2.2.2.2.1
theorem dX7_readEntity_25 : decode cX7_readEntity 25 = .ok (.aload_n 0, 1) := dX7_readEntity_0g.2.2.2.2.2.2.2.2.2.2.2.2.2.1
theorem dX7_readEntity_26 : decode cX7_readEntity 26 = .ok (.aload_n 0, 1) := dX7_readEntity_0g.2.2.2.2.2.2.2.2.2.2.2.2.2.2.1
theorem dX7_readEntity_27 : decode cX7_readEntity 27 = .ok (.getfield 23, 3) := dX7_readEntity_0g.2.2.2.2.2.2.2.2.2.2.2.2.2.2.2
theorem dX7_readEntity_30g : decode cX7_readEntity 30 = .ok (.invokevirtual 57, 3) ∧ decode cX7_readEntity 33 = .ok (.bipush 59, 2) ∧ decode cX7_readEntity 35 = .ok (.if_icmp .eq 11, 3) ∧ decode cX7_readEntity 38 = .ok (.new 50, 3) ∧ decode cX7_readEntity 41 = .ok (.dup, 1) ∧ decode cX7_readEntity 42 = .ok (.invokespecial 52, 3) ∧ decode cX7_readEntity 45 = .ok (.athrow, 1) ∧ decode cX7_readEntity 46 = .ok (.iload_n 2, 1) ∧ decode cX7_readEntity 47 = .ok (.ireturn, 1) := by decide +kernel
theorem dX7_readEntity_30 : decode cX7_readEntity 30 = .ok (.invokevirtual 57, 3) := dX7_readEntity_30g.1
theorem dX7_readEntity_33 : decode cX7_readEntity 33 = .ok (.bipush 59, 2) := dX7_readEntity_30g.2.1
theorem dX7_readEntity_35 : decode cX7_readEntity 35 = .ok (.if_icmp .eq 11, 3) := dX7_readEntity_30g.2.2.1
theorem dX7_readEntity_38 : decode cX7_readEntity 38 = .ok (.new 50, 3) := dX7_readEntity_30g.2.2.2.1
theorem dX7_readEntity_41 : decode cX7_readEntity 41 = .ok (.dup, 1) := dX7_readEntity_30g.2.2.2.2.1
theorem dX7_readEntity_42 : decode cX7_readEntity 42 = .ok (.invokespecial 52, 3) := dX7_readEntity_30g.2.2.2.2.2.1
theorem dX7_readEntity_45 : decode cX7_readEntity 45 = .ok (.athrow, 1) := dX7_readEntity_30g.2.2.2.2.2.2.1
theorem dX7_readEntity_46 : decode cX7_readEntity 46 = .ok (.iload_n 2, 1) := dX7_readEntity_30g.2.2.2.2.2.2.2.1
theorem dX7_readEntity_47 : decode cX7_readEntity 47 = .ok (.ireturn, 1) := dX7_readEntity_30g.2.2.2.2.2.2.2.2
theorem dX7_readNumbered_0g : decode cX7_readNumbered 0 = .ok (.iconst 0, 1) ∧ decode cX7_readNumbered 1 = .ok (.istore_n 1, 1) ∧ decode cX7_readNumbered 2 = .ok (.iconst 0, 1) ∧ decode cX7_readNumbered 3 = .ok (.istore_n 2, 1) ∧ decode cX7_readNumbered 4 = .ok (.iload_n 2, 1) ∧ decode cX7_readNumbered 5 = .ok (.iconst 3, 1) ∧ decode cX7_readNumbered 6 = .ok (.if_icmp .ge 62, 3) ∧ decode cX7_readNumbered 9 = .ok (.aload_n 0, 1) ∧ decode cX7_readNumbered 10 = .ok (.aload_n 0, 1) ∧ decode cX7_readNumbered 11 = .ok (.getfield 23, 3) ∧ decode cX7_readNumbered 14 = .ok (.invokevirtual 57, 3) ∧ decode cX7_readNumbered 17 = .ok (.bipush 48, 2) ∧ decode cX7_readNumbered 19 = .ok (.if_icmp .lt 49, 3) ∧ decode cX7_readNumbered 22 = .ok (.aload_n 0, 1) ∧ decode cX7_readNumbered 23 = .ok (.aload_n 0, 1) ∧ decode cX7_readNumbered 24 = .ok (.getfield 23, 3) := by decide +kernel
theorem dX7_readNumbered_0 : decode cX7_readNumbered 0 = .ok (.iconst 0, 1) := dX7_readNumbered_0g.1
theorem dX7_readNumbered_1 : decode cX7_readNumbered 1 = .ok (.istore_n 1, 1) := dX7_readNumbered_0g.2.1
theorem dX7_readNumbered_2 : decode cX7_readNumbered 2 = .ok (.iconst 0, 1) := dX7_readNumbered_0g.2.2.1
theorem dX7_readNumbered_3 : decode cX7_readNumbered 3 = .ok (.istore_n 2, 1) := dX7_readNumbered_0g.2.2.2.1
theorem dX7_readNumbered_4 : decode cX7_readNumbered 4 = .ok (.iload_n 2, 1) := dX7_readNumbered_0g.2.2.2.2.1
theorem dX7_readNumbered_5 : decode cX7_readNumbered 5 = .ok (.iconst 3, 1) := dX7_readNumbered_0g.2.2.2.2.2.1
theorem dX7_readNumbered_6 : decode cX7_readNumbered 6 = .ok (.if_icmp .ge 62, 3) := dX7_readNumbered_0g.2.2.2.2.2.2.1
theorem dX7_readNumbered_9 : decode cX7_readNumbered 9 = .ok (.aload_n 0, 1) := dX7_readNumbered_0g.2.2.2.2.2.2.2.1
theorem dX7_readNumbered_10 : decode cX7_readNumbered 10 = .ok (.aload_n 0, 1) := dX7_readNumbered_0g.2.2.2.2.2.2.2.2.1
theorem dX7_readNumbered_11 : decode cX7_readNumbered 11 = .ok (.getfield 23, 3) := dX7_readNumbered_0g.2.2.2.2.2.2.2.2.2.1
theorem dX7_readNumbered_14 : decode cX7_readNumbered 14 = .ok (.invokevirtual 57, 3) := dX7_readNumbered_0g.2.2.2.2.2.2.2.2.2.2.1
theorem dX7_readNumbered_17 : decode cX7_readNumbered 17 = .ok (.bipush 48, 2) := dX7_readNumbered_0g.2.2.2.2.2.2.2.2.2.2.2.1
theorem dX7_readNumbered_19 : decode cX7_readNumbered 19 = .ok (.if_icmp .lt 49, 3) := dX7_readNumbered_0g.2.2.2.2.2.2.2.2.2.2.2.2.1
theorem dX7_readNumbered_22 : decode cX7_readNumbered 22 = .ok (.aload_n 0, 1) := dX7_readNumbered_0g.2.2.2.2.2.2.2.2.2.2.2.2.2.1
theorem dX7_readNumbered_23 : decode cX7_readNumbered 23 = .ok (.aload_n 0, 1) := dX7_readNumbered_0g.2.2.2.2.2.2.2.2.2.2.2.2.2.2.1
theorem dX7_readNumbered_24 : decode cX7_readNumbered 24 = .ok (.getfield 23, 3) := dX7_readNumbered_0g.2.2.2.2.2.2.2.2.2.2.2.2.2.2.2
theorem dX7_readNumbered_27g : decode cX7_readNumbered 27 = .ok (.invokevirtual 57, 3) ∧ decode cX7_readNumbered 30 = .ok (.bipush 57, 2) ∧ decode cX7_readNumbered 32 = .ok (.if_icmp .gt 36, 3) ∧ decode cX7_readNumbered 35 = .ok (.iload_n 1, 1) ∧ decode cX7_readNumbered 36 = .ok (.bipush 10, 2) ∧ decode cX7_readNumbered 38 = .ok (.imul, 1) ∧ decode cX7_readNumbered 39 = .ok (.aload_n 0, 1) ∧ decode cX7_readNumbered 40 = .ok (.aload_n 0, 1) ∧ decode cX7_readNumbered 41 = .ok (.getfield 23, 3) ∧ decode cX7_readNumbered 44 = .ok (.invokevirtual 57, 3) ∧ decode cX7_readNumbered 47 = .ok (.bipush 48, 2) ∧ decode cX7_readNumbered 49 = .ok (.isub, 1) ∧ decode cX7_readNumbered 50 = .ok (.iadd, 1) ∧ decode cX7_readNumbered 51 = .ok (.istore_n 1, 1) ∧ decode cX7_readNumbered 52 = .ok (.iinc 2 1, 3) ∧ decode cX7_readNumbered 55 = .ok (.aload_n 0, 1) := by decide +kernel
theorem dX7_readNumbered_27 : decode cX7_readNumbered 27 = .ok (.invokevirtual 57, 3) := dX7_readNumbered_27g.1
theorem dX7_readNumbered_30 : decode cX7_readNumbered 30 = .ok (.bipush 57, 2) := dX7_readNumbered_27g.2.1
theorem dX7_readNumbered_32 : decode cX7_readNumbered 32 = .ok (.if_icmp .gt 36, 3) := dX7_readNumbered_27g.2.2.1
theorem dX7_readNumbered_35 : decode cX7_readNumbered 35 = .ok (.iload_n 1, 1) := dX7_readNumbered_27g.2.2.2.1
theorem dX7_readNumbered_36 : decode cX7_readNumbered 36 = .ok (.bipush 10, 2) := dX7_readNumbered_27g.2.2.2.2.1
theorem dX7_readNumbered_38 : decode cX7_readNumbered 38 = .ok (.imul, 1) := dX7_readNumbered_27g.2.2.2.2.2.1
theorem dX7_readNumbered_39 : decode cX7_readNumbered 39 = .ok (.aload_n 0, 1) := dX7_readNumbered_27g.2.2.2.2.2.2.1
theorem dX7_readNumbered_40 : decode cX7_readNumbered 40 = .ok (.aload_n 0, 1) := dX7_readNumbered_27g.2.2.2.2.2.2.2.1
theorem dX7_readNumbered_41 : decode cX7_readNumbered 41 = .ok (.getfield 23, 3) := dX7_readNumbered_27g.2.2.2.2.2.2.2.2.1
theorem dX7_readNumbered_44 : decode cX7_readNumbered 44 = .ok (.invokevirtual 57, 3) := dX7_readNumbered_27g.2.2.2.2.2.2.2.2.2.1
theorem dX7_readNumbered_47 : decode cX7_readNumbered 47 = .ok (.bipush 48, 2) := dX7_readNumbered_27g.2.2.2.2.2.2.2.2.2.2.1
theorem dX7_readNumbered_49 : decode cX7_readNumbered 49 = .ok (.isub, 1) := dX7_readNumbered_27g.2.2.2.2.2.2.2.2.2.2.2.1
theorem dX7_readNumbered_50 : decode cX7_readNumbered 50 = .ok (.iadd, 1) := dX7_readNumbered_27g.2.2.2.2.2.2.2.2.2.2.2.2.1
theorem dX7_readNumbered_51 : decode cX7_readNumbered 51 = .ok (.istore_n 1, 1) := dX7_readNumbered_27g.2.2.2.2.2.2.2.2.2.2.2.2.2.1
theorem dX7_readNumbered_52 : decode cX7_readNumbered 52 = .ok (.iinc 2 1, 3) := dX7_readNumbered_27g.2.2.2.2.2.2.2.2.2.2.2.2.2.2.1
theorem dX7_readNumbered_55 : decode cX7_readNumbered 55 = .ok (.aload_n 0, 1) := dX7_readNumbered_27g.2.2.2.2.2.2.2.2.2.2.2.2.2.2.2
theorem dX7_readNumbered_56g : decode cX7_readNumbered 56 = .ok (.dup, 1) ∧ decode cX7_readNumbered 57 = .ok (.getfield 23, 3) ∧ decode cX7_readNumbered 60 = .ok (.iconst 1, 1) ∧ decode cX7_readNumbered 61 = .ok (.iadd, 1) ∧ decode cX7_readNumbered 62 = .ok (.putfield 23, 3) ∧ decode cX7_readNumbered 65 = .ok (.goto (-61), 3) ∧ decode cX7_readNumbered 68 = .ok (.iload_n 2, 1) ∧ decode cX7_readNumbered 69 = .ok (.ifCond .eq 28, 3) ∧ decode cX7_readNumbered 72 = .ok (.aload_n 0, 1) ∧ decode cX7_readNumbered 73 = .ok (.aload_n 0, 1) ∧ decode cX7_readNumbered 74 = .ok (.getfield 23, 3) ∧ decode cX7_readNumbered 77 = .ok (.invokevirtual 57, 3) ∧ decode cX7_readNumbered 80 = .ok (.bipush 59, 2) ∧ decode cX7_readNumbered 82 = .ok (.if_icmp .ne 15, 3) ∧ decode cX7_readNumbered 85 = .ok (.iload_n 1, 1) ∧ decode cX7_readNumbered 86 = .ok (.bipush 32, 2) := by decide +kernel
theorem dX7_readNumbered_56 : decode cX7_readNumbered 56 = .ok (.dup, 1) := dX7_readNumbered_56g.1
theorem dX7_readNumbered_57 : decode cX7_readNumbered 57 = .ok (.getfield 23, 3) := dX7_readNumbered_56g.2.1
theorem dX7_readNumbered_60 : decode cX7_readNumbered 60 = .ok (.iconst 1, 1) := dX7_readNumbered_56g.2.2.1
theorem dX7_readNumbered_61 : decode cX7_readNumbered 61 = .ok (.iadd, 1) := dX7_readNumbered_56g.2.2.2.1
theorem dX7_readNumbered_62 : decode cX7_readNumbered 62 = .ok (.putfield 23, 3) := dX7_readNumbered_56g.2.2.2.2.1
theorem dX7_readNumbered_65 : decode cX7_readNumbered 65 = .ok (.goto (-61), 3) := dX7_readNumbered_56g.2.2.2.2.2.1
theorem dX7_readNumbered_68 : decode cX7_readNumbered 68 = .ok (.iload_n 2, 1) := dX7_readNumbered_56g.2.2.2.2.2.2.1
theorem dX7_readNumbered_69 : decode cX7_readNumbered 69 = .ok (.ifCond .eq 28, 3) := dX7_readNumbered_56g.2.2.2.2.2.2.2.1
theorem dX7_readNumbered_72 : decode cX7_readNumbered 72 = .ok (.aload_n 0, 1) := dX7_readNumbered_56g.2.2.2.2.2.2.2.2.1
theorem dX7_readNumbered_73 : decode cX7_readNumbered 73 = .ok (.aload_n 0, 1) := dX7_readNumbered_56g.2.2.2.2.2.2.2.2.2.1
theorem dX7_readNumbered_74 : decode cX7_readNumbered 74 = .ok (.getfield 23, 3) := dX7_readNumbered_56g.2.2.2.2.2.2.2.2.2.2.1
theorem dX7_readNumbered_77 : decode cX7_readNumbered 77 = .ok (.invokevirtual 57, 3) := dX7_readNumbered_56g.2.2.2.2.2.2.2.2.2.2.2.1
theorem dX7_readNumbered_80 : decode cX7_readNumbered 80 = .ok (.bipush 59, 2) := dX7_readNumbered_56g.2.2.2.2.2.2.2.2.2.2.2.2.1
theorem dX7_readNumbered_82 : decode cX7_readNumbered 82 = .ok (.if_icmp .ne 15, 3) := dX7_readNumbered_56g.2.2.2.2.2.2.2.2.2.2.2.2.2.1
theorem dX7_readNumbered_85 : decode cX7_readNumbered 85 = .ok (.iload_n 1, 1) := dX7_readNumbered_56g.2.2.2.2.2.2.2.2.2.2.2.2.2.2.1
theorem dX7_readNumbered_86 : decode cX7_readNumbered 86 = .ok (.bipush 32, 2) := dX7_readNumbered_56g.2.2.2.2.2.2.2.2.2.2.2.2.2.2.2
theorem dX7_readNumbered_88g : decode cX7_readNumbered 88 = .ok (.if_icmp .lt 9, 3) ∧ decode cX7_readNumbered 91 = .ok (.iload_n 1, 1) ∧ decode cX7_readNumbered 92 = .ok (.bipush 126, 2) ∧ decode cX7_readNumbered 94 = .ok (.if_icmp .le 11, 3) ∧ decode cX7_readNumbered 97 = .ok (.new 50, 3) ∧ decode cX7_readNumbered 100 = .ok (.dup, 1) ∧ decode cX7_readNumbered 101 = .ok (.invokespecial 52, 3) ∧ decode cX7_readNumbered 104 = .ok (.athrow, 1) ∧ decode cX7_readNumbered 105 = .ok (.iload_n 1, 1) ∧ decode cX7_readNumbered 106 = .ok (.i2c, 1) ∧ decode cX7_readNumbered 107 = .ok (.ireturn, 1) := by decide +kernel
theorem dX7_readNumbered_88 : decode cX7_readNumbered 88 = .ok (.if_icmp .lt 9, 3) := dX7_readNumbered_88g.1
theorem dX7_readNumbered_91 : decode cX7_readNumbered 91 = .ok (.iload_n 1, 1) := dX7_readNumbered_88g.2.1
theorem dX7_readNumbered_92 : decode cX7_readNumbered 92 = .ok (.bipush 126, 2) := dX7_readNumbered_88g.2.2.1
theorem dX7_readNumbered_94 : decode cX7_readNumbered 94 = .ok (.if_icmp .le 11, 3) := dX7_readNumbered_88g.2.2.2.1
theorem dX7_readNumbered_97 : decode cX7_readNumbered 97 = .ok (.new 50, 3) := dX7_readNumbered_88g.2.2.2.2.1
theorem dX7_readNumbered_100 : decode cX7_readNumbered 100 = .ok (.dup, 1) := dX7_readNumbered_88g.2.2.2.2.2.1
theorem dX7_readNumbered_101 : decode cX7_readNumbered 101 = .ok (.invokespecial 52, 3) := dX7_readNumbered_88g.2.2.2.2.2.2.1
theorem dX7_readNumbered_104 : decode cX7_readNumbered 104 = .ok (.athrow, 1) := dX7_readNumbered_88g.2.2.2.2.2.2.2.1
theorem dX7_readNumbered_105 : decode cX7_readNumbered 105 = .ok (.iload_n 1, 1) := dX7_readNumbered_88g.2.2.2.2.2.2.2.2.1
theorem dX7_readNumbered_106 : decode cX7_readNumbered 106 = .ok (.i2c, 1) := dX7_readNumbered_88g.2.2.2.2.2.2.2.2.2.1
theorem dX7_readNumbered_107 : decode cX7_readNumbered 107 = .ok (.ireturn, 1) := dX7_readNumbered_88g.2.2.2.2.2.2.2.2.2.2
theorem dX8_describe_0g : decode cX8_describe 0 = .ok (.aload_n 0, 1) ∧ decode cX8_describe 1 = .ok (.iload_n 1, 1) ∧ decode cX8_describe 2 = .ok (.putfield 22, 3) ∧ decode cX8_describe 5 = .ok (.aload_n 0, 1) ∧ decode cX8_describe 6 = .ok (.iload_n 2, 1) ∧ decode cX8_describe 7 = .ok (.putfield 25, 3) ∧ decode cX8_describe 10 = .ok (.aload_n 0, 1) ∧ decode cX8_describe 11 = .ok (.iload_n 3, 1) ∧ decode cX8_describe 12 = .ok (.putfield 29, 3) ∧ decode cX8_describe 15 = .ok (.return_, 1) := by decide +kernel
theorem dX8_describe_0 : decode cX8_describe 0 = .ok (.aload_n 0, 1) := dX8_describe_0g.1
theorem dX8_describe_1 : decode cX8_describe 1 = .ok (.iload_n 1, 1) := dX8_describe_0g.2.1
theorem dX8_describe_2 : decode cX8_describe 2 = .ok (.putfield 22, 3) := dX8_describe_0g.2.2.1
theorem dX8_describe_5 : decode cX8_describe 5 = .ok (.aload_n 0, 1) := dX8_describe_0g.2.2.2.1
theorem dX8_describe_6 : decode cX8_describe 6 = .ok (.iload_n 2, 1) := dX8_describe_0g.2.2.2.2.1
theorem dX8_describe_7 : decode cX8_describe 7 = .ok (.putfield 25, 3) := dX8_describe_0g.2.2.2.2.2.1
theorem dX8_describe_10 : decode cX8_describe 10 = .ok (.aload_n 0, 1) := dX8_describe_0g.2.2.2.2.2.2.1
theorem dX8_describe_11 : decode cX8_describe 11 = .ok (.iload_n 3, 1) := dX8_describe_0g.2.2.2.2.2.2.2.1
theorem dX8_describe_12 : decode cX8_describe 12 = .ok (.putfield 29, 3) := dX8_describe_0g.2.2.2.2.2.2.2.2.1
theorem dX8_describe_15 : decode cX8_describe 15 = .ok (.return_, 1) := dX8_describe_0g.2.2.2.2.2.2.2.2.2
theorem dX8_setTypes_0g : decode cX8_setTypes 0 = .ok (.aload_n 0, 1) ∧ decode cX8_setTypes 1 = .ok (.iload_n 1, 1) ∧ decode cX8_setTypes 2 = .ok (.putfield 32, 3) ∧ decode cX8_setTypes 5 = .ok (.aload_n 0, 1) ∧ decode cX8_setTypes 6 = .ok (.getfield 18, 3) ∧ decode cX8_setTypes 9 = .ok (.iconst 0, 1) ∧ decode cX8_setTypes 10 = .ok (.iload_n 2, 1) ∧ decode cX8_setTypes 11 = .ok (.iastore, 1) ∧ decode cX8_setTypes 12 = .ok (.aload_n 0, 1) ∧ decode cX8_setTypes 13 = .ok (.getfield 18, 3) ∧ decode cX8_setTypes 16 = .ok (.iconst 1, 1) ∧ decode cX8_setTypes 17 = .ok (.iload_n 3, 1) ∧ decode cX8_setTypes 18 = .ok (.iastore, 1) ∧ decode cX8_setTypes 19 = .ok (.aload_n 0, 1) ∧ decode cX8_setTypes 20 = .ok (.getfield 18, 3) ∧ decode cX8_setTypes 23 = .ok (.iconst 2, 1) := by decide +kernel
theorem dX8_setTypes_0 : decode cX8_setTypes 0 = .ok (.aload_n 0, 1) := dX8_setTypes_0g.1
theorem dX8_setTypes_1 : decode cX8_setTypes 1 = .ok (.iload_n 1, 1) := dX8_setTypes_0g.2.1
theorem dX8_setTypes_2 : decode cX8_setTypes 2 = .ok (.putfield 32, 3) := dX8_setTypes_0g.2.2.1
theorem dX8_setTypes_5 : decode cX8_setTypes 5 = .ok (.aload_n 0, 1) := dX8_setTypes_0g.2.2.2.1
theorem dX8_setTypes_6 : decode cX8_setTypes 6 = .ok (.getfield 18, 3) := dX8_setTypes_0g.2.2.2.2.1
theorem dX8_setTypes_9 : decode cX8_setTypes 9 = .ok (.iconst 0, 1) := dX8_setTypes_0g.2.2.2.2.2.1
theorem dX8_setTypes_10 : decode cX8_setTypes 10 = .ok (.iload_n 2, 1) := dX8_setTypes_0g.2.2.2.2.2.2.1
theorem dX8_setTypes_11 : decode cX8_setTypes 11 = .ok (.iastore, 1) := dX8_setTypes_0g.2.2.2.2.2.2.2.1
theorem dX8_setTypes_12 : decode cX8_setTypes 12 = .ok (.aload_n 0, 1) := dX8_setTypes_0g.2.2.2.2.2.2.2.2.1
theorem dX8_setTypes_13 : decode cX8_setTypes 13 = .ok (.getfield 18, 3) := dX8_setTypes_0g.2.2.2.2.2.2.2.2.2.1
theorem dX8_setTypes_16 : decode cX8_setTypes 16 = .ok (.iconst 1, 1) := dX8_setTypes_0g.2.2.2.2.2.2.2.2.2.2.1
theorem dX8_setTypes_17 : decode cX8_setTypes 17 = .ok (.iload_n 3, 1) := dX8_setTypes_0g.2.2.2.2.2.2.2.2.2.2.2.1
theorem dX8_setTypes_18 : decode cX8_setTypes 18 = .ok (.iastore, 1) := dX8_setTypes_0g.2.2.2.2.2.2.2.2.2.2.2.2.1
theorem dX8_setTypes_19 : decode cX8_setTypes 19 = .ok (.aload_n 0, 1) := dX8_setTypes_0g.2.2.2.2.2.2.2.2.2.2.2.2.2.1
theorem dX8_setTypes_20 : decode cX8_setTypes 20 = .ok (.getfield 18, 3) := dX8_setTypes_0g.2.2.2.2.2.2.2.2.2.2.2.2.2.2.1
theorem dX8_setTypes_23 : decode cX8_setTypes 23 = .ok (.iconst 2, 1) := dX8_setTypes_0g.2.2.2.2.2.2.2.2.2.2.2.2.2.2.2
theorem dX8_setTypes_24g : decode cX8_setTypes 24 = .ok (.iload 4, 2) ∧ decode cX8_setTypes 26 = .ok (.iastore, 1) ∧ decode cX8_setTypes 27 = .ok (.return_, 1) := by decide +kernel
theorem dX8_setTypes_24 : decode cX8_setTypes 24 = .ok (.iload 4, 2) := dX8_setTypes_24g.1
theorem dX8_setTypes_26 : decode cX8_setTypes 26 = .ok (.iastore, 1) := dX8_setTypes_24g.2.1
theorem dX8_setTypes_27 : decode cX8_setTypes 27 = .ok (.return_, 1) := dX8_setTypes_24g.2.2
theorem dX8_isCalled_0g : decode cX8_isCalled 0 = .ok (.aload_n 0, 1) ∧ decode cX8_isCalled 1 = .ok (.getfield 22, 3) ∧ decode cX8_isCalled 4 = .ok (.iload_n 1, 1) ∧ decode cX8_isCalled 5 = .ok (.if_icmp .ne 15, 3) ∧ decode cX8_isCalled 8 = .ok (.aload_n 0, 1) ∧ decode cX8_isCalled 9 = .ok (.getfield 25, 3) ∧ decode cX8_isCalled 12 = .ok (.iload_n 2, 1) ∧ decode cX8_isCalled 13 = .ok (.if_icmp .ne 7, 3) ∧ decode cX8_isCalled 16 = .ok (.iconst 1, 1) ∧ decode cX8_isCalled 17 = .ok (.goto 4, 3) ∧ decode cX8_isCalled 20 = .ok (.iconst 0, 1) ∧ decode cX8_isCalled 21 = .ok (.ireturn, 1) := by decide +kernel
theorem dX8_isCalled_0 : decode cX8_isCalled 0 = .ok (.aload_n 0, 1) := dX8_isCalled_0g.1
theorem dX8_isCalled_1 : decode cX8_isCalled 1 = .ok (.getfield 22, 3) := dX8_isCalled_0g.2.1
theorem dX8_isCalled_4 : decode cX8_isCalled 4 = .ok (.iload_n 1, 1) := dX8_isCalled_0g.2.2.1
theorem dX8_isCalled_5 : decode cX8_isCalled 5 = .ok (.if_icmp .ne 15, 3) := dX8_isCalled_0g.2.2.2.1
theorem dX8_isCalled_8 : decode cX8_isCalled 8 = .ok (.aload_n 0, 1) := dX8_isCalled_0g.2.2.2.2.1
theorem dX8_isCalled_9 : decode cX8_isCalled 9 = .ok (.getfield 25, 3) := dX8_isCalled_0g.2.2.2.2.2.1
theorem dX8_isCalled_12 : decode cX8_isCalled 12 = .ok (.iload_n 2, 1) := dX8_isCalled_0g.2.2.2.2.2.2.1
theorem dX8_isCalled_13 : decode cX8_isCalled 13 = .ok (.if_icmp .ne 7, 3) := dX8_isCalled_0g.2.2.2.2.2.2.2.1
theorem dX8_isCalled_16 : decode cX8_isCalled 16 = .ok (.iconst 1, 1) := dX8_isCalled_0g.2.2.2.2.2.2.2.2.1
theorem dX8_isCalled_17 : decode cX8_isCalled 17 = .ok (.goto 4, 3) := dX8_isCalled_0g.2.2.2.2.2.2.2.2.2.1
theorem dX8_isCalled_20 : decode cX8_isCalled 20 = .ok (.iconst 0, 1) := dX8_isCalled_0g.2.2.2.2.2.2.2.2.2.2.1
theorem dX8_isCalled_21 : decode cX8_isCalled 21 = .ok (.ireturn, 1) := dX8_isCalled_0g.2.2.2.2.2.2.2.2.2.2.2
theorem dX9_firstWrongPlace_0g : decode cX9_firstWrongPlace 0 = .ok (.iconst 0, 1) ∧ decode cX9_firstWrongPlace 1 = .ok (.istore_n 1, 1) ∧ decode cX9_firstWrongPlace 2 = .ok (.iload_n 1, 1) ∧ decode cX9_firstWrongPlace 3 = .ok (.aload_n 0, 1) ∧ decode cX9_firstWrongPlace 4 = .ok (.getfield 9, 3) ∧ decode cX9_firstWrongPlace 7 = .ok (.invokevirtual 15, 3) ∧ decode cX9_firstWrongPlace 10 = .ok (.if_icmp .ge 36, 3) ∧ decode cX9_firstWrongPlace 13 = .ok (.aload_n 0, 1) ∧ decode cX9_firstWrongPlace 14 = .ok (.aload_n 0, 1) ∧ decode cX9_firstWrongPlace 15 = .ok (.getfield 9, 3) ∧ decode cX9_firstWrongPlace 18 = .ok (.iload_n 1, 1) ∧ decode cX9_firstWrongPlace 19 = .ok (.invokevirtual 21, 3) ∧ decode cX9_firstWrongPlace 22 = .ok (.invokevirtual 25, 3) ∧ decode cX9_firstWrongPlace 25 = .ok (.ifCond .ne 15, 3) ∧ decode cX9_firstWrongPlace 28 = .ok (.aload_n 0, 1) ∧ decode cX9_firstWrongPlace 29 = .ok (.getfield 9, 3) := by decide +kernel
theorem dX9_firstWrongPlace_0 : decode cX9_firstWrongPlace 0 = .ok (.iconst 0, 1) := dX9_firstWrongPlace_0g.1
theorem dX9_firstWrongPlace_1 : decode cX9_firstWrongPlace 1 = .ok (.istore_n 1, 1) := dX9_firstWrongPlace_0g.2.1
theorem dX9_firstWrongPlace_2 : decode cX9_firstWrongPlace 2 = .ok (.iload_n 1, 1) := dX9_firstWrongPlace_0g.2.2.1
theorem dX9_firstWrongPlace_3 : decode cX9_firstWrongPlace 3 = .ok (.aload_n 0, 1) := dX9_firstWrongPlace_0g.2.2.2.1
theorem dX9_firstWrongPlace_4 : decode cX9_firstWrongPlace 4 = .ok (.getfield 9, 3) := dX9_firstWrongPlace_0g.2.2.2.2.1
theorem dX9_firstWrongPlace_7 : decode cX9_firstWrongPlace 7 = .ok (.invokevirtual 15, 3) := dX9_firstWrongPlace_0g.2.2.2.2.2.1
theorem dX9_firstWrongPlace_10 : decode cX9_firstWrongPlace 10 = .ok (.if_icmp .ge 36, 3) := dX9_firstWrongPlace_0g.2.2.2.2.2.2.1
theorem dX9_firstWrongPlace_13 : decode cX9_firstWrongPlace 13 = .ok (.aload_n 0, 1) := dX9_firstWrongPlace_0g.2.2.2.2.2.2.2.1
theorem dX9_firstWrongPlace_14 : decode cX9_firstWrongPlace 14 = .ok (.aload_n 0, 1) := dX9_firstWrongPlace_0g.2.2.2.2.2.2.2.2.1
theorem dX9_firstWrongPlace_15 : decode cX9_firstWrongPlace 15 = .ok (.getfield 9, 3) := dX9_firstWrongPlace_0g.2.2.2.2.2.2.2.2.2.1
theorem dX9_firstWrongPlace_18 : decode cX9_firstWrongPlace 18 = .ok (.iload_n 1, 1) := dX9_firstWrongPlace_0g.2.2.2.2.2.2.2.2.2.2.1
theorem dX9_firstWrongPlace_19 : decode cX9_firstWrongPlace 19 = .ok (.invokevirtual 21, 3) := dX9_firstWrongPlace_0g.2.2.2.2.2.2.2.2.2.2.2.1
theorem dX9_firstWrongPlace_22 : decode cX9_firstWrongPlace 22 = .ok (.invokevirtual 25, 3) := dX9_firstWrongPlace_0g.2.2.2.2.2.2.2.2.2.2.2.2.1
theorem dX9_firstWrongPlace_25 : decode cX9_firstWrongPlace 25 = .ok (.ifCond .ne 15, 3) := dX9_firstWrongPlace_0g.2.2.2.2.2.2.2.2.2.2.2.2.2.1
theorem dX9_firstWrongPlace_28 : decode cX9_firstWrongPlace 28 = .ok (.aload_n 0, 1) := dX9_firstWrongPlace_0g.2.2.2.2.2.2.2.2.2.2.2.2.2.2.1
theorem dX9_firstWrongPlace_29 : decode cX9_firstWrongPlace 29 = .ok (.getfield 9, 3) := dX9_firstWrongPlace_0g.2.2.2.2.2.2.2.2.2.2.2.2.2.2.2
theorem dX9_firstWrongPlace_32g : decode cX9_firstWrongPlace 32 = .ok (.iload_n 1, 1) ∧ decode cX9_firstWrongPlace 33 = .ok (.invokevirtual 21, 3) ∧ decode cX9_firstWrongPlace 36 = .ok (.getfield 29, 3) ∧ decode cX9_firstWrongPlace 39 = .ok (.ireturn, 1) ∧ decode cX9_firstWrongPlace 40 = .ok (.iinc 1 1, 3) ∧ decode cX9_firstWrongPlace 43 = .ok (.goto (-41), 3) ∧ decode cX9_firstWrongPlace 46 = .ok (.iconst (-1), 1) ∧ decode cX9_firstWrongPlace 47 = .ok (.ireturn, 1) := by decide +kernel
theorem dX9_firstWrongPlace_32 : decode cX9_firstWrongPlace 32 = .ok (.iload_n 1, 1) := dX9_firstWrongPlace_32g.1
theorem dX9_firstWrongPlace_33 : decode cX9_firstWrongPlace 33 = .ok (.invokevirtual 21, 3) := dX9_firstWrongPlace_32g.2.1
theorem dX9_firstWrongPlace_36 : decode cX9_firstWrongPlace 36 = .ok (.getfield 29, 3) := dX9_firstWrongPlace_32g.2.2.1
theorem dX9_firstWrongPlace_39 : decode cX9_firstWrongPlace 39 = .ok (.ireturn, 1) := dX9_firstWrongPlace_32g.2.2.2.1
theorem dX9_firstWrongPlace_40 : decode cX9_firstWrongPlace 40 = .ok (.iinc 1 1, 3) := dX9_firstWrongPlace_32g.2.2.2.2.1
theorem dX9_firstWrongPlace_43 : decode cX9_firstWrongPlace 43 = .ok (.goto (-41), 3) := dX9_firstWrongPlace_32g.2.2.2.2.2.1
theorem dX9_firstWrongPlace_46 : decode cX9_firstWrongPlace 46 = .ok (.iconst (-1), 1) := dX9_firstWrongPlace_32g.2.2.2.2.2.2.1
theorem dX9_firstWrongPlace_47 : decode cX9_firstWrongPlace 47 = .ok (.ireturn, 1) := dX9_firstWrongPlace_32g.2.2.2.2.2.2.2
theorem dX9_isRight_0g : decode cX9_isRight 0 = .ok (.aload_n 1, 1) ∧ decode cX9_isRight 1 = .ok (.getfield 35, 3) ∧ decode cX9_isRight 4 = .ok (.ifnull 56, 3) ∧ decode cX9_isRight 7 = .ok (.aload_n 0, 1) ∧ decode cX9_isRight 8 = .ok (.aload_n 1, 1) ∧ decode cX9_isRight 9 = .ok (.invokevirtual 39, 3) ∧ decode cX9_isRight 12 = .ok (.ifCond .eq 48, 3) ∧ decode cX9_isRight 15 = .ok (.aload_n 0, 1) ∧ decode cX9_isRight 16 = .ok (.aload_n 1, 1) ∧ decode cX9_isRight 17 = .ok (.invokevirtual 42, 3) ∧ decode cX9_isRight 20 = .ok (.ifCond .eq 40, 3) ∧ decode cX9_isRight 23 = .ok (.aload_n 0, 1) ∧ decode cX9_isRight 24 = .ok (.aload_n 1, 1) ∧ decode cX9_isRight 25 = .ok (.invokevirtual 45, 3) ∧ decode cX9_isRight 28 = .ok (.ifCond .eq 32, 3) ∧ decode cX9_isRight 31 = .ok (.aload_n 1, 1) := by decide +kernel
theorem dX9_isRight_0 : decode cX9_isRight 0 = .ok (.aload_n 1, 1) := dX9_isRight_0g.1
theorem dX9_isRight_1 : decode cX9_isRight 1 = .ok (.getfield 35, 3) := dX9_isRight_0g.2.1
theorem dX9_isRight_4 : decode cX9_isRight 4 = .ok (.ifnull 56, 3) := dX9_isRight_0g.2.2.1
theorem dX9_isRight_7 : decode cX9_isRight 7 = .ok (.aload_n 0, 1) := dX9_isRight_0g.2.2.2.1
theorem dX9_isRight_8 : decode cX9_isRight 8 = .ok (.aload_n 1, 1) := dX9_isRight_0g.2.2.2.2.1
theorem dX9_isRight_9 : decode cX9_isRight 9 = .ok (.invokevirtual 39, 3) := dX9_isRight_0g.2.2.2.2.2.1
theorem dX9_isRight_12 : decode cX9_isRight 12 = .ok (.ifCond .eq 48, 3) := dX9_isRight_0g.2.2.2.2.2.2.1
theorem dX9_isRight_15 : decode cX9_isRight 15 = .ok (.aload_n 0, 1) := dX9_isRight_0g.2.2.2.2.2.2.2.1
theorem dX9_isRight_16 : decode cX9_isRight 16 = .ok (.aload_n 1, 1) := dX9_isRight_0g.2.2.2.2.2.2.2.2.1
theorem dX9_isRight_17 : decode cX9_isRight 17 = .ok (.invokevirtual 42, 3) := dX9_isRight_0g.2.2.2.2.2.2.2.2.2.1
theorem dX9_isRight_20 : decode cX9_isRight 20 = .ok (.ifCond .eq 40, 3) := dX9_isRight_0g.2.2.2.2.2.2.2.2.2.2.1
theorem dX9_isRight_23 : decode cX9_isRight 23 = .ok (.aload_n 0, 1) := dX9_isRight_0g.2.2.2.2.2.2.2.2.2.2.2.1
theorem dX9_isRight_24 : decode cX9_isRight 24 = .ok (.aload_n 1, 1) := dX9_isRight_0g.2.2.2.2.2.2.2.2.2.2.2.2.1
theorem dX9_isRight_25 : decode cX9_isRight 25 = .ok (.invokevirtual 45, 3) := dX9_isRight_0g.2.2.2.2.2.2.2.2.2.2.2.2.2.1
theorem dX9_isRight_28 : decode cX9_isRight 28 = .ok (.ifCond .eq 32, 3) := dX9_isRight_0g.2.2.2.2.2.2.2.2.2.2.2.2.2.2.1
theorem dX9_isRight_31 : decode cX9_isRight 31 = .ok (.aload_n 1, 1) := dX9_isRight_0g.2.2.2.2.2.2.2.2.2.2.2.2.2.2.2
theorem dX9_isRight_32g : decode cX9_isRight 32 = .ok (.getfield 48, 3) ∧ decode cX9_isRight 35 = .ok (.ifCond .eq 13, 3) ∧ decode cX9_isRight 38 = .ok (.aload_n 1, 1) ∧ decode cX9_isRight 39 = .ok (.getfield 35, 3) ∧ decode cX9_isRight 42 = .ok (.getstatic 51, 3) ∧ decode cX9_isRight 45 = .ok (.if_acmp .ne 15, 3) ∧ decode cX9_isRight 48 = .ok (.aload_n 0, 1) ∧ decode cX9_isRight 49 = .ok (.aload_n 1, 1) ∧ decode cX9_isRight 50 = .ok (.invokevirtual 56, 3) ∧ decode cX9_isRight 53 = .ok (.ifCond .eq 7, 3) ∧ decode cX9_isRight 56 = .ok (.iconst 1, 1) ∧ decode cX9_isRight 57 = .ok (.goto 4, 3) ∧ decode cX9_isRight 60 = .ok (.iconst 0, 1) ∧ decode cX9_isRight 61 = .ok (.ireturn, 1) := by decide +kernel
theorem dX9_isRight_32 : decode cX9_isRight 32 = .ok (.getfield 48, 3) := dX9_isRight_32g.1
theorem dX9_isRight_35 : decode cX9_isRight 35 = .ok (.ifCond .eq 13, 3) := dX9_isRight_32g.2.1
theorem dX9_isRight_38 : decode cX9_isRight 38 = .ok (.aload_n 1, 1) := dX9_isRight_32g.2.2.1
theorem dX9_isRight_39 : decode cX9_isRight 39 = .ok (.getfield 35, 3) := dX9_isRight_32g.2.2.2.1
theorem dX9_isRight_42 : decode cX9_isRight 42 = .ok (.getstatic 51, 3) := dX9_isRight_32g.2.2.2.2.1
theorem dX9_isRight_45 : decode cX9_isRight 45 = .ok (.if_acmp .ne 15, 3) := dX9_isRight_32g.2.2.2.2.2.1
theorem dX9_isRight_48 : decode cX9_isRight 48 = .ok (.aload_n 0, 1) := dX9_isRight_32g.2.2.2.2.2.2.1
theorem dX9_isRight_49 : decode cX9_isRight 49 = .ok (.aload_n 1, 1) := dX9_isRight_32g.2.2.2.2.2.2.2.1
theorem dX9_isRight_50 : decode cX9_isRight 50 = .ok (.invokevirtual 56, 3) := dX9_isRight_32g.2.2.2.2.2.2.2.2.1
theorem dX9_isRight_53 : decode cX9_isRight 53 = .ok (.ifCond .eq 7, 3) := dX9_isRight_32g.2.2.2.2.2.2.2.2.2.1
theorem dX9_isRight_56 : decode cX9_isRight 56 = .ok (.iconst 1, 1) := dX9_isRight_32g.2.2.2.2.2.2.2.2.2.2.1
theorem dX9_isRight_57 : decode cX9_isRight 57 = .ok (.goto 4, 3) := dX9_isRight_32g.2.2.2.2.2.2.2.2.2.2.2.1
theorem dX9_isRight_60 : decode cX9_isRight 60 = .ok (.iconst 0, 1) := dX9_isRight_32g.2.2.2.2.2.2.2.2.2.2.2.2.1
theorem dX9_isRight_61 : decode cX9_isRight 61 = .ok (.ireturn, 1) := dX9_isRight_32g.2.2.2.2.2.2.2.2.2.2.2.2.2
theorem dX9_standsRight_0g : decode cX9_standsRight 0 = .ok (.getstatic 59, 3) ∧ decode cX9_standsRight 3 = .ok (.aload_n 1, 1) ∧ decode cX9_standsRight 4 = .ok (.getfield 35, 3) ∧ decode cX9_standsRight 7 = .ok (.invokevirtual 65, 3) ∧ decode cX9_standsRight 10 = .ok (.iaload, 1) ∧ decode cX9_standsRight 11 = .ok (.tableswitch 222 6 15 #[53, 66, 74, 98, 123, 157, 190, 216, 216, 216], 53) ∧ decode cX9_standsRight 64 = .ok (.aload_n 1, 1) ∧ decode cX9_standsRight 65 = .ok (.getfield 68, 3) ∧ decode cX9_standsRight 68 = .ok (.ifnonnull 7, 3) ∧ decode cX9_standsRight 71 = .ok (.iconst 1, 1) ∧ decode cX9_standsRight 72 = .ok (.goto 4, 3) ∧ decode cX9_standsRight 75 = .ok (.iconst 0, 1) ∧ decode cX9_standsRight 76 = .ok (.ireturn, 1) ∧ decode cX9_standsRight 77 = .ok (.aload_n 1, 1) ∧ decode cX9_standsRight 78 = .ok (.getstatic 72, 3) ∧ decode cX9_standsRight 81 = .ok (.invokevirtual 75, 3) := by decide +kernel
theorem dX9_standsRight_0 : decode cX9_standsRight 0 = .ok (.getstatic 59, 3) := dX9_standsRight_0g.1
theorem dX9_standsRight_3 : decode cX9_standsRight 3 = .ok (.aload_n 1, 1) := dX9_standsRight_0g.2.1
theorem dX9_standsRight_4 : decode cX9_standsRight 4 = .ok (.getfield 35, 3) := dX9_standsRight_0g.2.2.1
theorem dX9_standsRight_7 : decode cX9_standsRight 7 = .ok (.invokevirtual 65, 3) := dX9_standsRight_0g.2.2.2.1
theorem dX9_standsRight_10 : decode cX9_standsRight 10 = .ok (.iaload, 1) := dX9_standsRight_0g.2.2.2.2.1
theorem dX9_standsRight_11 : decode cX9_standsRight 11 = .ok (.tableswitch 222 6 15 #[53, 66, 74, 98, 123, 157, 190, 216, 216, 216], 53) := dX9_standsRight_0g.2.2.2.2.2.1
theorem dX9_standsRight_64 : decode cX9_standsRight 64 = .ok (.aload_n 1, 1) := dX9_standsRight_0g.2.2.2.2.2.2.1
theorem dX9_standsRight_65 : decode cX9_standsRight 65 = .ok (.getfield 68, 3) := dX9_standsRight_0g.2.2.2.2.2.2.2.1
theorem dX9_standsRight_68 : decode cX9_standsRight 68 = .ok (.ifnonnull 7, 3) := dX9_standsRight_0g.2.2.2.2.2.2.2.2.1
theorem dX9_standsRight_71 : decode cX9_standsRight 71 = .ok (.iconst 1, 1) := dX9_standsRight_0g.2.2.2.2.2.2.2.2.2.1
theorem dX9_standsRight_72 : decode cX9_standsRight 72 = .ok (.goto 4, 3) := dX9_standsRight_0g.2.2.2.2.2.2.2.2.2.2.1
theorem dX9_standsRight_75 : decode cX9_standsRight 75 = .ok (.iconst 0, 1) := dX9_standsRight_0g.2.2.2.2.2.2.2.2.2.2.2.1
theorem dX9_standsRight_76 : decode cX9_standsRight 76 = .ok (.ireturn, 1) := dX9_standsRight_0g.2.2.2.2.2.2.2.2.2.2.2.2.1
theorem dX9_standsRight_77 : decode cX9_standsRight 77 = .ok (.aload_n 1, 1) := dX9_standsRight_0g.2.2.2.2.2.2.2.2.2.2.2.2.2.1
theorem dX9_standsRight_78 : decode cX9_standsRight 78 = .ok (.getstatic 72, 3) := dX9_standsRight_0g.2.2.2.2.2.2.2.2.2.2.2.2.2.2.1
theorem dX9_standsRight_81 : decode cX9_standsRight 81 = .ok (.invokevirtual 75, 3) := dX9_standsRight_0g.2.2.2.2.2.2.2.2.2.2.2.2.2.2.2
theorem dX9_standsRight_84g : decode cX9_standsRight 84 = .ok (.ireturn, 1) ∧ decode cX9_standsRight 85 = .ok (.aload_n 1, 1) ∧ decode cX9_standsRight 86 = .ok (.getstatic 72, 3) ∧ decode cX9_standsRight 89 = .ok (.invokevirtual 75, 3) ∧ decode cX9_standsRight 92 = .ok (.ifCond .ne 11, 3) ∧ decode cX9_standsRight 95 = .ok (.aload_n 0, 1) ∧ decode cX9_standsRight 96 = .ok (.aload_n 1, 1) ∧ decode cX9_standsRight 97 = .ok (.invokevirtual 79, 3) ∧ decode cX9_standsRight 100 = .ok (.ifCond .eq 7, 3) ∧ decode cX9_standsRight 103 = .ok (.iconst 1, 1) ∧ decode cX9_standsRight 104 = .ok (.goto 4, 3) ∧ decode cX9_standsRight 107 = .ok (.iconst 0, 1) ∧ decode cX9_standsRight 108 = .ok (.ireturn, 1) ∧ decode cX9_standsRight 109 = .ok (.aload_n 1, 1) ∧ decode cX9_standsRight 110 = .ok (.getstatic 82, 3) ∧ decode cX9_standsRight 113 = .ok (.invokevirtual 75, 3) := by decide +kernel
theorem dX9_standsRight_84 : decode cX9_standsRight 84 = .ok (.ireturn, 1) := dX9_standsRight_84g.1
theorem dX9_standsRight_85 : decode cX9_standsRight 85 = .ok (.aload_n 1, 1) := dX9_standsRight_84g.2.1
theorem dX9_standsRight_86 : decode cX9_standsRight 86 = .ok (.getstatic 72, 3) := dX9_standsRight_84g.2.2.1
theorem dX9_standsRight_89 : decode cX9_standsRight 89 = .ok (.invokevirtual 75, 3) := dX9_standsRight_84g.2.2.2.1
theorem dX9_standsRight_92 : decode cX9_standsRight 92 = .ok (.ifCond .ne 11, 3) := dX9_standsRight_84g.2.2.2.2.1
theorem dX9_standsRight_95 : decode cX9_standsRight 95 = .ok (.aload_n 0, 1) := dX9_standsRight_84g.2.2.2.2.2.1
theorem dX9_standsRight_96 : decode cX9_standsRight 96 = .ok (.aload_n 1, 1) := dX9_standsRight_84g.2.2.2.2.2.2.1
theorem dX9_standsRight_97 : decode cX9_standsRight 97 = .ok (.invokevirtual 79, 3) := dX9_standsRight_84g.2.2.2.2.2.2.2.1
theorem dX9_standsRight_100 : decode cX9_standsRight 100 = .ok (.ifCond .eq 7, 3) := dX9_standsRight_84g.2.2.2.2.2.2.2.2.1
theorem dX9_standsRight_103 : decode cX9_standsRight 103 = .ok (.iconst 1, 1) := dX9_standsRight_84g.2.2.2.2.2.2.2.2.2.1
theorem dX9_standsRight_104 : decode cX9_standsRight 104 = .ok (.goto 4, 3) := dX9_standsRight_84g.2.2.2.2.2.2.2.2.2.2.1
theorem dX9_standsRight_107 : decode cX9_standsRight 107 = .ok (.iconst 0, 1) := dX9_standsRight_84g.2.2.2.2.2.2.2.2.2.2.2.1
theorem dX9_standsRight_108 : decode cX9_standsRight 108 = .ok (.ireturn, 1) := dX9_standsRight_84g.2.2.2.2.2.2.2.2.2.2.2.2.1
theorem dX9_standsRight_109 : decode cX9_standsRight 109 = .ok (.aload_n 1, 1) := dX9_standsRight_84g.2.2.2.2.2.2.2.2.2.2.2.2.2.1
theorem dX9_standsRight_110 : decode cX9_standsRight 110 = .ok (.getstatic 82, 3) := dX9_standsRight_84g.2.2.2.2.2.2.2.2.2.2.2.2.2.2.1
theorem dX9_standsRight_113 : decode cX9_standsRight 113 = .ok (.invokevirtual 75, 3) := dX9_standsRight_84g.2.2.2.2.2.2.2.2.2.2.2.2.2.2.2
theorem dX9_standsRight_116g : decode cX9_standsRight 116 = .ok (.ifCond .eq 16, 3) ∧ decode cX9_standsRight 119 = .ok (.aload_n 0, 1) ∧ decode cX9_standsRight 120 = .ok (.aload_n 1, 1) ∧ decode cX9_standsRight 121 = .ok (.invokevirtual 85, 3) ∧ decode cX9_standsRight 124 = .ok (.iconst 4, 1) ∧ decode cX9_standsRight 125 = .ok (.if_icmp .ge 7, 3) ∧ decode cX9_standsRight 128 = .ok (.iconst 1, 1) ∧ decode cX9_standsRight 129 = .ok (.goto 4, 3) ∧ decode cX9_standsRight 132 = .ok (.iconst 0, 1) ∧ decode cX9_standsRight 133 = .ok (.ireturn, 1) ∧ decode cX9_standsRight 134 = .ok (.aload_n 1, 1) ∧ decode cX9_standsRight 135 = .ok (.getstatic 82, 3) ∧ decode cX9_standsRight 138 = .ok (.invokevirtual 75, 3) ∧ decode cX9_standsRight 141 = .ok (.ifCond .eq 25, 3) ∧ decode cX9_standsRight 144 = .ok (.aload_n 0, 1) ∧ decode cX9_standsRight 145 = .ok (.aload_n 1, 1) := by decide +kernel
theorem dX9_standsRight_116 : decode cX9_standsRight 116 = .ok (.ifCond .eq 16, 3) := dX9_standsRight_116g.1
theorem dX9_standsRight_119 : decode cX9_standsRight 119 = .ok (.aload_n 0, 1) := dX9_standsRight_116g.2.1
theorem dX9_standsRight_120 : decode cX9_standsRight 120 = .ok (.aload_n 1, 1) := dX9_standsRight_116g.2.2.1
theorem dX9_standsRight_121 : decode cX9_standsRight 121 = .ok (.invokevirtual 85, 3) := dX9_standsRight_116g.2.2.2.1
theorem dX9_standsRight_124 : decode cX9_standsRight 124 = .ok (.iconst 4, 1) := dX9_standsRight_116g.2.2.2.2.1
theorem dX9_standsRight_125 : decode cX9_standsRight 125 = .ok (.if_icmp .ge 7, 3) := dX9_standsRight_116g.2.2.2.2.2.1
theorem dX9_standsRight_128 : decode cX9_standsRight 128 = .ok (.iconst 1, 1) := dX9_standsRight_116g.2.2.2.2.2.2.1
theorem dX9_standsRight_129 : decode cX9_standsRight 129 = .ok (.goto 4, 3) := dX9_standsRight_116g.2.2.2.2.2.2.2.1
theorem dX9_standsRight_132 : decode cX9_standsRight 132 = .ok (.iconst 0, 1) := dX9_standsRight_116g.2.2.2.2.2.2.2.2.1
theorem dX9_standsRight_133 : decode cX9_standsRight 133 = .ok (.ireturn, 1) := dX9_standsRight_116g.2.2.2.2.2.2.2.2.2.1
theorem dX9_standsRight_134 : decode cX9_standsRight 134 = .ok (.aload_n 1, 1) := dX9_standsRight_116g.2.2.2.2.2.2.2.2.2.2.1
theorem dX9_standsRight_135 : decode cX9_standsRight 135 = .ok (.getstatic 82, 3) := dX9_standsRight_116g.2.2.2.2.2.2.2.2.2.2.2.1
theorem dX9_standsRight_138 : decode cX9_standsRight 138 = .ok (.invokevirtual 75, 3) := dX9_standsRight_116g.2.2.2.2.2.2.2.2.2.2.2.2.1
theorem dX9_standsRight_141 : decode cX9_standsRight 141 = .ok (.ifCond .eq 25, 3) := dX9_standsRight_116g.2.2.2.2.2.2.2.2.2.2.2.2.2.1
theorem dX9_standsRight_144 : decode cX9_standsRight 144 = .ok (.aload_n 0, 1) := dX9_standsRight_116g.2.2.2.2.2.2.2.2.2.2.2.2.2.2.1
theorem dX9_standsRight_145 : decode cX9_standsRight 145 = .ok (.aload_n 1, 1) := dX9_standsRight_116g.2.2.2.2.2.2.2.2.2.2.2.2.2.2.2
theorem dX9_standsRight_146g : decode cX9_standsRight 146 = .ok (.invokevirtual 85, 3) ∧ decode cX9_standsRight 149 = .ok (.bipush 8, 2) ∧ decode cX9_standsRight 151 = .ok (.if_icmp .ge 15, 3) ∧ decode cX9_standsRight 154 = .ok (.aload_n 0, 1) ∧ decode cX9_standsRight 155 = .ok (.aload_n 1, 1) ∧ decode cX9_standsRight 156 = .ok (.invokevirtual 89, 3) ∧ decode cX9_standsRight 159 = .ok (.ifCond .eq 7, 3) ∧ decode cX9_standsRight 162 = .ok (.iconst 1, 1) ∧ decode cX9_standsRight 163 = .ok (.goto 4, 3) ∧ decode cX9_standsRight 166 = .ok (.iconst 0, 1) ∧ decode cX9_standsRight 167 = .ok (.ireturn, 1) ∧ decode cX9_standsRight 168 = .ok (.aload_n 1, 1) ∧ decode cX9_standsRight 169 = .ok (.getstatic 82, 3) ∧ decode cX9_standsRight 172 = .ok (.invokevirtual 75, 3) ∧ decode cX9_standsRight 175 = .ok (.ifCond .eq 24, 3) ∧ decode cX9_standsRight 178 = .ok (.aload_n 0, 1) := by decide +kernel
theorem dX9_standsRight_146 : decode cX9_standsRight 146 = .ok (.invokevirtual 85, 3) := dX9_standsRight_146g.1
theorem dX9_standsRight_149 : decode cX9_standsRight 149 = .ok (.bipush 8, 2) := dX9_standsRight_146g.2.1
theorem dX9_standsRight_151 : decode cX9_standsRight 151 = .ok (.if_icmp .ge 15, 3) := dX9_standsRight_146g.2.2.1
theorem dX9_standsRight_154 : decode cX9_standsRight 154 = .ok (.aload_n 0, 1) := dX9_standsRight_146g.2.2.2.1
theorem dX9_standsRight_155 : decode cX9_standsRight 155 = .ok (.aload_n 1, 1) := dX9_standsRight_146g.2.2.2.2.1
theorem dX9_standsRight_156 : decode cX9_standsRight 156 = .ok (.invokevirtual 89, 3) := dX9_standsRight_146g.2.2.2.2.2.1
theorem dX9_standsRight_159 : decode cX9_standsRight 159 = .ok (.ifCond .eq 7, 3) := dX9_standsRight_146g.2.2.2.2.2.2.1
theorem dX9_standsRight_162 : decode cX9_standsRight 162 = .ok (.iconst 1, 1) := dX9_standsRight_146g.2.2.2.2.2.2.2.1
theorem dX9_standsRight_163 : decode cX9_standsRight 163 = .ok (.goto 4, 3) := dX9_standsRight_146g.2.2.2.2.2.2.2.2.1
theorem dX9_standsRight_166 : decode cX9_standsRight 166 = .ok (.iconst 0, 1) := dX9_standsRight_146g.2.2.2.2.2.2.2.2.2.1
theorem dX9_standsRight_167 : decode cX9_standsRight 167 = .ok (.ireturn, 1) := dX9_standsRight_146g.2.2.2.2.2.2.2.2.2.2.1
theorem dX9_standsRight_168 : decode cX9_standsRight 168 = .ok (.aload_n 1, 1) := dX9_standsRight_146g.2.2.2.2.2.2.2.2.2.2.2.1
theorem dX9_standsRight_169 : decode cX9_standsRight 169 = .ok (.getstatic 82, 3) := dX9_standsRight_146g.2.2.2.2.2.2.2.2.2.2.2.2.1
theorem dX9_standsRight_172 : decode cX9_standsRight 172 = .ok (.invokevirtual 75, 3) := dX9_standsRight_146g.2.2.2.2.2.2.2.2.2.2.2.2.2.1
theorem dX9_standsRight_175 : decode cX9_standsRight 175 = .ok (.ifCond .eq 24, 3) := dX9_standsRight_146g.2.2.2.2.2.2.2.2.2.2.2.2.2.2.1
theorem dX9_standsRight_178 : decode cX9_standsRight 178 = .ok (.aload_n 0, 1) := dX9_standsRight_146g.2.2.2.2.2.2.2.2.2.2.2.2.2.2.2
theorem dX9_standsRight_179g : decode cX9_standsRight 179 = .ok (.aload_n 1, 1) ∧ decode cX9_standsRight 180 = .ok (.invokevirtual 85, 3) ∧ decode cX9_standsRight 183 = .ok (.iconst 2, 1) ∧ decode cX9_standsRight 184 = .ok (.if_icmp .ge 15, 3) ∧ decode cX9_standsRight 187 = .ok (.aload_n 0, 1) ∧ decode cX9_standsRight 188 = .ok (.aload_n 1, 1) ∧ decode cX9_standsRight 189 = .ok (.invokevirtual 89, 3) ∧ decode cX9_standsRight 192 = .ok (.ifCond .eq 7, 3) ∧ decode cX9_standsRight 195 = .ok (.iconst 1, 1) ∧ decode cX9_standsRight 196 = .ok (.goto 4, 3) ∧ decode cX9_standsRight 199 = .ok (.iconst 0, 1) ∧ decode cX9_standsRight 200 = .ok (.ireturn, 1) ∧ decode cX9_standsRight 201 = .ok (.aload_n 1, 1) ∧ decode cX9_standsRight 202 = .ok (.getstatic 92, 3) ∧ decode cX9_standsRight 205 = .ok (.invokevirtual 75, 3) ∧ decode cX9_standsRight 208 = .ok (.ifCond .ne 13, 3) := by decide +kernel
theorem dX9_standsRight_179 : decode cX9_standsRight 179 = .ok (.aload_n 1, 1) := dX9_standsRight_179g.1
theorem dX9_standsRight_180 : decode cX9_standsRight 180 = .ok (.invokevirtual 85, 3) := dX9_standsRight_179g.2.1
theorem dX9_standsRight_183 : decode cX9_standsRight 183 = .ok (.iconst 2, 1) := dX9_standsRight_179g.2.2.1
theorem dX9_standsRight_184 : decode cX9_standsRight 184 = .ok (.if_icmp .ge 15, 3) := dX9_standsRight_179g.2.2.2.1
theorem dX9_standsRight_187 : decode cX9_standsRight 187 = .ok (.aload_n 0, 1) := dX9_standsRight_179g.2.2.2.2.1
theorem dX9_standsRight_188 : decode cX9_standsRight 188 = .ok (.aload_n 1, 1) := dX9_standsRight_179g.2.2.2.2.2.1
theorem dX9_standsRight_189 : decode cX9_standsRight 189 = .ok (.invokevirtual 89, 3) := dX9_standsRight_179g.2.2.2.2.2.2.1
theorem dX9_standsRight_192 : decode cX9_standsRight 192 = .ok (.ifCond .eq 7, 3) := dX9_standsRight_179g.2.2.2.2.2.2.2.1
theorem dX9_standsRight_195 : decode cX9_standsRight 195 = .ok (.iconst 1, 1) := dX9_standsRight_179g.2.2.2.2.2.2.2.2.1
theorem dX9_standsRight_196 : decode cX9_standsRight 196 = .ok (.goto 4, 3) := dX9_standsRight_179g.2.2.2.2.2.2.2.2.2.1
theorem dX9_standsRight_199 : decode cX9_standsRight 199 = .ok (.iconst 0, 1) := dX9_standsRight_179g.2.2.2.2.2.2.2.2.2.2.1
theorem dX9_standsRight_200 : decode cX9_standsRight 200 = .ok (.ireturn, 1) := dX9_standsRight_179g.2.2.2.2.2.2.2.2.2.2.2.1
theorem dX9_standsRight_201 : decode cX9_standsRight 201 = .ok (.aload_n 1, 1) := dX9_standsRight_179g.2.2.2.2.2.2.2.2.2.2.2.2.1
theorem dX9_standsRight_202 : decode cX9_standsRight 202 = .ok (.getstatic 92, 3) := dX9_standsRight_179g.2.2.2.2.2.2.2.2.2.2.2.2.2.1
theorem dX9_standsRight_205 : decode cX9_standsRight 205 = .ok (.invokevirtual 75, 3) := dX9_standsRight_179g.2.2.2.2.2.2.2.2.2.2.2.2.2.2.1
theorem dX9_standsRight_208 : decode cX9_standsRight 208 = .ok (.ifCond .ne 13, 3) := dX9_standsRight_179g.2.2.2.2.2.2.2.2.2.2.2.2.2.2.2
theorem dX9_standsRight_211g : decode cX9_standsRight 211 = .ok (.aload_n 1, 1) ∧ decode cX9_standsRight 212 = .ok (.getstatic 95, 3) ∧ decode cX9_standsRight 215 = .ok (.invokevirtual 75, 3) ∧ decode cX9_standsRight 218 = .ok (.ifCond .eq 7, 3) ∧ decode cX9_standsRight 221 = .ok (.iconst 1, 1) ∧ decode cX9_standsRight 222 = .ok (.goto 4, 3) ∧ decode cX9_standsRight 225 = .ok (.iconst 0, 1) ∧ decode cX9_standsRight 226 = .ok (.ireturn, 1) ∧ decode cX9_standsRight 227 = .ok (.aload_n 0, 1) ∧ decode cX9_standsRight 228 = .ok (.aload_n 1, 1) ∧ decode cX9_standsRight 229 = .ok (.invokevirtual 79, 3) ∧ decode cX9_standsRight 232 = .ok (.ireturn, 1) ∧ decode cX9_standsRight 233 = .ok (.iconst 0, 1) ∧ decode cX9_standsRight 234 = .ok (.ireturn, 1) := by decide +kernel
theorem dX9_standsRight_211 : decode cX9_standsRight 211 = .ok (.aload_n 1, 1) := dX9_standsRight_211g.1
theorem dX9_standsRight_212 : decode cX9_standsRight 212 = .ok (.getstatic 95, 3) := dX9_standsRight_211g.2.1
theorem dX9_standsRight_215 : decode cX9_standsRight 215 = .ok (.invokevirtual 75, 3) := dX9_standsRight_211g.2.2.1
theorem dX9_standsRight_218 : decode cX9_standsRight 218 = .ok (.ifCond .eq 7, 3) := dX9_standsRight_211g.2.2.2.1
theorem dX9_standsRight_221 : decode cX9_standsRight 221 = .ok (.iconst 1, 1) := dX9_standsRight_211g.2.2.2.2.1
theorem dX9_standsRight_222 : decode cX9_standsRight 222 = .ok (.goto 4, 3) := dX9_standsRight_211g.2.2.2.2.2.1
theorem dX9_standsRight_225 : decode cX9_standsRight 225 = .ok (.iconst 0, 1) := dX9_standsRight_211g.2.2.2.2.2.2.1
theorem dX9_standsRight_226 : decode cX9_standsRight 226 = .ok (.ireturn, 1) := dX9_standsRight_211g.2.2.2.2.2.2.2.1
theorem dX9_standsRight_227 : decode cX9_standsRight 227 = .ok (.aload_n 0, 1) := dX9_standsRight_211g.2.2.2.2.2.2.2.2.1
theorem dX9_standsRight_228 : decode cX9_standsRight 228 = .ok (.aload_n 1, 1) := dX9_standsRight_211g.2.2.2.2.2.2.2.2.2.1
theorem dX9_standsRight_229 : decode cX9_standsRight 229 = .ok (.invokevirtual 79, 3) := dX9_standsRight_211g.2.2.2.2.2.2.2.2.2.2.1
theorem dX9_standsRight_232 : decode cX9_standsRight 232 = .ok (.ireturn, 1) := dX9_standsRight_211g.2.2.2.2.2.2.2.2.2.2.2.1
theorem dX9_standsRight_233 : decode cX9_standsRight 233 = .ok (.iconst 0, 1) := dX9_standsRight_211g.2.2.2.2.2.2.2.2.2.2.2.2.1
theorem dX9_standsRight_234 : decode cX9_standsRight 234 = .ok (.ireturn, 1) := dX9_standsRight_211g.2.2.2.2.2.2.2.2.2.2.2.2.2
theorem dX9_isHeld_0g : decode cX9_isHeld 0 = .ok (.aload_n 1, 1) ∧ decode cX9_isHeld 1 = .ok (.getstatic 92, 3) ∧ decode cX9_isHeld 4 = .ok (.invokevirtual 75, 3) ∧ decode cX9_isHeld 7 = .ok (.ifCond .ne 23, 3) ∧ decode cX9_isHeld 10 = .ok (.aload_n 1, 1) ∧ decode cX9_isHeld 11 = .ok (.getstatic 95, 3) ∧ decode cX9_isHeld 14 = .ok (.invokevirtual 75, 3) ∧ decode cX9_isHeld 17 = .ok (.ifCond .ne 13, 3) ∧ decode cX9_isHeld 20 = .ok (.aload_n 1, 1) ∧ decode cX9_isHeld 21 = .ok (.getstatic 98, 3) ∧ decode cX9_isHeld 24 = .ok (.invokevirtual 75, 3) ∧ decode cX9_isHeld 27 = .ok (.ifCond .eq 7, 3) ∧ decode cX9_isHeld 30 = .ok (.iconst 1, 1) ∧ decode cX9_isHeld 31 = .ok (.goto 4, 3) ∧ decode cX9_isHeld 34 = .ok (.iconst 0, 1) ∧ decode cX9_isHeld 35 = .ok (.ireturn, 1) := by decide +kernel
theorem dX9_isHeld_0 : decode cX9_isHeld 0 = .ok (.aload_n 1, 1) := dX9_isHeld_0g.1
theorem dX9_isHeld_1 : decode cX9_isHeld 1 = .ok (.getstatic 92, 3) := dX9_isHeld_0g.2.1
theorem dX9_isHeld_4 : decode cX9_isHeld 4 = .ok (.invokevirtual 75, 3) := dX9_isHeld_0g.2.2.1
theorem dX9_isHeld_7 : decode cX9_isHeld 7 = .ok (.ifCond .ne 23, 3) := dX9_isHeld_0g.2.2.2.1
theorem dX9_isHeld_10 : decode cX9_isHeld 10 = .ok (.aload_n 1, 1) := dX9_isHeld_0g.2.2.2.2.1
theorem dX9_isHeld_11 : decode cX9_isHeld 11 = .ok (.getstatic 95, 3) := dX9_isHeld_0g.2.2.2.2.2.1
theorem dX9_isHeld_14 : decode cX9_isHeld 14 = .ok (.invokevirtual 75, 3) := dX9_isHeld_0g.2.2.2.2.2.2.1
theorem dX9_isHeld_17 : decode cX9_isHeld 17 = .ok (.ifCond .ne 13, 3) := dX9_isHeld_0g.2.2.2.2.2.2.2.1
theorem dX9_isHeld_20 : decode cX9_isHeld 20 = .ok (.aload_n 1, 1) := dX9_isHeld_0g.2.2.2.2.2.2.2.2.1
theorem dX9_isHeld_21 : decode cX9_isHeld 21 = .ok (.getstatic 98, 3) := dX9_isHeld_0g.2.2.2.2.2.2.2.2.2.1
theorem dX9_isHeld_24 : decode cX9_isHeld 24 = .ok (.invokevirtual 75, 3) := dX9_isHeld_0g.2.2.2.2.2.2.2.2.2.2.1
theorem dX9_isHeld_27 : decode cX9_isHeld 27 = .ok (.ifCond .eq 7, 3) := dX9_isHeld_0g.2.2.2.2.2.2.2.2.2.2.2.1
theorem dX9_isHeld_30 : decode cX9_isHeld 30 = .ok (.iconst 1, 1) := dX9_isHeld_0g.2.2.2.2.2.2.2.2.2.2.2.2.1
theorem dX9_isHeld_31 : decode cX9_isHeld 31 = .ok (.goto 4, 3) := dX9_isHeld_0g.2.2.2.2.2.2.2.2.2.2.2.2.2.1
theorem dX9_isHeld_34 : decode cX9_isHeld 34 = .ok (.iconst 0, 1) := dX9_isHeld_0g.2.2.2.2.2.2.2.2.2.2.2.2.2.2.1
theorem dX9_isHeld_35 : decode cX9_isHeld 35 = .ok (.ireturn, 1) := dX9_isHeld_0g.2.2.2.2.2.2.2.2.2.2.2.2.2.2.2
theorem dX9_likeBefore_0g : decode cX9_likeBefore 0 = .ok (.iconst 0, 1) ∧ decode cX9_likeBefore 1 = .ok (.istore_n 2, 1) ∧ decode cX9_likeBefore 2 = .ok (.aload_n 1, 1) ∧ decode cX9_likeBefore 3 = .ok (.getfield 68, 3) ∧ decode cX9_likeBefore 6 = .ok (.getfield 101, 3) ∧ decode cX9_likeBefore 9 = .ok (.astore_n 3, 1) ∧ decode cX9_likeBefore 10 = .ok (.iconst 0, 1) ∧ decode cX9_likeBefore 11 = .ok (.istore 4, 2) ∧ decode cX9_likeBefore 13 = .ok (.iload 4, 2) ∧ decode cX9_likeBefore 15 = .ok (.bipush 80, 2) ∧ decode cX9_likeBefore 17 = .ok (.if_icmp .ge 37, 3) ∧ decode cX9_likeBefore 20 = .ok (.aload_n 3, 1) ∧ decode cX9_likeBefore 21 = .ok (.ifnull 33, 3) ∧ decode cX9_likeBefore 24 = .ok (.aload_n 3, 1) ∧ decode cX9_likeBefore 25 = .ok (.aload_n 1, 1) ∧ decode cX9_likeBefore 26 = .ok (.if_acmp .eq 28, 3) := by decide +kernel
theorem dX9_likeBefore_0 : decode cX9_likeBefore 0 = .ok (.iconst 0, 1) := dX9_likeBefore_0g.1
theorem dX9_likeBefore_1 : decode cX9_likeBefore 1 = .ok (.istore_n 2, 1) := dX9_likeBefore_0g.2.1
theorem dX9_likeBefore_2 : decode cX9_likeBefore 2 = .ok (.aload_n 1, 1) := dX9_likeBefore_0g.2.2.1
theorem dX9_likeBefore_3 : decode cX9_likeBefore 3 = .ok (.getfield 68, 3) := dX9_likeBefore_0g.2.2.2.1
theorem dX9_likeBefore_6 : decode cX9_likeBefore 6 = .ok (.getfield 101, 3) := dX9_likeBefore_0g.2.2.2.2.1
theorem dX9_likeBefore_9 : decode cX9_likeBefore 9 = .ok (.astore_n 3, 1) := dX9_likeBefore_0g.2.2.2.2.2.1
theorem dX9_likeBefore_10 : decode cX9_likeBefore 10 = .ok (.iconst 0, 1) := dX9_likeBefore_0g.2.2.2.2.2.2.1
theorem dX9_likeBefore_11 : decode cX9_likeBefore 11 = .ok (.istore 4, 2) := dX9_likeBefore_0g.2.2.2.2.2.2.2.1
theorem dX9_likeBefore_13 : decode cX9_likeBefore 13 = .ok (.iload 4, 2) := dX9_likeBefore_0g.2.2.2.2.2.2.2.2.1
theorem dX9_likeBefore_15 : decode cX9_likeBefore 15 = .ok (.bipush 80, 2) := dX9_likeBefore_0g.2.2.2.2.2.2.2.2.2.1
theorem dX9_likeBefore_17 : decode cX9_likeBefore 17 = .ok (.if_icmp .ge 37, 3) := dX9_likeBefore_0g.2.2.2.2.2.2.2.2.2.2.1
theorem dX9_likeBefore_20 : decode cX9_likeBefore 20 = .ok (.aload_n 3, 1) := dX9_likeBefore_0g.2.2.2.2.2.2.2.2.2.2.2.1
theorem dX9_likeBefore_21 : decode cX9_likeBefore 21 = .ok (.ifnull 33, 3) := dX9_likeBefore_0g.2.2.2.2.2.2.2.2.2.2.2.2.1
theorem dX9_likeBefore_24 : decode cX9_likeBefore 24 = .ok (.aload_n 3, 1) := dX9_likeBefore_0g.2.2.2.2.2.2.2.2.2.2.2.2.2.1
theorem dX9_likeBefore_25 : decode cX9_likeBefore 25 = .ok (.aload_n 1, 1) := dX9_likeBefore_0g.2.2.2.2.2.2.2.2.2.2.2.2.2.2.1
theorem dX9_likeBefore_26 : decode cX9_likeBefore 26 = .ok (.if_acmp .eq 28, 3) := dX9_likeBefore_0g.2.2.2.2.2.2.2.2.2.2.2.2.2.2.2
theorem dX9_likeBefore_29g : decode cX9_likeBefore 29 = .ok (.aload_n 3, 1) ∧ decode cX9_likeBefore 30 = .ok (.getfield 35, 3) ∧ decode cX9_likeBefore 33 = .ok (.aload_n 1, 1) ∧ decode cX9_likeBefore 34 = .ok (.getfield 35, 3) ∧ decode cX9_likeBefore 37 = .ok (.if_acmp .ne 6, 3) ∧ decode cX9_likeBefore 40 = .ok (.iinc 2 1, 3) ∧ decode cX9_likeBefore 43 = .ok (.aload_n 3, 1) ∧ decode cX9_likeBefore 44 = .ok (.getfield 104, 3) ∧ decode cX9_likeBefore 47 = .ok (.astore_n 3, 1) ∧ decode cX9_likeBefore 48 = .ok (.iinc 4 1, 3) ∧ decode cX9_likeBefore 51 = .ok (.goto (-38), 3) ∧ decode cX9_likeBefore 54 = .ok (.iload_n 2, 1) ∧ decode cX9_likeBefore 55 = .ok (.ireturn, 1) := by decide +kernel
theorem dX9_likeBefore_29 : decode cX9_likeBefore 29 = .ok (.aload_n 3, 1) := dX9_likeBefore_29g.1
theorem dX9_likeBefore_30 : decode cX9_likeBefore 30 = .ok (.getfield 35, 3) := dX9_likeBefore_29g.2.1
theorem dX9_likeBefore_33 : decode cX9_likeBefore 33 = .ok (.aload_n 1, 1) := dX9_likeBefore_29g.2.2.1
theorem dX9_likeBefore_34 : decode cX9_likeBefore 34 = .ok (.getfield 35, 3) := dX9_likeBefore_29g.2.2.2.1
theorem dX9_likeBefore_37 : decode cX9_likeBefore 37 = .ok (.if_acmp .ne 6, 3) := dX9_likeBefore_29g.2.2.2.2.1
theorem dX9_likeBefore_40 : decode cX9_likeBefore 40 = .ok (.iinc 2 1, 3) := dX9_likeBefore_29g.2.2.2.2.2.1
theorem dX9_likeBefore_43 : decode cX9_likeBefore 43 = .ok (.aload_n 3, 1) := dX9_likeBefore_29g.2.2.2.2.2.2.1
theorem dX9_likeBefore_44 : decode cX9_likeBefore 44 = .ok (.getfield 104, 3) := dX9_likeBefore_29g.2.2.2.2.2.2.2.1
theorem dX9_likeBefore_47 : decode cX9_likeBefore 47 = .ok (.astore_n 3, 1) := dX9_likeBefore_29g.2.2.2.2.2.2.2.2.1
theorem dX9_likeBefore_48 : decode cX9_likeBefore 48 = .ok (.iinc 4 1, 3) := dX9_likeBefore_29g.2.2.2.2.2.2.2.2.2.1
theorem dX9_likeBefore_51 : decode cX9_likeBefore 51 = .ok (.goto (-38), 3) := dX9_likeBefore_29g.2.2.2.2.2.2.2.2.2.2.1
theorem dX9_likeBefore_54 : decode cX9_likeBefore 54 = .ok (.iload_n 2, 1) := dX9_likeBefore_29g.2.2.2.2.2.2.2.2.2.2.2.1
theorem dX9_likeBefore_55 : decode cX9_likeBefore 55 = .ok (.ireturn, 1) := dX9_likeBefore_29g.2.2.2.2.2.2.2.2.2.2.2.2
theorem dX9_isFirstOfName_0g : decode cX9_isFirstOfName 0 = .ok (.aload_n 0, 1) ∧ decode cX9_isFirstOfName 1 = .ok (.getfield 9, 3) ∧ decode cX9_isFirstOfName 4 = .ok (.aload_n 1, 1) ∧ decode cX9_isFirstOfName 5 = .ok (.getstatic 107, 3) ∧ decode cX9_isFirstOfName 8 = .ok (.invokevirtual 110, 3) ∧ decode cX9_isFirstOfName 11 = .ok (.istore_n 2, 1) ∧ decode cX9_isFirstOfName 12 = .ok (.aload_n 1, 1) ∧ decode cX9_isFirstOfName 13 = .ok (.getfield 68, 3) ∧ decode cX9_isFirstOfName 16 = .ok (.getfield 101, 3) ∧ decode cX9_isFirstOfName 19 = .ok (.astore_n 3, 1) ∧ decode cX9_isFirstOfName 20 = .ok (.iconst 0, 1) ∧ decode cX9_isFirstOfName 21 = .ok (.istore 4, 2) ∧ decode cX9_isFirstOfName 23 = .ok (.iload 4, 2) ∧ decode cX9_isFirstOfName 25 = .ok (.bipush 80, 2) ∧ decode cX9_isFirstOfName 27 = .ok (.if_icmp .ge 51, 3) ∧ decode cX9_isFirstOfName 30 = .ok (.aload_n 3, 1) := by decide +kernel
theorem dX9_isFirstOfName_0 : decode cX9_isFirstOfName 0 = .ok (.aload_n 0, 1) := dX9_isFirstOfName_0g.1
theorem dX9_isFirstOfName_1 : decode cX9_isFirstOfName 1 = .ok (.getfield 9, 3) := dX9_isFirstOfName_0g.2.1
theorem dX9_isFirstOfName_4 : decode cX9_isFirstOfName 4 = .ok (.aload_n 1, 1) := dX9_isFirstOfName_0g.2.2.1
theorem dX9_isFirstOfName_5 : decode cX9_isFirstOfName 5 = .ok (.getstatic 107, 3) := dX9_isFirstOfName_0g.2.2.2.1
theorem dX9_isFirstOfName_8 : decode cX9_isFirstOfName 8 = .ok (.invokevirtual 110, 3) := dX9_isFirstOfName_0g.2.2.2.2.1
theorem dX9_isFirstOfName_11 : decode cX9_isFirstOfName 11 = .ok (.istore_n 2, 1) := dX9_isFirstOfName_0g.2.2.2.2.2.1
theorem dX9_isFirstOfName_12 : decode cX9_isFirstOfName 12 = .ok (.aload_n 1, 1) := dX9_isFirstOfName_0g.2.2.2.2.2.2.1
theorem dX9_isFirstOfName_13 : decode cX9_isFirstOfName 13 = .ok (.getfield 68, 3) := dX9_isFirstOfName_0g.2.2.2.2.2.2.2.1
theorem dX9_isFirstOfName_16 : decode cX9_isFirstOfName 16 = .ok (.getfield 101, 3) := dX9_isFirstOfName_0g.2.2.2.2.2.2.2.2.1
theorem dX9_isFirstOfName_19 : decode cX9_isFirstOfName 19 = .ok (.astore_n 3, 1) := dX9_isFirstOfName_0g.2.2.2.2.2.2.2.2.2.1
theorem dX9_isFirstOfName_20 : decode cX9_isFirstOfName 20 = .ok (.iconst 0, 1) := dX9_isFirstOfName_0g.2.2.2.2.2.2.2.2.2.2.1
theorem dX9_isFirstOfName_21 : decode cX9_isFirstOfName 21 = .ok (.istore 4, 2) := dX9_isFirstOfName_0g.2.2.2.2.2.2.2.2.2.2.2.1
theorem dX9_isFirstOfName_23 : decode cX9_isFirstOfName 23 = .ok (.iload 4, 2) := dX9_isFirstOfName_0g.2.2.2.2.2.2.2.2.2.2.2.2.1
theorem dX9_isFirstOfName_25 : decode cX9_isFirstOfName 25 = .ok (.bipush 80, 2) := dX9_isFirstOfName_0g.2.2.2.2.2.2.2.2.2.2.2.2.2.1
theorem dX9_isFirstOfName_27 : decode cX9_isFirstOfName 27 = .ok (.if_icmp .ge 51, 3) := dX9_isFirstOfName_0g.2.2.2.2.2.2.2.2.2.2.2.2.2.2.1
theorem dX9_isFirstOfName_30 : decode cX9_isFirstOfName 30 = .ok (.aload_n 3, 1) := dX9_isFirstOfName_0g.2.2.2.2.2.2.2.2.2.2.2.2.2.2.2
theorem dX9_isFirstOfName_31g : decode cX9_isFirstOfName 31 = .ok (.ifnull 47, 3) ∧ decode cX9_isFirstOfName 34 = .ok (.aload_n 3, 1) ∧ decode cX9_isFirstOfName 35 = .ok (.aload_n 1, 1) ∧ decode cX9_isFirstOfName 36 = .ok (.if_acmp .eq 42, 3) ∧ decode cX9_isFirstOfName 39 = .ok (.aload_n 3, 1) ∧ decode cX9_isFirstOfName 40 = .ok (.getfield 35, 3) ∧ decode cX9_isFirstOfName 43 = .ok (.aload_n 1, 1) ∧ decode cX9_isFirstOfName 44 = .ok (.getfield 35, 3) ∧ decode cX9_isFirstOfName 47 = .ok (.if_acmp .ne 20, 3) ∧ decode cX9_isFirstOfName 50 = .ok (.aload_n 0, 1) ∧ decode cX9_isFirstOfName 51 = .ok (.getfield 9, 3) ∧ decode cX9_isFirstOfName 54 = .ok (.aload_n 3, 1) ∧ decode cX9_isFirstOfName 55 = .ok (.getstatic 107, 3) ∧ decode cX9_isFirstOfName 58 = .ok (.invokevirtual 110, 3) ∧ decode cX9_isFirstOfName 61 = .ok (.iload_n 2, 1) ∧ decode cX9_isFirstOfName 62 = .ok (.if_icmp .ne 5, 3) := by decide +kernel
theorem dX9_isFirstOfName_31 : decode cX9_isFirstOfName 31 = .ok (.ifnull 47, 3) := dX9_isFirstOfName_31g.1
theorem dX9_isFirstOfName_34 : decode cX9_isFirstOfName 34 = .ok (.aload_n 3, 1) := dX9_isFirstOfName_31g.2.1
theorem dX9_isFirstOfName_35 : decode cX9_isFirstOfName 35 = .ok (.aload_n 1, 1) := dX9_isFirstOfName_31g.2.2.1
theorem dX9_isFirstOfName_36 : decode cX9_isFirstOfName 36 = .ok (.if_acmp .eq 42, 3) := dX9_isFirstOfName_31g.2.2.2.1
theorem dX9_isFirstOfName_39 : decode cX9_isFirstOfName 39 = .ok (.aload_n 3, 1) := dX9_isFirstOfName_31g.2.2.2.2.1
theorem dX9_isFirstOfName_40 : decode cX9_isFirstOfName 40 = .ok (.getfield 35, 3) := dX9_isFirstOfName_31g.2.2.2.2.2.1
theorem dX9_isFirstOfName_43 : decode cX9_isFirstOfName 43 = .ok (.aload_n 1, 1) := dX9_isFirstOfName_31g.2.2.2.2.2.2.1
theorem dX9_isFirstOfName_44 : decode cX9_isFirstOfName 44 = .ok (.getfield 35, 3) := dX9_isFirstOfName_31g.2.2.2.2.2.2.2.1
theorem dX9_isFirstOfName_47 : decode cX9_isFirstOfName 47 = .ok (.if_acmp .ne 20, 3) := dX9_isFirstOfName_31g.2.2.2.2.2.2.2.2.1
theorem dX9_isFirstOfName_50 : decode cX9_isFirstOfName 50 = .ok (.aload_n 0, 1) := dX9_isFirstOfName_31g.2.2.2.2.2.2.2.2.2.1
theorem dX9_isFirstOfName_51 : decode cX9_isFirstOfName 51 = .ok (.getfield 9, 3) := dX9_isFirstOfName_31g.2.2.2.2.2.2.2.2.2.2.1
theorem dX9_isFirstOfName_54 : decode cX9_isFirstOfName 54 = .ok (.aload_n 3, 1) := dX9_isFirstOfName_31g.2.2.2.2.2.2.2.2.2.2.2.1
theorem dX9_isFirstOfName_55 : decode cX9_isFirstOfName 55 = .ok (.getstatic 107, 3) := dX9_isFirstOfName_31g.2.2.2.2.2.2.2.2.2.2.2.2.1
theorem dX9_isFirstOfName_58 : decode cX9_isFirstOfName 58 = .ok (.invokevirtual 110, 3) := dX9_isFirstOfName_31g.2.2.2.2.2.2.2.2.2.2.2.2.2.1
theorem dX9_isFirstOfName_61 : decode cX9_isFirstOfName 61 = .ok (.iload_n 2, 1) := dX9_isFirstOfName_31g.2.2.2.2.2.2.2.2.2.2.2.2.2.2.1
theorem dX9_isFirstOfName_62 : decode cX9_isFirstOfName 62 = .ok (.if_icmp .ne 5, 3) := dX9_isFirstOfName_31g.2.2.2.2.2.2.2.2.2.2.2.2.2.2.2
theorem dX9_isFirstOfName_65g : decode cX9_isFirstOfName 65 = .ok (.iconst 0, 1) ∧ decode cX9_isFirstOfName 66 = .ok (.ireturn, 1) ∧ decode cX9_isFirstOfName 67 = .ok (.aload_n 3, 1) ∧ decode cX9_isFirstOfName 68 = .ok (.getfield 104, 3) ∧ decode cX9_isFirstOfName 71 = .ok (.astore_n 3, 1) ∧ decode cX9_isFirstOfName 72 = .ok (.iinc 4 1, 3) ∧ decode cX9_isFirstOfName 75 = .ok (.goto (-52), 3) ∧ decode cX9_isFirstOfName 78 = .ok (.iconst 1, 1) ∧ decode cX9_isFirstOfName 79 = .ok (.ireturn, 1) := by decide +kernel
theorem dX9_isFirstOfName_65 : decode cX9_isFirstOfName 65 = .ok (.iconst 0, 1) := dX9_isFirstOfName_65g.1
theorem dX9_isFirstOfName_66 : decode cX9_isFirstOfName 66 = .ok (.ireturn, 1) := dX9_isFirstOfName_65g.2.1
theorem dX9_isFirstOfName_67 : decode cX9_isFirstOfName 67 = .ok (.aload_n 3, 1) := dX9_isFirstOfName_65g.2.2.1
theorem dX9_isFirstOfName_68 : decode cX9_isFirstOfName 68 = .ok (.getfield 104, 3) := dX9_isFirstOfName_65g.2.2.2.1
theorem dX9_isFirstOfName_71 : decode cX9_isFirstOfName 71 = .ok (.astore_n 3, 1) := dX9_isFirstOfName_65g.2.2.2.2.1
theorem dX9_isFirstOfName_72 : decode cX9_isFirstOfName 72 = .ok (.iinc 4 1, 3) := dX9_isFirstOfName_65g.2.2.2.2.2.1
theorem dX9_isFirstOfName_75 : decode cX9_isFirstOfName 75 = .ok (.goto (-52), 3) := dX9_isFirstOfName_65g.2.2.2.2.2.2.1
theorem dX9_isFirstOfName_78 : decode cX9_isFirstOfName 78 = .ok (.iconst 1, 1) := dX9_isFirstOfName_65g.2.2.2.2.2.2.2.1
theorem dX9_isFirstOfName_79 : decode cX9_isFirstOfName 79 = .ok (.ireturn, 1) := dX9_isFirstOfName_65g.2.2.2.2.2.2.2.2
theorem dX9_hasRightAttributes_0g : decode cX9_hasRightAttributes 0 = .ok (.iconst 0, 1) ∧ decode cX9_hasRightAttributes 1 = .ok (.istore_n 2, 1) ∧ decode cX9_hasRightAttributes 2 = .ok (.iload_n 2, 1) ∧ decode cX9_hasRightAttributes 3 = .ok (.aload_n 1, 1) ∧ decode cX9_hasRightAttributes 4 = .ok (.getfield 114, 3) ∧ decode cX9_hasRightAttributes 7 = .ok (.if_icmp .ge 47, 3) ∧ decode cX9_hasRightAttributes 10 = .ok (.aload_n 0, 1) ∧ decode cX9_hasRightAttributes 11 = .ok (.getfield 9, 3) ∧ decode cX9_hasRightAttributes 14 = .ok (.aload_n 1, 1) ∧ decode cX9_hasRightAttributes 15 = .ok (.getfield 117, 3) ∧ decode cX9_hasRightAttributes 18 = .ok (.iload_n 2, 1) ∧ decode cX9_hasRightAttributes 19 = .ok (.iadd, 1) ∧ decode cX9_hasRightAttributes 20 = .ok (.invokevirtual 120, 3) ∧ decode cX9_hasRightAttributes 23 = .ok (.astore_n 3, 1) ∧ decode cX9_hasRightAttributes 24 = .ok (.aload_n 3, 1) ∧ decode cX9_hasRightAttributes 25 = .ok (.ifnull 21, 3) := by decide +kernel
theorem dX9_hasRightAttributes_0 : decode cX9_hasRightAttributes 0 = .ok (.iconst 0, 1) := dX9_hasRightAttributes_0g.1
theorem dX9_hasRightAttributes_1 : decode cX9_hasRightAttributes 1 = .ok (.istore_n 2, 1) := dX9_hasRightAttributes_0g.2.1
theorem dX9_hasRightAttributes_2 : decode cX9_hasRightAttributes 2 = .ok (.iload_n 2, 1) := dX9_hasRightAttributes_0g.2.2.1
theorem dX9_hasRightAttributes_3 : decode cX9_hasRightAttributes 3 = .ok (.aload_n 1, 1) := dX9_hasRightAttributes_0g.2.2.2.1
theorem dX9_hasRightAttributes_4 : decode cX9_hasRightAttributes 4 = .ok (.getfield 114, 3) := dX9_hasRightAttributes_0g.2.2.2.2.1
theorem dX9_hasRightAttributes_7 : decode cX9_hasRightAttributes 7 = .ok (.if_icmp .ge 47, 3) := dX9_hasRightAttributes_0g.2.2.2.2.2.1
theorem dX9_hasRightAttributes_10 : decode cX9_hasRightAttributes 10 = .ok (.aload_n 0, 1) := dX9_hasRightAttributes_0g.2.2.2.2.2.2.1
theorem dX9_hasRightAttributes_11 : decode cX9_hasRightAttributes 11 = .ok (.getfield 9, 3) := dX9_hasRightAttributes_0g.2.2.2.2.2.2.2.1
theorem dX9_hasRightAttributes_14 : decode cX9_hasRightAttributes 14 = .ok (.aload_n 1, 1) := dX9_hasRightAttributes_0g.2.2.2.2.2.2.2.2.1
theorem dX9_hasRightAttributes_15 : decode cX9_hasRightAttributes 15 = .ok (.getfield 117, 3) := dX9_hasRightAttributes_0g.2.2.2.2.2.2.2.2.2.1
theorem dX9_hasRightAttributes_18 : decode cX9_hasRightAttributes 18 = .ok (.iload_n 2, 1) := dX9_hasRightAttributes_0g.2.2.2.2.2.2.2.2.2.2.1
theorem dX9_hasRightAttributes_19 : decode cX9_hasRightAttributes 19 = .ok (.iadd, 1) := dX9_hasRightAttributes_0g.2.2.2.2.2.2.2.2.2.2.2.1
theorem dX9_hasRightAttributes_20 : decode cX9_hasRightAttributes 20 = .ok (.invokevirtual 120, 3) := dX9_hasRightAttributes_0g.2.2.2.2.2.2.2.2.2.2.2.2.1
theorem dX9_hasRightAttributes_23 : decode cX9_hasRightAttributes 23 = .ok (.astore_n 3, 1) := dX9_hasRightAttributes_0g.2.2.2.2.2.2.2.2.2.2.2.2.2.1
theorem dX9_hasRightAttributes_24 : decode cX9_hasRightAttributes 24 = .ok (.aload_n 3, 1) := dX9_hasRightAttributes_0g.2.2.2.2.2.2.2.2.2.2.2.2.2.2.1
theorem dX9_hasRightAttributes_25 : decode cX9_hasRightAttributes 25 = .ok (.ifnull 21, 3) := dX9_hasRightAttributes_0g.2.2.2.2.2.2.2.2.2.2.2.2.2.2.2
theorem dX9_hasRightAttributes_28g : decode cX9_hasRightAttributes 28 = .ok (.aload_n 0, 1) ∧ decode cX9_hasRightAttributes 29 = .ok (.aload_n 1, 1) ∧ decode cX9_hasRightAttributes 30 = .ok (.aload_n 3, 1) ∧ decode cX9_hasRightAttributes 31 = .ok (.invokevirtual 124, 3) ∧ decode cX9_hasRightAttributes 34 = .ok (.ifCond .eq 12, 3) ∧ decode cX9_hasRightAttributes 37 = .ok (.aload_n 0, 1) ∧ decode cX9_hasRightAttributes 38 = .ok (.aload_n 1, 1) ∧ decode cX9_hasRightAttributes 39 = .ok (.aload_n 3, 1) ∧ decode cX9_hasRightAttributes 40 = .ok (.invokevirtual 128, 3) ∧ decode cX9_hasRightAttributes 43 = .ok (.ifCond .ne 5, 3) ∧ decode cX9_hasRightAttributes 46 = .ok (.iconst 0, 1) ∧ decode cX9_hasRightAttributes 47 = .ok (.ireturn, 1) ∧ decode cX9_hasRightAttributes 48 = .ok (.iinc 2 1, 3) ∧ decode cX9_hasRightAttributes 51 = .ok (.goto (-49), 3) ∧ decode cX9_hasRightAttributes 54 = .ok (.iconst 1, 1) ∧ decode cX9_hasRightAttributes 55 = .ok (.ireturn, 1) := by decide +kernel
theorem dX9_hasRightAttributes_28 : decode cX9_hasRightAttributes 28 = .ok (.aload_n 0, 1) := dX9_hasRightAttributes_28g.1
theorem dX9_hasRightAttributes_29 : decode cX9_hasRightAttributes 29 = .ok (.aload_n 1, 1) := dX9_hasRightAttributes_28g.2.1
theorem dX9_hasRightAttributes_30 : decode cX9_hasRightAttributes 30 = .ok (.aload_n 3, 1) := dX9_hasRightAttributes_28g.2.2.1
theorem dX9_hasRightAttributes_31 : decode cX9_hasRightAttributes 31 = .ok (.invokevirtual 124, 3) := dX9_hasRightAttributes_28g.2.2.2.1
theorem dX9_hasRightAttributes_34 : decode cX9_hasRightAttributes 34 = .ok (.ifCond .eq 12, 3) := dX9_hasRightAttributes_28g.2.2.2.2.1
theorem dX9_hasRightAttributes_37 : decode cX9_hasRightAttributes 37 = .ok (.aload_n 0, 1) := dX9_hasRightAttributes_28g.2.2.2.2.2.1
theorem dX9_hasRightAttributes_38 : decode cX9_hasRightAttributes 38 = .ok (.aload_n 1, 1) := dX9_hasRightAttributes_28g.2.2.2.2.2.2.1
theorem dX9_hasRightAttributes_39 : decode cX9_hasRightAttributes 39 = .ok (.aload_n 3, 1) := dX9_hasRightAttributes_28g.2.2.2.2.2.2.2.1
theorem dX9_hasRightAttributes_40 : decode cX9_hasRightAttributes 40 = .ok (.invokevirtual 128, 3) := dX9_hasRightAttributes_28g.2.2.2.2.2.2.2.2.1
theorem dX9_hasRightAttributes_43 : decode cX9_hasRightAttributes 43 = .ok (.ifCond .ne 5, 3) := dX9_hasRightAttributes_28g.2.2.2.2.2.2.2.2.2.1
theorem dX9_hasRightAttributes_46 : decode cX9_hasRightAttributes 46 = .ok (.iconst 0, 1) := dX9_hasRightAttributes_28g.2.2.2.2.2.2.2.2.2.2.1
theorem dX9_hasRightAttributes_47 : decode cX9_hasRightAttributes 47 = .ok (.ireturn, 1) := dX9_hasRightAttributes_28g.2.2.2.2.2.2.2.2.2.2.2.1
theorem dX9_hasRightAttributes_48 : decode cX9_hasRightAttributes 48 = .ok (.iinc 2 1, 3) := dX9_hasRightAttributes_28g.2.2.2.2.2.2.2.2.2.2.2.2.1
theorem dX9_hasRightAttributes_51 : decode cX9_hasRightAttributes 51 = .ok (.goto (-49), 3) := dX9_hasRightAttributes_28g.2.2.2.2.2.2.2.2.2.2.2.2.2.1
theorem dX9_hasRightAttributes_54 : decode cX9_hasRightAttributes 54 = .ok (.iconst 1, 1) := dX9_hasRightAttributes_28g.2.2.2.2.2.2.2.2.2.2.2.2.2.2.1
theorem dX9_hasRightAttributes_55 : decode cX9_hasRightAttributes 55 = .ok (.ireturn, 1) := dX9_hasRightAttributes_28g.2.2.2.2.2.2.2.2.2.2.2.2.2.2.2
theorem dX9_mayHave_0g : decode cX9_mayHave 0 = .ok (.getstatic 59, 3) ∧ decode cX9_mayHave 3 = .ok (.aload_n 1, 1) ∧ decode cX9_mayHave 4 = .ok (.getfield 35, 3) ∧ decode cX9_mayHave 7 = .ok (.invokevirtual 65, 3) ∧ decode cX9_mayHave 10 = .ok (.iaload, 1) ∧ decode cX9_mayHave 11 = .ok (.tableswitch 172 7 14 #[45, 65, 78, 112, 152, 172, 172, 139], 45) ∧ decode cX9_mayHave 56 = .ok (.aload_n 2, 1) ∧ decode cX9_mayHave 57 = .ok (.getstatic 107, 3) ∧ decode cX9_mayHave 60 = .ok (.if_acmp .eq 10, 3) ∧ decode cX9_mayHave 63 = .ok (.aload_n 2, 1) ∧ decode cX9_mayHave 64 = .ok (.getstatic 131, 3) ∧ decode cX9_mayHave 67 = .ok (.if_acmp .ne 7, 3) ∧ decode cX9_mayHave 70 = .ok (.iconst 1, 1) ∧ decode cX9_mayHave 71 = .ok (.goto 4, 3) ∧ decode cX9_mayHave 74 = .ok (.iconst 0, 1) ∧ decode cX9_mayHave 75 = .ok (.ireturn, 1) := by decide +kernel
theorem dX9_mayHave_0 : decode cX9_mayHave 0 = .ok (.getstatic 59, 3) := dX9_mayHave_0g.1
theorem dX9_mayHave_3 : decode cX9_mayHave 3 = .ok (.aload_n 1, 1) := dX9_mayHave_0g.2.1
theorem dX9_mayHave_4 : decode cX9_mayHave 4 = .ok (.getfield 35, 3) := dX9_mayHave_0g.2.2.1
theorem dX9_mayHave_7 : decode cX9_mayHave 7 = .ok (.invokevirtual 65, 3) := dX9_mayHave_0g.2.2.2.1
theorem dX9_mayHave_10 : decode cX9_mayHave 10 = .ok (.iaload, 1) := dX9_mayHave_0g.2.2.2.2.1
theorem dX9_mayHave_11 : decode cX9_mayHave 11 = .ok (.tableswitch 172 7 14 #[45, 65, 78, 112, 152, 172, 172, 139], 45) := dX9_mayHave_0g.2.2.2.2.2.1
theorem dX9_mayHave_56 : decode cX9_mayHave 56 = .ok (.aload_n 2, 1) := dX9_mayHave_0g.2.2.2.2.2.2.1
theorem dX9_mayHave_57 : decode cX9_mayHave 57 = .ok (.getstatic 107, 3) := dX9_mayHave_0g.2.2.2.2.2.2.2.1
theorem dX9_mayHave_60 : decode cX9_mayHave 60 = .ok (.if_acmp .eq 10, 3) := dX9_mayHave_0g.2.2.2.2.2.2.2.2.1
theorem dX9_mayHave_63 : decode cX9_mayHave 63 = .ok (.aload_n 2, 1) := dX9_mayHave_0g.2.2.2.2.2.2.2.2.2.1
theorem dX9_mayHave_64 : decode cX9_mayHave 64 = .ok (.getstatic 131, 3) := dX9_mayHave_0g.2.2.2.2.2.2.2.2.2.2.1
theorem dX9_mayHave_67 : decode cX9_mayHave 67 = .ok (.if_acmp .ne 7, 3) := dX9_mayHave_0g.2.2.2.2.2.2.2.2.2.2.2.1
theorem dX9_mayHave_70 : decode cX9_mayHave 70 = .ok (.iconst 1, 1) := dX9_mayHave_0g.2.2.2.2.2.2.2.2.2.2.2.2.1
theorem dX9_mayHave_71 : decode cX9_mayHave 71 = .ok (.goto 4, 3) := dX9_mayHave_0g.2.2.2.2.2.2.2.2.2.2.2.2.2.1
theorem dX9_mayHave_74 : decode cX9_mayHave 74 = .ok (.iconst 0, 1) := dX9_mayHave_0g.2.2.2.2.2.2.2.2.2.2.2.2.2.2.1
theorem dX9_mayHave_75 : decode cX9_mayHave 75 = .ok (.ireturn, 1) := dX9_mayHave_0g.2.2.2.2.2.2.2.2.2.2.2.2.2.2.2
theorem dX9_mayHave_76g : decode cX9_mayHave 76 = .ok (.aload_n 0, 1) ∧ decode cX9_mayHave 77 = .ok (.aload_n 2, 1) ∧ decode cX9_mayHave 78 = .ok (.aload_n 1, 1) ∧ decode cX9_mayHave 79 = .ok (.getstatic 72, 3) ∧ decode cX9_mayHave 82 = .ok (.invokevirtual 75, 3) ∧ decode cX9_mayHave 85 = .ok (.invokevirtual 134, 3) ∧ decode cX9_mayHave 88 = .ok (.ireturn, 1) ∧ decode cX9_mayHave 89 = .ok (.aload_n 2, 1) ∧ decode cX9_mayHave 90 = .ok (.getstatic 138, 3) ∧ decode cX9_mayHave 93 = .ok (.if_acmp .eq 24, 3) ∧ decode cX9_mayHave 96 = .ok (.aload_n 2, 1) ∧ decode cX9_mayHave 97 = .ok (.getstatic 141, 3) ∧ decode cX9_mayHave 100 = .ok (.if_acmp .eq 17, 3) ∧ decode cX9_mayHave 103 = .ok (.aload_n 2, 1) ∧ decode cX9_mayHave 104 = .ok (.getstatic 51, 3) ∧ decode cX9_mayHave 107 = .ok (.if_acmp .eq 10, 3) := by decide +kernel
theorem dX9_mayHave_76 : decode cX9_mayHave 76 = .ok (.aload_n 0, 1) := dX9_mayHave_76g.1
theorem dX9_mayHave_77 : decode cX9_mayHave 77 = .ok (.aload_n 2, 1) := dX9_mayHave_76g.2.1
theorem dX9_mayHave_78 : decode cX9_mayHave 78 = .ok (.aload_n 1, 1) := dX9_mayHave_76g.2.2.1
theorem dX9_mayHave_79 : decode cX9_mayHave 79 = .ok (.getstatic 72, 3) := dX9_mayHave_76g.2.2.2.1
theorem dX9_mayHave_82 : decode cX9_mayHave 82 = .ok (.invokevirtual 75, 3) := dX9_mayHave_76g.2.2.2.2.1
theorem dX9_mayHave_85 : decode cX9_mayHave 85 = .ok (.invokevirtual 134, 3) := dX9_mayHave_76g.2.2.2.2.2.1
theorem dX9_mayHave_88 : decode cX9_mayHave 88 = .ok (.ireturn, 1) := dX9_mayHave_76g.2.2.2.2.2.2.1
theorem dX9_mayHave_89 : decode cX9_mayHave 89 = .ok (.aload_n 2, 1) := dX9_mayHave_76g.2.2.2.2.2.2.2.1
theorem dX9_mayHave_90 : decode cX9_mayHave 90 = .ok (.getstatic 138, 3) := dX9_mayHave_76g.2.2.2.2.2.2.2.2.1
theorem dX9_mayHave_93 : decode cX9_mayHave 93 = .ok (.if_acmp .eq 24, 3) := dX9_mayHave_76g.2.2.2.2.2.2.2.2.2.1
theorem dX9_mayHave_96 : decode cX9_mayHave 96 = .ok (.aload_n 2, 1) := dX9_mayHave_76g.2.2.2.2.2.2.2.2.2.2.1
theorem dX9_mayHave_97 : decode cX9_mayHave 97 = .ok (.getstatic 141, 3) := dX9_mayHave_76g.2.2.2.2.2.2.2.2.2.2.2.1
theorem dX9_mayHave_100 : decode cX9_mayHave 100 = .ok (.if_acmp .eq 17, 3) := dX9_mayHave_76g.2.2.2.2.2.2.2.2.2.2.2.2.1
theorem dX9_mayHave_103 : decode cX9_mayHave 103 = .ok (.aload_n 2, 1) := dX9_mayHave_76g.2.2.2.2.2.2.2.2.2.2.2.2.2.1
theorem dX9_mayHave_104 : decode cX9_mayHave 104 = .ok (.getstatic 51, 3) := dX9_mayHave_76g.2.2.2.2.2.2.2.2.2.2.2.2.2.2.1
theorem dX9_mayHave_107 : decode cX9_mayHave 107 = .ok (.if_acmp .eq 10, 3) := dX9_mayHave_76g.2.2.2.2.2.2.2.2.2.2.2.2.2.2.2
theorem dX9_mayHave_110g : decode cX9_mayHave 110 = .ok (.aload_n 2, 1) ∧ decode cX9_mayHave 111 = .ok (.getstatic 144, 3) ∧ decode cX9_mayHave 114 = .ok (.if_acmp .ne 7, 3) ∧ decode cX9_mayHave 117 = .ok (.iconst 1, 1) ∧ decode cX9_mayHave 118 = .ok (.goto 4, 3) ∧ decode cX9_mayHave 121 = .ok (.iconst 0, 1) ∧ decode cX9_mayHave 122 = .ok (.ireturn, 1) ∧ decode cX9_mayHave 123 = .ok (.aload_n 2, 1) ∧ decode cX9_mayHave 124 = .ok (.getstatic 107, 3) ∧ decode cX9_mayHave 127 = .ok (.if_acmp .eq 17, 3) ∧ decode cX9_mayHave 130 = .ok (.aload_n 2, 1) ∧ decode cX9_mayHave 131 = .ok (.getstatic 51, 3) ∧ decode cX9_mayHave 134 = .ok (.if_acmp .eq 10, 3) ∧ decode cX9_mayHave 137 = .ok (.aload_n 2, 1) ∧ decode cX9_mayHave 138 = .ok (.getstatic 144, 3) ∧ decode cX9_mayHave 141 = .ok (.if_acmp .ne 7, 3) := by decide +kernel
theorem dX9_mayHave_110 : decode cX9_mayHave 110 = .ok (.aload_n 2, 1) := dX9_mayHave_110g.1
theorem dX9_mayHave_111 : decode cX9_mayHave 111 = .ok (.getstatic 144, 3) := dX9_mayHave_110g.2.1
theorem dX9_mayHave_114 : decode cX9_mayHave 114 = .ok (.if_acmp .ne 7, 3) := dX9_mayHave_110g.2.2.1
theorem dX9_mayHave_117 : decode cX9_mayHave 117 = .ok (.iconst 1, 1) := dX9_mayHave_110g.2.2.2.1
theorem dX9_mayHave_118 : decode cX9_mayHave 118 = .ok (.goto 4, 3) := dX9_mayHave_110g.2.2.2.2.1
theorem dX9_mayHave_121 : decode cX9_mayHave 121 = .ok (.iconst 0, 1) := dX9_mayHave_110g.2.2.2.2.2.1
theorem dX9_mayHave_122 : decode cX9_mayHave 122 = .ok (.ireturn, 1) := dX9_mayHave_110g.2.2.2.2.2.2.1
theorem dX9_mayHave_123 : decode cX9_mayHave 123 = .ok (.aload_n 2, 1) := dX9_mayHave_110g.2.2.2.2.2.2.2.1
theorem dX9_mayHave_124 : decode cX9_mayHave 124 = .ok (.getstatic 107, 3) := dX9_mayHave_110g.2.2.2.2.2.2.2.2.1
theorem dX9_mayHave_127 : decode cX9_mayHave 127 = .ok (.if_acmp .eq 17, 3) := dX9_mayHave_110g.2.2.2.2.2.2.2.2.2.1
theorem dX9_mayHave_130 : decode cX9_mayHave 130 = .ok (.aload_n 2, 1) := dX9_mayHave_110g.2.2.2.2.2.2.2.2.2.2.1
theorem dX9_mayHave_131 : decode cX9_mayHave 131 = .ok (.getstatic 51, 3) := dX9_mayHave_110g.2.2.2.2.2.2.2.2.2.2.2.1
theorem dX9_mayHave_134 : decode cX9_mayHave 134 = .ok (.if_acmp .eq 10, 3) := dX9_mayHave_110g.2.2.2.2.2.2.2.2.2.2.2.2.1
theorem dX9_mayHave_137 : decode cX9_mayHave 137 = .ok (.aload_n 2, 1) := dX9_mayHave_110g.2.2.2.2.2.2.2.2.2.2.2.2.2.1
theorem dX9_mayHave_138 : decode cX9_mayHave 138 = .ok (.getstatic 144, 3) := dX9_mayHave_110g.2.2.2.2.2.2.2.2.2.2.2.2.2.2.1
theorem dX9_mayHave_141 : decode cX9_mayHave 141 = .ok (.if_acmp .ne 7, 3) := dX9_mayHave_110g.2.2.2.2.2.2.2.2.2.2.2.2.2.2.2
theorem dX9_mayHave_144g : decode cX9_mayHave 144 = .ok (.iconst 1, 1) ∧ decode cX9_mayHave 145 = .ok (.goto 4, 3) ∧ decode cX9_mayHave 148 = .ok (.iconst 0, 1) ∧ decode cX9_mayHave 149 = .ok (.ireturn, 1) ∧ decode cX9_mayHave 150 = .ok (.aload_n 2, 1) ∧ decode cX9_mayHave 151 = .ok (.getstatic 82, 3) ∧ decode cX9_mayHave 154 = .ok (.if_acmp .ne 7, 3) ∧ decode cX9_mayHave 157 = .ok (.iconst 1, 1) ∧ decode cX9_mayHave 158 = .ok (.goto 4, 3) ∧ decode cX9_mayHave 161 = .ok (.iconst 0, 1) ∧ decode cX9_mayHave 162 = .ok (.ireturn, 1) ∧ decode cX9_mayHave 163 = .ok (.aload_n 2, 1) ∧ decode cX9_mayHave 164 = .ok (.getstatic 107, 3) ∧ decode cX9_mayHave 167 = .ok (.if_acmp .eq 10, 3) ∧ decode cX9_mayHave 170 = .ok (.aload_n 2, 1) ∧ decode cX9_mayHave 171 = .ok (.getstatic 82, 3) := by decide +kernel
theorem dX9_mayHave_144 : decode cX9_mayHave 144 = .ok (.iconst 1, 1) := dX9_mayHave_144g.1
theorem dX9_mayHave_145 : decode cX9_mayHave 145 = .ok (.goto 4, 3) := dX9_mayHave_144g.2.1
theorem dX9_mayHave_148 : decode cX9_mayHave 148 = .ok (.iconst 0, 1) := dX9_mayHave_144g.2.2.1
theorem dX9_mayHave_149 : decode cX9_mayHave 149 = .ok (.ireturn, 1) := dX9_mayHave_144g.2.2.2.1
theorem dX9_mayHave_150 : decode cX9_mayHave 150 = .ok (.aload_n 2, 1) := dX9_mayHave_144g.2.2.2.2.1
theorem dX9_mayHave_151 : decode cX9_mayHave 151 = .ok (.getstatic 82, 3) := dX9_mayHave_144g.2.2.2.2.2.1
theorem dX9_mayHave_154 : decode cX9_mayHave 154 = .ok (.if_acmp .ne 7, 3) := dX9_mayHave_144g.2.2.2.2.2.2.1
theorem dX9_mayHave_157 : decode cX9_mayHave 157 = .ok (.iconst 1, 1) := dX9_mayHave_144g.2.2.2.2.2.2.2.1
theorem dX9_mayHave_158 : decode cX9_mayHave 158 = .ok (.goto 4, 3) := dX9_mayHave_144g.2.2.2.2.2.2.2.2.1
theorem dX9_mayHave_161 : decode cX9_mayHave 161 = .ok (.iconst 0, 1) := dX9_mayHave_144g.2.2.2.2.2.2.2.2.2.1
theorem dX9_mayHave_162 : decode cX9_mayHave 162 = .ok (.ireturn, 1) := dX9_mayHave_144g.2.2.2.2.2.2.2.2.2.2.1
theorem dX9_mayHave_163 : decode cX9_mayHave 163 = .ok (.aload_n 2, 1) := dX9_mayHave_144g.2.2.2.2.2.2.2.2.2.2.2.1
theorem dX9_mayHave_164 : decode cX9_mayHave 164 = .ok (.getstatic 107, 3) := dX9_mayHave_144g.2.2.2.2.2.2.2.2.2.2.2.2.1
theorem dX9_mayHave_167 : decode cX9_mayHave 167 = .ok (.if_acmp .eq 10, 3) := dX9_mayHave_144g.2.2.2.2.2.2.2.2.2.2.2.2.2.1
theorem dX9_mayHave_170 : decode cX9_mayHave 170 = .ok (.aload_n 2, 1) := dX9_mayHave_144g.2.2.2.2.2.2.2.2.2.2.2.2.2.2.1
theorem dX9_mayHave_171 : decode cX9_mayHave 171 = .ok (.getstatic 82, 3) := dX9_mayHave_144g.2.2.2.2.2.2.2.2.2.2.2.2.2.2.2
theorem dX9_mayHave_174g : decode cX9_mayHave 174 = .ok (.if_acmp .ne 7, 3) ∧ decode cX9_mayHave 177 = .ok (.iconst 1, 1) ∧ decode cX9_mayHave 178 = .ok (.goto 4, 3) ∧ decode cX9_mayHave 181 = .ok (.iconst 0, 1) ∧ decode cX9_mayHave 182 = .ok (.ireturn, 1) ∧ decode cX9_mayHave 183 = .ok (.iconst 0, 1) ∧ decode cX9_mayHave 184 = .ok (.ireturn, 1) := by decide +kernel
theorem dX9_mayHave_174 : decode cX9_mayHave 174 = .ok (.if_acmp .ne 7, 3) := dX9_mayHave_174g.1
theorem dX9_mayHave_177 : decode cX9_mayHave 177 = .ok (.iconst 1, 1) := dX9_mayHave_174g.2.1
theorem dX9_mayHave_178 : decode cX9_mayHave 178 = .ok (.goto 4, 3) := dX9_mayHave_174g.2.2.1
theorem dX9_mayHave_181 : decode cX9_mayHave 181 = .ok (.iconst 0, 1) := dX9_mayHave_174g.2.2.2.1
theorem dX9_mayHave_182 : decode cX9_mayHave 182 = .ok (.ireturn, 1) := dX9_mayHave_174g.2.2.2.2.1
theorem dX9_mayHave_183 : decode cX9_mayHave 183 = .ok (.iconst 0, 1) := dX9_mayHave_174g.2.2.2.2.2.1
theorem dX9_mayHave_184 : decode cX9_mayHave 184 = .ok (.ireturn, 1) := dX9_mayHave_174g.2.2.2.2.2.2
theorem dX9_beanMayHave_0g : decode cX9_beanMayHave 0 = .ok (.getstatic 59, 3) ∧ decode cX9_beanMayHave 3 = .ok (.aload_n 1, 1) ∧ decode cX9_beanMayHave 4 = .ok (.invokevirtual 65, 3) ∧ decode cX9_beanMayHave 7 = .ok (.iaload, 1) ∧ decode cX9_beanMayHave 8 = .ok (.tableswitch 64 16 26 #[60, 60, 60, 62, 62, 62, 62, 62, 62, 62, 62], 60) ∧ decode cX9_beanMayHave 68 = .ok (.iload_n 2, 1) ∧ decode cX9_beanMayHave 69 = .ok (.ireturn, 1) ∧ decode cX9_beanMayHave 70 = .ok (.iconst 1, 1) ∧ decode cX9_beanMayHave 71 = .ok (.ireturn, 1) ∧ decode cX9_beanMayHave 72 = .ok (.iconst 0, 1) ∧ decode cX9_beanMayHave 73 = .ok (.ireturn, 1) := by decide +kernel
theorem dX9_beanMayHave_0 : decode cX9_beanMayHave 0 = .ok (.getstatic 59, 3) := dX9_beanMayHave_0g.1
theorem dX9_beanMayHave_3 : decode cX9_beanMayHave 3 = .ok (.aload_n 1, 1) := dX9_beanMayHave_0g.2.1
theorem dX9_beanMayHave_4 : decode cX9_beanMayHave 4 = .ok (.invokevirtual 65, 3) := dX9_beanMayHave_0g.2.2.1
theorem dX9_beanMayHave_7 : decode cX9_beanMayHave 7 = .ok (.iaload, 1) := dX9_beanMayHave_0g.2.2.2.1
theorem dX9_beanMayHave_8 : decode cX9_beanMayHave 8 = .ok (.tableswitch 64 16 26 #[60, 60, 60, 62, 62, 62, 62, 62, 62, 62, 62], 60) := dX9_beanMayHave_0g.2.2.2.2.1
theorem dX9_beanMayHave_68 : decode cX9_beanMayHave 68 = .ok (.iload_n 2, 1) := dX9_beanMayHave_0g.2.2.2.2.2.1
theorem dX9_beanMayHave_69 : decode cX9_beanMayHave 69 = .ok (.ireturn, 1) := dX9_beanMayHave_0g.2.2.2.2.2.2.1
theorem dX9_beanMayHave_70 : decode cX9_beanMayHave 70 = .ok (.iconst 1, 1) := dX9_beanMayHave_0g.2.2.2.2.2.2.2.1
theorem dX9_beanMayHave_71 : decode cX9_beanMayHave 71 = .ok (.ireturn, 1) := dX9_beanMayHave_0g.2.2.2.2.2.2.2.2.1
theorem dX9_beanMayHave_72 : decode cX9_beanMayHave 72 = .ok (.iconst 0, 1) := dX9_beanMayHave_0g.2.2.2.2.2.2.2.2.2.1
theorem dX9_beanMayHave_73 : decode cX9_beanMayHave 73 = .ok (.ireturn, 1) := dX9_beanMayHave_0g.2.2.2.2.2.2.2.2.2.2
theorem dX9_hasRightValue_0g : decode cX9_hasRightValue 0 = .ok (.getstatic 59, 3) ∧ decode cX9_hasRightValue 3 = .ok (.aload_n 2, 1) ∧ decode cX9_hasRightValue 4 = .ok (.invokevirtual 65, 3) ∧ decode cX9_hasRightValue 7 = .ok (.iaload, 1) ∧ decode cX9_hasRightValue 8 = .ok (.tableswitch 285 13 29 #[283, 285, 285, 285, 154, 154, 135, 285, 190, 285, 226, 226, 226, 285, 84, 245, 264], 84) ∧ decode cX9_hasRightValue 92 = .ok (.aload_n 1, 1) ∧ decode cX9_hasRightValue 93 = .ok (.getfield 35, 3) ∧ decode cX9_hasRightValue 96 = .ok (.getstatic 147, 3) ∧ decode cX9_hasRightValue 99 = .ok (.if_acmp .ne 25, 3) ∧ decode cX9_hasRightValue 102 = .ok (.aload_n 0, 1) ∧ decode cX9_hasRightValue 103 = .ok (.getfield 9, 3) ∧ decode cX9_hasRightValue 106 = .ok (.aload_n 1, 1) ∧ decode cX9_hasRightValue 107 = .ok (.aload_n 2, 1) ∧ decode cX9_hasRightValue 108 = .ok (.invokevirtual 150, 3) ∧ decode cX9_hasRightValue 111 = .ok (.lconst 0, 1) ∧ decode cX9_hasRightValue 112 = .ok (.lcmp, 1) := by decide +kernel
theorem dX9_hasRightValue_0 : decode cX9_hasRightValue 0 = .ok (.getstatic 59, 3) := dX9_hasRightValue_0g.1
theorem dX9_hasRightValue_3 : decode cX9_hasRightValue 3 = .ok (.aload_n 2, 1) := dX9_hasRightValue_0g.2.1
theorem dX9_hasRightValue_4 : decode cX9_hasRightValue 4 = .ok (.invokevirtual 65, 3) := dX9_hasRightValue_0g.2.2.1
theorem dX9_hasRightValue_7 : decode cX9_hasRightValue 7 = .ok (.iaload, 1) := dX9_hasRightValue_0g.2.2.2.1
theorem dX9_hasRightValue_8 : decode cX9_hasRightValue 8 = .ok (.tableswitch 285 13 29 #[283, 285, 285, 285, 154, 154, 135, 285, 190, 285, 226, 226, 226, 285, 84, 245, 264], 84) := dX9_hasRightValue_0g.2.2.2.2.1
theorem dX9_hasRightValue_92 : decode cX9_hasRightValue 92 = .ok (.aload_n 1, 1) := dX9_hasRightValue_0g.2.2.2.2.2.1
theorem dX9_hasRightValue_93 : decode cX9_hasRightValue 93 = .ok (.getfield 35, 3) := dX9_hasRightValue_0g.2.2.2.2.2.2.1
theorem dX9_hasRightValue_96 : decode cX9_hasRightValue 96 = .ok (.getstatic 147, 3) := dX9_hasRightValue_0g.2.2.2.2.2.2.2.1
theorem dX9_hasRightValue_99 : decode cX9_hasRightValue 99 = .ok (.if_acmp .ne 25, 3) := dX9_hasRightValue_0g.2.2.2.2.2.2.2.2.1
theorem dX9_hasRightValue_102 : decode cX9_hasRightValue 102 = .ok (.aload_n 0, 1) := dX9_hasRightValue_0g.2.2.2.2.2.2.2.2.2.1
theorem dX9_hasRightValue_103 : decode cX9_hasRightValue 103 = .ok (.getfield 9, 3) := dX9_hasRightValue_0g.2.2.2.2.2.2.2.2.2.2.1
theorem dX9_hasRightValue_106 : decode cX9_hasRightValue 106 = .ok (.aload_n 1, 1) := dX9_hasRightValue_0g.2.2.2.2.2.2.2.2.2.2.2.1
theorem dX9_hasRightValue_107 : decode cX9_hasRightValue 107 = .ok (.aload_n 2, 1) := dX9_hasRightValue_0g.2.2.2.2.2.2.2.2.2.2.2.2.1
theorem dX9_hasRightValue_108 : decode cX9_hasRightValue 108 = .ok (.invokevirtual 150, 3) := dX9_hasRightValue_0g.2.2.2.2.2.2.2.2.2.2.2.2.2.1
theorem dX9_hasRightValue_111 : decode cX9_hasRightValue 111 = .ok (.lconst 0, 1) := dX9_hasRightValue_0g.2.2.2.2.2.2.2.2.2.2.2.2.2.2.1
theorem dX9_hasRightValue_112 : decode cX9_hasRightValue 112 = .ok (.lcmp, 1) := dX9_hasRightValue_0g.2.2.2.2.2.2.2.2.2.2.2.2.2.2.2
theorem dX9_hasRightValue_113g : decode cX9_hasRightValue 113 = .ok (.ifCond .eq 7, 3) ∧ decode cX9_hasRightValue 116 = .ok (.iconst 1, 1) ∧ decode cX9_hasRightValue 117 = .ok (.goto 25, 3) ∧ decode cX9_hasRightValue 120 = .ok (.iconst 0, 1) ∧ decode cX9_hasRightValue 121 = .ok (.goto 21, 3) ∧ decode cX9_hasRightValue 124 = .ok (.aload_n 0, 1) ∧ decode cX9_hasRightValue 125 = .ok (.getfield 9, 3) ∧ decode cX9_hasRightValue 128 = .ok (.aload_n 1, 1) ∧ decode cX9_hasRightValue 129 = .ok (.aload_n 2, 1) ∧ decode cX9_hasRightValue 130 = .ok (.invokevirtual 110, 3) ∧ decode cX9_hasRightValue 133 = .ok (.iconst (-1), 1) ∧ decode cX9_hasRightValue 134 = .ok (.if_icmp .eq 7, 3) ∧ decode cX9_hasRightValue 137 = .ok (.iconst 1, 1) ∧ decode cX9_hasRightValue 138 = .ok (.goto 4, 3) ∧ decode cX9_hasRightValue 141 = .ok (.iconst 0, 1) ∧ decode cX9_hasRightValue 142 = .ok (.ireturn, 1) := by decide +kernel
theorem dX9_hasRightValue_113 : decode cX9_hasRightValue 113 = .ok (.ifCond .eq 7, 3) := dX9_hasRightValue_113g.1
theorem dX9_hasRightValue_116 : decode cX9_hasRightValue 116 = .ok (.iconst 1, 1) := dX9_hasRightValue_113g.2.1
theorem dX9_hasRightValue_117 : decode cX9_hasRightValue 117 = .ok (.goto 25, 3) := dX9_hasRightValue_113g.2.2.1
theorem dX9_hasRightValue_120 : decode cX9_hasRightValue 120 = .ok (.iconst 0, 1) := dX9_hasRightValue_113g.2.2.2.1
theorem dX9_hasRightValue_121 : decode cX9_hasRightValue 121 = .ok (.goto 21, 3) := dX9_hasRightValue_113g.2.2.2.2.1
theorem dX9_hasRightValue_124 : decode cX9_hasRightValue 124 = .ok (.aload_n 0, 1) := dX9_hasRightValue_113g.2.2.2.2.2.1
theorem dX9_hasRightValue_125 : decode cX9_hasRightValue 125 = .ok (.getfield 9, 3) := dX9_hasRightValue_113g.2.2.2.2.2.2.1
theorem dX9_hasRightValue_128 : decode cX9_hasRightValue 128 = .ok (.aload_n 1, 1) := dX9_hasRightValue_113g.2.2.2.2.2.2.2.1
theorem dX9_hasRightValue_129 : decode cX9_hasRightValue 129 = .ok (.aload_n 2, 1) := dX9_hasRightValue_113g.2.2.2.2.2.2.2.2.1
theorem dX9_hasRightValue_130 : decode cX9_hasRightValue 130 = .ok (.invokevirtual 110, 3) := dX9_hasRightValue_113g.2.2.2.2.2.2.2.2.2.1
theorem dX9_hasRightValue_133 : decode cX9_hasRightValue 133 = .ok (.iconst (-1), 1) := dX9_hasRightValue_113g.2.2.2.2.2.2.2.2.2.2.1
theorem dX9_hasRightValue_134 : decode cX9_hasRightValue 134 = .ok (.if_icmp .eq 7, 3) := dX9_hasRightValue_113g.2.2.2.2.2.2.2.2.2.2.2.1
theorem dX9_hasRightValue_137 : decode cX9_hasRightValue 137 = .ok (.iconst 1, 1) := dX9_hasRightValue_113g.2.2.2.2.2.2.2.2.2.2.2.2.1
theorem dX9_hasRightValue_138 : decode cX9_hasRightValue 138 = .ok (.goto 4, 3) := dX9_hasRightValue_113g.2.2.2.2.2.2.2.2.2.2.2.2.2.1
theorem dX9_hasRightValue_141 : decode cX9_hasRightValue 141 = .ok (.iconst 0, 1) := dX9_hasRightValue_113g.2.2.2.2.2.2.2.2.2.2.2.2.2.2.1
theorem dX9_hasRightValue_142 : decode cX9_hasRightValue 142 = .ok (.ireturn, 1) := dX9_hasRightValue_113g.2.2.2.2.2.2.2.2.2.2.2.2.2.2.2
theorem dX9_hasRightValue_143g : decode cX9_hasRightValue 143 = .ok (.aload_n 0, 1) ∧ decode cX9_hasRightValue 144 = .ok (.getfield 9, 3) ∧ decode cX9_hasRightValue 147 = .ok (.aload_n 1, 1) ∧ decode cX9_hasRightValue 148 = .ok (.aload_n 2, 1) ∧ decode cX9_hasRightValue 149 = .ok (.invokevirtual 154, 3) ∧ decode cX9_hasRightValue 152 = .ok (.iconst (-1), 1) ∧ decode cX9_hasRightValue 153 = .ok (.if_icmp .eq 7, 3) ∧ decode cX9_hasRightValue 156 = .ok (.iconst 1, 1) ∧ decode cX9_hasRightValue 157 = .ok (.goto 4, 3) ∧ decode cX9_hasRightValue 160 = .ok (.iconst 0, 1) ∧ decode cX9_hasRightValue 161 = .ok (.ireturn, 1) ∧ decode cX9_hasRightValue 162 = .ok (.aload_n 0, 1) ∧ decode cX9_hasRightValue 163 = .ok (.getfield 9, 3) ∧ decode cX9_hasRightValue 166 = .ok (.aload_n 1, 1) ∧ decode cX9_hasRightValue 167 = .ok (.aload_n 2, 1) ∧ decode cX9_hasRightValue 168 = .ok (.getstatic 157, 3) := by decide +kernel
theorem dX9_hasRightValue_143 : decode cX9_hasRightValue 143 = .ok (.aload_n 0, 1) := dX9_hasRightValue_143g.1
theorem dX9_hasRightValue_144 : decode cX9_hasRightValue 144 = .ok (.getfield 9, 3) := dX9_hasRightValue_143g.2.1
theorem dX9_hasRightValue_147 : decode cX9_hasRightValue 147 = .ok (.aload_n 1, 1) := dX9_hasRightValue_143g.2.2.1
theorem dX9_hasRightValue_148 : decode cX9_hasRightValue 148 = .ok (.aload_n 2, 1) := dX9_hasRightValue_143g.2.2.2.1
theorem dX9_hasRightValue_149 : decode cX9_hasRightValue 149 = .ok (.invokevirtual 154, 3) := dX9_hasRightValue_143g.2.2.2.2.1
theorem dX9_hasRightValue_152 : decode cX9_hasRightValue 152 = .ok (.iconst (-1), 1) := dX9_hasRightValue_143g.2.2.2.2.2.1
theorem dX9_hasRightValue_153 : decode cX9_hasRightValue 153 = .ok (.if_icmp .eq 7, 3) := dX9_hasRightValue_143g.2.2.2.2.2.2.1
theorem dX9_hasRightValue_156 : decode cX9_hasRightValue 156 = .ok (.iconst 1, 1) := dX9_hasRightValue_143g.2.2.2.2.2.2.2.1
theorem dX9_hasRightValue_157 : decode cX9_hasRightValue 157 = .ok (.goto 4, 3) := dX9_hasRightValue_143g.2.2.2.2.2.2.2.2.1
theorem dX9_hasRightValue_160 : decode cX9_hasRightValue 160 = .ok (.iconst 0, 1) := dX9_hasRightValue_143g.2.2.2.2.2.2.2.2.2.1
theorem dX9_hasRightValue_161 : decode cX9_hasRightValue 161 = .ok (.ireturn, 1) := dX9_hasRightValue_143g.2.2.2.2.2.2.2.2.2.2.1
theorem dX9_hasRightValue_162 : decode cX9_hasRightValue 162 = .ok (.aload_n 0, 1) := dX9_hasRightValue_143g.2.2.2.2.2.2.2.2.2.2.2.1
theorem dX9_hasRightValue_163 : decode cX9_hasRightValue 163 = .ok (.getfield 9, 3) := dX9_hasRightValue_143g.2.2.2.2.2.2.2.2.2.2.2.2.1
theorem dX9_hasRightValue_166 : decode cX9_hasRightValue 166 = .ok (.aload_n 1, 1) := dX9_hasRightValue_143g.2.2.2.2.2.2.2.2.2.2.2.2.2.1
theorem dX9_hasRightValue_167 : decode cX9_hasRightValue 167 = .ok (.aload_n 2, 1) := dX9_hasRightValue_143g.2.2.2.2.2.2.2.2.2.2.2.2.2.2.1
theorem dX9_hasRightValue_168 : decode cX9_hasRightValue 168 = .ok (.getstatic 157, 3) := dX9_hasRightValue_143g.2.2.2.2.2.2.2.2.2.2.2.2.2.2.2
theorem dX9_hasRightValue_171g : decode cX9_hasRightValue 171 = .ok (.invokevirtual 160, 3) ∧ decode cX9_hasRightValue 174 = .ok (.ifCond .ne 18, 3) ∧ decode cX9_hasRightValue 177 = .ok (.aload_n 0, 1) ∧ decode cX9_hasRightValue 178 = .ok (.getfield 9, 3) ∧ decode cX9_hasRightValue 181 = .ok (.aload_n 1, 1) ∧ decode cX9_hasRightValue 182 = .ok (.aload_n 2, 1) ∧ decode cX9_hasRightValue 183 = .ok (.getstatic 164, 3) ∧ decode cX9_hasRightValue 186 = .ok (.invokevirtual 160, 3) ∧ decode cX9_hasRightValue 189 = .ok (.ifCond .eq 7, 3) ∧ decode cX9_hasRightValue 192 = .ok (.iconst 1, 1) ∧ decode cX9_hasRightValue 193 = .ok (.goto 4, 3) ∧ decode cX9_hasRightValue 196 = .ok (.iconst 0, 1) ∧ decode cX9_hasRightValue 197 = .ok (.ireturn, 1) ∧ decode cX9_hasRightValue 198 = .ok (.aload_n 0, 1) ∧ decode cX9_hasRightValue 199 = .ok (.getfield 9, 3) ∧ decode cX9_hasRightValue 202 = .ok (.aload_n 1, 1) := by decide +kernel
theorem dX9_hasRightValue_171 : decode cX9_hasRightValue 171 = .ok (.invokevirtual 160, 3) := dX9_hasRightValue_171g.1
theorem dX9_hasRightValue_174 : decode cX9_hasRightValue 174 = .ok (.ifCond .ne 18, 3) := dX9_hasRightValue_171g.2.1
theorem dX9_hasRightValue_177 : decode cX9_hasRightValue 177 = .ok (.aload_n 0, 1) := dX9_hasRightValue_171g.2.2.1
theorem dX9_hasRightValue_178 : decode cX9_hasRightValue 178 = .ok (.getfield 9, 3) := dX9_hasRightValue_171g.2.2.2.1
theorem dX9_hasRightValue_181 : decode cX9_hasRightValue 181 = .ok (.aload_n 1, 1) := dX9_hasRightValue_171g.2.2.2.2.1
theorem dX9_hasRightValue_182 : decode cX9_hasRightValue 182 = .ok (.aload_n 2, 1) := dX9_hasRightValue_171g.2.2.2.2.2.1
theorem dX9_hasRightValue_183 : decode cX9_hasRightValue 183 = .ok (.getstatic 164, 3) := dX9_hasRightValue_171g.2.2.2.2.2.2.1
theorem dX9_hasRightValue_186 : decode cX9_hasRightValue 186 = .ok (.invokevirtual 160, 3) := dX9_hasRightValue_171g.2.2.2.2.2.2.2.1
theorem dX9_hasRightValue_189 : decode cX9_hasRightValue 189 = .ok (.ifCond .eq 7, 3) := dX9_hasRightValue_171g.2.2.2.2.2.2.2.2.1
theorem dX9_hasRightValue_192 : decode cX9_hasRightValue 192 = .ok (.iconst 1, 1) := dX9_hasRightValue_171g.2.2.2.2.2.2.2.2.2.1
theorem dX9_hasRightValue_193 : decode cX9_hasRightValue 193 = .ok (.goto 4, 3) := dX9_hasRightValue_171g.2.2.2.2.2.2.2.2.2.2.1
theorem dX9_hasRightValue_196 : decode cX9_hasRightValue 196 = .ok (.iconst 0, 1) := dX9_hasRightValue_171g.2.2.2.2.2.2.2.2.2.2.2.1
theorem dX9_hasRightValue_197 : decode cX9_hasRightValue 197 = .ok (.ireturn, 1) := dX9_hasRightValue_171g.2.2.2.2.2.2.2.2.2.2.2.2.1
theorem dX9_hasRightValue_198 : decode cX9_hasRightValue 198 = .ok (.aload_n 0, 1) := dX9_hasRightValue_171g.2.2.2.2.2.2.2.2.2.2.2.2.2.1
theorem dX9_hasRightValue_199 : decode cX9_hasRightValue 199 = .ok (.getfield 9, 3) := dX9_hasRightValue_171g.2.2.2.2.2.2.2.2.2.2.2.2.2.2.1
theorem dX9_hasRightValue_202 : decode cX9_hasRightValue 202 = .ok (.aload_n 1, 1) := dX9_hasRightValue_171g.2.2.2.2.2.2.2.2.2.2.2.2.2.2.2
theorem dX9_hasRightValue_203g : decode cX9_hasRightValue 203 = .ok (.aload_n 2, 1) ∧ decode cX9_hasRightValue 204 = .ok (.getstatic 167, 3) ∧ decode cX9_hasRightValue 207 = .ok (.invokevirtual 160, 3) ∧ decode cX9_hasRightValue 210 = .ok (.ifCond .ne 18, 3) ∧ decode cX9_hasRightValue 213 = .ok (.aload_n 0, 1) ∧ decode cX9_hasRightValue 214 = .ok (.getfield 9, 3) ∧ decode cX9_hasRightValue 217 = .ok (.aload_n 1, 1) ∧ decode cX9_hasRightValue 218 = .ok (.aload_n 2, 1) ∧ decode cX9_hasRightValue 219 = .ok (.getstatic 170, 3) ∧ decode cX9_hasRightValue 222 = .ok (.invokevirtual 160, 3) ∧ decode cX9_hasRightValue 225 = .ok (.ifCond .eq 7, 3) ∧ decode cX9_hasRightValue 228 = .ok (.iconst 1, 1) ∧ decode cX9_hasRightValue 229 = .ok (.goto 4, 3) ∧ decode cX9_hasRightValue 232 = .ok (.iconst 0, 1) ∧ decode cX9_hasRightValue 233 = .ok (.ireturn, 1) ∧ decode cX9_hasRightValue 234 = .ok (.aload_n 0, 1) := by decide +kernel
theorem dX9_hasRightValue_203 : decode cX9_hasRightValue 203 = .ok (.aload_n 2, 1) := dX9_hasRightValue_203g.1
theorem dX9_hasRightValue_204 : decode cX9_hasRightValue 204 = .ok (.getstatic 167, 3) := dX9_hasRightValue_203g.2.1
theorem dX9_hasRightValue_207 : decode cX9_hasRightValue 207 = .ok (.invokevirtual 160, 3) := dX9_hasRightValue_203g.2.2.1
theorem dX9_hasRightValue_210 : decode cX9_hasRightValue 210 = .ok (.ifCond .ne 18, 3) := dX9_hasRightValue_203g.2.2.2.1
theorem dX9_hasRightValue_213 : decode cX9_hasRightValue 213 = .ok (.aload_n 0, 1) := dX9_hasRightValue_203g.2.2.2.2.1
theorem dX9_hasRightValue_214 : decode cX9_hasRightValue 214 = .ok (.getfield 9, 3) := dX9_hasRightValue_203g.2.2.2.2.2.1
theorem dX9_hasRightValue_217 : decode cX9_hasRightValue 217 = .ok (.aload_n 1, 1) := dX9_hasRightValue_203g.2.2.2.2.2.2.1
theorem dX9_hasRightValue_218 : decode cX9_hasRightValue 218 = .ok (.aload_n 2, 1) := dX9_hasRightValue_203g.2.2.2.2.2.2.2.1
theorem dX9_hasRightValue_219 : decode cX9_hasRightValue 219 = .ok (.getstatic 170, 3) := dX9_hasRightValue_203g.2.2.2.2.2.2.2.2.1
theorem dX9_hasRightValue_222 : decode cX9_hasRightValue 222 = .ok (.invokevirtual 160, 3) := dX9_hasRightValue_203g.2.2.2.2.2.2.2.2.2.1
theorem dX9_hasRightValue_225 : decode cX9_hasRightValue 225 = .ok (.ifCond .eq 7, 3) := dX9_hasRightValue_203g.2.2.2.2.2.2.2.2.2.2.1
theorem dX9_hasRightValue_228 : decode cX9_hasRightValue 228 = .ok (.iconst 1, 1) := dX9_hasRightValue_203g.2.2.2.2.2.2.2.2.2.2.2.1
theorem dX9_hasRightValue_229 : decode cX9_hasRightValue 229 = .ok (.goto 4, 3) := dX9_hasRightValue_203g.2.2.2.2.2.2.2.2.2.2.2.2.1
theorem dX9_hasRightValue_232 : decode cX9_hasRightValue 232 = .ok (.iconst 0, 1) := dX9_hasRightValue_203g.2.2.2.2.2.2.2.2.2.2.2.2.2.1
theorem dX9_hasRightValue_233 : decode cX9_hasRightValue 233 = .ok (.ireturn, 1) := dX9_hasRightValue_203g.2.2.2.2.2.2.2.2.2.2.2.2.2.2.1
theorem dX9_hasRightValue_234 : decode cX9_hasRightValue 234 = .ok (.aload_n 0, 1) := dX9_hasRightValue_203g.2.2.2.2.2.2.2.2.2.2.2.2.2.2.2
theorem dX9_hasRightValue_235g : decode cX9_hasRightValue 235 = .ok (.getfield 9, 3) ∧ decode cX9_hasRightValue 238 = .ok (.aload_n 1, 1) ∧ decode cX9_hasRightValue 239 = .ok (.aload_n 2, 1) ∧ decode cX9_hasRightValue 240 = .ok (.invokevirtual 110, 3) ∧ decode cX9_hasRightValue 243 = .ok (.iconst (-1), 1) ∧ decode cX9_hasRightValue 244 = .ok (.if_icmp .eq 7, 3) ∧ decode cX9_hasRightValue 247 = .ok (.iconst 1, 1) ∧ decode cX9_hasRightValue 248 = .ok (.goto 4, 3) ∧ decode cX9_hasRightValue 251 = .ok (.iconst 0, 1) ∧ decode cX9_hasRightValue 252 = .ok (.ireturn, 1) ∧ decode cX9_hasRightValue 253 = .ok (.aload_n 0, 1) ∧ decode cX9_hasRightValue 254 = .ok (.getfield 9, 3) ∧ decode cX9_hasRightValue 257 = .ok (.aload_n 1, 1) ∧ decode cX9_hasRightValue 258 = .ok (.aload_n 2, 1) ∧ decode cX9_hasRightValue 259 = .ok (.invokevirtual 173, 3) ∧ decode cX9_hasRightValue 262 = .ok (.iconst (-1), 1) := by decide +kernel
theorem dX9_hasRightValue_235 : decode cX9_hasRightValue 235 = .ok (.getfield 9, 3) := dX9_hasRightValue_235g.1
theorem dX9_hasRightValue_238 : decode cX9_hasRightValue 238 = .ok (.aload_n 1, 1) := dX9_hasRightValue_235g.2.1
theorem dX9_hasRightValue_239 : decode cX9_hasRightValue 239 = .ok (.aload_n 2, 1) := dX9_hasRightValue_235g.2.2.1
theorem dX9_hasRightValue_240 : decode cX9_hasRightValue 240 = .ok (.invokevirtual 110, 3) := dX9_hasRightValue_235g.2.2.2.1
theorem dX9_hasRightValue_243 : decode cX9_hasRightValue 243 = .ok (.iconst (-1), 1) := dX9_hasRightValue_235g.2.2.2.2.1
theorem dX9_hasRightValue_244 : decode cX9_hasRightValue 244 = .ok (.if_icmp .eq 7, 3) := dX9_hasRightValue_235g.2.2.2.2.2.1
theorem dX9_hasRightValue_247 : decode cX9_hasRightValue 247 = .ok (.iconst 1, 1) := dX9_hasRightValue_235g.2.2.2.2.2.2.1
theorem dX9_hasRightValue_248 : decode cX9_hasRightValue 248 = .ok (.goto 4, 3) := dX9_hasRightValue_235g.2.2.2.2.2.2.2.1
theorem dX9_hasRightValue_251 : decode cX9_hasRightValue 251 = .ok (.iconst 0, 1) := dX9_hasRightValue_235g.2.2.2.2.2.2.2.2.1
theorem dX9_hasRightValue_252 : decode cX9_hasRightValue 252 = .ok (.ireturn, 1) := dX9_hasRightValue_235g.2.2.2.2.2.2.2.2.2.1
theorem dX9_hasRightValue_253 : decode cX9_hasRightValue 253 = .ok (.aload_n 0, 1) := dX9_hasRightValue_235g.2.2.2.2.2.2.2.2.2.2.1
theorem dX9_hasRightValue_254 : decode cX9_hasRightValue 254 = .ok (.getfield 9, 3) := dX9_hasRightValue_235g.2.2.2.2.2.2.2.2.2.2.2.1
theorem dX9_hasRightValue_257 : decode cX9_hasRightValue 257 = .ok (.aload_n 1, 1) := dX9_hasRightValue_235g.2.2.2.2.2.2.2.2.2.2.2.2.1
theorem dX9_hasRightValue_258 : decode cX9_hasRightValue 258 = .ok (.aload_n 2, 1) := dX9_hasRightValue_235g.2.2.2.2.2.2.2.2.2.2.2.2.2.1
theorem dX9_hasRightValue_259 : decode cX9_hasRightValue 259 = .ok (.invokevirtual 173, 3) := dX9_hasRightValue_235g.2.2.2.2.2.2.2.2.2.2.2.2.2.2.1
theorem dX9_hasRightValue_262 : decode cX9_hasRightValue 262 = .ok (.iconst (-1), 1) := dX9_hasRightValue_235g.2.2.2.2.2.2.2.2.2.2.2.2.2.2.2
theorem dX9_hasRightValue_263g : decode cX9_hasRightValue 263 = .ok (.if_icmp .eq 7, 3) ∧ decode cX9_hasRightValue 266 = .ok (.iconst 1, 1) ∧ decode cX9_hasRightValue 267 = .ok (.goto 4, 3) ∧ decode cX9_hasRightValue 270 = .ok (.iconst 0, 1) ∧ decode cX9_hasRightValue 271 = .ok (.ireturn, 1) ∧ decode cX9_hasRightValue 272 = .ok (.aload_n 0, 1) ∧ decode cX9_hasRightValue 273 = .ok (.getfield 9, 3) ∧ decode cX9_hasRightValue 276 = .ok (.aload_n 1, 1) ∧ decode cX9_hasRightValue 277 = .ok (.aload_n 2, 1) ∧ decode cX9_hasRightValue 278 = .ok (.invokevirtual 176, 3) ∧ decode cX9_hasRightValue 281 = .ok (.iconst (-1), 1) ∧ decode cX9_hasRightValue 282 = .ok (.if_icmp .eq 7, 3) ∧ decode cX9_hasRightValue 285 = .ok (.iconst 1, 1) ∧ decode cX9_hasRightValue 286 = .ok (.goto 4, 3) ∧ decode cX9_hasRightValue 289 = .ok (.iconst 0, 1) ∧ decode cX9_hasRightValue 290 = .ok (.ireturn, 1) := by decide +kernel
theorem dX9_hasRightValue_263 : decode cX9_hasRightValue 263 = .ok (.if_icmp .eq 7, 3) := dX9_hasRightValue_263g.1
theorem dX9_hasRightValue_266 : decode cX9_hasRightValue 266 = .ok (.iconst 1, 1) := dX9_hasRightValue_263g.2.1
theorem dX9_hasRightValue_267 : decode cX9_hasRightValue 267 = .ok (.goto 4, 3) := dX9_hasRightValue_263g.2.2.1
theorem dX9_hasRightValue_270 : decode cX9_hasRightValue 270 = .ok (.iconst 0, 1) := dX9_hasRightValue_263g.2.2.2.1
theorem dX9_hasRightValue_271 : decode cX9_hasRightValue 271 = .ok (.ireturn, 1) := dX9_hasRightValue_263g.2.2.2.2.1
theorem dX9_hasRightValue_272 : decode cX9_hasRightValue 272 = .ok (.aload_n 0, 1) := dX9_hasRightValue_263g.2.2.2.2.2.1
theorem dX9_hasRightValue_273 : decode cX9_hasRightValue 273 = .ok (.getfield 9, 3) := dX9_hasRightValue_263g.2.2.2.2.2.2.1
theorem dX9_hasRightValue_276 : decode cX9_hasRightValue 276 = .ok (.aload_n 1, 1) := dX9_hasRightValue_263g.2.2.2.2.2.2.2.1
theorem dX9_hasRightValue_277 : decode cX9_hasRightValue 277 = .ok (.aload_n 2, 1) := dX9_hasRightValue_263g.2.2.2.2.2.2.2.2.1
theorem dX9_hasRightValue_278 : decode cX9_hasRightValue 278 = .ok (.invokevirtual 176, 3) := dX9_hasRightValue_263g.2.2.2.2.2.2.2.2.2.1
theorem dX9_hasRightValue_281 : decode cX9_hasRightValue 281 = .ok (.iconst (-1), 1) := dX9_hasRightValue_263g.2.2.2.2.2.2.2.2.2.2.1
theorem dX9_hasRightValue_282 : decode cX9_hasRightValue 282 = .ok (.if_icmp .eq 7, 3) := dX9_hasRightValue_263g.2.2.2.2.2.2.2.2.2.2.2.1
theorem dX9_hasRightValue_285 : decode cX9_hasRightValue 285 = .ok (.iconst 1, 1) := dX9_hasRightValue_263g.2.2.2.2.2.2.2.2.2.2.2.2.1
theorem dX9_hasRightValue_286 : decode cX9_hasRightValue 286 = .ok (.goto 4, 3) := dX9_hasRightValue_263g.2.2.2.2.2.2.2.2.2.2.2.2.2.1
theorem dX9_hasRightValue_289 : decode cX9_hasRightValue 289 = .ok (.iconst 0, 1) := dX9_hasRightValue_263g.2.2.2.2.2.2.2.2.2.2.2.2.2.2.1
theorem dX9_hasRightValue_290 : decode cX9_hasRightValue 290 = .ok (.ireturn, 1) := dX9_hasRightValue_263g.2.2.2.2.2.2.2.2.2.2.2.2.2.2.2
theorem dX9_hasRightValue_291g : decode cX9_hasRightValue 291 = .ok (.iconst 1, 1) ∧ decode cX9_hasRightValue 292 = .ok (.ireturn, 1) ∧ decode cX9_hasRightValue 293 = .ok (.aload_n 0, 1) ∧ decode cX9_hasRightValue 294 = .ok (.getfield 9, 3) ∧ decode cX9_hasRightValue 297 = .ok (.aload_n 1, 1) ∧ decode cX9_hasRightValue 298 = .ok (.aload_n 2, 1) ∧ decode cX9_hasRightValue 299 = .ok (.invokevirtual 150, 3) ∧ decode cX9_hasRightValue 302 = .ok (.lconst 0, 1) ∧ decode cX9_hasRightValue 303 = .ok (.lcmp, 1) ∧ decode cX9_hasRightValue 304 = .ok (.ifCond .eq 7, 3) ∧ decode cX9_hasRightValue 307 = .ok (.iconst 1, 1) ∧ decode cX9_hasRightValue 308 = .ok (.goto 4, 3) ∧ decode cX9_hasRightValue 311 = .ok (.iconst 0, 1) ∧ decode cX9_hasRightValue 312 = .ok (.ireturn, 1) := by decide +kernel
theorem dX9_hasRightValue_291 : decode cX9_hasRightValue 291 = .ok (.iconst 1, 1) := dX9_hasRightValue_291g.1
theorem dX9_hasRightValue_292 : decode cX9_hasRightValue 292 = .ok (.ireturn, 1) := dX9_hasRightValue_291g.2.1
theorem dX9_hasRightValue_293 : decode cX9_hasRightValue 293 = .ok (.aload_n 0, 1) := dX9_hasRightValue_291g.2.2.1
theorem dX9_hasRightValue_294 : decode cX9_hasRightValue 294 = .ok (.getfield 9, 3) := dX9_hasRightValue_291g.2.2.2.1
theorem dX9_hasRightValue_297 : decode cX9_hasRightValue 297 = .ok (.aload_n 1, 1) := dX9_hasRightValue_291g.2.2.2.2.1
theorem dX9_hasRightValue_298 : decode cX9_hasRightValue 298 = .ok (.aload_n 2, 1) := dX9_hasRightValue_291g.2.2.2.2.2.1
theorem dX9_hasRightValue_299 : decode cX9_hasRightValue 299 = .ok (.invokevirtual 150, 3) := dX9_hasRightValue_291g.2.2.2.2.2.2.1
theorem dX9_hasRightValue_302 : decode cX9_hasRightValue 302 = .ok (.lconst 0, 1) := dX9_hasRightValue_291g.2.2.2.2.2.2.2.1
theorem dX9_hasRightValue_303 : decode cX9_hasRightValue 303 = .ok (.lcmp, 1) := dX9_hasRightValue_291g.2.2.2.2.2.2.2.2.1
theorem dX9_hasRightValue_304 : decode cX9_hasRightValue 304 = .ok (.ifCond .eq 7, 3) := dX9_hasRightValue_291g.2.2.2.2.2.2.2.2.2.1
theorem dX9_hasRightValue_307 : decode cX9_hasRightValue 307 = .ok (.iconst 1, 1) := dX9_hasRightValue_291g.2.2.2.2.2.2.2.2.2.2.1
theorem dX9_hasRightValue_308 : decode cX9_hasRightValue 308 = .ok (.goto 4, 3) := dX9_hasRightValue_291g.2.2.2.2.2.2.2.2.2.2.2.1
theorem dX9_hasRightValue_311 : decode cX9_hasRightValue 311 = .ok (.iconst 0, 1) := dX9_hasRightValue_291g.2.2.2.2.2.2.2.2.2.2.2.2.1
theorem dX9_hasRightValue_312 : decode cX9_hasRightValue 312 = .ok (.ireturn, 1) := dX9_hasRightValue_291g.2.2.2.2.2.2.2.2.2.2.2.2.2
theorem dX9_hasWhatItNeeds_0g : decode cX9_hasWhatItNeeds 0 = .ok (.getstatic 59, 3) ∧ decode cX9_hasWhatItNeeds 3 = .ok (.aload_n 1, 1) ∧ decode cX9_hasWhatItNeeds 4 = .ok (.getfield 35, 3) ∧ decode cX9_hasWhatItNeeds 7 = .ok (.invokevirtual 65, 3) ∧ decode cX9_hasWhatItNeeds 10 = .ok (.iaload, 1) ∧ decode cX9_hasWhatItNeeds 11 = .ok (.tableswitch 143 7 14 #[45, 79, 143, 85, 109, 143, 143, 97], 45) ∧ decode cX9_hasWhatItNeeds 56 = .ok (.aload_n 0, 1) ∧ decode cX9_hasWhatItNeeds 57 = .ok (.getfield 9, 3) ∧ decode cX9_hasWhatItNeeds 60 = .ok (.aload_n 1, 1) ∧ decode cX9_hasWhatItNeeds 61 = .ok (.getstatic 107, 3) ∧ decode cX9_hasWhatItNeeds 64 = .ok (.invokevirtual 179, 3) ∧ decode cX9_hasWhatItNeeds 67 = .ok (.ifCond .eq 21, 3) ∧ decode cX9_hasWhatItNeeds 70 = .ok (.aload_n 0, 1) ∧ decode cX9_hasWhatItNeeds 71 = .ok (.getfield 9, 3) ∧ decode cX9_hasWhatItNeeds 74 = .ok (.aload_n 1, 1) ∧ decode cX9_hasWhatItNeeds 75 = .ok (.getstatic 131, 3) := by decide +kernel
theorem dX9_hasWhatItNeeds_0 : decode cX9_hasWhatItNeeds 0 = .ok (.getstatic 59, 3) := dX9_hasWhatItNeeds_0g.1
theorem dX9_hasWhatItNeeds_3 : decode cX9_hasWhatItNeeds 3 = .ok (.aload_n 1, 1) := dX9_hasWhatItNeeds_0g.2.1
theorem dX9_hasWhatItNeeds_4 : decode cX9_hasWhatItNeeds 4 = .ok (.getfield 35, 3) := dX9_hasWhatItNeeds_0g.2.2.1
theorem dX9_hasWhatItNeeds_7 : decode cX9_hasWhatItNeeds 7 = .ok (.invokevirtual 65, 3) := dX9_hasWhatItNeeds_0g.2.2.2.1
theorem dX9_hasWhatItNeeds_10 : decode cX9_hasWhatItNeeds 10 = .ok (.iaload, 1) := dX9_hasWhatItNeeds_0g.2.2.2.2.1
theorem dX9_hasWhatItNeeds_11 : decode cX9_hasWhatItNeeds 11 = .ok (.tableswitch 143 7 14 #[45, 79, 143, 85, 109, 143, 143, 97], 45) := dX9_hasWhatItNeeds_0g.2.2.2.2.2.1
theorem dX9_hasWhatItNeeds_56 : decode cX9_hasWhatItNeeds 56 = .ok (.aload_n 0, 1) := dX9_hasWhatItNeeds_0g.2.2.2.2.2.2.1
theorem dX9_hasWhatItNeeds_57 : decode cX9_hasWhatItNeeds 57 = .ok (.getfield 9, 3) := dX9_hasWhatItNeeds_0g.2.2.2.2.2.2.2.1
theorem dX9_hasWhatItNeeds_60 : decode cX9_hasWhatItNeeds 60 = .ok (.aload_n 1, 1) := dX9_hasWhatItNeeds_0g.2.2.2.2.2.2.2.2.1
theorem dX9_hasWhatItNeeds_61 : decode cX9_hasWhatItNeeds 61 = .ok (.getstatic 107, 3) := dX9_hasWhatItNeeds_0g.2.2.2.2.2.2.2.2.2.1
theorem dX9_hasWhatItNeeds_64 : decode cX9_hasWhatItNeeds 64 = .ok (.invokevirtual 179, 3) := dX9_hasWhatItNeeds_0g.2.2.2.2.2.2.2.2.2.2.1
theorem dX9_hasWhatItNeeds_67 : decode cX9_hasWhatItNeeds 67 = .ok (.ifCond .eq 21, 3) := dX9_hasWhatItNeeds_0g.2.2.2.2.2.2.2.2.2.2.2.1
theorem dX9_hasWhatItNeeds_70 : decode cX9_hasWhatItNeeds 70 = .ok (.aload_n 0, 1) := dX9_hasWhatItNeeds_0g.2.2.2.2.2.2.2.2.2.2.2.2.1
theorem dX9_hasWhatItNeeds_71 : decode cX9_hasWhatItNeeds 71 = .ok (.getfield 9, 3) := dX9_hasWhatItNeeds_0g.2.2.2.2.2.2.2.2.2.2.2.2.2.1
theorem dX9_hasWhatItNeeds_74 : decode cX9_hasWhatItNeeds 74 = .ok (.aload_n 1, 1) := dX9_hasWhatItNeeds_0g.2.2.2.2.2.2.2.2.2.2.2.2.2.2.1
theorem dX9_hasWhatItNeeds_75 : decode cX9_hasWhatItNeeds 75 = .ok (.getstatic 131, 3) := dX9_hasWhatItNeeds_0g.2.2.2.2.2.2.2.2.2.2.2.2.2.2.2
theorem dX9_hasWhatItNeeds_78g : decode cX9_hasWhatItNeeds 78 = .ok (.invokevirtual 179, 3) ∧ decode cX9_hasWhatItNeeds 81 = .ok (.ifCond .eq 7, 3) ∧ decode cX9_hasWhatItNeeds 84 = .ok (.iconst 1, 1) ∧ decode cX9_hasWhatItNeeds 85 = .ok (.goto 4, 3) ∧ decode cX9_hasWhatItNeeds 88 = .ok (.iconst 0, 1) ∧ decode cX9_hasWhatItNeeds 89 = .ok (.ireturn, 1) ∧ decode cX9_hasWhatItNeeds 90 = .ok (.aload_n 0, 1) ∧ decode cX9_hasWhatItNeeds 91 = .ok (.aload_n 1, 1) ∧ decode cX9_hasWhatItNeeds 92 = .ok (.invokevirtual 182, 3) ∧ decode cX9_hasWhatItNeeds 95 = .ok (.ireturn, 1) ∧ decode cX9_hasWhatItNeeds 96 = .ok (.aload_n 0, 1) ∧ decode cX9_hasWhatItNeeds 97 = .ok (.getfield 9, 3) ∧ decode cX9_hasWhatItNeeds 100 = .ok (.aload_n 1, 1) ∧ decode cX9_hasWhatItNeeds 101 = .ok (.getstatic 107, 3) ∧ decode cX9_hasWhatItNeeds 104 = .ok (.invokevirtual 179, 3) ∧ decode cX9_hasWhatItNeeds 107 = .ok (.ireturn, 1) := by decide +kernel
theorem dX9_hasWhatItNeeds_78 : decode cX9_hasWhatItNeeds 78 = .ok (.invokevirtual 179, 3) := dX9_hasWhatItNeeds_78g.1
theorem dX9_hasWhatItNeeds_81 : decode cX9_hasWhatItNeeds 81 = .ok (.ifCond .eq 7, 3) := dX9_hasWhatItNeeds_78g.2.1
theorem dX9_hasWhatItNeeds_84 : decode cX9_hasWhatItNeeds 84 = .ok (.iconst 1, 1) := dX9_hasWhatItNeeds_78g.2.2.1
theorem dX9_hasWhatItNeeds_85 : decode cX9_hasWhatItNeeds 85 = .ok (.goto 4, 3) := dX9_hasWhatItNeeds_78g.2.2.2.1
theorem dX9_hasWhatItNeeds_88 : decode cX9_hasWhatItNeeds 88 = .ok (.iconst 0, 1) := dX9_hasWhatItNeeds_78g.2.2.2.2.1
theorem dX9_hasWhatItNeeds_89 : decode cX9_hasWhatItNeeds 89 = .ok (.ireturn, 1) := dX9_hasWhatItNeeds_78g.2.2.2.2.2.1
theorem dX9_hasWhatItNeeds_90 : decode cX9_hasWhatItNeeds 90 = .ok (.aload_n 0, 1) := dX9_hasWhatItNeeds_78g.2.2.2.2.2.2.1
theorem dX9_hasWhatItNeeds_91 : decode cX9_hasWhatItNeeds 91 = .ok (.aload_n 1, 1) := dX9_hasWhatItNeeds_78g.2.2.2.2.2.2.2.1
theorem dX9_hasWhatItNeeds_92 : decode cX9_hasWhatItNeeds 92 = .ok (.invokevirtual 182, 3) := dX9_hasWhatItNeeds_78g.2.2.2.2.2.2.2.2.1
theorem dX9_hasWhatItNeeds_95 : decode cX9_hasWhatItNeeds 95 = .ok (.ireturn, 1) := dX9_hasWhatItNeeds_78g.2.2.2.2.2.2.2.2.2.1
theorem dX9_hasWhatItNeeds_96 : decode cX9_hasWhatItNeeds 96 = .ok (.aload_n 0, 1) := dX9_hasWhatItNeeds_78g.2.2.2.2.2.2.2.2.2.2.1
theorem dX9_hasWhatItNeeds_97 : decode cX9_hasWhatItNeeds 97 = .ok (.getfield 9, 3) := dX9_hasWhatItNeeds_78g.2.2.2.2.2.2.2.2.2.2.2.1
theorem dX9_hasWhatItNeeds_100 : decode cX9_hasWhatItNeeds 100 = .ok (.aload_n 1, 1) := dX9_hasWhatItNeeds_78g.2.2.2.2.2.2.2.2.2.2.2.2.1
theorem dX9_hasWhatItNeeds_101 : decode cX9_hasWhatItNeeds 101 = .ok (.getstatic 107, 3) := dX9_hasWhatItNeeds_78g.2.2.2.2.2.2.2.2.2.2.2.2.2.1
theorem dX9_hasWhatItNeeds_104 : decode cX9_hasWhatItNeeds 104 = .ok (.invokevirtual 179, 3) := dX9_hasWhatItNeeds_78g.2.2.2.2.2.2.2.2.2.2.2.2.2.2.1
theorem dX9_hasWhatItNeeds_107 : decode cX9_hasWhatItNeeds 107 = .ok (.ireturn, 1) := dX9_hasWhatItNeeds_78g.2.2.2.2.2.2.2.2.2.2.2.2.2.2.2
theorem dX9_hasWhatItNeeds_108g : decode cX9_hasWhatItNeeds 108 = .ok (.aload_n 0, 1) ∧ decode cX9_hasWhatItNeeds 109 = .ok (.getfield 9, 3) ∧ decode cX9_hasWhatItNeeds 112 = .ok (.aload_n 1, 1) ∧ decode cX9_hasWhatItNeeds 113 = .ok (.getstatic 82, 3) ∧ decode cX9_hasWhatItNeeds 116 = .ok (.invokevirtual 179, 3) ∧ decode cX9_hasWhatItNeeds 119 = .ok (.ireturn, 1) ∧ decode cX9_hasWhatItNeeds 120 = .ok (.aload_n 0, 1) ∧ decode cX9_hasWhatItNeeds 121 = .ok (.getfield 9, 3) ∧ decode cX9_hasWhatItNeeds 124 = .ok (.aload_n 1, 1) ∧ decode cX9_hasWhatItNeeds 125 = .ok (.getstatic 107, 3) ∧ decode cX9_hasWhatItNeeds 128 = .ok (.invokevirtual 179, 3) ∧ decode cX9_hasWhatItNeeds 131 = .ok (.ifCond .eq 21, 3) ∧ decode cX9_hasWhatItNeeds 134 = .ok (.aload_n 0, 1) ∧ decode cX9_hasWhatItNeeds 135 = .ok (.getfield 9, 3) ∧ decode cX9_hasWhatItNeeds 138 = .ok (.aload_n 1, 1) ∧ decode cX9_hasWhatItNeeds 139 = .ok (.getstatic 82, 3) := by decide +kernel
theorem dX9_hasWhatItNeeds_108 : decode cX9_hasWhatItNeeds 108 = .ok (.aload_n 0, 1) := dX9_hasWhatItNeeds_108g.1
theorem dX9_hasWhatItNeeds_109 : decode cX9_hasWhatItNeeds 109 = .ok (.getfield 9, 3) := dX9_hasWhatItNeeds_108g.2.1
theorem dX9_hasWhatItNeeds_112 : decode cX9_hasWhatItNeeds 112 = .ok (.aload_n 1, 1) := dX9_hasWhatItNeeds_108g.2.2.1
theorem dX9_hasWhatItNeeds_113 : decode cX9_hasWhatItNeeds 113 = .ok (.getstatic 82, 3) := dX9_hasWhatItNeeds_108g.2.2.2.1
theorem dX9_hasWhatItNeeds_116 : decode cX9_hasWhatItNeeds 116 = .ok (.invokevirtual 179, 3) := dX9_hasWhatItNeeds_108g.2.2.2.2.1
theorem dX9_hasWhatItNeeds_119 : decode cX9_hasWhatItNeeds 119 = .ok (.ireturn, 1) := dX9_hasWhatItNeeds_108g.2.2.2.2.2.1
theorem dX9_hasWhatItNeeds_120 : decode cX9_hasWhatItNeeds 120 = .ok (.aload_n 0, 1) := dX9_hasWhatItNeeds_108g.2.2.2.2.2.2.1
theorem dX9_hasWhatItNeeds_121 : decode cX9_hasWhatItNeeds 121 = .ok (.getfield 9, 3) := dX9_hasWhatItNeeds_108g.2.2.2.2.2.2.2.1
theorem dX9_hasWhatItNeeds_124 : decode cX9_hasWhatItNeeds 124 = .ok (.aload_n 1, 1) := dX9_hasWhatItNeeds_108g.2.2.2.2.2.2.2.2.1
theorem dX9_hasWhatItNeeds_125 : decode cX9_hasWhatItNeeds 125 = .ok (.getstatic 107, 3) := dX9_hasWhatItNeeds_108g.2.2.2.2.2.2.2.2.2.1
theorem dX9_hasWhatItNeeds_128 : decode cX9_hasWhatItNeeds 128 = .ok (.invokevirtual 179, 3) := dX9_hasWhatItNeeds_108g.2.2.2.2.2.2.2.2.2.2.1
theorem dX9_hasWhatItNeeds_131 : decode cX9_hasWhatItNeeds 131 = .ok (.ifCond .eq 21, 3) := dX9_hasWhatItNeeds_108g.2.2.2.2.2.2.2.2.2.2.2.1
theorem dX9_hasWhatItNeeds_134 : decode cX9_hasWhatItNeeds 134 = .ok (.aload_n 0, 1) := dX9_hasWhatItNeeds_108g.2.2.2.2.2.2.2.2.2.2.2.2.1
theorem dX9_hasWhatItNeeds_135 : decode cX9_hasWhatItNeeds 135 = .ok (.getfield 9, 3) := dX9_hasWhatItNeeds_108g.2.2.2.2.2.2.2.2.2.2.2.2.2.1
theorem dX9_hasWhatItNeeds_138 : decode cX9_hasWhatItNeeds 138 = .ok (.aload_n 1, 1) := dX9_hasWhatItNeeds_108g.2.2.2.2.2.2.2.2.2.2.2.2.2.2.1
theorem dX9_hasWhatItNeeds_139 : decode cX9_hasWhatItNeeds 139 = .ok (.getstatic 82, 3) := dX9_hasWhatItNeeds_108g.2.2.2.2.2.2.2.2.2.2.2.2.2.2.2
theorem dX9_hasWhatItNeeds_142g : decode cX9_hasWhatItNeeds 142 = .ok (.invokevirtual 179, 3) ∧ decode cX9_hasWhatItNeeds 145 = .ok (.ifCond .eq 7, 3) ∧ decode cX9_hasWhatItNeeds 148 = .ok (.iconst 1, 1) ∧ decode cX9_hasWhatItNeeds 149 = .ok (.goto 4, 3) ∧ decode cX9_hasWhatItNeeds 152 = .ok (.iconst 0, 1) ∧ decode cX9_hasWhatItNeeds 153 = .ok (.ireturn, 1) ∧ decode cX9_hasWhatItNeeds 154 = .ok (.iconst 1, 1) ∧ decode cX9_hasWhatItNeeds 155 = .ok (.ireturn, 1) := by decide +kernel
theorem dX9_hasWhatItNeeds_142 : decode cX9_hasWhatItNeeds 142 = .ok (.invokevirtual 179, 3) := dX9_hasWhatItNeeds_142g.1
theorem dX9_hasWhatItNeeds_145 : decode cX9_hasWhatItNeeds 145 = .ok (.ifCond .eq 7, 3) := dX9_hasWhatItNeeds_142g.2.1
theorem dX9_hasWhatItNeeds_148 : decode cX9_hasWhatItNeeds 148 = .ok (.iconst 1, 1) := dX9_hasWhatItNeeds_142g.2.2.1
theorem dX9_hasWhatItNeeds_149 : decode cX9_hasWhatItNeeds 149 = .ok (.goto 4, 3) := dX9_hasWhatItNeeds_142g.2.2.2.1
theorem dX9_hasWhatItNeeds_152 : decode cX9_hasWhatItNeeds 152 = .ok (.iconst 0, 1) := dX9_hasWhatItNeeds_142g.2.2.2.2.1
theorem dX9_hasWhatItNeeds_153 : decode cX9_hasWhatItNeeds 153 = .ok (.ireturn, 1) := dX9_hasWhatItNeeds_142g.2.2.2.2.2.1
theorem dX9_hasWhatItNeeds_154 : decode cX9_hasWhatItNeeds 154 = .ok (.iconst 1, 1) := dX9_hasWhatItNeeds_142g.2.2.2.2.2.2.1
theorem dX9_hasWhatItNeeds_155 : decode cX9_hasWhatItNeeds 155 = .ok (.ireturn, 1) := dX9_hasWhatItNeeds_142g.2.2.2.2.2.2.2
theorem dX9_beanHasWhatItNeeds_0g : decode cX9_beanHasWhatItNeeds 0 = .ok (.aload_n 1, 1) ∧ decode cX9_beanHasWhatItNeeds 1 = .ok (.getstatic 72, 3) ∧ decode cX9_beanHasWhatItNeeds 4 = .ok (.invokevirtual 75, 3) ∧ decode cX9_beanHasWhatItNeeds 7 = .ok (.ifCond .eq 19, 3) ∧ decode cX9_beanHasWhatItNeeds 10 = .ok (.aload_n 0, 1) ∧ decode cX9_beanHasWhatItNeeds 11 = .ok (.getfield 9, 3) ∧ decode cX9_beanHasWhatItNeeds 14 = .ok (.aload_n 1, 1) ∧ decode cX9_beanHasWhatItNeeds 15 = .ok (.getstatic 185, 3) ∧ decode cX9_beanHasWhatItNeeds 18 = .ok (.invokevirtual 179, 3) ∧ decode cX9_beanHasWhatItNeeds 21 = .ok (.ifCond .ne 5, 3) ∧ decode cX9_beanHasWhatItNeeds 24 = .ok (.iconst 0, 1) ∧ decode cX9_beanHasWhatItNeeds 25 = .ok (.ireturn, 1) ∧ decode cX9_beanHasWhatItNeeds 26 = .ok (.aload_n 0, 1) ∧ decode cX9_beanHasWhatItNeeds 27 = .ok (.getfield 9, 3) ∧ decode cX9_beanHasWhatItNeeds 30 = .ok (.aload_n 1, 1) ∧ decode cX9_beanHasWhatItNeeds 31 = .ok (.getstatic 188, 3) := by decide +kernel
theorem dX9_beanHasWhatItNeeds_0 : decode cX9_beanHasWhatItNeeds 0 = .ok (.aload_n 1, 1) := dX9_beanHasWhatItNeeds_0g.1
theorem dX9_beanHasWhatItNeeds_1 : decode cX9_beanHasWhatItNeeds 1 = .ok (.getstatic 72, 3) := dX9_beanHasWhatItNeeds_0g.2.1
theorem dX9_beanHasWhatItNeeds_4 : decode cX9_beanHasWhatItNeeds 4 = .ok (.invokevirtual 75, 3) := dX9_beanHasWhatItNeeds_0g.2.2.1
theorem dX9_beanHasWhatItNeeds_7 : decode cX9_beanHasWhatItNeeds 7 = .ok (.ifCond .eq 19, 3) := dX9_beanHasWhatItNeeds_0g.2.2.2.1
theorem dX9_beanHasWhatItNeeds_10 : decode cX9_beanHasWhatItNeeds 10 = .ok (.aload_n 0, 1) := dX9_beanHasWhatItNeeds_0g.2.2.2.2.1
theorem dX9_beanHasWhatItNeeds_11 : decode cX9_beanHasWhatItNeeds 11 = .ok (.getfield 9, 3) := dX9_beanHasWhatItNeeds_0g.2.2.2.2.2.1
theorem dX9_beanHasWhatItNeeds_14 : decode cX9_beanHasWhatItNeeds 14 = .ok (.aload_n 1, 1) := dX9_beanHasWhatItNeeds_0g.2.2.2.2.2.2.1
theorem dX9_beanHasWhatItNeeds_15 : decode cX9_beanHasWhatItNeeds 15 = .ok (.getstatic 185, 3) := dX9_beanHasWhatItNeeds_0g.2.2.2.2.2.2.2.1
theorem dX9_beanHasWhatItNeeds_18 : decode cX9_beanHasWhatItNeeds 18 = .ok (.invokevirtual 179, 3) := dX9_beanHasWhatItNeeds_0g.2.2.2.2.2.2.2.2.1
theorem dX9_beanHasWhatItNeeds_21 : decode cX9_beanHasWhatItNeeds 21 = .ok (.ifCond .ne 5, 3) := dX9_beanHasWhatItNeeds_0g.2.2.2.2.2.2.2.2.2.1
theorem dX9_beanHasWhatItNeeds_24 : decode cX9_beanHasWhatItNeeds 24 = .ok (.iconst 0, 1) := dX9_beanHasWhatItNeeds_0g.2.2.2.2.2.2.2.2.2.2.1
theorem dX9_beanHasWhatItNeeds_25 : decode cX9_beanHasWhatItNeeds 25 = .ok (.ireturn, 1) := dX9_beanHasWhatItNeeds_0g.2.2.2.2.2.2.2.2.2.2.2.1
theorem dX9_beanHasWhatItNeeds_26 : decode cX9_beanHasWhatItNeeds 26 = .ok (.aload_n 0, 1) := dX9_beanHasWhatItNeeds_0g.2.2.2.2.2.2.2.2.2.2.2.2.1
theorem dX9_beanHasWhatItNeeds_27 : decode cX9_beanHasWhatItNeeds 27 = .ok (.getfield 9, 3) := dX9_beanHasWhatItNeeds_0g.2.2.2.2.2.2.2.2.2.2.2.2.2.1
theorem dX9_beanHasWhatItNeeds_30 : decode cX9_beanHasWhatItNeeds 30 = .ok (.aload_n 1, 1) := dX9_beanHasWhatItNeeds_0g.2.2.2.2.2.2.2.2.2.2.2.2.2.2.1
theorem dX9_beanHasWhatItNeeds_31 : decode cX9_beanHasWhatItNeeds 31 = .ok (.getstatic 188, 3) := dX9_beanHasWhatItNeeds_0g.2.2.2.2.2.2.2.2.2.2.2.2.2.2.2
theorem dX9_beanHasWhatItNeeds_34g : decode cX9_beanHasWhatItNeeds 34 = .ok (.invokevirtual 179, 3) ∧ decode cX9_beanHasWhatItNeeds 37 = .ok (.ifCond .eq 19, 3) ∧ decode cX9_beanHasWhatItNeeds 40 = .ok (.aload_n 0, 1) ∧ decode cX9_beanHasWhatItNeeds 41 = .ok (.getfield 9, 3) ∧ decode cX9_beanHasWhatItNeeds 44 = .ok (.aload_n 1, 1) ∧ decode cX9_beanHasWhatItNeeds 45 = .ok (.getstatic 191, 3) ∧ decode cX9_beanHasWhatItNeeds 48 = .ok (.invokevirtual 179, 3) ∧ decode cX9_beanHasWhatItNeeds 51 = .ok (.ifCond .ne 5, 3) ∧ decode cX9_beanHasWhatItNeeds 54 = .ok (.iconst 0, 1) ∧ decode cX9_beanHasWhatItNeeds 55 = .ok (.ireturn, 1) ∧ decode cX9_beanHasWhatItNeeds 56 = .ok (.aload_n 0, 1) ∧ decode cX9_beanHasWhatItNeeds 57 = .ok (.getfield 9, 3) ∧ decode cX9_beanHasWhatItNeeds 60 = .ok (.aload_n 1, 1) ∧ decode cX9_beanHasWhatItNeeds 61 = .ok (.getstatic 194, 3) ∧ decode cX9_beanHasWhatItNeeds 64 = .ok (.getstatic 157, 3) ∧ decode cX9_beanHasWhatItNeeds 67 = .ok (.invokevirtual 160, 3) := by decide +kernel
theorem dX9_beanHasWhatItNeeds_34 : decode cX9_beanHasWhatItNeeds 34 = .ok (.invokevirtual 179, 3) := dX9_beanHasWhatItNeeds_34g.1
theorem dX9_beanHasWhatItNeeds_37 : decode cX9_beanHasWhatItNeeds 37 = .ok (.ifCond .eq 19, 3) := dX9_beanHasWhatItNeeds_34g.2.1
theorem dX9_beanHasWhatItNeeds_40 : decode cX9_beanHasWhatItNeeds 40 = .ok (.aload_n 0, 1) := dX9_beanHasWhatItNeeds_34g.2.2.1
theorem dX9_beanHasWhatItNeeds_41 : decode cX9_beanHasWhatItNeeds 41 = .ok (.getfield 9, 3) := dX9_beanHasWhatItNeeds_34g.2.2.2.1
theorem dX9_beanHasWhatItNeeds_44 : decode cX9_beanHasWhatItNeeds 44 = .ok (.aload_n 1, 1) := dX9_beanHasWhatItNeeds_34g.2.2.2.2.1
theorem dX9_beanHasWhatItNeeds_45 : decode cX9_beanHasWhatItNeeds 45 = .ok (.getstatic 191, 3) := dX9_beanHasWhatItNeeds_34g.2.2.2.2.2.1
theorem dX9_beanHasWhatItNeeds_48 : decode cX9_beanHasWhatItNeeds 48 = .ok (.invokevirtual 179, 3) := dX9_beanHasWhatItNeeds_34g.2.2.2.2.2.2.1
theorem dX9_beanHasWhatItNeeds_51 : decode cX9_beanHasWhatItNeeds 51 = .ok (.ifCond .ne 5, 3) := dX9_beanHasWhatItNeeds_34g.2.2.2.2.2.2.2.1
theorem dX9_beanHasWhatItNeeds_54 : decode cX9_beanHasWhatItNeeds 54 = .ok (.iconst 0, 1) := dX9_beanHasWhatItNeeds_34g.2.2.2.2.2.2.2.2.1
theorem dX9_beanHasWhatItNeeds_55 : decode cX9_beanHasWhatItNeeds 55 = .ok (.ireturn, 1) := dX9_beanHasWhatItNeeds_34g.2.2.2.2.2.2.2.2.2.1
theorem dX9_beanHasWhatItNeeds_56 : decode cX9_beanHasWhatItNeeds 56 = .ok (.aload_n 0, 1) := dX9_beanHasWhatItNeeds_34g.2.2.2.2.2.2.2.2.2.2.1
theorem dX9_beanHasWhatItNeeds_57 : decode cX9_beanHasWhatItNeeds 57 = .ok (.getfield 9, 3) := dX9_beanHasWhatItNeeds_34g.2.2.2.2.2.2.2.2.2.2.2.1
theorem dX9_beanHasWhatItNeeds_60 : decode cX9_beanHasWhatItNeeds 60 = .ok (.aload_n 1, 1) := dX9_beanHasWhatItNeeds_34g.2.2.2.2.2.2.2.2.2.2.2.2.1
theorem dX9_beanHasWhatItNeeds_61 : decode cX9_beanHasWhatItNeeds 61 = .ok (.getstatic 194, 3) := dX9_beanHasWhatItNeeds_34g.2.2.2.2.2.2.2.2.2.2.2.2.2.1
theorem dX9_beanHasWhatItNeeds_64 : decode cX9_beanHasWhatItNeeds 64 = .ok (.getstatic 157, 3) := dX9_beanHasWhatItNeeds_34g.2.2.2.2.2.2.2.2.2.2.2.2.2.2.1
theorem dX9_beanHasWhatItNeeds_67 : decode cX9_beanHasWhatItNeeds 67 = .ok (.invokevirtual 160, 3) := dX9_beanHasWhatItNeeds_34g.2.2.2.2.2.2.2.2.2.2.2.2.2.2.2
theorem dX9_beanHasWhatItNeeds_70g : decode cX9_beanHasWhatItNeeds 70 = .ok (.ifCond .ne 45, 3) ∧ decode cX9_beanHasWhatItNeeds 73 = .ok (.aload_n 0, 1) ∧ decode cX9_beanHasWhatItNeeds 74 = .ok (.getfield 9, 3) ∧ decode cX9_beanHasWhatItNeeds 77 = .ok (.aload_n 1, 1) ∧ decode cX9_beanHasWhatItNeeds 78 = .ok (.getstatic 197, 3) ∧ decode cX9_beanHasWhatItNeeds 81 = .ok (.invokevirtual 179, 3) ∧ decode cX9_beanHasWhatItNeeds 84 = .ok (.ifCond .ne 31, 3) ∧ decode cX9_beanHasWhatItNeeds 87 = .ok (.aload_n 0, 1) ∧ decode cX9_beanHasWhatItNeeds 88 = .ok (.getfield 9, 3) ∧ decode cX9_beanHasWhatItNeeds 91 = .ok (.aload_n 1, 1) ∧ decode cX9_beanHasWhatItNeeds 92 = .ok (.getstatic 200, 3) ∧ decode cX9_beanHasWhatItNeeds 95 = .ok (.invokevirtual 179, 3) ∧ decode cX9_beanHasWhatItNeeds 98 = .ok (.ifCond .ne 17, 3) ∧ decode cX9_beanHasWhatItNeeds 101 = .ok (.aload_n 0, 1) ∧ decode cX9_beanHasWhatItNeeds 102 = .ok (.getfield 9, 3) ∧ decode cX9_beanHasWhatItNeeds 105 = .ok (.aload_n 1, 1) := by decide +kernel
theorem dX9_beanHasWhatItNeeds_70 : decode cX9_beanHasWhatItNeeds 70 = .ok (.ifCond .ne 45, 3) := dX9_beanHasWhatItNeeds_70g.1
theorem dX9_beanHasWhatItNeeds_73 : decode cX9_beanHasWhatItNeeds 73 = .ok (.aload_n 0, 1) := dX9_beanHasWhatItNeeds_70g.2.1
theorem dX9_beanHasWhatItNeeds_74 : decode cX9_beanHasWhatItNeeds 74 = .ok (.getfield 9, 3) := dX9_beanHasWhatItNeeds_70g.2.2.1
theorem dX9_beanHasWhatItNeeds_77 : decode cX9_beanHasWhatItNeeds 77 = .ok (.aload_n 1, 1) := dX9_beanHasWhatItNeeds_70g.2.2.2.1
theorem dX9_beanHasWhatItNeeds_78 : decode cX9_beanHasWhatItNeeds 78 = .ok (.getstatic 197, 3) := dX9_beanHasWhatItNeeds_70g.2.2.2.2.1
theorem dX9_beanHasWhatItNeeds_81 : decode cX9_beanHasWhatItNeeds 81 = .ok (.invokevirtual 179, 3) := dX9_beanHasWhatItNeeds_70g.2.2.2.2.2.1
theorem dX9_beanHasWhatItNeeds_84 : decode cX9_beanHasWhatItNeeds 84 = .ok (.ifCond .ne 31, 3) := dX9_beanHasWhatItNeeds_70g.2.2.2.2.2.2.1
theorem dX9_beanHasWhatItNeeds_87 : decode cX9_beanHasWhatItNeeds 87 = .ok (.aload_n 0, 1) := dX9_beanHasWhatItNeeds_70g.2.2.2.2.2.2.2.1
theorem dX9_beanHasWhatItNeeds_88 : decode cX9_beanHasWhatItNeeds 88 = .ok (.getfield 9, 3) := dX9_beanHasWhatItNeeds_70g.2.2.2.2.2.2.2.2.1
theorem dX9_beanHasWhatItNeeds_91 : decode cX9_beanHasWhatItNeeds 91 = .ok (.aload_n 1, 1) := dX9_beanHasWhatItNeeds_70g.2.2.2.2.2.2.2.2.2.1
theorem dX9_beanHasWhatItNeeds_92 : decode cX9_beanHasWhatItNeeds 92 = .ok (.getstatic 200, 3) := dX9_beanHasWhatItNeeds_70g.2.2.2.2.2.2.2.2.2.2.1
theorem dX9_beanHasWhatItNeeds_95 : decode cX9_beanHasWhatItNeeds 95 = .ok (.invokevirtual 179, 3) := dX9_beanHasWhatItNeeds_70g.2.2.2.2.2.2.2.2.2.2.2.1
theorem dX9_beanHasWhatItNeeds_98 : decode cX9_beanHasWhatItNeeds 98 = .ok (.ifCond .ne 17, 3) := dX9_beanHasWhatItNeeds_70g.2.2.2.2.2.2.2.2.2.2.2.2.1
theorem dX9_beanHasWhatItNeeds_101 : decode cX9_beanHasWhatItNeeds 101 = .ok (.aload_n 0, 1) := dX9_beanHasWhatItNeeds_70g.2.2.2.2.2.2.2.2.2.2.2.2.2.1
theorem dX9_beanHasWhatItNeeds_102 : decode cX9_beanHasWhatItNeeds 102 = .ok (.getfield 9, 3) := dX9_beanHasWhatItNeeds_70g.2.2.2.2.2.2.2.2.2.2.2.2.2.2.1
theorem dX9_beanHasWhatItNeeds_105 : decode cX9_beanHasWhatItNeeds 105 = .ok (.aload_n 1, 1) := dX9_beanHasWhatItNeeds_70g.2.2.2.2.2.2.2.2.2.2.2.2.2.2.2
theorem dX9_beanHasWhatItNeeds_106g : decode cX9_beanHasWhatItNeeds 106 = .ok (.getstatic 188, 3) ∧ decode cX9_beanHasWhatItNeeds 109 = .ok (.invokevirtual 179, 3) ∧ decode cX9_beanHasWhatItNeeds 112 = .ok (.ifCond .eq 7, 3) ∧ decode cX9_beanHasWhatItNeeds 115 = .ok (.iconst 1, 1) ∧ decode cX9_beanHasWhatItNeeds 116 = .ok (.goto 4, 3) ∧ decode cX9_beanHasWhatItNeeds 119 = .ok (.iconst 0, 1) ∧ decode cX9_beanHasWhatItNeeds 120 = .ok (.ireturn, 1) := by decide +kernel
theorem dX9_beanHasWhatItNeeds_106 : decode cX9_beanHasWhatItNeeds 106 = .ok (.getstatic 188, 3) := dX9_beanHasWhatItNeeds_106g.1
theorem dX9_beanHasWhatItNeeds_109 : decode cX9_beanHasWhatItNeeds 109 = .ok (.invokevirtual 179, 3) := dX9_beanHasWhatItNeeds_106g.2.1
theorem dX9_beanHasWhatItNeeds_112 : decode cX9_beanHasWhatItNeeds 112 = .ok (.ifCond .eq 7, 3) := dX9_beanHasWhatItNeeds_106g.2.2.1
theorem dX9_beanHasWhatItNeeds_115 : decode cX9_beanHasWhatItNeeds 115 = .ok (.iconst 1, 1) := dX9_beanHasWhatItNeeds_106g.2.2.2.1
theorem dX9_beanHasWhatItNeeds_116 : decode cX9_beanHasWhatItNeeds 116 = .ok (.goto 4, 3) := dX9_beanHasWhatItNeeds_106g.2.2.2.2.1
theorem dX9_beanHasWhatItNeeds_119 : decode cX9_beanHasWhatItNeeds 119 = .ok (.iconst 0, 1) := dX9_beanHasWhatItNeeds_106g.2.2.2.2.2.1
theorem dX9_beanHasWhatItNeeds_120 : decode cX9_beanHasWhatItNeeds 120 = .ok (.ireturn, 1) := dX9_beanHasWhatItNeeds_106g.2.2.2.2.2.2
theorem dX9_hasRightCount_0g : decode cX9_hasRightCount 0 = .ok (.getstatic 59, 3) ∧ decode cX9_hasRightCount 3 = .ok (.aload_n 1, 1) ∧ decode cX9_hasRightCount 4 = .ok (.getfield 35, 3) ∧ decode cX9_hasRightCount 7 = .ok (.invokevirtual 65, 3) ∧ decode cX9_hasRightCount 10 = .ok (.iaload, 1) ∧ decode cX9_hasRightCount 11 = .ok (.tableswitch 112 6 12 #[41, 112, 41, 43, 43, 112, 97], 41) ∧ decode cX9_hasRightCount 52 = .ok (.iconst 1, 1) ∧ decode cX9_hasRightCount 53 = .ok (.ireturn, 1) ∧ decode cX9_hasRightCount 54 = .ok (.aload_n 0, 1) ∧ decode cX9_hasRightCount 55 = .ok (.getfield 9, 3) ∧ decode cX9_hasRightCount 58 = .ok (.aload_n 1, 1) ∧ decode cX9_hasRightCount 59 = .ok (.getstatic 51, 3) ∧ decode cX9_hasRightCount 62 = .ok (.invokevirtual 179, 3) ∧ decode cX9_hasRightCount 65 = .ok (.ifCond .eq 7, 3) ∧ decode cX9_hasRightCount 68 = .ok (.iconst 1, 1) ∧ decode cX9_hasRightCount 69 = .ok (.goto 4, 3) := by decide +kernel
theorem dX9_hasRightCount_0 : decode cX9_hasRightCount 0 = .ok (.getstatic 59, 3) := dX9_hasRightCount_0g.1
theorem dX9_hasRightCount_3 : decode cX9_hasRightCount 3 = .ok (.aload_n 1, 1) := dX9_hasRightCount_0g.2.1
theorem dX9_hasRightCount_4 : decode cX9_hasRightCount 4 = .ok (.getfield 35, 3) := dX9_hasRightCount_0g.2.2.1
theorem dX9_hasRightCount_7 : decode cX9_hasRightCount 7 = .ok (.invokevirtual 65, 3) := dX9_hasRightCount_0g.2.2.2.1
theorem dX9_hasRightCount_10 : decode cX9_hasRightCount 10 = .ok (.iaload, 1) := dX9_hasRightCount_0g.2.2.2.2.1
theorem dX9_hasRightCount_11 : decode cX9_hasRightCount 11 = .ok (.tableswitch 112 6 12 #[41, 112, 41, 43, 43, 112, 97], 41) := dX9_hasRightCount_0g.2.2.2.2.2.1
theorem dX9_hasRightCount_52 : decode cX9_hasRightCount 52 = .ok (.iconst 1, 1) := dX9_hasRightCount_0g.2.2.2.2.2.2.1
theorem dX9_hasRightCount_53 : decode cX9_hasRightCount 53 = .ok (.ireturn, 1) := dX9_hasRightCount_0g.2.2.2.2.2.2.2.1
theorem dX9_hasRightCount_54 : decode cX9_hasRightCount 54 = .ok (.aload_n 0, 1) := dX9_hasRightCount_0g.2.2.2.2.2.2.2.2.1
theorem dX9_hasRightCount_55 : decode cX9_hasRightCount 55 = .ok (.getfield 9, 3) := dX9_hasRightCount_0g.2.2.2.2.2.2.2.2.2.1
theorem dX9_hasRightCount_58 : decode cX9_hasRightCount 58 = .ok (.aload_n 1, 1) := dX9_hasRightCount_0g.2.2.2.2.2.2.2.2.2.2.1
theorem dX9_hasRightCount_59 : decode cX9_hasRightCount 59 = .ok (.getstatic 51, 3) := dX9_hasRightCount_0g.2.2.2.2.2.2.2.2.2.2.2.1
theorem dX9_hasRightCount_62 : decode cX9_hasRightCount 62 = .ok (.invokevirtual 179, 3) := dX9_hasRightCount_0g.2.2.2.2.2.2.2.2.2.2.2.2.1
theorem dX9_hasRightCount_65 : decode cX9_hasRightCount 65 = .ok (.ifCond .eq 7, 3) := dX9_hasRightCount_0g.2.2.2.2.2.2.2.2.2.2.2.2.2.1
theorem dX9_hasRightCount_68 : decode cX9_hasRightCount 68 = .ok (.iconst 1, 1) := dX9_hasRightCount_0g.2.2.2.2.2.2.2.2.2.2.2.2.2.2.1
theorem dX9_hasRightCount_69 : decode cX9_hasRightCount 69 = .ok (.goto 4, 3) := dX9_hasRightCount_0g.2.2.2.2.2.2.2.2.2.2.2.2.2.2.2
theorem dX9_hasRightCount_72g : decode cX9_hasRightCount 72 = .ok (.iconst 0, 1) ∧ decode cX9_hasRightCount 73 = .ok (.aload_n 0, 1) ∧ decode cX9_hasRightCount 74 = .ok (.getfield 9, 3) ∧ decode cX9_hasRightCount 77 = .ok (.aload_n 1, 1) ∧ decode cX9_hasRightCount 78 = .ok (.getstatic 144, 3) ∧ decode cX9_hasRightCount 81 = .ok (.invokevirtual 179, 3) ∧ decode cX9_hasRightCount 84 = .ok (.ifCond .eq 7, 3) ∧ decode cX9_hasRightCount 87 = .ok (.iconst 1, 1) ∧ decode cX9_hasRightCount 88 = .ok (.goto 4, 3) ∧ decode cX9_hasRightCount 91 = .ok (.iconst 0, 1) ∧ decode cX9_hasRightCount 92 = .ok (.iadd, 1) ∧ decode cX9_hasRightCount 93 = .ok (.aload_n 1, 1) ∧ decode cX9_hasRightCount 94 = .ok (.getfield 203, 3) ∧ decode cX9_hasRightCount 97 = .ok (.iadd, 1) ∧ decode cX9_hasRightCount 98 = .ok (.iconst 1, 1) ∧ decode cX9_hasRightCount 99 = .ok (.if_icmp .ne 7, 3) := by decide +kernel
theorem dX9_hasRightCount_72 : decode cX9_hasRightCount 72 = .ok (.iconst 0, 1) := dX9_hasRightCount_72g.1
theorem dX9_hasRightCount_73 : decode cX9_hasRightCount 73 = .ok (.aload_n 0, 1) := dX9_hasRightCount_72g.2.1
theorem dX9_hasRightCount_74 : decode cX9_hasRightCount 74 = .ok (.getfield 9, 3) := dX9_hasRightCount_72g.2.2.1
theorem dX9_hasRightCount_77 : decode cX9_hasRightCount 77 = .ok (.aload_n 1, 1) := dX9_hasRightCount_72g.2.2.2.1
theorem dX9_hasRightCount_78 : decode cX9_hasRightCount 78 = .ok (.getstatic 144, 3) := dX9_hasRightCount_72g.2.2.2.2.1
theorem dX9_hasRightCount_81 : decode cX9_hasRightCount 81 = .ok (.invokevirtual 179, 3) := dX9_hasRightCount_72g.2.2.2.2.2.1
theorem dX9_hasRightCount_84 : decode cX9_hasRightCount 84 = .ok (.ifCond .eq 7, 3) := dX9_hasRightCount_72g.2.2.2.2.2.2.1
theorem dX9_hasRightCount_87 : decode cX9_hasRightCount 87 = .ok (.iconst 1, 1) := dX9_hasRightCount_72g.2.2.2.2.2.2.2.1
theorem dX9_hasRightCount_88 : decode cX9_hasRightCount 88 = .ok (.goto 4, 3) := dX9_hasRightCount_72g.2.2.2.2.2.2.2.2.1
theorem dX9_hasRightCount_91 : decode cX9_hasRightCount 91 = .ok (.iconst 0, 1) := dX9_hasRightCount_72g.2.2.2.2.2.2.2.2.2.1
theorem dX9_hasRightCount_92 : decode cX9_hasRightCount 92 = .ok (.iadd, 1) := dX9_hasRightCount_72g.2.2.2.2.2.2.2.2.2.2.1
theorem dX9_hasRightCount_93 : decode cX9_hasRightCount 93 = .ok (.aload_n 1, 1) := dX9_hasRightCount_72g.2.2.2.2.2.2.2.2.2.2.2.1
theorem dX9_hasRightCount_94 : decode cX9_hasRightCount 94 = .ok (.getfield 203, 3) := dX9_hasRightCount_72g.2.2.2.2.2.2.2.2.2.2.2.2.1
theorem dX9_hasRightCount_97 : decode cX9_hasRightCount 97 = .ok (.iadd, 1) := dX9_hasRightCount_72g.2.2.2.2.2.2.2.2.2.2.2.2.2.1
theorem dX9_hasRightCount_98 : decode cX9_hasRightCount 98 = .ok (.iconst 1, 1) := dX9_hasRightCount_72g.2.2.2.2.2.2.2.2.2.2.2.2.2.2.1
theorem dX9_hasRightCount_99 : decode cX9_hasRightCount 99 = .ok (.if_icmp .ne 7, 3) := dX9_hasRightCount_72g.2.2.2.2.2.2.2.2.2.2.2.2.2.2.2
theorem dX9_hasRightCount_102g : decode cX9_hasRightCount 102 = .ok (.iconst 1, 1) ∧ decode cX9_hasRightCount 103 = .ok (.goto 4, 3) ∧ decode cX9_hasRightCount 106 = .ok (.iconst 0, 1) ∧ decode cX9_hasRightCount 107 = .ok (.ireturn, 1) ∧ decode cX9_hasRightCount 108 = .ok (.aload_n 1, 1) ∧ decode cX9_hasRightCount 109 = .ok (.getfield 203, 3) ∧ decode cX9_hasRightCount 112 = .ok (.bipush 6, 2) ∧ decode cX9_hasRightCount 114 = .ok (.if_icmp .gt 7, 3) ∧ decode cX9_hasRightCount 117 = .ok (.iconst 1, 1) ∧ decode cX9_hasRightCount 118 = .ok (.goto 4, 3) ∧ decode cX9_hasRightCount 121 = .ok (.iconst 0, 1) ∧ decode cX9_hasRightCount 122 = .ok (.ireturn, 1) ∧ decode cX9_hasRightCount 123 = .ok (.aload_n 1, 1) ∧ decode cX9_hasRightCount 124 = .ok (.getfield 203, 3) ∧ decode cX9_hasRightCount 127 = .ok (.ifCond .ne 7, 3) ∧ decode cX9_hasRightCount 130 = .ok (.iconst 1, 1) := by decide +kernel
theorem dX9_hasRightCount_102 : decode cX9_hasRightCount 102 = .ok (.iconst 1, 1) := dX9_hasRightCount_102g.1
theorem dX9_hasRightCount_103 : decode cX9_hasRightCount 103 = .ok (.goto 4, 3) := dX9_hasRightCount_102g.2.1
theorem dX9_hasRightCount_106 : decode cX9_hasRightCount 106 = .ok (.iconst 0, 1) := dX9_hasRightCount_102g.2.2.1
theorem dX9_hasRightCount_107 : decode cX9_hasRightCount 107 = .ok (.ireturn, 1) := dX9_hasRightCount_102g.2.2.2.1
theorem dX9_hasRightCount_108 : decode cX9_hasRightCount 108 = .ok (.aload_n 1, 1) := dX9_hasRightCount_102g.2.2.2.2.1
theorem dX9_hasRightCount_109 : decode cX9_hasRightCount 109 = .ok (.getfield 203, 3) := dX9_hasRightCount_102g.2.2.2.2.2.1
theorem dX9_hasRightCount_112 : decode cX9_hasRightCount 112 = .ok (.bipush 6, 2) := dX9_hasRightCount_102g.2.2.2.2.2.2.1
theorem dX9_hasRightCount_114 : decode cX9_hasRightCount 114 = .ok (.if_icmp .gt 7, 3) := dX9_hasRightCount_102g.2.2.2.2.2.2.2.1
theorem dX9_hasRightCount_117 : decode cX9_hasRightCount 117 = .ok (.iconst 1, 1) := dX9_hasRightCount_102g.2.2.2.2.2.2.2.2.1
theorem dX9_hasRightCount_118 : decode cX9_hasRightCount 118 = .ok (.goto 4, 3) := dX9_hasRightCount_102g.2.2.2.2.2.2.2.2.2.1
theorem dX9_hasRightCount_121 : decode cX9_hasRightCount 121 = .ok (.iconst 0, 1) := dX9_hasRightCount_102g.2.2.2.2.2.2.2.2.2.2.1
theorem dX9_hasRightCount_122 : decode cX9_hasRightCount 122 = .ok (.ireturn, 1) := dX9_hasRightCount_102g.2.2.2.2.2.2.2.2.2.2.2.1
theorem dX9_hasRightCount_123 : decode cX9_hasRightCount 123 = .ok (.aload_n 1, 1) := dX9_hasRightCount_102g.2.2.2.2.2.2.2.2.2.2.2.2.1
theorem dX9_hasRightCount_124 : decode cX9_hasRightCount 124 = .ok (.getfield 203, 3) := dX9_hasRightCount_102g.2.2.2.2.2.2.2.2.2.2.2.2.2.1
theorem dX9_hasRightCount_127 : decode cX9_hasRightCount 127 = .ok (.ifCond .ne 7, 3) := dX9_hasRightCount_102g.2.2.2.2.2.2.2.2.2.2.2.2.2.2.1
theorem dX9_hasRightCount_130 : decode cX9_hasRightCount 130 = .ok (.iconst 1, 1) := dX9_hasRightCount_102g.2.2.2.2.2.2.2.2.2.2.2.2.2.2.2
theorem dX9_hasRightCount_131g : decode cX9_hasRightCount 131 = .ok (.goto 4, 3) ∧ decode cX9_hasRightCount 134 = .ok (.iconst 0, 1) ∧ decode cX9_hasRightCount 135 = .ok (.ireturn, 1) := by decide +kernel
theorem dX9_hasRightCount_131 : decode cX9_hasRightCount 131 = .ok (.goto 4, 3) := dX9_hasRightCount_131g.1
theorem dX9_hasRightCount_134 : decode cX9_hasRightCount 134 = .ok (.iconst 0, 1) := dX9_hasRightCount_131g.2.1
theorem dX9_hasRightCount_135 : decode cX9_hasRightCount 135 = .ok (.ireturn, 1) := dX9_hasRightCount_131g.2.2
theorem dX10_forgetBeans_0g : decode cX10_forgetBeans 0 = .ok (.aload_n 0, 1) ∧ decode cX10_forgetBeans 1 = .ok (.iconst 0, 1) ∧ decode cX10_forgetBeans 2 = .ok (.putfield 29, 3) ∧ decode cX10_forgetBeans 5 = .ok (.return_, 1) := by decide +kernel
theorem dX10_forgetBeans_0 : decode cX10_forgetBeans 0 = .ok (.aload_n 0, 1) := dX10_forgetBeans_0g.1
theorem dX10_forgetBeans_1 : decode cX10_forgetBeans 1 = .ok (.iconst 0, 1) := dX10_forgetBeans_0g.2.1
theorem dX10_forgetBeans_2 : decode cX10_forgetBeans 2 = .ok (.putfield 29, 3) := dX10_forgetBeans_0g.2.2.1
theorem dX10_forgetBeans_5 : decode cX10_forgetBeans 5 = .ok (.return_, 1) := dX10_forgetBeans_0g.2.2.2
theorem dX10_count_0g : decode cX10_count 0 = .ok (.aload_n 0, 1) ∧ decode cX10_count 1 = .ok (.getfield 29, 3) ∧ decode cX10_count 4 = .ok (.ireturn, 1) := by decide +kernel
theorem dX10_count_0 : decode cX10_count 0 = .ok (.aload_n 0, 1) := dX10_count_0g.1
theorem dX10_count_1 : decode cX10_count 1 = .ok (.getfield 29, 3) := dX10_count_0g.2.1
theorem dX10_count_4 : decode cX10_count 4 = .ok (.ireturn, 1) := dX10_count_0g.2.2
theorem dX10_numbered_0g : decode cX10_numbered 0 = .ok (.aload_n 0, 1) ∧ decode cX10_numbered 1 = .ok (.getfield 19, 3) ∧ decode cX10_numbered 4 = .ok (.iload_n 1, 1) ∧ decode cX10_numbered 5 = .ok (.aaload, 1) ∧ decode cX10_numbered 6 = .ok (.areturn, 1) := by decide +kernel
theorem dX10_numbered_0 : decode cX10_numbered 0 = .ok (.aload_n 0, 1) := dX10_numbered_0g.1
theorem dX10_numbered_1 : decode cX10_numbered 1 = .ok (.getfield 19, 3) := dX10_numbered_0g.2.1
theorem dX10_numbered_4 : decode cX10_numbered 4 = .ok (.iload_n 1, 1) := dX10_numbered_0g.2.2.1
theorem dX10_numbered_5 : decode cX10_numbered 5 = .ok (.aaload, 1) := dX10_numbered_0g.2.2.2.1
theorem dX10_numbered_6 : decode cX10_numbered 6 = .ok (.areturn, 1) := dX10_numbered_0g.2.2.2.2
theorem dX10_firstWrongPlace_0g : decode cX10_firstWrongPlace 0 = .ok (.aload_n 0, 1) ∧ decode cX10_firstWrongPlace 1 = .ok (.iconst 0, 1) ∧ decode cX10_firstWrongPlace 2 = .ok (.putfield 29, 3) ∧ decode cX10_firstWrongPlace 5 = .ok (.iconst 0, 1) ∧ decode cX10_firstWrongPlace 6 = .ok (.istore_n 1, 1) ∧ decode cX10_firstWrongPlace 7 = .ok (.iload_n 1, 1) ∧ decode cX10_firstWrongPlace 8 = .ok (.aload_n 0, 1) ∧ decode cX10_firstWrongPlace 9 = .ok (.getfield 9, 3) ∧ decode cX10_firstWrongPlace 12 = .ok (.invokevirtual 33, 3) ∧ decode cX10_firstWrongPlace 15 = .ok (.if_icmp .ge 21, 3) ∧ decode cX10_firstWrongPlace 18 = .ok (.aload_n 0, 1) ∧ decode cX10_firstWrongPlace 19 = .ok (.aload_n 0, 1) ∧ decode cX10_firstWrongPlace 20 = .ok (.getfield 9, 3) ∧ decode cX10_firstWrongPlace 23 = .ok (.iload_n 1, 1) ∧ decode cX10_firstWrongPlace 24 = .ok (.invokevirtual 36, 3) ∧ decode cX10_firstWrongPlace 27 = .ok (.invokevirtual 40, 3) := by decide +kernel
theorem dX10_firstWrongPlace_0 : decode cX10_firstWrongPlace 0 = .ok (.aload_n 0, 1) := dX10_firstWrongPlace_0g.1
theorem dX10_firstWrongPlace_1 : decode cX10_firstWrongPlace 1 = .ok (.iconst 0, 1) := dX10_firstWrongPlace_0g.2.1
theorem dX10_firstWrongPlace_2 : decode cX10_firstWrongPlace 2 = .ok (.putfield 29, 3) := dX10_firstWrongPlace_0g.2.2.1
theorem dX10_firstWrongPlace_5 : decode cX10_firstWrongPlace 5 = .ok (.iconst 0, 1) := dX10_firstWrongPlace_0g.2.2.2.1
theorem dX10_firstWrongPlace_6 : decode cX10_firstWrongPlace 6 = .ok (.istore_n 1, 1) := dX10_firstWrongPlace_0g.2.2.2.2.1
theorem dX10_firstWrongPlace_7 : decode cX10_firstWrongPlace 7 = .ok (.iload_n 1, 1) := dX10_firstWrongPlace_0g.2.2.2.2.2.1
theorem dX10_firstWrongPlace_8 : decode cX10_firstWrongPlace 8 = .ok (.aload_n 0, 1) := dX10_firstWrongPlace_0g.2.2.2.2.2.2.1
theorem dX10_firstWrongPlace_9 : decode cX10_firstWrongPlace 9 = .ok (.getfield 9, 3) := dX10_firstWrongPlace_0g.2.2.2.2.2.2.2.1
theorem dX10_firstWrongPlace_12 : decode cX10_firstWrongPlace 12 = .ok (.invokevirtual 33, 3) := dX10_firstWrongPlace_0g.2.2.2.2.2.2.2.2.1
theorem dX10_firstWrongPlace_15 : decode cX10_firstWrongPlace 15 = .ok (.if_icmp .ge 21, 3) := dX10_firstWrongPlace_0g.2.2.2.2.2.2.2.2.2.1
theorem dX10_firstWrongPlace_18 : decode cX10_firstWrongPlace 18 = .ok (.aload_n 0, 1) := dX10_firstWrongPlace_0g.2.2.2.2.2.2.2.2.2.2.1
theorem dX10_firstWrongPlace_19 : decode cX10_firstWrongPlace 19 = .ok (.aload_n 0, 1) := dX10_firstWrongPlace_0g.2.2.2.2.2.2.2.2.2.2.2.1
theorem dX10_firstWrongPlace_20 : decode cX10_firstWrongPlace 20 = .ok (.getfield 9, 3) := dX10_firstWrongPlace_0g.2.2.2.2.2.2.2.2.2.2.2.2.1
theorem dX10_firstWrongPlace_23 : decode cX10_firstWrongPlace 23 = .ok (.iload_n 1, 1) := dX10_firstWrongPlace_0g.2.2.2.2.2.2.2.2.2.2.2.2.2.1
theorem dX10_firstWrongPlace_24 : decode cX10_firstWrongPlace 24 = .ok (.invokevirtual 36, 3) := dX10_firstWrongPlace_0g.2.2.2.2.2.2.2.2.2.2.2.2.2.2.1
theorem dX10_firstWrongPlace_27 : decode cX10_firstWrongPlace 27 = .ok (.invokevirtual 40, 3) := dX10_firstWrongPlace_0g.2.2.2.2.2.2.2.2.2.2.2.2.2.2.2
theorem dX10_firstWrongPlace_30g : decode cX10_firstWrongPlace 30 = .ok (.iinc 1 1, 3) ∧ decode cX10_firstWrongPlace 33 = .ok (.goto (-26), 3) ∧ decode cX10_firstWrongPlace 36 = .ok (.iconst 0, 1) ∧ decode cX10_firstWrongPlace 37 = .ok (.istore_n 1, 1) ∧ decode cX10_firstWrongPlace 38 = .ok (.iload_n 1, 1) ∧ decode cX10_firstWrongPlace 39 = .ok (.aload_n 0, 1) ∧ decode cX10_firstWrongPlace 40 = .ok (.getfield 9, 3) ∧ decode cX10_firstWrongPlace 43 = .ok (.invokevirtual 33, 3) ∧ decode cX10_firstWrongPlace 46 = .ok (.if_icmp .ge 29, 3) ∧ decode cX10_firstWrongPlace 49 = .ok (.aload_n 0, 1) ∧ decode cX10_firstWrongPlace 50 = .ok (.iload_n 1, 1) ∧ decode cX10_firstWrongPlace 51 = .ok (.invokevirtual 44, 3) ∧ decode cX10_firstWrongPlace 54 = .ok (.ifCond .ne 15, 3) ∧ decode cX10_firstWrongPlace 57 = .ok (.aload_n 0, 1) ∧ decode cX10_firstWrongPlace 58 = .ok (.getfield 9, 3) ∧ decode cX10_firstWrongPlace 61 = .ok (.iload_n 1, 1) := by decide +kernel
theorem dX10_firstWrongPlace_30 : decode cX10_firstWrongPlace 30 = .ok (.iinc 1 1, 3) := dX10_firstWrongPlace_30g.1
theorem dX10_firstWrongPlace_33 : decode cX10_firstWrongPlace 33 = .ok (.goto (-26), 3) := dX10_firstWrongPlace_30g.2.1
theorem dX10_firstWrongPlace_36 : decode cX10_firstWrongPlace 36 = .ok (.iconst 0, 1) := dX10_firstWrongPlace_30g.2.2.1
theorem dX10_firstWrongPlace_37 : decode cX10_firstWrongPlace 37 = .ok (.istore_n 1, 1) := dX10_firstWrongPlace_30g.2.2.2.1
theorem dX10_firstWrongPlace_38 : decode cX10_firstWrongPlace 38 = .ok (.iload_n 1, 1) := dX10_firstWrongPlace_30g.2.2.2.2.1
theorem dX10_firstWrongPlace_39 : decode cX10_firstWrongPlace 39 = .ok (.aload_n 0, 1) := dX10_firstWrongPlace_30g.2.2.2.2.2.1
theorem dX10_firstWrongPlace_40 : decode cX10_firstWrongPlace 40 = .ok (.getfield 9, 3) := dX10_firstWrongPlace_30g.2.2.2.2.2.2.1
theorem dX10_firstWrongPlace_43 : decode cX10_firstWrongPlace 43 = .ok (.invokevirtual 33, 3) := dX10_firstWrongPlace_30g.2.2.2.2.2.2.2.1
theorem dX10_firstWrongPlace_46 : decode cX10_firstWrongPlace 46 = .ok (.if_icmp .ge 29, 3) := dX10_firstWrongPlace_30g.2.2.2.2.2.2.2.2.1
theorem dX10_firstWrongPlace_49 : decode cX10_firstWrongPlace 49 = .ok (.aload_n 0, 1) := dX10_firstWrongPlace_30g.2.2.2.2.2.2.2.2.2.1
theorem dX10_firstWrongPlace_50 : decode cX10_firstWrongPlace 50 = .ok (.iload_n 1, 1) := dX10_firstWrongPlace_30g.2.2.2.2.2.2.2.2.2.2.1
theorem dX10_firstWrongPlace_51 : decode cX10_firstWrongPlace 51 = .ok (.invokevirtual 44, 3) := dX10_firstWrongPlace_30g.2.2.2.2.2.2.2.2.2.2.2.1
theorem dX10_firstWrongPlace_54 : decode cX10_firstWrongPlace 54 = .ok (.ifCond .ne 15, 3) := dX10_firstWrongPlace_30g.2.2.2.2.2.2.2.2.2.2.2.2.1
theorem dX10_firstWrongPlace_57 : decode cX10_firstWrongPlace 57 = .ok (.aload_n 0, 1) := dX10_firstWrongPlace_30g.2.2.2.2.2.2.2.2.2.2.2.2.2.1
theorem dX10_firstWrongPlace_58 : decode cX10_firstWrongPlace 58 = .ok (.getfield 9, 3) := dX10_firstWrongPlace_30g.2.2.2.2.2.2.2.2.2.2.2.2.2.2.1
theorem dX10_firstWrongPlace_61 : decode cX10_firstWrongPlace 61 = .ok (.iload_n 1, 1) := dX10_firstWrongPlace_30g.2.2.2.2.2.2.2.2.2.2.2.2.2.2.2
theorem dX10_firstWrongPlace_62g : decode cX10_firstWrongPlace 62 = .ok (.invokevirtual 36, 3) ∧ decode cX10_firstWrongPlace 65 = .ok (.getfield 48, 3) ∧ decode cX10_firstWrongPlace 68 = .ok (.ireturn, 1) ∧ decode cX10_firstWrongPlace 69 = .ok (.iinc 1 1, 3) ∧ decode cX10_firstWrongPlace 72 = .ok (.goto (-34), 3) ∧ decode cX10_firstWrongPlace 75 = .ok (.iconst 0, 1) ∧ decode cX10_firstWrongPlace 76 = .ok (.istore_n 1, 1) ∧ decode cX10_firstWrongPlace 77 = .ok (.iload_n 1, 1) ∧ decode cX10_firstWrongPlace 78 = .ok (.aload_n 0, 1) ∧ decode cX10_firstWrongPlace 79 = .ok (.getfield 29, 3) ∧ decode cX10_firstWrongPlace 82 = .ok (.if_icmp .ge 19, 3) ∧ decode cX10_firstWrongPlace 85 = .ok (.aload_n 0, 1) ∧ decode cX10_firstWrongPlace 86 = .ok (.aload_n 0, 1) ∧ decode cX10_firstWrongPlace 87 = .ok (.getfield 19, 3) ∧ decode cX10_firstWrongPlace 90 = .ok (.iload_n 1, 1) ∧ decode cX10_firstWrongPlace 91 = .ok (.aaload, 1) := by decide +kernel
theorem dX10_firstWrongPlace_62 : decode cX10_firstWrongPlace 62 = .ok (.invokevirtual 36, 3) := dX10_firstWrongPlace_62g.1
theorem dX10_firstWrongPlace_65 : decode cX10_firstWrongPlace 65 = .ok (.getfield 48, 3) := dX10_firstWrongPlace_62g.2.1
theorem dX10_firstWrongPlace_68 : decode cX10_firstWrongPlace 68 = .ok (.ireturn, 1) := dX10_firstWrongPlace_62g.2.2.1
theorem dX10_firstWrongPlace_69 : decode cX10_firstWrongPlace 69 = .ok (.iinc 1 1, 3) := dX10_firstWrongPlace_62g.2.2.2.1
theorem dX10_firstWrongPlace_72 : decode cX10_firstWrongPlace 72 = .ok (.goto (-34), 3) := dX10_firstWrongPlace_62g.2.2.2.2.1
theorem dX10_firstWrongPlace_75 : decode cX10_firstWrongPlace 75 = .ok (.iconst 0, 1) := dX10_firstWrongPlace_62g.2.2.2.2.2.1
theorem dX10_firstWrongPlace_76 : decode cX10_firstWrongPlace 76 = .ok (.istore_n 1, 1) := dX10_firstWrongPlace_62g.2.2.2.2.2.2.1
theorem dX10_firstWrongPlace_77 : decode cX10_firstWrongPlace 77 = .ok (.iload_n 1, 1) := dX10_firstWrongPlace_62g.2.2.2.2.2.2.2.1
theorem dX10_firstWrongPlace_78 : decode cX10_firstWrongPlace 78 = .ok (.aload_n 0, 1) := dX10_firstWrongPlace_62g.2.2.2.2.2.2.2.2.1
theorem dX10_firstWrongPlace_79 : decode cX10_firstWrongPlace 79 = .ok (.getfield 29, 3) := dX10_firstWrongPlace_62g.2.2.2.2.2.2.2.2.2.1
theorem dX10_firstWrongPlace_82 : decode cX10_firstWrongPlace 82 = .ok (.if_icmp .ge 19, 3) := dX10_firstWrongPlace_62g.2.2.2.2.2.2.2.2.2.2.1
theorem dX10_firstWrongPlace_85 : decode cX10_firstWrongPlace 85 = .ok (.aload_n 0, 1) := dX10_firstWrongPlace_62g.2.2.2.2.2.2.2.2.2.2.2.1
theorem dX10_firstWrongPlace_86 : decode cX10_firstWrongPlace 86 = .ok (.aload_n 0, 1) := dX10_firstWrongPlace_62g.2.2.2.2.2.2.2.2.2.2.2.2.1
theorem dX10_firstWrongPlace_87 : decode cX10_firstWrongPlace 87 = .ok (.getfield 19, 3) := dX10_firstWrongPlace_62g.2.2.2.2.2.2.2.2.2.2.2.2.2.1
theorem dX10_firstWrongPlace_90 : decode cX10_firstWrongPlace 90 = .ok (.iload_n 1, 1) := dX10_firstWrongPlace_62g.2.2.2.2.2.2.2.2.2.2.2.2.2.2.1
theorem dX10_firstWrongPlace_91 : decode cX10_firstWrongPlace 91 = .ok (.aaload, 1) := dX10_firstWrongPlace_62g.2.2.2.2.2.2.2.2.2.2.2.2.2.2.2
theorem dX10_firstWrongPlace_92g : decode cX10_firstWrongPlace 92 = .ok (.invokevirtual 53, 3) ∧ decode cX10_firstWrongPlace 95 = .ok (.iinc 1 1, 3) ∧ decode cX10_firstWrongPlace 98 = .ok (.goto (-21), 3) ∧ decode cX10_firstWrongPlace 101 = .ok (.iconst (-1), 1) ∧ decode cX10_firstWrongPlace 102 = .ok (.ireturn, 1) := by decide +kernel
theorem dX10_firstWrongPlace_92 : decode cX10_firstWrongPlace 92 = .ok (.invokevirtual 53, 3) := dX10_firstWrongPlace_92g.1
theorem dX10_firstWrongPlace_95 : decode cX10_firstWrongPlace 95 = .ok (.iinc 1 1, 3) := dX10_firstWrongPlace_92g.2.1
theorem dX10_firstWrongPlace_98 : decode cX10_firstWrongPlace 98 = .ok (.goto (-21), 3) := dX10_firstWrongPlace_92g.2.2.1
theorem dX10_firstWrongPlace_101 : decode cX10_firstWrongPlace 101 = .ok (.iconst (-1), 1) := dX10_firstWrongPlace_92g.2.2.2.1
theorem dX10_firstWrongPlace_102 : decode cX10_firstWrongPlace 102 = .ok (.ireturn, 1) := dX10_firstWrongPlace_92g.2.2.2.2
