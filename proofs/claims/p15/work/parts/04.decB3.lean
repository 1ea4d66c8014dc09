theorem dX13_makeObject_0g : decode cX13_makeObject 0 = .ok (.aload_n 0, 1) ∧ decode cX13_makeObject 1 = .ok (.getfield 501, 3) ∧ decode cX13_makeObject 4 = .ok (.iconst 1, 1) ∧ decode cX13_makeObject 5 = .ok (.isub, 1) ∧ decode cX13_makeObject 6 = .ok (.istore_n 2, 1) ∧ decode cX13_makeObject 7 = .ok (.aload_n 0, 1) ∧ decode cX13_makeObject 8 = .ok (.iload_n 1, 1) ∧ decode cX13_makeObject 9 = .ok (.ldc2_w 398, 3) ∧ decode cX13_makeObject 12 = .ok (.invokevirtual 567, 3) ∧ decode cX13_makeObject 15 = .ok (.iconst (-1), 1) ∧ decode cX13_makeObject 16 = .ok (.if_icmp .ne 7, 3) ∧ decode cX13_makeObject 19 = .ok (.iconst 1, 1) ∧ decode cX13_makeObject 20 = .ok (.goto 4, 3) ∧ decode cX13_makeObject 23 = .ok (.iconst 0, 1) ∧ decode cX13_makeObject 24 = .ok (.istore_n 3, 1) ∧ decode cX13_makeObject 25 = .ok (.aload_n 0, 1) := by decide +kernel
theorem dX13_makeObject_0 : decode cX13_makeObject 0 = .ok (.aload_n 0, 1) := dX13_makeObject_0g.1
theorem dX13_makeObject_1 : decode cX13_makeObject 1 = .ok (.getfield 501, 3) := dX13_makeObject_0g.2.1
theorem dX13_makeObject_4 : decode cX13_makeObject 4 = .ok (.iconst 1, 1) := dX13_makeObject_0g.2.2.1
theorem dX13_makeObject_5 : decode cX13_makeObject 5 = .ok (.isub, 1) := dX13_makeObject_0g.2.2.2.1
theorem dX13_makeObject_6 : decode cX13_makeObject 6 = .ok (.istore_n 2, 1) := dX13_makeObject_0g.2.2.2.2.1
theorem dX13_makeObject_7 : decode cX13_makeObject 7 = .ok (.aload_n 0, 1) := dX13_makeObject_0g.2.2.2.2.2.1
theorem dX13_makeObject_8 : decode cX13_makeObject 8 = .ok (.iload_n 1, 1) := dX13_makeObject_0g.2.2.2.2.2.2.1
theorem dX13_makeObject_9 : decode cX13_makeObject 9 = .ok (.ldc2_w 398, 3) := dX13_makeObject_0g.2.2.2.2.2.2.2.1
theorem dX13_makeObject_12 : decode cX13_makeObject 12 = .ok (.invokevirtual 567, 3) := dX13_makeObject_0g.2.2.2.2.2.2.2.2.1
theorem dX13_makeObject_15 : decode cX13_makeObject 15 = .ok (.iconst (-1), 1) := dX13_makeObject_0g.2.2.2.2.2.2.2.2.2.1
theorem dX13_makeObject_16 : decode cX13_makeObject 16 = .ok (.if_icmp .ne 7, 3) := dX13_makeObject_0g.2.2.2.2.2.2.2.2.2.2.1
theorem dX13_makeObject_19 : decode cX13_makeObject 19 = .ok (.iconst 1, 1) := dX13_makeObject_0g.2.2.2.2.2.2.2.2.2.2.2.1
theorem dX13_makeObject_20 : decode cX13_makeObject 20 = .ok (.goto 4, 3) := dX13_makeObject_0g.2.2.2.2.2.2.2.2.2.2.2.2.1
theorem dX13_makeObject_23 : decode cX13_makeObject 23 = .ok (.iconst 0, 1) := dX13_makeObject_0g.2.2.2.2.2.2.2.2.2.2.2.2.2.1
theorem dX13_makeObject_24 : decode cX13_makeObject 24 = .ok (.istore_n 3, 1) := dX13_makeObject_0g.2.2.2.2.2.2.2.2.2.2.2.2.2.2.1
theorem dX13_makeObject_25 : decode cX13_makeObject 25 = .ok (.aload_n 0, 1) := dX13_makeObject_0g.2.2.2.2.2.2.2.2.2.2.2.2.2.2.2
theorem dX13_makeObject_26g : decode cX13_makeObject 26 = .ok (.getfield 231, 3) ∧ decode cX13_makeObject 29 = .ok (.iload_n 2, 1) ∧ decode cX13_makeObject 30 = .ok (.iaload, 1) ∧ decode cX13_makeObject 31 = .ok (.iconst (-1), 1) ∧ decode cX13_makeObject 32 = .ok (.if_icmp .eq 17, 3) ∧ decode cX13_makeObject 35 = .ok (.aload_n 0, 1) ∧ decode cX13_makeObject 36 = .ok (.getfield 189, 3) ∧ decode cX13_makeObject 39 = .ok (.aload_n 0, 1) ∧ decode cX13_makeObject 40 = .ok (.getfield 231, 3) ∧ decode cX13_makeObject 43 = .ok (.iload_n 2, 1) ∧ decode cX13_makeObject 44 = .ok (.iaload, 1) ∧ decode cX13_makeObject 45 = .ok (.iaload, 1) ∧ decode cX13_makeObject 46 = .ok (.goto 8, 3) ∧ decode cX13_makeObject 49 = .ok (.aload_n 0, 1) ∧ decode cX13_makeObject 50 = .ok (.iload_n 1, 1) ∧ decode cX13_makeObject 51 = .ok (.invokevirtual 574, 3) := by decide +kernel
theorem dX13_makeObject_26 : decode cX13_makeObject 26 = .ok (.getfield 231, 3) := dX13_makeObject_26g.1
theorem dX13_makeObject_29 : decode cX13_makeObject 29 = .ok (.iload_n 2, 1) := dX13_makeObject_26g.2.1
theorem dX13_makeObject_30 : decode cX13_makeObject 30 = .ok (.iaload, 1) := dX13_makeObject_26g.2.2.1
theorem dX13_makeObject_31 : decode cX13_makeObject 31 = .ok (.iconst (-1), 1) := dX13_makeObject_26g.2.2.2.1
theorem dX13_makeObject_32 : decode cX13_makeObject 32 = .ok (.if_icmp .eq 17, 3) := dX13_makeObject_26g.2.2.2.2.1
theorem dX13_makeObject_35 : decode cX13_makeObject 35 = .ok (.aload_n 0, 1) := dX13_makeObject_26g.2.2.2.2.2.1
theorem dX13_makeObject_36 : decode cX13_makeObject 36 = .ok (.getfield 189, 3) := dX13_makeObject_26g.2.2.2.2.2.2.1
theorem dX13_makeObject_39 : decode cX13_makeObject 39 = .ok (.aload_n 0, 1) := dX13_makeObject_26g.2.2.2.2.2.2.2.1
theorem dX13_makeObject_40 : decode cX13_makeObject 40 = .ok (.getfield 231, 3) := dX13_makeObject_26g.2.2.2.2.2.2.2.2.1
theorem dX13_makeObject_43 : decode cX13_makeObject 43 = .ok (.iload_n 2, 1) := dX13_makeObject_26g.2.2.2.2.2.2.2.2.2.1
theorem dX13_makeObject_44 : decode cX13_makeObject 44 = .ok (.iaload, 1) := dX13_makeObject_26g.2.2.2.2.2.2.2.2.2.2.1
theorem dX13_makeObject_45 : decode cX13_makeObject 45 = .ok (.iaload, 1) := dX13_makeObject_26g.2.2.2.2.2.2.2.2.2.2.2.1
theorem dX13_makeObject_46 : decode cX13_makeObject 46 = .ok (.goto 8, 3) := dX13_makeObject_26g.2.2.2.2.2.2.2.2.2.2.2.2.1
theorem dX13_makeObject_49 : decode cX13_makeObject 49 = .ok (.aload_n 0, 1) := dX13_makeObject_26g.2.2.2.2.2.2.2.2.2.2.2.2.2.1
theorem dX13_makeObject_50 : decode cX13_makeObject 50 = .ok (.iload_n 1, 1) := dX13_makeObject_26g.2.2.2.2.2.2.2.2.2.2.2.2.2.2.1
theorem dX13_makeObject_51 : decode cX13_makeObject 51 = .ok (.invokevirtual 574, 3) := dX13_makeObject_26g.2.2.2.2.2.2.2.2.2.2.2.2.2.2.2
theorem dX13_makeObject_54g : decode cX13_makeObject 54 = .ok (.istore 4, 2) ∧ decode cX13_makeObject 56 = .ok (.iload_n 3, 1) ∧ decode cX13_makeObject 57 = .ok (.ifCond .ne 34, 3) ∧ decode cX13_makeObject 60 = .ok (.aload_n 0, 1) ∧ decode cX13_makeObject 61 = .ok (.iload 4, 2) ∧ decode cX13_makeObject 63 = .ok (.aload_n 0, 1) ∧ decode cX13_makeObject 64 = .ok (.iload_n 1, 1) ∧ decode cX13_makeObject 65 = .ok (.ldc2_w 398, 3) ∧ decode cX13_makeObject 68 = .ok (.invokevirtual 567, 3) ∧ decode cX13_makeObject 71 = .ok (.aload_n 0, 1) ∧ decode cX13_makeObject 72 = .ok (.getfield 231, 3) ∧ decode cX13_makeObject 75 = .ok (.iload_n 2, 1) ∧ decode cX13_makeObject 76 = .ok (.iaload, 1) ∧ decode cX13_makeObject 77 = .ok (.iconst (-1), 1) ∧ decode cX13_makeObject 78 = .ok (.if_icmp .ne 7, 3) ∧ decode cX13_makeObject 81 = .ok (.iconst 1, 1) := by decide +kernel
theorem dX13_makeObject_54 : decode cX13_makeObject 54 = .ok (.istore 4, 2) := dX13_makeObject_54g.1
theorem dX13_makeObject_56 : decode cX13_makeObject 56 = .ok (.iload_n 3, 1) := dX13_makeObject_54g.2.1
theorem dX13_makeObject_57 : decode cX13_makeObject 57 = .ok (.ifCond .ne 34, 3) := dX13_makeObject_54g.2.2.1
theorem dX13_makeObject_60 : decode cX13_makeObject 60 = .ok (.aload_n 0, 1) := dX13_makeObject_54g.2.2.2.1
theorem dX13_makeObject_61 : decode cX13_makeObject 61 = .ok (.iload 4, 2) := dX13_makeObject_54g.2.2.2.2.1
theorem dX13_makeObject_63 : decode cX13_makeObject 63 = .ok (.aload_n 0, 1) := dX13_makeObject_54g.2.2.2.2.2.1
theorem dX13_makeObject_64 : decode cX13_makeObject 64 = .ok (.iload_n 1, 1) := dX13_makeObject_54g.2.2.2.2.2.2.1
theorem dX13_makeObject_65 : decode cX13_makeObject 65 = .ok (.ldc2_w 398, 3) := dX13_makeObject_54g.2.2.2.2.2.2.2.1
theorem dX13_makeObject_68 : decode cX13_makeObject 68 = .ok (.invokevirtual 567, 3) := dX13_makeObject_54g.2.2.2.2.2.2.2.2.1
theorem dX13_makeObject_71 : decode cX13_makeObject 71 = .ok (.aload_n 0, 1) := dX13_makeObject_54g.2.2.2.2.2.2.2.2.2.1
theorem dX13_makeObject_72 : decode cX13_makeObject 72 = .ok (.getfield 231, 3) := dX13_makeObject_54g.2.2.2.2.2.2.2.2.2.2.1
theorem dX13_makeObject_75 : decode cX13_makeObject 75 = .ok (.iload_n 2, 1) := dX13_makeObject_54g.2.2.2.2.2.2.2.2.2.2.2.1
theorem dX13_makeObject_76 : decode cX13_makeObject 76 = .ok (.iaload, 1) := dX13_makeObject_54g.2.2.2.2.2.2.2.2.2.2.2.2.1
theorem dX13_makeObject_77 : decode cX13_makeObject 77 = .ok (.iconst (-1), 1) := dX13_makeObject_54g.2.2.2.2.2.2.2.2.2.2.2.2.2.1
theorem dX13_makeObject_78 : decode cX13_makeObject 78 = .ok (.if_icmp .ne 7, 3) := dX13_makeObject_54g.2.2.2.2.2.2.2.2.2.2.2.2.2.2.1
theorem dX13_makeObject_81 : decode cX13_makeObject 81 = .ok (.iconst 1, 1) := dX13_makeObject_54g.2.2.2.2.2.2.2.2.2.2.2.2.2.2.2
theorem dX13_makeObject_82g : decode cX13_makeObject 82 = .ok (.goto 4, 3) ∧ decode cX13_makeObject 85 = .ok (.iconst 0, 1) ∧ decode cX13_makeObject 86 = .ok (.invokevirtual 577, 3) ∧ decode cX13_makeObject 89 = .ok (.istore 4, 2) ∧ decode cX13_makeObject 91 = .ok (.aload_n 0, 1) ∧ decode cX13_makeObject 92 = .ok (.iload_n 1, 1) ∧ decode cX13_makeObject 93 = .ok (.iload_n 3, 1) ∧ decode cX13_makeObject 94 = .ok (.iload 4, 2) ∧ decode cX13_makeObject 96 = .ok (.invokevirtual 581, 3) ∧ decode cX13_makeObject 99 = .ok (.istore 5, 2) ∧ decode cX13_makeObject 101 = .ok (.iload 5, 2) ∧ decode cX13_makeObject 103 = .ok (.iconst (-1), 1) ∧ decode cX13_makeObject 104 = .ok (.if_icmp .ne 8, 3) ∧ decode cX13_makeObject 107 = .ok (.aload_n 0, 1) ∧ decode cX13_makeObject 108 = .ok (.iconst 5, 1) ∧ decode cX13_makeObject 109 = .ok (.invokevirtual 504, 3) := by decide +kernel
theorem dX13_makeObject_82 : decode cX13_makeObject 82 = .ok (.goto 4, 3) := dX13_makeObject_82g.1
theorem dX13_makeObject_85 : decode cX13_makeObject 85 = .ok (.iconst 0, 1) := dX13_makeObject_82g.2.1
theorem dX13_makeObject_86 : decode cX13_makeObject 86 = .ok (.invokevirtual 577, 3) := dX13_makeObject_82g.2.2.1
theorem dX13_makeObject_89 : decode cX13_makeObject 89 = .ok (.istore 4, 2) := dX13_makeObject_82g.2.2.2.1
theorem dX13_makeObject_91 : decode cX13_makeObject 91 = .ok (.aload_n 0, 1) := dX13_makeObject_82g.2.2.2.2.1
theorem dX13_makeObject_92 : decode cX13_makeObject 92 = .ok (.iload_n 1, 1) := dX13_makeObject_82g.2.2.2.2.2.1
theorem dX13_makeObject_93 : decode cX13_makeObject 93 = .ok (.iload_n 3, 1) := dX13_makeObject_82g.2.2.2.2.2.2.1
theorem dX13_makeObject_94 : decode cX13_makeObject 94 = .ok (.iload 4, 2) := dX13_makeObject_82g.2.2.2.2.2.2.2.1
theorem dX13_makeObject_96 : decode cX13_makeObject 96 = .ok (.invokevirtual 581, 3) := dX13_makeObject_82g.2.2.2.2.2.2.2.2.1
theorem dX13_makeObject_99 : decode cX13_makeObject 99 = .ok (.istore 5, 2) := dX13_makeObject_82g.2.2.2.2.2.2.2.2.2.1
theorem dX13_makeObject_101 : decode cX13_makeObject 101 = .ok (.iload 5, 2) := dX13_makeObject_82g.2.2.2.2.2.2.2.2.2.2.1
theorem dX13_makeObject_103 : decode cX13_makeObject 103 = .ok (.iconst (-1), 1) := dX13_makeObject_82g.2.2.2.2.2.2.2.2.2.2.2.1
theorem dX13_makeObject_104 : decode cX13_makeObject 104 = .ok (.if_icmp .ne 8, 3) := dX13_makeObject_82g.2.2.2.2.2.2.2.2.2.2.2.2.1
theorem dX13_makeObject_107 : decode cX13_makeObject 107 = .ok (.aload_n 0, 1) := dX13_makeObject_82g.2.2.2.2.2.2.2.2.2.2.2.2.2.1
theorem dX13_makeObject_108 : decode cX13_makeObject 108 = .ok (.iconst 5, 1) := dX13_makeObject_82g.2.2.2.2.2.2.2.2.2.2.2.2.2.2.1
theorem dX13_makeObject_109 : decode cX13_makeObject 109 = .ok (.invokevirtual 504, 3) := dX13_makeObject_82g.2.2.2.2.2.2.2.2.2.2.2.2.2.2.2
theorem dX13_makeObject_112g : decode cX13_makeObject 112 = .ok (.aload_n 0, 1) ∧ decode cX13_makeObject 113 = .ok (.getfield 480, 3) ∧ decode cX13_makeObject 116 = .ok (.bipush 60, 2) ∧ decode cX13_makeObject 118 = .ok (.if_icmp .ne 9, 3) ∧ decode cX13_makeObject 121 = .ok (.aload_n 0, 1) ∧ decode cX13_makeObject 122 = .ok (.bipush 6, 2) ∧ decode cX13_makeObject 124 = .ok (.invokevirtual 504, 3) ∧ decode cX13_makeObject 127 = .ok (.aload_n 0, 1) ∧ decode cX13_makeObject 128 = .ok (.getfield 498, 3) ∧ decode cX13_makeObject 131 = .ok (.ifCond .eq 4, 3) ∧ decode cX13_makeObject 134 = .ok (.return_, 1) ∧ decode cX13_makeObject 135 = .ok (.aload_n 0, 1) ∧ decode cX13_makeObject 136 = .ok (.getfield 480, 3) ∧ decode cX13_makeObject 139 = .ok (.istore 6, 2) ∧ decode cX13_makeObject 141 = .ok (.aload_n 0, 1) ∧ decode cX13_makeObject 142 = .ok (.dup, 1) := by decide +kernel
theorem dX13_makeObject_112 : decode cX13_makeObject 112 = .ok (.aload_n 0, 1) := dX13_makeObject_112g.1
theorem dX13_makeObject_113 : decode cX13_makeObject 113 = .ok (.getfield 480, 3) := dX13_makeObject_112g.2.1
theorem dX13_makeObject_116 : decode cX13_makeObject 116 = .ok (.bipush 60, 2) := dX13_makeObject_112g.2.2.1
theorem dX13_makeObject_118 : decode cX13_makeObject 118 = .ok (.if_icmp .ne 9, 3) := dX13_makeObject_112g.2.2.2.1
theorem dX13_makeObject_121 : decode cX13_makeObject 121 = .ok (.aload_n 0, 1) := dX13_makeObject_112g.2.2.2.2.1
theorem dX13_makeObject_122 : decode cX13_makeObject 122 = .ok (.bipush 6, 2) := dX13_makeObject_112g.2.2.2.2.2.1
theorem dX13_makeObject_124 : decode cX13_makeObject 124 = .ok (.invokevirtual 504, 3) := dX13_makeObject_112g.2.2.2.2.2.2.1
theorem dX13_makeObject_127 : decode cX13_makeObject 127 = .ok (.aload_n 0, 1) := dX13_makeObject_112g.2.2.2.2.2.2.2.1
theorem dX13_makeObject_128 : decode cX13_makeObject 128 = .ok (.getfield 498, 3) := dX13_makeObject_112g.2.2.2.2.2.2.2.2.1
theorem dX13_makeObject_131 : decode cX13_makeObject 131 = .ok (.ifCond .eq 4, 3) := dX13_makeObject_112g.2.2.2.2.2.2.2.2.2.1
theorem dX13_makeObject_134 : decode cX13_makeObject 134 = .ok (.return_, 1) := dX13_makeObject_112g.2.2.2.2.2.2.2.2.2.2.1
theorem dX13_makeObject_135 : decode cX13_makeObject 135 = .ok (.aload_n 0, 1) := dX13_makeObject_112g.2.2.2.2.2.2.2.2.2.2.2.1
theorem dX13_makeObject_136 : decode cX13_makeObject 136 = .ok (.getfield 480, 3) := dX13_makeObject_112g.2.2.2.2.2.2.2.2.2.2.2.2.1
theorem dX13_makeObject_139 : decode cX13_makeObject 139 = .ok (.istore 6, 2) := dX13_makeObject_112g.2.2.2.2.2.2.2.2.2.2.2.2.2.1
theorem dX13_makeObject_141 : decode cX13_makeObject 141 = .ok (.aload_n 0, 1) := dX13_makeObject_112g.2.2.2.2.2.2.2.2.2.2.2.2.2.2.1
theorem dX13_makeObject_142 : decode cX13_makeObject 142 = .ok (.dup, 1) := dX13_makeObject_112g.2.2.2.2.2.2.2.2.2.2.2.2.2.2.2
theorem dX13_makeObject_143g : decode cX13_makeObject 143 = .ok (.getfield 480, 3) ∧ decode cX13_makeObject 146 = .ok (.iconst 1, 1) ∧ decode cX13_makeObject 147 = .ok (.iadd, 1) ∧ decode cX13_makeObject 148 = .ok (.putfield 480, 3) ∧ decode cX13_makeObject 151 = .ok (.aload_n 0, 1) ∧ decode cX13_makeObject 152 = .ok (.getfield 189, 3) ∧ decode cX13_makeObject 155 = .ok (.iload 6, 2) ∧ decode cX13_makeObject 157 = .ok (.iload_n 3, 1) ∧ decode cX13_makeObject 158 = .ok (.ifCond .eq 8, 3) ∧ decode cX13_makeObject 161 = .ok (.iload 4, 2) ∧ decode cX13_makeObject 163 = .ok (.goto 10, 3) ∧ decode cX13_makeObject 166 = .ok (.aload_n 0, 1) ∧ decode cX13_makeObject 167 = .ok (.getfield 105, 3) ∧ decode cX13_makeObject 170 = .ok (.iload 5, 2) ∧ decode cX13_makeObject 172 = .ok (.iaload, 1) ∧ decode cX13_makeObject 173 = .ok (.iastore, 1) := by decide +kernel
theorem dX13_makeObject_143 : decode cX13_makeObject 143 = .ok (.getfield 480, 3) := dX13_makeObject_143g.1
theorem dX13_makeObject_146 : decode cX13_makeObject 146 = .ok (.iconst 1, 1) := dX13_makeObject_143g.2.1
theorem dX13_makeObject_147 : decode cX13_makeObject 147 = .ok (.iadd, 1) := dX13_makeObject_143g.2.2.1
theorem dX13_makeObject_148 : decode cX13_makeObject 148 = .ok (.putfield 480, 3) := dX13_makeObject_143g.2.2.2.1
theorem dX13_makeObject_151 : decode cX13_makeObject 151 = .ok (.aload_n 0, 1) := dX13_makeObject_143g.2.2.2.2.1
theorem dX13_makeObject_152 : decode cX13_makeObject 152 = .ok (.getfield 189, 3) := dX13_makeObject_143g.2.2.2.2.2.1
theorem dX13_makeObject_155 : decode cX13_makeObject 155 = .ok (.iload 6, 2) := dX13_makeObject_143g.2.2.2.2.2.2.1
theorem dX13_makeObject_157 : decode cX13_makeObject 157 = .ok (.iload_n 3, 1) := dX13_makeObject_143g.2.2.2.2.2.2.2.1
theorem dX13_makeObject_158 : decode cX13_makeObject 158 = .ok (.ifCond .eq 8, 3) := dX13_makeObject_143g.2.2.2.2.2.2.2.2.1
theorem dX13_makeObject_161 : decode cX13_makeObject 161 = .ok (.iload 4, 2) := dX13_makeObject_143g.2.2.2.2.2.2.2.2.2.1
theorem dX13_makeObject_163 : decode cX13_makeObject 163 = .ok (.goto 10, 3) := dX13_makeObject_143g.2.2.2.2.2.2.2.2.2.2.1
theorem dX13_makeObject_166 : decode cX13_makeObject 166 = .ok (.aload_n 0, 1) := dX13_makeObject_143g.2.2.2.2.2.2.2.2.2.2.2.1
theorem dX13_makeObject_167 : decode cX13_makeObject 167 = .ok (.getfield 105, 3) := dX13_makeObject_143g.2.2.2.2.2.2.2.2.2.2.2.2.1
theorem dX13_makeObject_170 : decode cX13_makeObject 170 = .ok (.iload 5, 2) := dX13_makeObject_143g.2.2.2.2.2.2.2.2.2.2.2.2.2.1
theorem dX13_makeObject_172 : decode cX13_makeObject 172 = .ok (.iaload, 1) := dX13_makeObject_143g.2.2.2.2.2.2.2.2.2.2.2.2.2.2.1
theorem dX13_makeObject_173 : decode cX13_makeObject 173 = .ok (.iastore, 1) := dX13_makeObject_143g.2.2.2.2.2.2.2.2.2.2.2.2.2.2.2
theorem dX13_makeObject_174g : decode cX13_makeObject 174 = .ok (.aload_n 0, 1) ∧ decode cX13_makeObject 175 = .ok (.getfield 192, 3) ∧ decode cX13_makeObject 178 = .ok (.iload 6, 2) ∧ decode cX13_makeObject 180 = .ok (.iload_n 1, 1) ∧ decode cX13_makeObject 181 = .ok (.iastore, 1) ∧ decode cX13_makeObject 182 = .ok (.aload_n 0, 1) ∧ decode cX13_makeObject 183 = .ok (.getfield 234, 3) ∧ decode cX13_makeObject 186 = .ok (.iload_n 2, 1) ∧ decode cX13_makeObject 187 = .ok (.iload 6, 2) ∧ decode cX13_makeObject 189 = .ok (.iastore, 1) ∧ decode cX13_makeObject 190 = .ok (.aload_n 0, 1) ∧ decode cX13_makeObject 191 = .ok (.iload_n 1, 1) ∧ decode cX13_makeObject 192 = .ok (.invokevirtual 510, 3) ∧ decode cX13_makeObject 195 = .ok (.ifCond .ne 11, 3) ∧ decode cX13_makeObject 198 = .ok (.aload_n 0, 1) ∧ decode cX13_makeObject 199 = .ok (.getfield 210, 3) := by decide +kernel
theorem dX13_makeObject_174 : decode cX13_makeObject 174 = .ok (.aload_n 0, 1) := dX13_makeObject_174g.1
theorem dX13_makeObject_175 : decode cX13_makeObject 175 = .ok (.getfield 192, 3) := dX13_makeObject_174g.2.1
theorem dX13_makeObject_178 : decode cX13_makeObject 178 = .ok (.iload 6, 2) := dX13_makeObject_174g.2.2.1
theorem dX13_makeObject_180 : decode cX13_makeObject 180 = .ok (.iload_n 1, 1) := dX13_makeObject_174g.2.2.2.1
theorem dX13_makeObject_181 : decode cX13_makeObject 181 = .ok (.iastore, 1) := dX13_makeObject_174g.2.2.2.2.1
theorem dX13_makeObject_182 : decode cX13_makeObject 182 = .ok (.aload_n 0, 1) := dX13_makeObject_174g.2.2.2.2.2.1
theorem dX13_makeObject_183 : decode cX13_makeObject 183 = .ok (.getfield 234, 3) := dX13_makeObject_174g.2.2.2.2.2.2.1
theorem dX13_makeObject_186 : decode cX13_makeObject 186 = .ok (.iload_n 2, 1) := dX13_makeObject_174g.2.2.2.2.2.2.2.1
theorem dX13_makeObject_187 : decode cX13_makeObject 187 = .ok (.iload 6, 2) := dX13_makeObject_174g.2.2.2.2.2.2.2.2.1
theorem dX13_makeObject_189 : decode cX13_makeObject 189 = .ok (.iastore, 1) := dX13_makeObject_174g.2.2.2.2.2.2.2.2.2.1
theorem dX13_makeObject_190 : decode cX13_makeObject 190 = .ok (.aload_n 0, 1) := dX13_makeObject_174g.2.2.2.2.2.2.2.2.2.2.1
theorem dX13_makeObject_191 : decode cX13_makeObject 191 = .ok (.iload_n 1, 1) := dX13_makeObject_174g.2.2.2.2.2.2.2.2.2.2.2.1
theorem dX13_makeObject_192 : decode cX13_makeObject 192 = .ok (.invokevirtual 510, 3) := dX13_makeObject_174g.2.2.2.2.2.2.2.2.2.2.2.2.1
theorem dX13_makeObject_195 : decode cX13_makeObject 195 = .ok (.ifCond .ne 11, 3) := dX13_makeObject_174g.2.2.2.2.2.2.2.2.2.2.2.2.2.1
theorem dX13_makeObject_198 : decode cX13_makeObject 198 = .ok (.aload_n 0, 1) := dX13_makeObject_174g.2.2.2.2.2.2.2.2.2.2.2.2.2.2.1
theorem dX13_makeObject_199 : decode cX13_makeObject 199 = .ok (.getfield 210, 3) := dX13_makeObject_174g.2.2.2.2.2.2.2.2.2.2.2.2.2.2.2
theorem dX13_makeObject_202g : decode cX13_makeObject 202 = .ok (.iload_n 1, 1) ∧ decode cX13_makeObject 203 = .ok (.iload 6, 2) ∧ decode cX13_makeObject 205 = .ok (.iastore, 1) ∧ decode cX13_makeObject 206 = .ok (.aload_n 0, 1) ∧ decode cX13_makeObject 207 = .ok (.iload_n 3, 1) ∧ decode cX13_makeObject 208 = .ok (.ifCond .eq 7, 3) ∧ decode cX13_makeObject 211 = .ok (.iconst 1, 1) ∧ decode cX13_makeObject 212 = .ok (.goto 4, 3) ∧ decode cX13_makeObject 215 = .ok (.iconst 2, 1) ∧ decode cX13_makeObject 216 = .ok (.iload 6, 2) ∧ decode cX13_makeObject 218 = .ok (.aload_n 0, 1) ∧ decode cX13_makeObject 219 = .ok (.getfield 189, 3) ∧ decode cX13_makeObject 222 = .ok (.iload 6, 2) ∧ decode cX13_makeObject 224 = .ok (.iaload, 1) ∧ decode cX13_makeObject 225 = .ok (.iload_n 3, 1) ∧ decode cX13_makeObject 226 = .ok (.ifCond .eq 10, 3) := by decide +kernel
theorem dX13_makeObject_202 : decode cX13_makeObject 202 = .ok (.iload_n 1, 1) := dX13_makeObject_202g.1
theorem dX13_makeObject_203 : decode cX13_makeObject 203 = .ok (.iload 6, 2) := dX13_makeObject_202g.2.1
theorem dX13_makeObject_205 : decode cX13_makeObject 205 = .ok (.iastore, 1) := dX13_makeObject_202g.2.2.1
theorem dX13_makeObject_206 : decode cX13_makeObject 206 = .ok (.aload_n 0, 1) := dX13_makeObject_202g.2.2.2.1
theorem dX13_makeObject_207 : decode cX13_makeObject 207 = .ok (.iload_n 3, 1) := dX13_makeObject_202g.2.2.2.2.1
theorem dX13_makeObject_208 : decode cX13_makeObject 208 = .ok (.ifCond .eq 7, 3) := dX13_makeObject_202g.2.2.2.2.2.1
theorem dX13_makeObject_211 : decode cX13_makeObject 211 = .ok (.iconst 1, 1) := dX13_makeObject_202g.2.2.2.2.2.2.1
theorem dX13_makeObject_212 : decode cX13_makeObject 212 = .ok (.goto 4, 3) := dX13_makeObject_202g.2.2.2.2.2.2.2.1
theorem dX13_makeObject_215 : decode cX13_makeObject 215 = .ok (.iconst 2, 1) := dX13_makeObject_202g.2.2.2.2.2.2.2.2.1
theorem dX13_makeObject_216 : decode cX13_makeObject 216 = .ok (.iload 6, 2) := dX13_makeObject_202g.2.2.2.2.2.2.2.2.2.1
theorem dX13_makeObject_218 : decode cX13_makeObject 218 = .ok (.aload_n 0, 1) := dX13_makeObject_202g.2.2.2.2.2.2.2.2.2.2.1
theorem dX13_makeObject_219 : decode cX13_makeObject 219 = .ok (.getfield 189, 3) := dX13_makeObject_202g.2.2.2.2.2.2.2.2.2.2.2.1
theorem dX13_makeObject_222 : decode cX13_makeObject 222 = .ok (.iload 6, 2) := dX13_makeObject_202g.2.2.2.2.2.2.2.2.2.2.2.2.1
theorem dX13_makeObject_224 : decode cX13_makeObject 224 = .ok (.iaload, 1) := dX13_makeObject_202g.2.2.2.2.2.2.2.2.2.2.2.2.2.1
theorem dX13_makeObject_225 : decode cX13_makeObject 225 = .ok (.iload_n 3, 1) := dX13_makeObject_202g.2.2.2.2.2.2.2.2.2.2.2.2.2.2.1
theorem dX13_makeObject_226 : decode cX13_makeObject 226 = .ok (.ifCond .eq 10, 3) := dX13_makeObject_202g.2.2.2.2.2.2.2.2.2.2.2.2.2.2.2
theorem dX13_makeObject_229g : decode cX13_makeObject 229 = .ok (.iload 5, 2) ∧ decode cX13_makeObject 231 = .ok (.iconst 4, 1) ∧ decode cX13_makeObject 232 = .ok (.irem, 1) ∧ decode cX13_makeObject 233 = .ok (.goto 15, 3) ∧ decode cX13_makeObject 236 = .ok (.bipush 8, 2) ∧ decode cX13_makeObject 238 = .ok (.iload 5, 2) ∧ decode cX13_makeObject 240 = .ok (.iconst 4, 1) ∧ decode cX13_makeObject 241 = .ok (.idiv, 1) ∧ decode cX13_makeObject 242 = .ok (.imul, 1) ∧ decode cX13_makeObject 243 = .ok (.iload 5, 2) ∧ decode cX13_makeObject 245 = .ok (.iconst 4, 1) ∧ decode cX13_makeObject 246 = .ok (.irem, 1) ∧ decode cX13_makeObject 247 = .ok (.iadd, 1) ∧ decode cX13_makeObject 248 = .ok (.invokevirtual 554, 3) ∧ decode cX13_makeObject 251 = .ok (.iload_n 3, 1) ∧ decode cX13_makeObject 252 = .ok (.ifCond .eq 13, 3) := by decide +kernel
theorem dX13_makeObject_229 : decode cX13_makeObject 229 = .ok (.iload 5, 2) := dX13_makeObject_229g.1
theorem dX13_makeObject_231 : decode cX13_makeObject 231 = .ok (.iconst 4, 1) := dX13_makeObject_229g.2.1
theorem dX13_makeObject_232 : decode cX13_makeObject 232 = .ok (.irem, 1) := dX13_makeObject_229g.2.2.1
theorem dX13_makeObject_233 : decode cX13_makeObject 233 = .ok (.goto 15, 3) := dX13_makeObject_229g.2.2.2.1
theorem dX13_makeObject_236 : decode cX13_makeObject 236 = .ok (.bipush 8, 2) := dX13_makeObject_229g.2.2.2.2.1
theorem dX13_makeObject_238 : decode cX13_makeObject 238 = .ok (.iload 5, 2) := dX13_makeObject_229g.2.2.2.2.2.1
theorem dX13_makeObject_240 : decode cX13_makeObject 240 = .ok (.iconst 4, 1) := dX13_makeObject_229g.2.2.2.2.2.2.1
theorem dX13_makeObject_241 : decode cX13_makeObject 241 = .ok (.idiv, 1) := dX13_makeObject_229g.2.2.2.2.2.2.2.1
theorem dX13_makeObject_242 : decode cX13_makeObject 242 = .ok (.imul, 1) := dX13_makeObject_229g.2.2.2.2.2.2.2.2.1
theorem dX13_makeObject_243 : decode cX13_makeObject 243 = .ok (.iload 5, 2) := dX13_makeObject_229g.2.2.2.2.2.2.2.2.2.1
theorem dX13_makeObject_245 : decode cX13_makeObject 245 = .ok (.iconst 4, 1) := dX13_makeObject_229g.2.2.2.2.2.2.2.2.2.2.1
theorem dX13_makeObject_246 : decode cX13_makeObject 246 = .ok (.irem, 1) := dX13_makeObject_229g.2.2.2.2.2.2.2.2.2.2.2.1
theorem dX13_makeObject_247 : decode cX13_makeObject 247 = .ok (.iadd, 1) := dX13_makeObject_229g.2.2.2.2.2.2.2.2.2.2.2.2.1
theorem dX13_makeObject_248 : decode cX13_makeObject 248 = .ok (.invokevirtual 554, 3) := dX13_makeObject_229g.2.2.2.2.2.2.2.2.2.2.2.2.2.1
theorem dX13_makeObject_251 : decode cX13_makeObject 251 = .ok (.iload_n 3, 1) := dX13_makeObject_229g.2.2.2.2.2.2.2.2.2.2.2.2.2.2.1
theorem dX13_makeObject_252 : decode cX13_makeObject 252 = .ok (.ifCond .eq 13, 3) := dX13_makeObject_229g.2.2.2.2.2.2.2.2.2.2.2.2.2.2.2
theorem dX13_makeObject_255g : decode cX13_makeObject 255 = .ok (.aload_n 0, 1) ∧ decode cX13_makeObject 256 = .ok (.getfield 84, 3) ∧ decode cX13_makeObject 259 = .ok (.iload 5, 2) ∧ decode cX13_makeObject 261 = .ok (.iaload, 1) ∧ decode cX13_makeObject 262 = .ok (.goto 10, 3) ∧ decode cX13_makeObject 265 = .ok (.aload_n 0, 1) ∧ decode cX13_makeObject 266 = .ok (.getfield 108, 3) ∧ decode cX13_makeObject 269 = .ok (.iload 5, 2) ∧ decode cX13_makeObject 271 = .ok (.iaload, 1) ∧ decode cX13_makeObject 272 = .ok (.istore 7, 2) ∧ decode cX13_makeObject 274 = .ok (.iload 7, 2) ∧ decode cX13_makeObject 276 = .ok (.ifCond .le 14, 3) ∧ decode cX13_makeObject 279 = .ok (.aload_n 0, 1) ∧ decode cX13_makeObject 280 = .ok (.iload_n 1, 1) ∧ decode cX13_makeObject 281 = .ok (.iload 7, 2) ∧ decode cX13_makeObject 283 = .ok (.invokevirtual 560, 3) := by decide +kernel
theorem dX13_makeObject_255 : decode cX13_makeObject 255 = .ok (.aload_n 0, 1) := dX13_makeObject_255g.1
theorem dX13_makeObject_256 : decode cX13_makeObject 256 = .ok (.getfield 84, 3) := dX13_makeObject_255g.2.1
theorem dX13_makeObject_259 : decode cX13_makeObject 259 = .ok (.iload 5, 2) := dX13_makeObject_255g.2.2.1
theorem dX13_makeObject_261 : decode cX13_makeObject 261 = .ok (.iaload, 1) := dX13_makeObject_255g.2.2.2.1
theorem dX13_makeObject_262 : decode cX13_makeObject 262 = .ok (.goto 10, 3) := dX13_makeObject_255g.2.2.2.2.1
theorem dX13_makeObject_265 : decode cX13_makeObject 265 = .ok (.aload_n 0, 1) := dX13_makeObject_255g.2.2.2.2.2.1
theorem dX13_makeObject_266 : decode cX13_makeObject 266 = .ok (.getfield 108, 3) := dX13_makeObject_255g.2.2.2.2.2.2.1
theorem dX13_makeObject_269 : decode cX13_makeObject 269 = .ok (.iload 5, 2) := dX13_makeObject_255g.2.2.2.2.2.2.2.1
theorem dX13_makeObject_271 : decode cX13_makeObject 271 = .ok (.iaload, 1) := dX13_makeObject_255g.2.2.2.2.2.2.2.2.1
theorem dX13_makeObject_272 : decode cX13_makeObject 272 = .ok (.istore 7, 2) := dX13_makeObject_255g.2.2.2.2.2.2.2.2.2.1
theorem dX13_makeObject_274 : decode cX13_makeObject 274 = .ok (.iload 7, 2) := dX13_makeObject_255g.2.2.2.2.2.2.2.2.2.2.1
theorem dX13_makeObject_276 : decode cX13_makeObject 276 = .ok (.ifCond .le 14, 3) := dX13_makeObject_255g.2.2.2.2.2.2.2.2.2.2.2.1
theorem dX13_makeObject_279 : decode cX13_makeObject 279 = .ok (.aload_n 0, 1) := dX13_makeObject_255g.2.2.2.2.2.2.2.2.2.2.2.2.1
theorem dX13_makeObject_280 : decode cX13_makeObject 280 = .ok (.iload_n 1, 1) := dX13_makeObject_255g.2.2.2.2.2.2.2.2.2.2.2.2.2.1
theorem dX13_makeObject_281 : decode cX13_makeObject 281 = .ok (.iload 7, 2) := dX13_makeObject_255g.2.2.2.2.2.2.2.2.2.2.2.2.2.2.1
theorem dX13_makeObject_283 : decode cX13_makeObject 283 = .ok (.invokevirtual 560, 3) := dX13_makeObject_255g.2.2.2.2.2.2.2.2.2.2.2.2.2.2.2
theorem dX13_makeObject_286g : decode cX13_makeObject 286 = .ok (.ifCond .ne 4, 3) ∧ decode cX13_makeObject 289 = .ok (.return_, 1) ∧ decode cX13_makeObject 290 = .ok (.iconst 0, 1) ∧ decode cX13_makeObject 291 = .ok (.istore 8, 2) ∧ decode cX13_makeObject 293 = .ok (.iload 8, 2) ∧ decode cX13_makeObject 295 = .ok (.iload 7, 2) ∧ decode cX13_makeObject 297 = .ok (.if_icmp .ge 60, 3) ∧ decode cX13_makeObject 300 = .ok (.aload_n 0, 1) ∧ decode cX13_makeObject 301 = .ok (.iconst 3, 1) ∧ decode cX13_makeObject 302 = .ok (.iload 6, 2) ∧ decode cX13_makeObject 304 = .ok (.iload 8, 2) ∧ decode cX13_makeObject 306 = .ok (.iconst 5, 1) ∧ decode cX13_makeObject 307 = .ok (.iload_n 2, 1) ∧ decode cX13_makeObject 308 = .ok (.imul, 1) ∧ decode cX13_makeObject 309 = .ok (.aload_n 0, 1) ∧ decode cX13_makeObject 310 = .ok (.getfield 249, 3) := by decide +kernel
theorem dX13_makeObject_286 : decode cX13_makeObject 286 = .ok (.ifCond .ne 4, 3) := dX13_makeObject_286g.1
theorem dX13_makeObject_289 : decode cX13_makeObject 289 = .ok (.return_, 1) := dX13_makeObject_286g.2.1
theorem dX13_makeObject_290 : decode cX13_makeObject 290 = .ok (.iconst 0, 1) := dX13_makeObject_286g.2.2.1
theorem dX13_makeObject_291 : decode cX13_makeObject 291 = .ok (.istore 8, 2) := dX13_makeObject_286g.2.2.2.1
theorem dX13_makeObject_293 : decode cX13_makeObject 293 = .ok (.iload 8, 2) := dX13_makeObject_286g.2.2.2.2.1
theorem dX13_makeObject_295 : decode cX13_makeObject 295 = .ok (.iload 7, 2) := dX13_makeObject_286g.2.2.2.2.2.1
theorem dX13_makeObject_297 : decode cX13_makeObject 297 = .ok (.if_icmp .ge 60, 3) := dX13_makeObject_286g.2.2.2.2.2.2.1
theorem dX13_makeObject_300 : decode cX13_makeObject 300 = .ok (.aload_n 0, 1) := dX13_makeObject_286g.2.2.2.2.2.2.2.1
theorem dX13_makeObject_301 : decode cX13_makeObject 301 = .ok (.iconst 3, 1) := dX13_makeObject_286g.2.2.2.2.2.2.2.2.1
theorem dX13_makeObject_302 : decode cX13_makeObject 302 = .ok (.iload 6, 2) := dX13_makeObject_286g.2.2.2.2.2.2.2.2.2.1
theorem dX13_makeObject_304 : decode cX13_makeObject 304 = .ok (.iload 8, 2) := dX13_makeObject_286g.2.2.2.2.2.2.2.2.2.2.1
theorem dX13_makeObject_306 : decode cX13_makeObject 306 = .ok (.iconst 5, 1) := dX13_makeObject_286g.2.2.2.2.2.2.2.2.2.2.2.1
theorem dX13_makeObject_307 : decode cX13_makeObject 307 = .ok (.iload_n 2, 1) := dX13_makeObject_286g.2.2.2.2.2.2.2.2.2.2.2.2.1
theorem dX13_makeObject_308 : decode cX13_makeObject 308 = .ok (.imul, 1) := dX13_makeObject_286g.2.2.2.2.2.2.2.2.2.2.2.2.2.1
theorem dX13_makeObject_309 : decode cX13_makeObject 309 = .ok (.aload_n 0, 1) := dX13_makeObject_286g.2.2.2.2.2.2.2.2.2.2.2.2.2.2.1
theorem dX13_makeObject_310 : decode cX13_makeObject 310 = .ok (.getfield 249, 3) := dX13_makeObject_286g.2.2.2.2.2.2.2.2.2.2.2.2.2.2.2
theorem dX13_makeObject_313g : decode cX13_makeObject 313 = .ok (.iload 8, 2) ∧ decode cX13_makeObject 315 = .ok (.iaload, 1) ∧ decode cX13_makeObject 316 = .ok (.iadd, 1) ∧ decode cX13_makeObject 317 = .ok (.iload_n 3, 1) ∧ decode cX13_makeObject 318 = .ok (.ifCond .eq 18, 3) ∧ decode cX13_makeObject 321 = .ok (.aload_n 0, 1) ∧ decode cX13_makeObject 322 = .ok (.getfield 87, 3) ∧ decode cX13_makeObject 325 = .ok (.iconst 3, 1) ∧ decode cX13_makeObject 326 = .ok (.iload 5, 2) ∧ decode cX13_makeObject 328 = .ok (.imul, 1) ∧ decode cX13_makeObject 329 = .ok (.iload 8, 2) ∧ decode cX13_makeObject 331 = .ok (.iadd, 1) ∧ decode cX13_makeObject 332 = .ok (.iaload, 1) ∧ decode cX13_makeObject 333 = .ok (.goto 15, 3) ∧ decode cX13_makeObject 336 = .ok (.aload_n 0, 1) ∧ decode cX13_makeObject 337 = .ok (.getfield 111, 3) := by decide +kernel
theorem dX13_makeObject_313 : decode cX13_makeObject 313 = .ok (.iload 8, 2) := dX13_makeObject_313g.1
theorem dX13_makeObject_315 : decode cX13_makeObject 315 = .ok (.iaload, 1) := dX13_makeObject_313g.2.1
theorem dX13_makeObject_316 : decode cX13_makeObject 316 = .ok (.iadd, 1) := dX13_makeObject_313g.2.2.1
theorem dX13_makeObject_317 : decode cX13_makeObject 317 = .ok (.iload_n 3, 1) := dX13_makeObject_313g.2.2.2.1
theorem dX13_makeObject_318 : decode cX13_makeObject 318 = .ok (.ifCond .eq 18, 3) := dX13_makeObject_313g.2.2.2.2.1
theorem dX13_makeObject_321 : decode cX13_makeObject 321 = .ok (.aload_n 0, 1) := dX13_makeObject_313g.2.2.2.2.2.1
theorem dX13_makeObject_322 : decode cX13_makeObject 322 = .ok (.getfield 87, 3) := dX13_makeObject_313g.2.2.2.2.2.2.1
theorem dX13_makeObject_325 : decode cX13_makeObject 325 = .ok (.iconst 3, 1) := dX13_makeObject_313g.2.2.2.2.2.2.2.1
theorem dX13_makeObject_326 : decode cX13_makeObject 326 = .ok (.iload 5, 2) := dX13_makeObject_313g.2.2.2.2.2.2.2.2.1
theorem dX13_makeObject_328 : decode cX13_makeObject 328 = .ok (.imul, 1) := dX13_makeObject_313g.2.2.2.2.2.2.2.2.2.1
theorem dX13_makeObject_329 : decode cX13_makeObject 329 = .ok (.iload 8, 2) := dX13_makeObject_313g.2.2.2.2.2.2.2.2.2.2.1
theorem dX13_makeObject_331 : decode cX13_makeObject 331 = .ok (.iadd, 1) := dX13_makeObject_313g.2.2.2.2.2.2.2.2.2.2.2.1
theorem dX13_makeObject_332 : decode cX13_makeObject 332 = .ok (.iaload, 1) := dX13_makeObject_313g.2.2.2.2.2.2.2.2.2.2.2.2.1
theorem dX13_makeObject_333 : decode cX13_makeObject 333 = .ok (.goto 15, 3) := dX13_makeObject_313g.2.2.2.2.2.2.2.2.2.2.2.2.2.1
theorem dX13_makeObject_336 : decode cX13_makeObject 336 = .ok (.aload_n 0, 1) := dX13_makeObject_313g.2.2.2.2.2.2.2.2.2.2.2.2.2.2.1
theorem dX13_makeObject_337 : decode cX13_makeObject 337 = .ok (.getfield 111, 3) := dX13_makeObject_313g.2.2.2.2.2.2.2.2.2.2.2.2.2.2.2
theorem dX13_makeObject_340g : decode cX13_makeObject 340 = .ok (.iconst 3, 1) ∧ decode cX13_makeObject 341 = .ok (.iload 5, 2) ∧ decode cX13_makeObject 343 = .ok (.imul, 1) ∧ decode cX13_makeObject 344 = .ok (.iload 8, 2) ∧ decode cX13_makeObject 346 = .ok (.iadd, 1) ∧ decode cX13_makeObject 347 = .ok (.iaload, 1) ∧ decode cX13_makeObject 348 = .ok (.invokevirtual 585, 3) ∧ decode cX13_makeObject 351 = .ok (.iinc 8 1, 3) ∧ decode cX13_makeObject 354 = .ok (.goto (-61), 3) ∧ decode cX13_makeObject 357 = .ok (.return_, 1) := by decide +kernel
theorem dX13_makeObject_340 : decode cX13_makeObject 340 = .ok (.iconst 3, 1) := dX13_makeObject_340g.1
theorem dX13_makeObject_341 : decode cX13_makeObject 341 = .ok (.iload 5, 2) := dX13_makeObject_340g.2.1
theorem dX13_makeObject_343 : decode cX13_makeObject 343 = .ok (.imul, 1) := dX13_makeObject_340g.2.2.1
theorem dX13_makeObject_344 : decode cX13_makeObject 344 = .ok (.iload 8, 2) := dX13_makeObject_340g.2.2.2.1
theorem dX13_makeObject_346 : decode cX13_makeObject 346 = .ok (.iadd, 1) := dX13_makeObject_340g.2.2.2.2.1
theorem dX13_makeObject_347 : decode cX13_makeObject 347 = .ok (.iaload, 1) := dX13_makeObject_340g.2.2.2.2.2.1
theorem dX13_makeObject_348 : decode cX13_makeObject 348 = .ok (.invokevirtual 585, 3) := dX13_makeObject_340g.2.2.2.2.2.2.1
theorem dX13_makeObject_351 : decode cX13_makeObject 351 = .ok (.iinc 8 1, 3) := dX13_makeObject_340g.2.2.2.2.2.2.2.1
theorem dX13_makeObject_354 : decode cX13_makeObject 354 = .ok (.goto (-61), 3) := dX13_makeObject_340g.2.2.2.2.2.2.2.2.1
theorem dX13_makeObject_357 : decode cX13_makeObject 357 = .ok (.return_, 1) := dX13_makeObject_340g.2.2.2.2.2.2.2.2.2
theorem dX13_setOne_0g : decode cX13_setOne 0 = .ok (.aload_n 0, 1) ∧ decode cX13_setOne 1 = .ok (.getfield 501, 3) ∧ decode cX13_setOne 4 = .ok (.iconst 1, 1) ∧ decode cX13_setOne 5 = .ok (.isub, 1) ∧ decode cX13_setOne 6 = .ok (.istore_n 2, 1) ∧ decode cX13_setOne 7 = .ok (.aload_n 0, 1) ∧ decode cX13_setOne 8 = .ok (.aload_n 0, 1) ∧ decode cX13_setOne 9 = .ok (.getfield 177, 3) ∧ decode cX13_setOne 12 = .ok (.bipush 26, 2) ∧ decode cX13_setOne 14 = .ok (.iload_n 1, 1) ∧ decode cX13_setOne 15 = .ok (.imul, 1) ∧ decode cX13_setOne 16 = .ok (.aload_n 0, 1) ∧ decode cX13_setOne 17 = .ok (.getfield 225, 3) ∧ decode cX13_setOne 20 = .ok (.iload_n 2, 1) ∧ decode cX13_setOne 21 = .ok (.iaload, 1) ∧ decode cX13_setOne 22 = .ok (.iadd, 1) := by decide +kernel
theorem dX13_setOne_0 : decode cX13_setOne 0 = .ok (.aload_n 0, 1) := dX13_setOne_0g.1
theorem dX13_setOne_1 : decode cX13_setOne 1 = .ok (.getfield 501, 3) := dX13_setOne_0g.2.1
theorem dX13_setOne_4 : decode cX13_setOne 4 = .ok (.iconst 1, 1) := dX13_setOne_0g.2.2.1
theorem dX13_setOne_5 : decode cX13_setOne 5 = .ok (.isub, 1) := dX13_setOne_0g.2.2.2.1
theorem dX13_setOne_6 : decode cX13_setOne 6 = .ok (.istore_n 2, 1) := dX13_setOne_0g.2.2.2.2.1
theorem dX13_setOne_7 : decode cX13_setOne 7 = .ok (.aload_n 0, 1) := dX13_setOne_0g.2.2.2.2.2.1
theorem dX13_setOne_8 : decode cX13_setOne 8 = .ok (.aload_n 0, 1) := dX13_setOne_0g.2.2.2.2.2.2.1
theorem dX13_setOne_9 : decode cX13_setOne 9 = .ok (.getfield 177, 3) := dX13_setOne_0g.2.2.2.2.2.2.2.1
theorem dX13_setOne_12 : decode cX13_setOne 12 = .ok (.bipush 26, 2) := dX13_setOne_0g.2.2.2.2.2.2.2.2.1
theorem dX13_setOne_14 : decode cX13_setOne 14 = .ok (.iload_n 1, 1) := dX13_setOne_0g.2.2.2.2.2.2.2.2.2.1
theorem dX13_setOne_15 : decode cX13_setOne 15 = .ok (.imul, 1) := dX13_setOne_0g.2.2.2.2.2.2.2.2.2.2.1
theorem dX13_setOne_16 : decode cX13_setOne 16 = .ok (.aload_n 0, 1) := dX13_setOne_0g.2.2.2.2.2.2.2.2.2.2.2.1
theorem dX13_setOne_17 : decode cX13_setOne 17 = .ok (.getfield 225, 3) := dX13_setOne_0g.2.2.2.2.2.2.2.2.2.2.2.2.1
theorem dX13_setOne_20 : decode cX13_setOne 20 = .ok (.iload_n 2, 1) := dX13_setOne_0g.2.2.2.2.2.2.2.2.2.2.2.2.2.1
theorem dX13_setOne_21 : decode cX13_setOne 21 = .ok (.iaload, 1) := dX13_setOne_0g.2.2.2.2.2.2.2.2.2.2.2.2.2.2.1
theorem dX13_setOne_22 : decode cX13_setOne 22 = .ok (.iadd, 1) := dX13_setOne_0g.2.2.2.2.2.2.2.2.2.2.2.2.2.2.2
theorem dX13_setOne_23g : decode cX13_setOne 23 = .ok (.iaload, 1) ∧ decode cX13_setOne 24 = .ok (.ldc2_w 380, 3) ∧ decode cX13_setOne 27 = .ok (.invokevirtual 359, 3) ∧ decode cX13_setOne 30 = .ok (.l2i, 1) ∧ decode cX13_setOne 31 = .ok (.bipush 97, 2) ∧ decode cX13_setOne 33 = .ok (.isub, 1) ∧ decode cX13_setOne 34 = .ok (.istore_n 3, 1) ∧ decode cX13_setOne 35 = .ok (.aload_n 0, 1) ∧ decode cX13_setOne 36 = .ok (.getfield 234, 3) ∧ decode cX13_setOne 39 = .ok (.iload_n 2, 1) ∧ decode cX13_setOne 40 = .ok (.iaload, 1) ∧ decode cX13_setOne 41 = .ok (.istore 4, 2) ∧ decode cX13_setOne 43 = .ok (.aload_n 0, 1) ∧ decode cX13_setOne 44 = .ok (.aload_n 0, 1) ∧ decode cX13_setOne 45 = .ok (.getfield 189, 3) ∧ decode cX13_setOne 48 = .ok (.iload 4, 2) := by decide +kernel
theorem dX13_setOne_23 : decode cX13_setOne 23 = .ok (.iaload, 1) := dX13_setOne_23g.1
theorem dX13_setOne_24 : decode cX13_setOne 24 = .ok (.ldc2_w 380, 3) := dX13_setOne_23g.2.1
theorem dX13_setOne_27 : decode cX13_setOne 27 = .ok (.invokevirtual 359, 3) := dX13_setOne_23g.2.2.1
theorem dX13_setOne_30 : decode cX13_setOne 30 = .ok (.l2i, 1) := dX13_setOne_23g.2.2.2.1
theorem dX13_setOne_31 : decode cX13_setOne 31 = .ok (.bipush 97, 2) := dX13_setOne_23g.2.2.2.2.1
theorem dX13_setOne_33 : decode cX13_setOne 33 = .ok (.isub, 1) := dX13_setOne_23g.2.2.2.2.2.1
theorem dX13_setOne_34 : decode cX13_setOne 34 = .ok (.istore_n 3, 1) := dX13_setOne_23g.2.2.2.2.2.2.1
theorem dX13_setOne_35 : decode cX13_setOne 35 = .ok (.aload_n 0, 1) := dX13_setOne_23g.2.2.2.2.2.2.2.1
theorem dX13_setOne_36 : decode cX13_setOne 36 = .ok (.getfield 234, 3) := dX13_setOne_23g.2.2.2.2.2.2.2.2.1
theorem dX13_setOne_39 : decode cX13_setOne 39 = .ok (.iload_n 2, 1) := dX13_setOne_23g.2.2.2.2.2.2.2.2.2.1
theorem dX13_setOne_40 : decode cX13_setOne 40 = .ok (.iaload, 1) := dX13_setOne_23g.2.2.2.2.2.2.2.2.2.2.1
theorem dX13_setOne_41 : decode cX13_setOne 41 = .ok (.istore 4, 2) := dX13_setOne_23g.2.2.2.2.2.2.2.2.2.2.2.1
theorem dX13_setOne_43 : decode cX13_setOne 43 = .ok (.aload_n 0, 1) := dX13_setOne_23g.2.2.2.2.2.2.2.2.2.2.2.2.1
theorem dX13_setOne_44 : decode cX13_setOne 44 = .ok (.aload_n 0, 1) := dX13_setOne_23g.2.2.2.2.2.2.2.2.2.2.2.2.2.1
theorem dX13_setOne_45 : decode cX13_setOne 45 = .ok (.getfield 189, 3) := dX13_setOne_23g.2.2.2.2.2.2.2.2.2.2.2.2.2.2.1
theorem dX13_setOne_48 : decode cX13_setOne 48 = .ok (.iload 4, 2) := dX13_setOne_23g.2.2.2.2.2.2.2.2.2.2.2.2.2.2.2
theorem dX13_setOne_50g : decode cX13_setOne 50 = .ok (.iaload, 1) ∧ decode cX13_setOne 51 = .ok (.iload_n 3, 1) ∧ decode cX13_setOne 52 = .ok (.invokevirtual 589, 3) ∧ decode cX13_setOne 55 = .ok (.istore 5, 2) ∧ decode cX13_setOne 57 = .ok (.iload 5, 2) ∧ decode cX13_setOne 59 = .ok (.iconst (-1), 1) ∧ decode cX13_setOne 60 = .ok (.if_icmp .ne 9, 3) ∧ decode cX13_setOne 63 = .ok (.aload_n 0, 1) ∧ decode cX13_setOne 64 = .ok (.bipush 7, 2) ∧ decode cX13_setOne 66 = .ok (.invokevirtual 504, 3) ∧ decode cX13_setOne 69 = .ok (.aload_n 0, 1) ∧ decode cX13_setOne 70 = .ok (.getfield 498, 3) ∧ decode cX13_setOne 73 = .ok (.ifCond .ne 39, 3) ∧ decode cX13_setOne 76 = .ok (.aload_n 0, 1) ∧ decode cX13_setOne 77 = .ok (.aload_n 0, 1) ∧ decode cX13_setOne 78 = .ok (.getfield 237, 3) := by decide +kernel
theorem dX13_setOne_50 : decode cX13_setOne 50 = .ok (.iaload, 1) := dX13_setOne_50g.1
theorem dX13_setOne_51 : decode cX13_setOne 51 = .ok (.iload_n 3, 1) := dX13_setOne_50g.2.1
theorem dX13_setOne_52 : decode cX13_setOne 52 = .ok (.invokevirtual 589, 3) := dX13_setOne_50g.2.2.1
theorem dX13_setOne_55 : decode cX13_setOne 55 = .ok (.istore 5, 2) := dX13_setOne_50g.2.2.2.1
theorem dX13_setOne_57 : decode cX13_setOne 57 = .ok (.iload 5, 2) := dX13_setOne_50g.2.2.2.2.1
theorem dX13_setOne_59 : decode cX13_setOne 59 = .ok (.iconst (-1), 1) := dX13_setOne_50g.2.2.2.2.2.1
theorem dX13_setOne_60 : decode cX13_setOne 60 = .ok (.if_icmp .ne 9, 3) := dX13_setOne_50g.2.2.2.2.2.2.1
theorem dX13_setOne_63 : decode cX13_setOne 63 = .ok (.aload_n 0, 1) := dX13_setOne_50g.2.2.2.2.2.2.2.1
theorem dX13_setOne_64 : decode cX13_setOne 64 = .ok (.bipush 7, 2) := dX13_setOne_50g.2.2.2.2.2.2.2.2.1
theorem dX13_setOne_66 : decode cX13_setOne 66 = .ok (.invokevirtual 504, 3) := dX13_setOne_50g.2.2.2.2.2.2.2.2.2.1
theorem dX13_setOne_69 : decode cX13_setOne 69 = .ok (.aload_n 0, 1) := dX13_setOne_50g.2.2.2.2.2.2.2.2.2.2.1
theorem dX13_setOne_70 : decode cX13_setOne 70 = .ok (.getfield 498, 3) := dX13_setOne_50g.2.2.2.2.2.2.2.2.2.2.2.1
theorem dX13_setOne_73 : decode cX13_setOne 73 = .ok (.ifCond .ne 39, 3) := dX13_setOne_50g.2.2.2.2.2.2.2.2.2.2.2.2.1
theorem dX13_setOne_76 : decode cX13_setOne 76 = .ok (.aload_n 0, 1) := dX13_setOne_50g.2.2.2.2.2.2.2.2.2.2.2.2.2.1
theorem dX13_setOne_77 : decode cX13_setOne 77 = .ok (.aload_n 0, 1) := dX13_setOne_50g.2.2.2.2.2.2.2.2.2.2.2.2.2.2.1
theorem dX13_setOne_78 : decode cX13_setOne 78 = .ok (.getfield 237, 3) := dX13_setOne_50g.2.2.2.2.2.2.2.2.2.2.2.2.2.2.2
theorem dX13_setOne_81g : decode cX13_setOne 81 = .ok (.iconst 5, 1) ∧ decode cX13_setOne 82 = .ok (.iload_n 2, 1) ∧ decode cX13_setOne 83 = .ok (.imul, 1) ∧ decode cX13_setOne 84 = .ok (.iconst 4, 1) ∧ decode cX13_setOne 85 = .ok (.iadd, 1) ∧ decode cX13_setOne 86 = .ok (.iaload, 1) ∧ decode cX13_setOne 87 = .ok (.aload_n 0, 1) ∧ decode cX13_setOne 88 = .ok (.getfield 240, 3) ∧ decode cX13_setOne 91 = .ok (.iconst 5, 1) ∧ decode cX13_setOne 92 = .ok (.iload_n 2, 1) ∧ decode cX13_setOne 93 = .ok (.imul, 1) ∧ decode cX13_setOne 94 = .ok (.iconst 4, 1) ∧ decode cX13_setOne 95 = .ok (.iadd, 1) ∧ decode cX13_setOne 96 = .ok (.iaload, 1) ∧ decode cX13_setOne 97 = .ok (.iload 5, 2) ∧ decode cX13_setOne 99 = .ok (.invokevirtual 563, 3) := by decide +kernel
theorem dX13_setOne_81 : decode cX13_setOne 81 = .ok (.iconst 5, 1) := dX13_setOne_81g.1
theorem dX13_setOne_82 : decode cX13_setOne 82 = .ok (.iload_n 2, 1) := dX13_setOne_81g.2.1
theorem dX13_setOne_83 : decode cX13_setOne 83 = .ok (.imul, 1) := dX13_setOne_81g.2.2.1
theorem dX13_setOne_84 : decode cX13_setOne 84 = .ok (.iconst 4, 1) := dX13_setOne_81g.2.2.2.1
theorem dX13_setOne_85 : decode cX13_setOne 85 = .ok (.iadd, 1) := dX13_setOne_81g.2.2.2.2.1
theorem dX13_setOne_86 : decode cX13_setOne 86 = .ok (.iaload, 1) := dX13_setOne_81g.2.2.2.2.2.1
theorem dX13_setOne_87 : decode cX13_setOne 87 = .ok (.aload_n 0, 1) := dX13_setOne_81g.2.2.2.2.2.2.1
theorem dX13_setOne_88 : decode cX13_setOne 88 = .ok (.getfield 240, 3) := dX13_setOne_81g.2.2.2.2.2.2.2.1
theorem dX13_setOne_91 : decode cX13_setOne 91 = .ok (.iconst 5, 1) := dX13_setOne_81g.2.2.2.2.2.2.2.2.1
theorem dX13_setOne_92 : decode cX13_setOne 92 = .ok (.iload_n 2, 1) := dX13_setOne_81g.2.2.2.2.2.2.2.2.2.1
theorem dX13_setOne_93 : decode cX13_setOne 93 = .ok (.imul, 1) := dX13_setOne_81g.2.2.2.2.2.2.2.2.2.2.1
theorem dX13_setOne_94 : decode cX13_setOne 94 = .ok (.iconst 4, 1) := dX13_setOne_81g.2.2.2.2.2.2.2.2.2.2.2.1
theorem dX13_setOne_95 : decode cX13_setOne 95 = .ok (.iadd, 1) := dX13_setOne_81g.2.2.2.2.2.2.2.2.2.2.2.2.1
theorem dX13_setOne_96 : decode cX13_setOne 96 = .ok (.iaload, 1) := dX13_setOne_81g.2.2.2.2.2.2.2.2.2.2.2.2.2.1
theorem dX13_setOne_97 : decode cX13_setOne 97 = .ok (.iload 5, 2) := dX13_setOne_81g.2.2.2.2.2.2.2.2.2.2.2.2.2.2.1
theorem dX13_setOne_99 : decode cX13_setOne 99 = .ok (.invokevirtual 563, 3) := dX13_setOne_81g.2.2.2.2.2.2.2.2.2.2.2.2.2.2.2
theorem dX13_setOne_102g : decode cX13_setOne 102 = .ok (.iconst (-1), 1) ∧ decode cX13_setOne 103 = .ok (.if_icmp .ne 9, 3) ∧ decode cX13_setOne 106 = .ok (.aload_n 0, 1) ∧ decode cX13_setOne 107 = .ok (.bipush 8, 2) ∧ decode cX13_setOne 109 = .ok (.invokevirtual 504, 3) ∧ decode cX13_setOne 112 = .ok (.aload_n 0, 1) ∧ decode cX13_setOne 113 = .ok (.getfield 498, 3) ∧ decode cX13_setOne 116 = .ok (.ifCond .ne 18, 3) ∧ decode cX13_setOne 119 = .ok (.aload_n 0, 1) ∧ decode cX13_setOne 120 = .ok (.iconst 4, 1) ∧ decode cX13_setOne 121 = .ok (.iload 4, 2) ∧ decode cX13_setOne 123 = .ok (.iload_n 3, 1) ∧ decode cX13_setOne 124 = .ok (.iconst 5, 1) ∧ decode cX13_setOne 125 = .ok (.iload_n 2, 1) ∧ decode cX13_setOne 126 = .ok (.imul, 1) ∧ decode cX13_setOne 127 = .ok (.iconst 4, 1) := by decide +kernel
theorem dX13_setOne_102 : decode cX13_setOne 102 = .ok (.iconst (-1), 1) := dX13_setOne_102g.1
theorem dX13_setOne_103 : decode cX13_setOne 103 = .ok (.if_icmp .ne 9, 3) := dX13_setOne_102g.2.1
theorem dX13_setOne_106 : decode cX13_setOne 106 = .ok (.aload_n 0, 1) := dX13_setOne_102g.2.2.1
theorem dX13_setOne_107 : decode cX13_setOne 107 = .ok (.bipush 8, 2) := dX13_setOne_102g.2.2.2.1
theorem dX13_setOne_109 : decode cX13_setOne 109 = .ok (.invokevirtual 504, 3) := dX13_setOne_102g.2.2.2.2.1
theorem dX13_setOne_112 : decode cX13_setOne 112 = .ok (.aload_n 0, 1) := dX13_setOne_102g.2.2.2.2.2.1
theorem dX13_setOne_113 : decode cX13_setOne 113 = .ok (.getfield 498, 3) := dX13_setOne_102g.2.2.2.2.2.2.1
theorem dX13_setOne_116 : decode cX13_setOne 116 = .ok (.ifCond .ne 18, 3) := dX13_setOne_102g.2.2.2.2.2.2.2.1
theorem dX13_setOne_119 : decode cX13_setOne 119 = .ok (.aload_n 0, 1) := dX13_setOne_102g.2.2.2.2.2.2.2.2.1
theorem dX13_setOne_120 : decode cX13_setOne 120 = .ok (.iconst 4, 1) := dX13_setOne_102g.2.2.2.2.2.2.2.2.2.1
theorem dX13_setOne_121 : decode cX13_setOne 121 = .ok (.iload 4, 2) := dX13_setOne_102g.2.2.2.2.2.2.2.2.2.2.1
theorem dX13_setOne_123 : decode cX13_setOne 123 = .ok (.iload_n 3, 1) := dX13_setOne_102g.2.2.2.2.2.2.2.2.2.2.2.1
theorem dX13_setOne_124 : decode cX13_setOne 124 = .ok (.iconst 5, 1) := dX13_setOne_102g.2.2.2.2.2.2.2.2.2.2.2.2.1
theorem dX13_setOne_125 : decode cX13_setOne 125 = .ok (.iload_n 2, 1) := dX13_setOne_102g.2.2.2.2.2.2.2.2.2.2.2.2.2.1
theorem dX13_setOne_126 : decode cX13_setOne 126 = .ok (.imul, 1) := dX13_setOne_102g.2.2.2.2.2.2.2.2.2.2.2.2.2.2.1
theorem dX13_setOne_127 : decode cX13_setOne 127 = .ok (.iconst 4, 1) := dX13_setOne_102g.2.2.2.2.2.2.2.2.2.2.2.2.2.2.2
theorem dX13_setOne_128g : decode cX13_setOne 128 = .ok (.iadd, 1) ∧ decode cX13_setOne 129 = .ok (.iload 5, 2) ∧ decode cX13_setOne 131 = .ok (.invokevirtual 585, 3) ∧ decode cX13_setOne 134 = .ok (.return_, 1) := by decide +kernel
theorem dX13_setOne_128 : decode cX13_setOne 128 = .ok (.iadd, 1) := dX13_setOne_128g.1
theorem dX13_setOne_129 : decode cX13_setOne 129 = .ok (.iload 5, 2) := dX13_setOne_128g.2.1
theorem dX13_setOne_131 : decode cX13_setOne 131 = .ok (.invokevirtual 585, 3) := dX13_setOne_128g.2.2.1
theorem dX13_setOne_134 : decode cX13_setOne 134 = .ok (.return_, 1) := dX13_setOne_128g.2.2.2
theorem dX13_finish_0g : decode cX13_finish 0 = .ok (.aload_n 0, 1) ∧ decode cX13_finish 1 = .ok (.getfield 501, 3) ∧ decode cX13_finish 4 = .ok (.iconst 1, 1) ∧ decode cX13_finish 5 = .ok (.isub, 1) ∧ decode cX13_finish 6 = .ok (.istore_n 2, 1) ∧ decode cX13_finish 7 = .ok (.aload_n 0, 1) ∧ decode cX13_finish 8 = .ok (.iload_n 1, 1) ∧ decode cX13_finish 9 = .ok (.ldc2_w 400, 3) ∧ decode cX13_finish 12 = .ok (.invokevirtual 567, 3) ∧ decode cX13_finish 15 = .ok (.iconst (-1), 1) ∧ decode cX13_finish 16 = .ok (.if_icmp .eq 23, 3) ∧ decode cX13_finish 19 = .ok (.aload_n 0, 1) ∧ decode cX13_finish 20 = .ok (.iconst 5, 1) ∧ decode cX13_finish 21 = .ok (.aload_n 0, 1) ∧ decode cX13_finish 22 = .ok (.getfield 234, 3) ∧ decode cX13_finish 25 = .ok (.iload_n 2, 1) := by decide +kernel
theorem dX13_finish_0 : decode cX13_finish 0 = .ok (.aload_n 0, 1) := dX13_finish_0g.1
theorem dX13_finish_1 : decode cX13_finish 1 = .ok (.getfield 501, 3) := dX13_finish_0g.2.1
theorem dX13_finish_4 : decode cX13_finish 4 = .ok (.iconst 1, 1) := dX13_finish_0g.2.2.1
theorem dX13_finish_5 : decode cX13_finish 5 = .ok (.isub, 1) := dX13_finish_0g.2.2.2.1
theorem dX13_finish_6 : decode cX13_finish 6 = .ok (.istore_n 2, 1) := dX13_finish_0g.2.2.2.2.1
theorem dX13_finish_7 : decode cX13_finish 7 = .ok (.aload_n 0, 1) := dX13_finish_0g.2.2.2.2.2.1
theorem dX13_finish_8 : decode cX13_finish 8 = .ok (.iload_n 1, 1) := dX13_finish_0g.2.2.2.2.2.2.1
theorem dX13_finish_9 : decode cX13_finish 9 = .ok (.ldc2_w 400, 3) := dX13_finish_0g.2.2.2.2.2.2.2.1
theorem dX13_finish_12 : decode cX13_finish 12 = .ok (.invokevirtual 567, 3) := dX13_finish_0g.2.2.2.2.2.2.2.2.1
theorem dX13_finish_15 : decode cX13_finish 15 = .ok (.iconst (-1), 1) := dX13_finish_0g.2.2.2.2.2.2.2.2.2.1
theorem dX13_finish_16 : decode cX13_finish 16 = .ok (.if_icmp .eq 23, 3) := dX13_finish_0g.2.2.2.2.2.2.2.2.2.2.1
theorem dX13_finish_19 : decode cX13_finish 19 = .ok (.aload_n 0, 1) := dX13_finish_0g.2.2.2.2.2.2.2.2.2.2.2.1
theorem dX13_finish_20 : decode cX13_finish 20 = .ok (.iconst 5, 1) := dX13_finish_0g.2.2.2.2.2.2.2.2.2.2.2.2.1
theorem dX13_finish_21 : decode cX13_finish 21 = .ok (.aload_n 0, 1) := dX13_finish_0g.2.2.2.2.2.2.2.2.2.2.2.2.2.1
theorem dX13_finish_22 : decode cX13_finish 22 = .ok (.getfield 234, 3) := dX13_finish_0g.2.2.2.2.2.2.2.2.2.2.2.2.2.2.1
theorem dX13_finish_25 : decode cX13_finish 25 = .ok (.iload_n 2, 1) := dX13_finish_0g.2.2.2.2.2.2.2.2.2.2.2.2.2.2.2
theorem dX13_finish_26g : decode cX13_finish 26 = .ok (.iaload, 1) ∧ decode cX13_finish 27 = .ok (.aload_n 0, 1) ∧ decode cX13_finish 28 = .ok (.iload_n 1, 1) ∧ decode cX13_finish 29 = .ok (.ldc2_w 400, 3) ∧ decode cX13_finish 32 = .ok (.invokevirtual 567, 3) ∧ decode cX13_finish 35 = .ok (.iconst 0, 1) ∧ decode cX13_finish 36 = .ok (.invokevirtual 554, 3) ∧ decode cX13_finish 39 = .ok (.aload_n 0, 1) ∧ decode cX13_finish 40 = .ok (.getfield 216, 3) ∧ decode cX13_finish 43 = .ok (.iload_n 1, 1) ∧ decode cX13_finish 44 = .ok (.iconst 0, 1) ∧ decode cX13_finish 45 = .ok (.bastore, 1) ∧ decode cX13_finish 46 = .ok (.aload_n 0, 1) ∧ decode cX13_finish 47 = .ok (.iload_n 1, 1) ∧ decode cX13_finish 48 = .ok (.invokevirtual 510, 3) ∧ decode cX13_finish 51 = .ok (.ifCond .ne 30, 3) := by decide +kernel
theorem dX13_finish_26 : decode cX13_finish 26 = .ok (.iaload, 1) := dX13_finish_26g.1
theorem dX13_finish_27 : decode cX13_finish 27 = .ok (.aload_n 0, 1) := dX13_finish_26g.2.1
theorem dX13_finish_28 : decode cX13_finish 28 = .ok (.iload_n 1, 1) := dX13_finish_26g.2.2.1
theorem dX13_finish_29 : decode cX13_finish 29 = .ok (.ldc2_w 400, 3) := dX13_finish_26g.2.2.2.1
theorem dX13_finish_32 : decode cX13_finish 32 = .ok (.invokevirtual 567, 3) := dX13_finish_26g.2.2.2.2.1
theorem dX13_finish_35 : decode cX13_finish 35 = .ok (.iconst 0, 1) := dX13_finish_26g.2.2.2.2.2.1
theorem dX13_finish_36 : decode cX13_finish 36 = .ok (.invokevirtual 554, 3) := dX13_finish_26g.2.2.2.2.2.2.1
theorem dX13_finish_39 : decode cX13_finish 39 = .ok (.aload_n 0, 1) := dX13_finish_26g.2.2.2.2.2.2.2.1
theorem dX13_finish_40 : decode cX13_finish 40 = .ok (.getfield 216, 3) := dX13_finish_26g.2.2.2.2.2.2.2.2.1
theorem dX13_finish_43 : decode cX13_finish 43 = .ok (.iload_n 1, 1) := dX13_finish_26g.2.2.2.2.2.2.2.2.2.1
theorem dX13_finish_44 : decode cX13_finish 44 = .ok (.iconst 0, 1) := dX13_finish_26g.2.2.2.2.2.2.2.2.2.2.1
theorem dX13_finish_45 : decode cX13_finish 45 = .ok (.bastore, 1) := dX13_finish_26g.2.2.2.2.2.2.2.2.2.2.2.1
theorem dX13_finish_46 : decode cX13_finish 46 = .ok (.aload_n 0, 1) := dX13_finish_26g.2.2.2.2.2.2.2.2.2.2.2.2.1
theorem dX13_finish_47 : decode cX13_finish 47 = .ok (.iload_n 1, 1) := dX13_finish_26g.2.2.2.2.2.2.2.2.2.2.2.2.2.1
theorem dX13_finish_48 : decode cX13_finish 48 = .ok (.invokevirtual 510, 3) := dX13_finish_26g.2.2.2.2.2.2.2.2.2.2.2.2.2.2.1
theorem dX13_finish_51 : decode cX13_finish 51 = .ok (.ifCond .ne 30, 3) := dX13_finish_26g.2.2.2.2.2.2.2.2.2.2.2.2.2.2.2
theorem dX13_finish_54g : decode cX13_finish 54 = .ok (.aload_n 0, 1) ∧ decode cX13_finish 55 = .ok (.getfield 213, 3) ∧ decode cX13_finish 58 = .ok (.iload_n 1, 1) ∧ decode cX13_finish 59 = .ok (.iconst 1, 1) ∧ decode cX13_finish 60 = .ok (.bastore, 1) ∧ decode cX13_finish 61 = .ok (.aload_n 0, 1) ∧ decode cX13_finish 62 = .ok (.getfield 207, 3) ∧ decode cX13_finish 65 = .ok (.aload_n 0, 1) ∧ decode cX13_finish 66 = .ok (.getfield 474, 3) ∧ decode cX13_finish 69 = .ok (.iload_n 1, 1) ∧ decode cX13_finish 70 = .ok (.iastore, 1) ∧ decode cX13_finish 71 = .ok (.aload_n 0, 1) ∧ decode cX13_finish 72 = .ok (.dup, 1) ∧ decode cX13_finish 73 = .ok (.getfield 474, 3) ∧ decode cX13_finish 76 = .ok (.iconst 1, 1) ∧ decode cX13_finish 77 = .ok (.iadd, 1) := by decide +kernel
theorem dX13_finish_54 : decode cX13_finish 54 = .ok (.aload_n 0, 1) := dX13_finish_54g.1
theorem dX13_finish_55 : decode cX13_finish 55 = .ok (.getfield 213, 3) := dX13_finish_54g.2.1
theorem dX13_finish_58 : decode cX13_finish 58 = .ok (.iload_n 1, 1) := dX13_finish_54g.2.2.1
theorem dX13_finish_59 : decode cX13_finish 59 = .ok (.iconst 1, 1) := dX13_finish_54g.2.2.2.1
theorem dX13_finish_60 : decode cX13_finish 60 = .ok (.bastore, 1) := dX13_finish_54g.2.2.2.2.1
theorem dX13_finish_61 : decode cX13_finish 61 = .ok (.aload_n 0, 1) := dX13_finish_54g.2.2.2.2.2.1
theorem dX13_finish_62 : decode cX13_finish 62 = .ok (.getfield 207, 3) := dX13_finish_54g.2.2.2.2.2.2.1
theorem dX13_finish_65 : decode cX13_finish 65 = .ok (.aload_n 0, 1) := dX13_finish_54g.2.2.2.2.2.2.2.1
theorem dX13_finish_66 : decode cX13_finish 66 = .ok (.getfield 474, 3) := dX13_finish_54g.2.2.2.2.2.2.2.2.1
theorem dX13_finish_69 : decode cX13_finish 69 = .ok (.iload_n 1, 1) := dX13_finish_54g.2.2.2.2.2.2.2.2.2.1
theorem dX13_finish_70 : decode cX13_finish 70 = .ok (.iastore, 1) := dX13_finish_54g.2.2.2.2.2.2.2.2.2.2.1
theorem dX13_finish_71 : decode cX13_finish 71 = .ok (.aload_n 0, 1) := dX13_finish_54g.2.2.2.2.2.2.2.2.2.2.2.1
theorem dX13_finish_72 : decode cX13_finish 72 = .ok (.dup, 1) := dX13_finish_54g.2.2.2.2.2.2.2.2.2.2.2.2.1
theorem dX13_finish_73 : decode cX13_finish 73 = .ok (.getfield 474, 3) := dX13_finish_54g.2.2.2.2.2.2.2.2.2.2.2.2.2.1
theorem dX13_finish_76 : decode cX13_finish 76 = .ok (.iconst 1, 1) := dX13_finish_54g.2.2.2.2.2.2.2.2.2.2.2.2.2.2.1
theorem dX13_finish_77 : decode cX13_finish 77 = .ok (.iadd, 1) := dX13_finish_54g.2.2.2.2.2.2.2.2.2.2.2.2.2.2.2
theorem dX13_finish_78g : decode cX13_finish 78 = .ok (.putfield 474, 3) ∧ decode cX13_finish 81 = .ok (.aload_n 0, 1) ∧ decode cX13_finish 82 = .ok (.aload_n 0, 1) ∧ decode cX13_finish 83 = .ok (.getfield 234, 3) ∧ decode cX13_finish 86 = .ok (.iload_n 2, 1) ∧ decode cX13_finish 87 = .ok (.iaload, 1) ∧ decode cX13_finish 88 = .ok (.putfield 513, 3) ∧ decode cX13_finish 91 = .ok (.aload_n 0, 1) ∧ decode cX13_finish 92 = .ok (.dup, 1) ∧ decode cX13_finish 93 = .ok (.getfield 501, 3) ∧ decode cX13_finish 96 = .ok (.iconst 1, 1) ∧ decode cX13_finish 97 = .ok (.isub, 1) ∧ decode cX13_finish 98 = .ok (.putfield 501, 3) ∧ decode cX13_finish 101 = .ok (.aload_n 0, 1) ∧ decode cX13_finish 102 = .ok (.getfield 501, 3) ∧ decode cX13_finish 105 = .ok (.ifCond .le 7, 3) := by decide +kernel
theorem dX13_finish_78 : decode cX13_finish 78 = .ok (.putfield 474, 3) := dX13_finish_78g.1
theorem dX13_finish_81 : decode cX13_finish 81 = .ok (.aload_n 0, 1) := dX13_finish_78g.2.1
theorem dX13_finish_82 : decode cX13_finish 82 = .ok (.aload_n 0, 1) := dX13_finish_78g.2.2.1
theorem dX13_finish_83 : decode cX13_finish 83 = .ok (.getfield 234, 3) := dX13_finish_78g.2.2.2.1
theorem dX13_finish_86 : decode cX13_finish 86 = .ok (.iload_n 2, 1) := dX13_finish_78g.2.2.2.2.1
theorem dX13_finish_87 : decode cX13_finish 87 = .ok (.iaload, 1) := dX13_finish_78g.2.2.2.2.2.1
theorem dX13_finish_88 : decode cX13_finish 88 = .ok (.putfield 513, 3) := dX13_finish_78g.2.2.2.2.2.2.1
theorem dX13_finish_91 : decode cX13_finish 91 = .ok (.aload_n 0, 1) := dX13_finish_78g.2.2.2.2.2.2.2.1
theorem dX13_finish_92 : decode cX13_finish 92 = .ok (.dup, 1) := dX13_finish_78g.2.2.2.2.2.2.2.2.1
theorem dX13_finish_93 : decode cX13_finish 93 = .ok (.getfield 501, 3) := dX13_finish_78g.2.2.2.2.2.2.2.2.2.1
theorem dX13_finish_96 : decode cX13_finish 96 = .ok (.iconst 1, 1) := dX13_finish_78g.2.2.2.2.2.2.2.2.2.2.1
theorem dX13_finish_97 : decode cX13_finish 97 = .ok (.isub, 1) := dX13_finish_78g.2.2.2.2.2.2.2.2.2.2.2.1
theorem dX13_finish_98 : decode cX13_finish 98 = .ok (.putfield 501, 3) := dX13_finish_78g.2.2.2.2.2.2.2.2.2.2.2.2.1
theorem dX13_finish_101 : decode cX13_finish 101 = .ok (.aload_n 0, 1) := dX13_finish_78g.2.2.2.2.2.2.2.2.2.2.2.2.2.1
theorem dX13_finish_102 : decode cX13_finish 102 = .ok (.getfield 501, 3) := dX13_finish_78g.2.2.2.2.2.2.2.2.2.2.2.2.2.2.1
theorem dX13_finish_105 : decode cX13_finish 105 = .ok (.ifCond .le 7, 3) := dX13_finish_78g.2.2.2.2.2.2.2.2.2.2.2.2.2.2.2
theorem dX13_finish_108g : decode cX13_finish 108 = .ok (.aload_n 0, 1) ∧ decode cX13_finish 109 = .ok (.invokevirtual 592, 3) ∧ decode cX13_finish 112 = .ok (.return_, 1) := by decide +kernel
theorem dX13_finish_108 : decode cX13_finish 108 = .ok (.aload_n 0, 1) := dX13_finish_108g.1
theorem dX13_finish_109 : decode cX13_finish 109 = .ok (.invokevirtual 592, 3) := dX13_finish_108g.2.1
theorem dX13_finish_112 : decode cX13_finish 112 = .ok (.return_, 1) := dX13_finish_108g.2.2
theorem dX13_step_0g : decode cX13_step 0 = .ok (.aload_n 0, 1) ∧ decode cX13_step 1 = .ok (.getfield 501, 3) ∧ decode cX13_step 4 = .ok (.iconst 1, 1) ∧ decode cX13_step 5 = .ok (.isub, 1) ∧ decode cX13_step 6 = .ok (.istore_n 1, 1) ∧ decode cX13_step 7 = .ok (.aload_n 0, 1) ∧ decode cX13_step 8 = .ok (.getfield 219, 3) ∧ decode cX13_step 11 = .ok (.iload_n 1, 1) ∧ decode cX13_step 12 = .ok (.iaload, 1) ∧ decode cX13_step 13 = .ok (.istore_n 2, 1) ∧ decode cX13_step 14 = .ok (.aload_n 0, 1) ∧ decode cX13_step 15 = .ok (.getfield 222, 3) ∧ decode cX13_step 18 = .ok (.iload_n 1, 1) ∧ decode cX13_step 19 = .ok (.iaload, 1) ∧ decode cX13_step 20 = .ok (.tableswitch 265 0 3 #[32, 86, 186, 196], 32) ∧ decode cX13_step 52 = .ok (.aload_n 0, 1) := by decide +kernel
theorem dX13_step_0 : decode cX13_step 0 = .ok (.aload_n 0, 1) := dX13_step_0g.1
theorem dX13_step_1 : decode cX13_step 1 = .ok (.getfield 501, 3) := dX13_step_0g.2.1
theorem dX13_step_4 : decode cX13_step 4 = .ok (.iconst 1, 1) := dX13_step_0g.2.2.1
theorem dX13_step_5 : decode cX13_step 5 = .ok (.isub, 1) := dX13_step_0g.2.2.2.1
theorem dX13_step_6 : decode cX13_step 6 = .ok (.istore_n 1, 1) := dX13_step_0g.2.2.2.2.1
theorem dX13_step_7 : decode cX13_step 7 = .ok (.aload_n 0, 1) := dX13_step_0g.2.2.2.2.2.1
theorem dX13_step_8 : decode cX13_step 8 = .ok (.getfield 219, 3) := dX13_step_0g.2.2.2.2.2.2.1
theorem dX13_step_11 : decode cX13_step 11 = .ok (.iload_n 1, 1) := dX13_step_0g.2.2.2.2.2.2.2.1
theorem dX13_step_12 : decode cX13_step 12 = .ok (.iaload, 1) := dX13_step_0g.2.2.2.2.2.2.2.2.1
theorem dX13_step_13 : decode cX13_step 13 = .ok (.istore_n 2, 1) := dX13_step_0g.2.2.2.2.2.2.2.2.2.1
theorem dX13_step_14 : decode cX13_step 14 = .ok (.aload_n 0, 1) := dX13_step_0g.2.2.2.2.2.2.2.2.2.2.1
theorem dX13_step_15 : decode cX13_step 15 = .ok (.getfield 222, 3) := dX13_step_0g.2.2.2.2.2.2.2.2.2.2.2.1
theorem dX13_step_18 : decode cX13_step 18 = .ok (.iload_n 1, 1) := dX13_step_0g.2.2.2.2.2.2.2.2.2.2.2.2.1
theorem dX13_step_19 : decode cX13_step 19 = .ok (.iaload, 1) := dX13_step_0g.2.2.2.2.2.2.2.2.2.2.2.2.2.1
theorem dX13_step_20 : decode cX13_step 20 = .ok (.tableswitch 265 0 3 #[32, 86, 186, 196], 32) := dX13_step_0g.2.2.2.2.2.2.2.2.2.2.2.2.2.2.1
theorem dX13_step_52 : decode cX13_step 52 = .ok (.aload_n 0, 1) := dX13_step_0g.2.2.2.2.2.2.2.2.2.2.2.2.2.2.2
theorem dX13_step_53g : decode cX13_step 53 = .ok (.getfield 222, 3) ∧ decode cX13_step 56 = .ok (.iload_n 1, 1) ∧ decode cX13_step 57 = .ok (.iconst 1, 1) ∧ decode cX13_step 58 = .ok (.iastore, 1) ∧ decode cX13_step 59 = .ok (.aload_n 0, 1) ∧ decode cX13_step 60 = .ok (.aload_n 0, 1) ∧ decode cX13_step 61 = .ok (.getfield 168, 3) ∧ decode cX13_step 64 = .ok (.iload_n 2, 1) ∧ decode cX13_step 65 = .ok (.iaload, 1) ∧ decode cX13_step 66 = .ok (.ldc2_w 404, 3) ∧ decode cX13_step 69 = .ok (.invokevirtual 355, 3) ∧ decode cX13_step 72 = .ok (.ifCond .eq 277, 3) ∧ decode cX13_step 75 = .ok (.aload_n 0, 1) ∧ decode cX13_step 76 = .ok (.aload_n 0, 1) ∧ decode cX13_step 77 = .ok (.aload_n 0, 1) ∧ decode cX13_step 78 = .ok (.aload_n 0, 1) := by decide +kernel
theorem dX13_step_53 : decode cX13_step 53 = .ok (.getfield 222, 3) := dX13_step_53g.1
theorem dX13_step_56 : decode cX13_step 56 = .ok (.iload_n 1, 1) := dX13_step_53g.2.1
theorem dX13_step_57 : decode cX13_step 57 = .ok (.iconst 1, 1) := dX13_step_53g.2.2.1
theorem dX13_step_58 : decode cX13_step 58 = .ok (.iastore, 1) := dX13_step_53g.2.2.2.1
theorem dX13_step_59 : decode cX13_step 59 = .ok (.aload_n 0, 1) := dX13_step_53g.2.2.2.2.1
theorem dX13_step_60 : decode cX13_step 60 = .ok (.aload_n 0, 1) := dX13_step_53g.2.2.2.2.2.1
theorem dX13_step_61 : decode cX13_step 61 = .ok (.getfield 168, 3) := dX13_step_53g.2.2.2.2.2.2.1
theorem dX13_step_64 : decode cX13_step 64 = .ok (.iload_n 2, 1) := dX13_step_53g.2.2.2.2.2.2.2.1
theorem dX13_step_65 : decode cX13_step 65 = .ok (.iaload, 1) := dX13_step_53g.2.2.2.2.2.2.2.2.1
theorem dX13_step_66 : decode cX13_step 66 = .ok (.ldc2_w 404, 3) := dX13_step_53g.2.2.2.2.2.2.2.2.2.1
theorem dX13_step_69 : decode cX13_step 69 = .ok (.invokevirtual 355, 3) := dX13_step_53g.2.2.2.2.2.2.2.2.2.2.1
theorem dX13_step_72 : decode cX13_step 72 = .ok (.ifCond .eq 277, 3) := dX13_step_53g.2.2.2.2.2.2.2.2.2.2.2.1
theorem dX13_step_75 : decode cX13_step 75 = .ok (.aload_n 0, 1) := dX13_step_53g.2.2.2.2.2.2.2.2.2.2.2.2.1
theorem dX13_step_76 : decode cX13_step 76 = .ok (.aload_n 0, 1) := dX13_step_53g.2.2.2.2.2.2.2.2.2.2.2.2.2.1
theorem dX13_step_77 : decode cX13_step 77 = .ok (.aload_n 0, 1) := dX13_step_53g.2.2.2.2.2.2.2.2.2.2.2.2.2.2.1
theorem dX13_step_78 : decode cX13_step 78 = .ok (.aload_n 0, 1) := dX13_step_53g.2.2.2.2.2.2.2.2.2.2.2.2.2.2.2
theorem dX13_step_79g : decode cX13_step 79 = .ok (.getfield 168, 3) ∧ decode cX13_step 82 = .ok (.iload_n 2, 1) ∧ decode cX13_step 83 = .ok (.iaload, 1) ∧ decode cX13_step 84 = .ok (.ldc2_w 404, 3) ∧ decode cX13_step 87 = .ok (.invokevirtual 359, 3) ∧ decode cX13_step 90 = .ok (.invokevirtual 520, 3) ∧ decode cX13_step 93 = .ok (.invokevirtual 523, 3) ∧ decode cX13_step 96 = .ok (.ifCond .eq 253, 3) ∧ decode cX13_step 99 = .ok (.aload_n 0, 1) ∧ decode cX13_step 100 = .ok (.invokevirtual 592, 3) ∧ decode cX13_step 103 = .ok (.goto 246, 3) ∧ decode cX13_step 106 = .ok (.aload_n 0, 1) ∧ decode cX13_step 107 = .ok (.iload_n 2, 1) ∧ decode cX13_step 108 = .ok (.ldc2_w 386, 3) ∧ decode cX13_step 111 = .ok (.invokevirtual 454, 3) ∧ decode cX13_step 114 = .ok (.iconst (-1), 1) := by decide +kernel
theorem dX13_step_79 : decode cX13_step 79 = .ok (.getfield 168, 3) := dX13_step_79g.1
theorem dX13_step_82 : decode cX13_step 82 = .ok (.iload_n 2, 1) := dX13_step_79g.2.1
theorem dX13_step_83 : decode cX13_step 83 = .ok (.iaload, 1) := dX13_step_79g.2.2.1
theorem dX13_step_84 : decode cX13_step 84 = .ok (.ldc2_w 404, 3) := dX13_step_79g.2.2.2.1
theorem dX13_step_87 : decode cX13_step 87 = .ok (.invokevirtual 359, 3) := dX13_step_79g.2.2.2.2.1
theorem dX13_step_90 : decode cX13_step 90 = .ok (.invokevirtual 520, 3) := dX13_step_79g.2.2.2.2.2.1
theorem dX13_step_93 : decode cX13_step 93 = .ok (.invokevirtual 523, 3) := dX13_step_79g.2.2.2.2.2.2.1
theorem dX13_step_96 : decode cX13_step 96 = .ok (.ifCond .eq 253, 3) := dX13_step_79g.2.2.2.2.2.2.2.1
theorem dX13_step_99 : decode cX13_step 99 = .ok (.aload_n 0, 1) := dX13_step_79g.2.2.2.2.2.2.2.2.1
theorem dX13_step_100 : decode cX13_step 100 = .ok (.invokevirtual 592, 3) := dX13_step_79g.2.2.2.2.2.2.2.2.2.1
theorem dX13_step_103 : decode cX13_step 103 = .ok (.goto 246, 3) := dX13_step_79g.2.2.2.2.2.2.2.2.2.2.1
theorem dX13_step_106 : decode cX13_step 106 = .ok (.aload_n 0, 1) := dX13_step_79g.2.2.2.2.2.2.2.2.2.2.2.1
theorem dX13_step_107 : decode cX13_step 107 = .ok (.iload_n 2, 1) := dX13_step_79g.2.2.2.2.2.2.2.2.2.2.2.2.1
theorem dX13_step_108 : decode cX13_step 108 = .ok (.ldc2_w 386, 3) := dX13_step_79g.2.2.2.2.2.2.2.2.2.2.2.2.2.1
theorem dX13_step_111 : decode cX13_step 111 = .ok (.invokevirtual 454, 3) := dX13_step_79g.2.2.2.2.2.2.2.2.2.2.2.2.2.2.1
theorem dX13_step_114 : decode cX13_step 114 = .ok (.iconst (-1), 1) := dX13_step_79g.2.2.2.2.2.2.2.2.2.2.2.2.2.2.2
theorem dX13_step_115g : decode cX13_step 115 = .ok (.if_icmp .ne 20, 3) ∧ decode cX13_step 118 = .ok (.aload_n 0, 1) ∧ decode cX13_step 119 = .ok (.iload_n 2, 1) ∧ decode cX13_step 120 = .ok (.ldc2_w 396, 3) ∧ decode cX13_step 123 = .ok (.invokevirtual 454, 3) ∧ decode cX13_step 126 = .ok (.iconst (-1), 1) ∧ decode cX13_step 127 = .ok (.if_icmp .ne 8, 3) ∧ decode cX13_step 130 = .ok (.aload_n 0, 1) ∧ decode cX13_step 131 = .ok (.iconst 4, 1) ∧ decode cX13_step 132 = .ok (.invokevirtual 504, 3) ∧ decode cX13_step 135 = .ok (.aload_n 0, 1) ∧ decode cX13_step 136 = .ok (.getfield 222, 3) ∧ decode cX13_step 139 = .ok (.iload_n 1, 1) ∧ decode cX13_step 140 = .ok (.iconst 2, 1) ∧ decode cX13_step 141 = .ok (.iastore, 1) ∧ decode cX13_step 142 = .ok (.aload_n 0, 1) := by decide +kernel
theorem dX13_step_115 : decode cX13_step 115 = .ok (.if_icmp .ne 20, 3) := dX13_step_115g.1
theorem dX13_step_118 : decode cX13_step 118 = .ok (.aload_n 0, 1) := dX13_step_115g.2.1
theorem dX13_step_119 : decode cX13_step 119 = .ok (.iload_n 2, 1) := dX13_step_115g.2.2.1
theorem dX13_step_120 : decode cX13_step 120 = .ok (.ldc2_w 396, 3) := dX13_step_115g.2.2.2.1
theorem dX13_step_123 : decode cX13_step 123 = .ok (.invokevirtual 454, 3) := dX13_step_115g.2.2.2.2.1
theorem dX13_step_126 : decode cX13_step 126 = .ok (.iconst (-1), 1) := dX13_step_115g.2.2.2.2.2.1
theorem dX13_step_127 : decode cX13_step 127 = .ok (.if_icmp .ne 8, 3) := dX13_step_115g.2.2.2.2.2.2.1
theorem dX13_step_130 : decode cX13_step 130 = .ok (.aload_n 0, 1) := dX13_step_115g.2.2.2.2.2.2.2.1
theorem dX13_step_131 : decode cX13_step 131 = .ok (.iconst 4, 1) := dX13_step_115g.2.2.2.2.2.2.2.2.1
theorem dX13_step_132 : decode cX13_step 132 = .ok (.invokevirtual 504, 3) := dX13_step_115g.2.2.2.2.2.2.2.2.2.1
theorem dX13_step_135 : decode cX13_step 135 = .ok (.aload_n 0, 1) := dX13_step_115g.2.2.2.2.2.2.2.2.2.2.1
theorem dX13_step_136 : decode cX13_step 136 = .ok (.getfield 222, 3) := dX13_step_115g.2.2.2.2.2.2.2.2.2.2.2.1
theorem dX13_step_139 : decode cX13_step 139 = .ok (.iload_n 1, 1) := dX13_step_115g.2.2.2.2.2.2.2.2.2.2.2.2.1
theorem dX13_step_140 : decode cX13_step 140 = .ok (.iconst 2, 1) := dX13_step_115g.2.2.2.2.2.2.2.2.2.2.2.2.2.1
theorem dX13_step_141 : decode cX13_step 141 = .ok (.iastore, 1) := dX13_step_115g.2.2.2.2.2.2.2.2.2.2.2.2.2.2.1
theorem dX13_step_142 : decode cX13_step 142 = .ok (.aload_n 0, 1) := dX13_step_115g.2.2.2.2.2.2.2.2.2.2.2.2.2.2.2
theorem dX13_step_143g : decode cX13_step 143 = .ok (.getfield 498, 3) ∧ decode cX13_step 146 = .ok (.ifCond .ne 203, 3) ∧ decode cX13_step 149 = .ok (.aload_n 0, 1) ∧ decode cX13_step 150 = .ok (.iload_n 2, 1) ∧ decode cX13_step 151 = .ok (.ldc2_w 396, 3) ∧ decode cX13_step 154 = .ok (.invokevirtual 454, 3) ∧ decode cX13_step 157 = .ok (.iconst (-1), 1) ∧ decode cX13_step 158 = .ok (.if_icmp .eq 191, 3) ∧ decode cX13_step 161 = .ok (.aload_n 0, 1) ∧ decode cX13_step 162 = .ok (.iload_n 2, 1) ∧ decode cX13_step 163 = .ok (.ldc2_w 398, 3) ∧ decode cX13_step 166 = .ok (.invokevirtual 454, 3) ∧ decode cX13_step 169 = .ok (.iconst (-1), 1) ∧ decode cX13_step 170 = .ok (.if_icmp .eq 179, 3) ∧ decode cX13_step 173 = .ok (.aload_n 0, 1) ∧ decode cX13_step 174 = .ok (.aload_n 0, 1) := by decide +kernel
theorem dX13_step_143 : decode cX13_step 143 = .ok (.getfield 498, 3) := dX13_step_143g.1
theorem dX13_step_146 : decode cX13_step 146 = .ok (.ifCond .ne 203, 3) := dX13_step_143g.2.1
theorem dX13_step_149 : decode cX13_step 149 = .ok (.aload_n 0, 1) := dX13_step_143g.2.2.1
theorem dX13_step_150 : decode cX13_step 150 = .ok (.iload_n 2, 1) := dX13_step_143g.2.2.2.1
theorem dX13_step_151 : decode cX13_step 151 = .ok (.ldc2_w 396, 3) := dX13_step_143g.2.2.2.2.1
theorem dX13_step_154 : decode cX13_step 154 = .ok (.invokevirtual 454, 3) := dX13_step_143g.2.2.2.2.2.1
theorem dX13_step_157 : decode cX13_step 157 = .ok (.iconst (-1), 1) := dX13_step_143g.2.2.2.2.2.2.1
theorem dX13_step_158 : decode cX13_step 158 = .ok (.if_icmp .eq 191, 3) := dX13_step_143g.2.2.2.2.2.2.2.1
theorem dX13_step_161 : decode cX13_step 161 = .ok (.aload_n 0, 1) := dX13_step_143g.2.2.2.2.2.2.2.2.1
theorem dX13_step_162 : decode cX13_step 162 = .ok (.iload_n 2, 1) := dX13_step_143g.2.2.2.2.2.2.2.2.2.1
theorem dX13_step_163 : decode cX13_step 163 = .ok (.ldc2_w 398, 3) := dX13_step_143g.2.2.2.2.2.2.2.2.2.2.1
theorem dX13_step_166 : decode cX13_step 166 = .ok (.invokevirtual 454, 3) := dX13_step_143g.2.2.2.2.2.2.2.2.2.2.2.1
theorem dX13_step_169 : decode cX13_step 169 = .ok (.iconst (-1), 1) := dX13_step_143g.2.2.2.2.2.2.2.2.2.2.2.2.1
theorem dX13_step_170 : decode cX13_step 170 = .ok (.if_icmp .eq 179, 3) := dX13_step_143g.2.2.2.2.2.2.2.2.2.2.2.2.2.1
theorem dX13_step_173 : decode cX13_step 173 = .ok (.aload_n 0, 1) := dX13_step_143g.2.2.2.2.2.2.2.2.2.2.2.2.2.2.1
theorem dX13_step_174 : decode cX13_step 174 = .ok (.aload_n 0, 1) := dX13_step_143g.2.2.2.2.2.2.2.2.2.2.2.2.2.2.2
theorem dX13_step_175g : decode cX13_step 175 = .ok (.aload_n 0, 1) ∧ decode cX13_step 176 = .ok (.aload_n 0, 1) ∧ decode cX13_step 177 = .ok (.iload_n 2, 1) ∧ decode cX13_step 178 = .ok (.ldc2_w 396, 3) ∧ decode cX13_step 181 = .ok (.invokevirtual 454, 3) ∧ decode cX13_step 184 = .ok (.ldc2_w 396, 3) ∧ decode cX13_step 187 = .ok (.invokevirtual 359, 3) ∧ decode cX13_step 190 = .ok (.invokevirtual 520, 3) ∧ decode cX13_step 193 = .ok (.invokevirtual 523, 3) ∧ decode cX13_step 196 = .ok (.ifCond .eq 153, 3) ∧ decode cX13_step 199 = .ok (.aload_n 0, 1) ∧ decode cX13_step 200 = .ok (.invokevirtual 592, 3) ∧ decode cX13_step 203 = .ok (.goto 146, 3) ∧ decode cX13_step 206 = .ok (.aload_n 0, 1) ∧ decode cX13_step 207 = .ok (.getfield 222, 3) ∧ decode cX13_step 210 = .ok (.iload_n 1, 1) := by decide +kernel
theorem dX13_step_175 : decode cX13_step 175 = .ok (.aload_n 0, 1) := dX13_step_175g.1
theorem dX13_step_176 : decode cX13_step 176 = .ok (.aload_n 0, 1) := dX13_step_175g.2.1
theorem dX13_step_177 : decode cX13_step 177 = .ok (.iload_n 2, 1) := dX13_step_175g.2.2.1
theorem dX13_step_178 : decode cX13_step 178 = .ok (.ldc2_w 396, 3) := dX13_step_175g.2.2.2.1
theorem dX13_step_181 : decode cX13_step 181 = .ok (.invokevirtual 454, 3) := dX13_step_175g.2.2.2.2.1
theorem dX13_step_184 : decode cX13_step 184 = .ok (.ldc2_w 396, 3) := dX13_step_175g.2.2.2.2.2.1
theorem dX13_step_187 : decode cX13_step 187 = .ok (.invokevirtual 359, 3) := dX13_step_175g.2.2.2.2.2.2.1
theorem dX13_step_190 : decode cX13_step 190 = .ok (.invokevirtual 520, 3) := dX13_step_175g.2.2.2.2.2.2.2.1
theorem dX13_step_193 : decode cX13_step 193 = .ok (.invokevirtual 523, 3) := dX13_step_175g.2.2.2.2.2.2.2.2.1
theorem dX13_step_196 : decode cX13_step 196 = .ok (.ifCond .eq 153, 3) := dX13_step_175g.2.2.2.2.2.2.2.2.2.1
theorem dX13_step_199 : decode cX13_step 199 = .ok (.aload_n 0, 1) := dX13_step_175g.2.2.2.2.2.2.2.2.2.2.1
theorem dX13_step_200 : decode cX13_step 200 = .ok (.invokevirtual 592, 3) := dX13_step_175g.2.2.2.2.2.2.2.2.2.2.2.1
theorem dX13_step_203 : decode cX13_step 203 = .ok (.goto 146, 3) := dX13_step_175g.2.2.2.2.2.2.2.2.2.2.2.2.1
theorem dX13_step_206 : decode cX13_step 206 = .ok (.aload_n 0, 1) := dX13_step_175g.2.2.2.2.2.2.2.2.2.2.2.2.2.1
theorem dX13_step_207 : decode cX13_step 207 = .ok (.getfield 222, 3) := dX13_step_175g.2.2.2.2.2.2.2.2.2.2.2.2.2.2.1
theorem dX13_step_210 : decode cX13_step 210 = .ok (.iload_n 1, 1) := dX13_step_175g.2.2.2.2.2.2.2.2.2.2.2.2.2.2.2
theorem dX13_step_211g : decode cX13_step 211 = .ok (.iconst 3, 1) ∧ decode cX13_step 212 = .ok (.iastore, 1) ∧ decode cX13_step 213 = .ok (.goto 136, 3) ∧ decode cX13_step 216 = .ok (.aload_n 0, 1) ∧ decode cX13_step 217 = .ok (.getfield 225, 3) ∧ decode cX13_step 220 = .ok (.iload_n 1, 1) ∧ decode cX13_step 221 = .ok (.iaload, 1) ∧ decode cX13_step 222 = .ok (.aload_n 0, 1) ∧ decode cX13_step 223 = .ok (.iload_n 2, 1) ∧ decode cX13_step 224 = .ok (.invokevirtual 557, 3) ∧ decode cX13_step 227 = .ok (.if_icmp .ge 36, 3) ∧ decode cX13_step 230 = .ok (.aload_n 0, 1) ∧ decode cX13_step 231 = .ok (.aload_n 0, 1) ∧ decode cX13_step 232 = .ok (.aload_n 0, 1) ∧ decode cX13_step 233 = .ok (.iload_n 2, 1) ∧ decode cX13_step 234 = .ok (.aload_n 0, 1) := by decide +kernel
theorem dX13_step_211 : decode cX13_step 211 = .ok (.iconst 3, 1) := dX13_step_211g.1
theorem dX13_step_212 : decode cX13_step 212 = .ok (.iastore, 1) := dX13_step_211g.2.1
theorem dX13_step_213 : decode cX13_step 213 = .ok (.goto 136, 3) := dX13_step_211g.2.2.1
theorem dX13_step_216 : decode cX13_step 216 = .ok (.aload_n 0, 1) := dX13_step_211g.2.2.2.1
theorem dX13_step_217 : decode cX13_step 217 = .ok (.getfield 225, 3) := dX13_step_211g.2.2.2.2.1
theorem dX13_step_220 : decode cX13_step 220 = .ok (.iload_n 1, 1) := dX13_step_211g.2.2.2.2.2.1
theorem dX13_step_221 : decode cX13_step 221 = .ok (.iaload, 1) := dX13_step_211g.2.2.2.2.2.2.1
theorem dX13_step_222 : decode cX13_step 222 = .ok (.aload_n 0, 1) := dX13_step_211g.2.2.2.2.2.2.2.1
theorem dX13_step_223 : decode cX13_step 223 = .ok (.iload_n 2, 1) := dX13_step_211g.2.2.2.2.2.2.2.2.1
theorem dX13_step_224 : decode cX13_step 224 = .ok (.invokevirtual 557, 3) := dX13_step_211g.2.2.2.2.2.2.2.2.2.1
theorem dX13_step_227 : decode cX13_step 227 = .ok (.if_icmp .ge 36, 3) := dX13_step_211g.2.2.2.2.2.2.2.2.2.2.1
theorem dX13_step_230 : decode cX13_step 230 = .ok (.aload_n 0, 1) := dX13_step_211g.2.2.2.2.2.2.2.2.2.2.2.1
theorem dX13_step_231 : decode cX13_step 231 = .ok (.aload_n 0, 1) := dX13_step_211g.2.2.2.2.2.2.2.2.2.2.2.2.1
theorem dX13_step_232 : decode cX13_step 232 = .ok (.aload_n 0, 1) := dX13_step_211g.2.2.2.2.2.2.2.2.2.2.2.2.2.1
theorem dX13_step_233 : decode cX13_step 233 = .ok (.iload_n 2, 1) := dX13_step_211g.2.2.2.2.2.2.2.2.2.2.2.2.2.2.1
theorem dX13_step_234 : decode cX13_step 234 = .ok (.aload_n 0, 1) := dX13_step_211g.2.2.2.2.2.2.2.2.2.2.2.2.2.2.2
theorem dX13_step_235g : decode cX13_step 235 = .ok (.getfield 225, 3) ∧ decode cX13_step 238 = .ok (.iload_n 1, 1) ∧ decode cX13_step 239 = .ok (.iaload, 1) ∧ decode cX13_step 240 = .ok (.invokevirtual 464, 3) ∧ decode cX13_step 243 = .ok (.iconst 5, 1) ∧ decode cX13_step 244 = .ok (.iload_n 1, 1) ∧ decode cX13_step 245 = .ok (.imul, 1) ∧ decode cX13_step 246 = .ok (.aload_n 0, 1) ∧ decode cX13_step 247 = .ok (.getfield 225, 3) ∧ decode cX13_step 250 = .ok (.iload_n 1, 1) ∧ decode cX13_step 251 = .ok (.iaload, 1) ∧ decode cX13_step 252 = .ok (.iadd, 1) ∧ decode cX13_step 253 = .ok (.invokevirtual 595, 3) ∧ decode cX13_step 256 = .ok (.iload_n 1, 1) ∧ decode cX13_step 257 = .ok (.invokevirtual 598, 3) ∧ decode cX13_step 260 = .ok (.goto 89, 3) := by decide +kernel
theorem dX13_step_235 : decode cX13_step 235 = .ok (.getfield 225, 3) := dX13_step_235g.1
theorem dX13_step_238 : decode cX13_step 238 = .ok (.iload_n 1, 1) := dX13_step_235g.2.1
theorem dX13_step_239 : decode cX13_step 239 = .ok (.iaload, 1) := dX13_step_235g.2.2.1
theorem dX13_step_240 : decode cX13_step 240 = .ok (.invokevirtual 464, 3) := dX13_step_235g.2.2.2.1
theorem dX13_step_243 : decode cX13_step 243 = .ok (.iconst 5, 1) := dX13_step_235g.2.2.2.2.1
theorem dX13_step_244 : decode cX13_step 244 = .ok (.iload_n 1, 1) := dX13_step_235g.2.2.2.2.2.1
theorem dX13_step_245 : decode cX13_step 245 = .ok (.imul, 1) := dX13_step_235g.2.2.2.2.2.2.1
theorem dX13_step_246 : decode cX13_step 246 = .ok (.aload_n 0, 1) := dX13_step_235g.2.2.2.2.2.2.2.1
theorem dX13_step_247 : decode cX13_step 247 = .ok (.getfield 225, 3) := dX13_step_235g.2.2.2.2.2.2.2.2.1
theorem dX13_step_250 : decode cX13_step 250 = .ok (.iload_n 1, 1) := dX13_step_235g.2.2.2.2.2.2.2.2.2.1
theorem dX13_step_251 : decode cX13_step 251 = .ok (.iaload, 1) := dX13_step_235g.2.2.2.2.2.2.2.2.2.2.1
theorem dX13_step_252 : decode cX13_step 252 = .ok (.iadd, 1) := dX13_step_235g.2.2.2.2.2.2.2.2.2.2.2.1
theorem dX13_step_253 : decode cX13_step 253 = .ok (.invokevirtual 595, 3) := dX13_step_235g.2.2.2.2.2.2.2.2.2.2.2.2.1
theorem dX13_step_256 : decode cX13_step 256 = .ok (.iload_n 1, 1) := dX13_step_235g.2.2.2.2.2.2.2.2.2.2.2.2.2.1
theorem dX13_step_257 : decode cX13_step 257 = .ok (.invokevirtual 598, 3) := dX13_step_235g.2.2.2.2.2.2.2.2.2.2.2.2.2.2.1
theorem dX13_step_260 : decode cX13_step 260 = .ok (.goto 89, 3) := dX13_step_235g.2.2.2.2.2.2.2.2.2.2.2.2.2.2.2
theorem dX13_step_263g : decode cX13_step 263 = .ok (.aload_n 0, 1) ∧ decode cX13_step 264 = .ok (.iload_n 2, 1) ∧ decode cX13_step 265 = .ok (.invokevirtual 602, 3) ∧ decode cX13_step 268 = .ok (.aload_n 0, 1) ∧ decode cX13_step 269 = .ok (.getfield 222, 3) ∧ decode cX13_step 272 = .ok (.iload_n 1, 1) ∧ decode cX13_step 273 = .ok (.iconst 4, 1) ∧ decode cX13_step 274 = .ok (.iastore, 1) ∧ decode cX13_step 275 = .ok (.aload_n 0, 1) ∧ decode cX13_step 276 = .ok (.getfield 225, 3) ∧ decode cX13_step 279 = .ok (.iload_n 1, 1) ∧ decode cX13_step 280 = .ok (.iconst 0, 1) ∧ decode cX13_step 281 = .ok (.iastore, 1) ∧ decode cX13_step 282 = .ok (.goto 67, 3) ∧ decode cX13_step 285 = .ok (.aload_n 0, 1) ∧ decode cX13_step 286 = .ok (.getfield 225, 3) := by decide +kernel
theorem dX13_step_263 : decode cX13_step 263 = .ok (.aload_n 0, 1) := dX13_step_263g.1
theorem dX13_step_264 : decode cX13_step 264 = .ok (.iload_n 2, 1) := dX13_step_263g.2.1
theorem dX13_step_265 : decode cX13_step 265 = .ok (.invokevirtual 602, 3) := dX13_step_263g.2.2.1
theorem dX13_step_268 : decode cX13_step 268 = .ok (.aload_n 0, 1) := dX13_step_263g.2.2.2.1
theorem dX13_step_269 : decode cX13_step 269 = .ok (.getfield 222, 3) := dX13_step_263g.2.2.2.2.1
theorem dX13_step_272 : decode cX13_step 272 = .ok (.iload_n 1, 1) := dX13_step_263g.2.2.2.2.2.1
theorem dX13_step_273 : decode cX13_step 273 = .ok (.iconst 4, 1) := dX13_step_263g.2.2.2.2.2.2.1
theorem dX13_step_274 : decode cX13_step 274 = .ok (.iastore, 1) := dX13_step_263g.2.2.2.2.2.2.2.1
theorem dX13_step_275 : decode cX13_step 275 = .ok (.aload_n 0, 1) := dX13_step_263g.2.2.2.2.2.2.2.2.1
theorem dX13_step_276 : decode cX13_step 276 = .ok (.getfield 225, 3) := dX13_step_263g.2.2.2.2.2.2.2.2.2.1
theorem dX13_step_279 : decode cX13_step 279 = .ok (.iload_n 1, 1) := dX13_step_263g.2.2.2.2.2.2.2.2.2.2.1
theorem dX13_step_280 : decode cX13_step 280 = .ok (.iconst 0, 1) := dX13_step_263g.2.2.2.2.2.2.2.2.2.2.2.1
theorem dX13_step_281 : decode cX13_step 281 = .ok (.iastore, 1) := dX13_step_263g.2.2.2.2.2.2.2.2.2.2.2.2.1
theorem dX13_step_282 : decode cX13_step 282 = .ok (.goto 67, 3) := dX13_step_263g.2.2.2.2.2.2.2.2.2.2.2.2.2.1
theorem dX13_step_285 : decode cX13_step 285 = .ok (.aload_n 0, 1) := dX13_step_263g.2.2.2.2.2.2.2.2.2.2.2.2.2.2.1
theorem dX13_step_286 : decode cX13_step 286 = .ok (.getfield 225, 3) := dX13_step_263g.2.2.2.2.2.2.2.2.2.2.2.2.2.2.2
theorem dX13_step_289g : decode cX13_step 289 = .ok (.iload_n 1, 1) ∧ decode cX13_step 290 = .ok (.iaload, 1) ∧ decode cX13_step 291 = .ok (.aload_n 0, 1) ∧ decode cX13_step 292 = .ok (.getfield 174, 3) ∧ decode cX13_step 295 = .ok (.iload_n 2, 1) ∧ decode cX13_step 296 = .ok (.iaload, 1) ∧ decode cX13_step 297 = .ok (.if_icmp .ne 11, 3) ∧ decode cX13_step 300 = .ok (.aload_n 0, 1) ∧ decode cX13_step 301 = .ok (.iload_n 2, 1) ∧ decode cX13_step 302 = .ok (.invokevirtual 605, 3) ∧ decode cX13_step 305 = .ok (.goto 44, 3) ∧ decode cX13_step 308 = .ok (.aload_n 0, 1) ∧ decode cX13_step 309 = .ok (.aload_n 0, 1) ∧ decode cX13_step 310 = .ok (.getfield 177, 3) ∧ decode cX13_step 313 = .ok (.bipush 26, 2) ∧ decode cX13_step 315 = .ok (.iload_n 2, 1) := by decide +kernel
theorem dX13_step_289 : decode cX13_step 289 = .ok (.iload_n 1, 1) := dX13_step_289g.1
theorem dX13_step_290 : decode cX13_step 290 = .ok (.iaload, 1) := dX13_step_289g.2.1
theorem dX13_step_291 : decode cX13_step 291 = .ok (.aload_n 0, 1) := dX13_step_289g.2.2.1
theorem dX13_step_292 : decode cX13_step 292 = .ok (.getfield 174, 3) := dX13_step_289g.2.2.2.1
theorem dX13_step_295 : decode cX13_step 295 = .ok (.iload_n 2, 1) := dX13_step_289g.2.2.2.2.1
theorem dX13_step_296 : decode cX13_step 296 = .ok (.iaload, 1) := dX13_step_289g.2.2.2.2.2.1
theorem dX13_step_297 : decode cX13_step 297 = .ok (.if_icmp .ne 11, 3) := dX13_step_289g.2.2.2.2.2.2.1
theorem dX13_step_300 : decode cX13_step 300 = .ok (.aload_n 0, 1) := dX13_step_289g.2.2.2.2.2.2.2.1
theorem dX13_step_301 : decode cX13_step 301 = .ok (.iload_n 2, 1) := dX13_step_289g.2.2.2.2.2.2.2.2.1
theorem dX13_step_302 : decode cX13_step 302 = .ok (.invokevirtual 605, 3) := dX13_step_289g.2.2.2.2.2.2.2.2.2.1
theorem dX13_step_305 : decode cX13_step 305 = .ok (.goto 44, 3) := dX13_step_289g.2.2.2.2.2.2.2.2.2.2.1
theorem dX13_step_308 : decode cX13_step 308 = .ok (.aload_n 0, 1) := dX13_step_289g.2.2.2.2.2.2.2.2.2.2.2.1
theorem dX13_step_309 : decode cX13_step 309 = .ok (.aload_n 0, 1) := dX13_step_289g.2.2.2.2.2.2.2.2.2.2.2.2.1
theorem dX13_step_310 : decode cX13_step 310 = .ok (.getfield 177, 3) := dX13_step_289g.2.2.2.2.2.2.2.2.2.2.2.2.2.1
theorem dX13_step_313 : decode cX13_step 313 = .ok (.bipush 26, 2) := dX13_step_289g.2.2.2.2.2.2.2.2.2.2.2.2.2.2.1
theorem dX13_step_315 : decode cX13_step 315 = .ok (.iload_n 2, 1) := dX13_step_289g.2.2.2.2.2.2.2.2.2.2.2.2.2.2.2
theorem dX13_step_316g : decode cX13_step 316 = .ok (.imul, 1) ∧ decode cX13_step 317 = .ok (.aload_n 0, 1) ∧ decode cX13_step 318 = .ok (.getfield 225, 3) ∧ decode cX13_step 321 = .ok (.iload_n 1, 1) ∧ decode cX13_step 322 = .ok (.iaload, 1) ∧ decode cX13_step 323 = .ok (.iadd, 1) ∧ decode cX13_step 324 = .ok (.iaload, 1) ∧ decode cX13_step 325 = .ok (.iconst 5, 1) ∧ decode cX13_step 326 = .ok (.iload_n 1, 1) ∧ decode cX13_step 327 = .ok (.imul, 1) ∧ decode cX13_step 328 = .ok (.iconst 4, 1) ∧ decode cX13_step 329 = .ok (.iadd, 1) ∧ decode cX13_step 330 = .ok (.invokevirtual 595, 3) ∧ decode cX13_step 333 = .ok (.istore_n 3, 1) ∧ decode cX13_step 334 = .ok (.iload_n 3, 1) ∧ decode cX13_step 335 = .ok (.ifCond .eq 8, 3) := by decide +kernel
theorem dX13_step_316 : decode cX13_step 316 = .ok (.imul, 1) := dX13_step_316g.1
theorem dX13_step_317 : decode cX13_step 317 = .ok (.aload_n 0, 1) := dX13_step_316g.2.1
theorem dX13_step_318 : decode cX13_step 318 = .ok (.getfield 225, 3) := dX13_step_316g.2.2.1
theorem dX13_step_321 : decode cX13_step 321 = .ok (.iload_n 1, 1) := dX13_step_316g.2.2.2.1
theorem dX13_step_322 : decode cX13_step 322 = .ok (.iaload, 1) := dX13_step_316g.2.2.2.2.1
theorem dX13_step_323 : decode cX13_step 323 = .ok (.iadd, 1) := dX13_step_316g.2.2.2.2.2.1
theorem dX13_step_324 : decode cX13_step 324 = .ok (.iaload, 1) := dX13_step_316g.2.2.2.2.2.2.1
theorem dX13_step_325 : decode cX13_step 325 = .ok (.iconst 5, 1) := dX13_step_316g.2.2.2.2.2.2.2.1
theorem dX13_step_326 : decode cX13_step 326 = .ok (.iload_n 1, 1) := dX13_step_316g.2.2.2.2.2.2.2.2.1
theorem dX13_step_327 : decode cX13_step 327 = .ok (.imul, 1) := dX13_step_316g.2.2.2.2.2.2.2.2.2.1
theorem dX13_step_328 : decode cX13_step 328 = .ok (.iconst 4, 1) := dX13_step_316g.2.2.2.2.2.2.2.2.2.2.1
theorem dX13_step_329 : decode cX13_step 329 = .ok (.iadd, 1) := dX13_step_316g.2.2.2.2.2.2.2.2.2.2.2.1
theorem dX13_step_330 : decode cX13_step 330 = .ok (.invokevirtual 595, 3) := dX13_step_316g.2.2.2.2.2.2.2.2.2.2.2.2.1
theorem dX13_step_333 : decode cX13_step 333 = .ok (.istore_n 3, 1) := dX13_step_316g.2.2.2.2.2.2.2.2.2.2.2.2.2.1
theorem dX13_step_334 : decode cX13_step 334 = .ok (.iload_n 3, 1) := dX13_step_316g.2.2.2.2.2.2.2.2.2.2.2.2.2.2.1
theorem dX13_step_335 : decode cX13_step 335 = .ok (.ifCond .eq 8, 3) := dX13_step_316g.2.2.2.2.2.2.2.2.2.2.2.2.2.2.2
theorem dX13_step_338g : decode cX13_step 338 = .ok (.aload_n 0, 1) ∧ decode cX13_step 339 = .ok (.iload_n 2, 1) ∧ decode cX13_step 340 = .ok (.invokevirtual 608, 3) ∧ decode cX13_step 343 = .ok (.aload_n 0, 1) ∧ decode cX13_step 344 = .ok (.iload_n 3, 1) ∧ decode cX13_step 345 = .ok (.iload_n 1, 1) ∧ decode cX13_step 346 = .ok (.invokevirtual 598, 3) ∧ decode cX13_step 349 = .ok (.return_, 1) := by decide +kernel
theorem dX13_step_338 : decode cX13_step 338 = .ok (.aload_n 0, 1) := dX13_step_338g.1
theorem dX13_step_339 : decode cX13_step 339 = .ok (.iload_n 2, 1) := dX13_step_338g.2.1
theorem dX13_step_340 : decode cX13_step 340 = .ok (.invokevirtual 608, 3) := dX13_step_338g.2.2.1
theorem dX13_step_343 : decode cX13_step 343 = .ok (.aload_n 0, 1) := dX13_step_338g.2.2.2.1
theorem dX13_step_344 : decode cX13_step 344 = .ok (.iload_n 3, 1) := dX13_step_338g.2.2.2.2.1
theorem dX13_step_345 : decode cX13_step 345 = .ok (.iload_n 1, 1) := dX13_step_338g.2.2.2.2.2.1
theorem dX13_step_346 : decode cX13_step 346 = .ok (.invokevirtual 598, 3) := dX13_step_338g.2.2.2.2.2.2.1
theorem dX13_step_349 : decode cX13_step 349 = .ok (.return_, 1) := dX13_step_338g.2.2.2.2.2.2.2
theorem dX13_next_0g : decode cX13_next 0 = .ok (.iload_n 1, 1) ∧ decode cX13_next 1 = .ok (.ifCond .ne 4, 3) ∧ decode cX13_next 4 = .ok (.return_, 1) ∧ decode cX13_next 5 = .ok (.aload_n 0, 1) ∧ decode cX13_next 6 = .ok (.getfield 225, 3) ∧ decode cX13_next 9 = .ok (.iload_n 2, 1) ∧ decode cX13_next 10 = .ok (.dup2, 1) ∧ decode cX13_next 11 = .ok (.iaload, 1) ∧ decode cX13_next 12 = .ok (.iconst 1, 1) ∧ decode cX13_next 13 = .ok (.iadd, 1) ∧ decode cX13_next 14 = .ok (.iastore, 1) ∧ decode cX13_next 15 = .ok (.aload_n 0, 1) ∧ decode cX13_next 16 = .ok (.getfield 228, 3) ∧ decode cX13_next 19 = .ok (.iload_n 2, 1) ∧ decode cX13_next 20 = .ok (.iconst 0, 1) ∧ decode cX13_next 21 = .ok (.iastore, 1) := by decide +kernel
theorem dX13_next_0 : decode cX13_next 0 = .ok (.iload_n 1, 1) := dX13_next_0g.1
theorem dX13_next_1 : decode cX13_next 1 = .ok (.ifCond .ne 4, 3) := dX13_next_0g.2.1
theorem dX13_next_4 : decode cX13_next 4 = .ok (.return_, 1) := dX13_next_0g.2.2.1
theorem dX13_next_5 : decode cX13_next 5 = .ok (.aload_n 0, 1) := dX13_next_0g.2.2.2.1
theorem dX13_next_6 : decode cX13_next 6 = .ok (.getfield 225, 3) := dX13_next_0g.2.2.2.2.1
theorem dX13_next_9 : decode cX13_next 9 = .ok (.iload_n 2, 1) := dX13_next_0g.2.2.2.2.2.1
theorem dX13_next_10 : decode cX13_next 10 = .ok (.dup2, 1) := dX13_next_0g.2.2.2.2.2.2.1
theorem dX13_next_11 : decode cX13_next 11 = .ok (.iaload, 1) := dX13_next_0g.2.2.2.2.2.2.2.1
theorem dX13_next_12 : decode cX13_next 12 = .ok (.iconst 1, 1) := dX13_next_0g.2.2.2.2.2.2.2.2.1
theorem dX13_next_13 : decode cX13_next 13 = .ok (.iadd, 1) := dX13_next_0g.2.2.2.2.2.2.2.2.2.1
theorem dX13_next_14 : decode cX13_next 14 = .ok (.iastore, 1) := dX13_next_0g.2.2.2.2.2.2.2.2.2.2.1
theorem dX13_next_15 : decode cX13_next 15 = .ok (.aload_n 0, 1) := dX13_next_0g.2.2.2.2.2.2.2.2.2.2.2.1
theorem dX13_next_16 : decode cX13_next 16 = .ok (.getfield 228, 3) := dX13_next_0g.2.2.2.2.2.2.2.2.2.2.2.2.1
theorem dX13_next_19 : decode cX13_next 19 = .ok (.iload_n 2, 1) := dX13_next_0g.2.2.2.2.2.2.2.2.2.2.2.2.2.1
theorem dX13_next_20 : decode cX13_next 20 = .ok (.iconst 0, 1) := dX13_next_0g.2.2.2.2.2.2.2.2.2.2.2.2.2.2.1
theorem dX13_next_21 : decode cX13_next 21 = .ok (.iastore, 1) := dX13_next_0g.2.2.2.2.2.2.2.2.2.2.2.2.2.2.2
theorem dX13_next_22 : decode cX13_next 22 = .ok (.return_, 1) := by decide +kernel
theorem dX13_run_0g : decode cX13_run 0 = .ok (.aload_n 0, 1) ∧ decode cX13_run 1 = .ok (.iconst 0, 1) ∧ decode cX13_run 2 = .ok (.putfield 501, 3) ∧ decode cX13_run 5 = .ok (.aload_n 0, 1) ∧ decode cX13_run 6 = .ok (.iload_n 1, 1) ∧ decode cX13_run 7 = .ok (.invokevirtual 523, 3) ∧ decode cX13_run 10 = .ok (.istore_n 2, 1) ∧ decode cX13_run 11 = .ok (.iload_n 2, 1) ∧ decode cX13_run 12 = .ok (.ifCond .ne 24, 3) ∧ decode cX13_run 15 = .ok (.aload_n 0, 1) ∧ decode cX13_run 16 = .ok (.getfield 501, 3) ∧ decode cX13_run 19 = .ok (.ifCond .le 17, 3) ∧ decode cX13_run 22 = .ok (.aload_n 0, 1) ∧ decode cX13_run 23 = .ok (.getfield 498, 3) ∧ decode cX13_run 26 = .ok (.ifCond .ne 10, 3) ∧ decode cX13_run 29 = .ok (.aload_n 0, 1) := by decide +kernel
theorem dX13_run_0 : decode cX13_run 0 = .ok (.aload_n 0, 1) := dX13_run_0g.1
theorem dX13_run_1 : decode cX13_run 1 = .ok (.iconst 0, 1) := dX13_run_0g.2.1
theorem dX13_run_2 : decode cX13_run 2 = .ok (.putfield 501, 3) := dX13_run_0g.2.2.1
theorem dX13_run_5 : decode cX13_run 5 = .ok (.aload_n 0, 1) := dX13_run_0g.2.2.2.1
theorem dX13_run_6 : decode cX13_run 6 = .ok (.iload_n 1, 1) := dX13_run_0g.2.2.2.2.1
theorem dX13_run_7 : decode cX13_run 7 = .ok (.invokevirtual 523, 3) := dX13_run_0g.2.2.2.2.2.1
theorem dX13_run_10 : decode cX13_run 10 = .ok (.istore_n 2, 1) := dX13_run_0g.2.2.2.2.2.2.1
theorem dX13_run_11 : decode cX13_run 11 = .ok (.iload_n 2, 1) := dX13_run_0g.2.2.2.2.2.2.2.1
theorem dX13_run_12 : decode cX13_run 12 = .ok (.ifCond .ne 24, 3) := dX13_run_0g.2.2.2.2.2.2.2.2.1
theorem dX13_run_15 : decode cX13_run 15 = .ok (.aload_n 0, 1) := dX13_run_0g.2.2.2.2.2.2.2.2.2.1
theorem dX13_run_16 : decode cX13_run 16 = .ok (.getfield 501, 3) := dX13_run_0g.2.2.2.2.2.2.2.2.2.2.1
theorem dX13_run_19 : decode cX13_run 19 = .ok (.ifCond .le 17, 3) := dX13_run_0g.2.2.2.2.2.2.2.2.2.2.2.1
theorem dX13_run_22 : decode cX13_run 22 = .ok (.aload_n 0, 1) := dX13_run_0g.2.2.2.2.2.2.2.2.2.2.2.2.1
theorem dX13_run_23 : decode cX13_run 23 = .ok (.getfield 498, 3) := dX13_run_0g.2.2.2.2.2.2.2.2.2.2.2.2.2.1
theorem dX13_run_26 : decode cX13_run 26 = .ok (.ifCond .ne 10, 3) := dX13_run_0g.2.2.2.2.2.2.2.2.2.2.2.2.2.2.1
theorem dX13_run_29 : decode cX13_run 29 = .ok (.aload_n 0, 1) := dX13_run_0g.2.2.2.2.2.2.2.2.2.2.2.2.2.2.2
theorem dX13_run_30g : decode cX13_run 30 = .ok (.invokevirtual 611, 3) ∧ decode cX13_run 33 = .ok (.goto (-22), 3) ∧ decode cX13_run 36 = .ok (.aload_n 0, 1) ∧ decode cX13_run 37 = .ok (.getfield 498, 3) ∧ decode cX13_run 40 = .ok (.ifCond .ne 5, 3) ∧ decode cX13_run 43 = .ok (.iconst 1, 1) ∧ decode cX13_run 44 = .ok (.ireturn, 1) ∧ decode cX13_run 45 = .ok (.aload_n 0, 1) ∧ decode cX13_run 46 = .ok (.iconst 0, 1) ∧ decode cX13_run 47 = .ok (.putfield 501, 3) ∧ decode cX13_run 50 = .ok (.iconst 0, 1) ∧ decode cX13_run 51 = .ok (.istore_n 3, 1) ∧ decode cX13_run 52 = .ok (.iload_n 3, 1) ∧ decode cX13_run 53 = .ok (.aload_n 0, 1) ∧ decode cX13_run 54 = .ok (.getfield 439, 3) ∧ decode cX13_run 57 = .ok (.if_icmp .ge 35, 3) := by decide +kernel
theorem dX13_run_30 : decode cX13_run 30 = .ok (.invokevirtual 611, 3) := dX13_run_30g.1
theorem dX13_run_33 : decode cX13_run 33 = .ok (.goto (-22), 3) := dX13_run_30g.2.1
theorem dX13_run_36 : decode cX13_run 36 = .ok (.aload_n 0, 1) := dX13_run_30g.2.2.1
theorem dX13_run_37 : decode cX13_run 37 = .ok (.getfield 498, 3) := dX13_run_30g.2.2.2.1
theorem dX13_run_40 : decode cX13_run 40 = .ok (.ifCond .ne 5, 3) := dX13_run_30g.2.2.2.2.1
theorem dX13_run_43 : decode cX13_run 43 = .ok (.iconst 1, 1) := dX13_run_30g.2.2.2.2.2.1
theorem dX13_run_44 : decode cX13_run 44 = .ok (.ireturn, 1) := dX13_run_30g.2.2.2.2.2.2.1
theorem dX13_run_45 : decode cX13_run 45 = .ok (.aload_n 0, 1) := dX13_run_30g.2.2.2.2.2.2.2.1
theorem dX13_run_46 : decode cX13_run 46 = .ok (.iconst 0, 1) := dX13_run_30g.2.2.2.2.2.2.2.2.1
theorem dX13_run_47 : decode cX13_run 47 = .ok (.putfield 501, 3) := dX13_run_30g.2.2.2.2.2.2.2.2.2.1
theorem dX13_run_50 : decode cX13_run 50 = .ok (.iconst 0, 1) := dX13_run_30g.2.2.2.2.2.2.2.2.2.2.1
theorem dX13_run_51 : decode cX13_run 51 = .ok (.istore_n 3, 1) := dX13_run_30g.2.2.2.2.2.2.2.2.2.2.2.1
theorem dX13_run_52 : decode cX13_run 52 = .ok (.iload_n 3, 1) := dX13_run_30g.2.2.2.2.2.2.2.2.2.2.2.2.1
theorem dX13_run_53 : decode cX13_run 53 = .ok (.aload_n 0, 1) := dX13_run_30g.2.2.2.2.2.2.2.2.2.2.2.2.2.1
theorem dX13_run_54 : decode cX13_run 54 = .ok (.getfield 439, 3) := dX13_run_30g.2.2.2.2.2.2.2.2.2.2.2.2.2.2.1
theorem dX13_run_57 : decode cX13_run 57 = .ok (.if_icmp .ge 35, 3) := dX13_run_30g.2.2.2.2.2.2.2.2.2.2.2.2.2.2.2
theorem dX13_run_60g : decode cX13_run 60 = .ok (.aload_n 0, 1) ∧ decode cX13_run 61 = .ok (.getfield 216, 3) ∧ decode cX13_run 64 = .ok (.iload_n 3, 1) ∧ decode cX13_run 65 = .ok (.baload, 1) ∧ decode cX13_run 66 = .ok (.ifCond .ne 6, 3) ∧ decode cX13_run 69 = .ok (.goto 17, 3) ∧ decode cX13_run 72 = .ok (.aload_n 0, 1) ∧ decode cX13_run 73 = .ok (.getfield 216, 3) ∧ decode cX13_run 76 = .ok (.iload_n 3, 1) ∧ decode cX13_run 77 = .ok (.iconst 0, 1) ∧ decode cX13_run 78 = .ok (.bastore, 1) ∧ decode cX13_run 79 = .ok (.aload_n 0, 1) ∧ decode cX13_run 80 = .ok (.getfield 210, 3) ∧ decode cX13_run 83 = .ok (.iload_n 3, 1) ∧ decode cX13_run 84 = .ok (.iconst (-1), 1) ∧ decode cX13_run 85 = .ok (.iastore, 1) := by decide +kernel
theorem dX13_run_60 : decode cX13_run 60 = .ok (.aload_n 0, 1) := dX13_run_60g.1
theorem dX13_run_61 : decode cX13_run 61 = .ok (.getfield 216, 3) := dX13_run_60g.2.1
theorem dX13_run_64 : decode cX13_run 64 = .ok (.iload_n 3, 1) := dX13_run_60g.2.2.1
theorem dX13_run_65 : decode cX13_run 65 = .ok (.baload, 1) := dX13_run_60g.2.2.2.1
theorem dX13_run_66 : decode cX13_run 66 = .ok (.ifCond .ne 6, 3) := dX13_run_60g.2.2.2.2.1
theorem dX13_run_69 : decode cX13_run 69 = .ok (.goto 17, 3) := dX13_run_60g.2.2.2.2.2.1
theorem dX13_run_72 : decode cX13_run 72 = .ok (.aload_n 0, 1) := dX13_run_60g.2.2.2.2.2.2.1
theorem dX13_run_73 : decode cX13_run 73 = .ok (.getfield 216, 3) := dX13_run_60g.2.2.2.2.2.2.2.1
theorem dX13_run_76 : decode cX13_run 76 = .ok (.iload_n 3, 1) := dX13_run_60g.2.2.2.2.2.2.2.2.1
theorem dX13_run_77 : decode cX13_run 77 = .ok (.iconst 0, 1) := dX13_run_60g.2.2.2.2.2.2.2.2.2.1
theorem dX13_run_78 : decode cX13_run 78 = .ok (.bastore, 1) := dX13_run_60g.2.2.2.2.2.2.2.2.2.2.1
theorem dX13_run_79 : decode cX13_run 79 = .ok (.aload_n 0, 1) := dX13_run_60g.2.2.2.2.2.2.2.2.2.2.2.1
theorem dX13_run_80 : decode cX13_run 80 = .ok (.getfield 210, 3) := dX13_run_60g.2.2.2.2.2.2.2.2.2.2.2.2.1
theorem dX13_run_83 : decode cX13_run 83 = .ok (.iload_n 3, 1) := dX13_run_60g.2.2.2.2.2.2.2.2.2.2.2.2.2.1
theorem dX13_run_84 : decode cX13_run 84 = .ok (.iconst (-1), 1) := dX13_run_60g.2.2.2.2.2.2.2.2.2.2.2.2.2.2.1
theorem dX13_run_85 : decode cX13_run 85 = .ok (.iastore, 1) := dX13_run_60g.2.2.2.2.2.2.2.2.2.2.2.2.2.2.2
theorem dX13_run_86g : decode cX13_run 86 = .ok (.iinc 3 1, 3) ∧ decode cX13_run 89 = .ok (.goto (-37), 3) ∧ decode cX13_run 92 = .ok (.iconst 0, 1) ∧ decode cX13_run 93 = .ok (.ireturn, 1) := by decide +kernel
theorem dX13_run_86 : decode cX13_run 86 = .ok (.iinc 3 1, 3) := dX13_run_86g.1
theorem dX13_run_89 : decode cX13_run 89 = .ok (.goto (-37), 3) := dX13_run_86g.2.1
theorem dX13_run_92 : decode cX13_run 92 = .ok (.iconst 0, 1) := dX13_run_86g.2.2.1
theorem dX13_run_93 : decode cX13_run 93 = .ok (.ireturn, 1) := dX13_run_86g.2.2.2
theorem dX13_refresh_0g : decode cX13_refresh 0 = .ok (.aload_n 0, 1) ∧ decode cX13_refresh 1 = .ok (.iconst 0, 1) ∧ decode cX13_refresh 2 = .ok (.putfield 498, 3) ∧ decode cX13_refresh 5 = .ok (.aload_n 0, 1) ∧ decode cX13_refresh 6 = .ok (.iconst (-1), 1) ∧ decode cX13_refresh 7 = .ok (.putfield 186, 3) ∧ decode cX13_refresh 10 = .ok (.aload_n 0, 1) ∧ decode cX13_refresh 11 = .ok (.aload_n 0, 1) ∧ decode cX13_refresh 12 = .ok (.getfield 477, 3) ∧ decode cX13_refresh 15 = .ok (.ifCond .eq 7, 3) ∧ decode cX13_refresh 18 = .ok (.iconst 0, 1) ∧ decode cX13_refresh 19 = .ok (.goto 4, 3) ∧ decode cX13_refresh 22 = .ok (.iconst 1, 1) ∧ decode cX13_refresh 23 = .ok (.putfield 252, 3) ∧ decode cX13_refresh 26 = .ok (.aload_n 0, 1) ∧ decode cX13_refresh 27 = .ok (.getfield 252, 3) := by decide +kernel
theorem dX13_refresh_0 : decode cX13_refresh 0 = .ok (.aload_n 0, 1) := dX13_refresh_0g.1
theorem dX13_refresh_1 : decode cX13_refresh 1 = .ok (.iconst 0, 1) := dX13_refresh_0g.2.1
theorem dX13_refresh_2 : decode cX13_refresh 2 = .ok (.putfield 498, 3) := dX13_refresh_0g.2.2.1
theorem dX13_refresh_5 : decode cX13_refresh 5 = .ok (.aload_n 0, 1) := dX13_refresh_0g.2.2.2.1
theorem dX13_refresh_6 : decode cX13_refresh 6 = .ok (.iconst (-1), 1) := dX13_refresh_0g.2.2.2.2.1
theorem dX13_refresh_7 : decode cX13_refresh 7 = .ok (.putfield 186, 3) := dX13_refresh_0g.2.2.2.2.2.1
theorem dX13_refresh_10 : decode cX13_refresh 10 = .ok (.aload_n 0, 1) := dX13_refresh_0g.2.2.2.2.2.2.1
theorem dX13_refresh_11 : decode cX13_refresh 11 = .ok (.aload_n 0, 1) := dX13_refresh_0g.2.2.2.2.2.2.2.1
theorem dX13_refresh_12 : decode cX13_refresh 12 = .ok (.getfield 477, 3) := dX13_refresh_0g.2.2.2.2.2.2.2.2.1
theorem dX13_refresh_15 : decode cX13_refresh 15 = .ok (.ifCond .eq 7, 3) := dX13_refresh_0g.2.2.2.2.2.2.2.2.2.1
theorem dX13_refresh_18 : decode cX13_refresh 18 = .ok (.iconst 0, 1) := dX13_refresh_0g.2.2.2.2.2.2.2.2.2.2.1
theorem dX13_refresh_19 : decode cX13_refresh 19 = .ok (.goto 4, 3) := dX13_refresh_0g.2.2.2.2.2.2.2.2.2.2.2.1
theorem dX13_refresh_22 : decode cX13_refresh 22 = .ok (.iconst 1, 1) := dX13_refresh_0g.2.2.2.2.2.2.2.2.2.2.2.2.1
theorem dX13_refresh_23 : decode cX13_refresh 23 = .ok (.putfield 252, 3) := dX13_refresh_0g.2.2.2.2.2.2.2.2.2.2.2.2.2.1
theorem dX13_refresh_26 : decode cX13_refresh 26 = .ok (.aload_n 0, 1) := dX13_refresh_0g.2.2.2.2.2.2.2.2.2.2.2.2.2.2.1
theorem dX13_refresh_27 : decode cX13_refresh 27 = .ok (.getfield 252, 3) := dX13_refresh_0g.2.2.2.2.2.2.2.2.2.2.2.2.2.2.2
theorem dX13_refresh_30g : decode cX13_refresh 30 = .ok (.ifCond .le 5, 3) ∧ decode cX13_refresh 33 = .ok (.iconst 0, 1) ∧ decode cX13_refresh 34 = .ok (.ireturn, 1) ∧ decode cX13_refresh 35 = .ok (.aload_n 0, 1) ∧ decode cX13_refresh 36 = .ok (.invokevirtual 483, 3) ∧ decode cX13_refresh 39 = .ok (.iconst 1, 1) ∧ decode cX13_refresh 40 = .ok (.istore_n 1, 1) ∧ decode cX13_refresh 41 = .ok (.iconst 0, 1) ∧ decode cX13_refresh 42 = .ok (.istore_n 2, 1) ∧ decode cX13_refresh 43 = .ok (.iload_n 2, 1) ∧ decode cX13_refresh 44 = .ok (.aload_n 0, 1) ∧ decode cX13_refresh 45 = .ok (.getfield 439, 3) ∧ decode cX13_refresh 48 = .ok (.if_icmp .ge 69, 3) ∧ decode cX13_refresh 51 = .ok (.iload_n 1, 1) ∧ decode cX13_refresh 52 = .ok (.ifCond .eq 65, 3) ∧ decode cX13_refresh 55 = .ok (.aload_n 0, 1) := by decide +kernel
theorem dX13_refresh_30 : decode cX13_refresh 30 = .ok (.ifCond .le 5, 3) := dX13_refresh_30g.1
theorem dX13_refresh_33 : decode cX13_refresh 33 = .ok (.iconst 0, 1) := dX13_refresh_30g.2.1
theorem dX13_refresh_34 : decode cX13_refresh 34 = .ok (.ireturn, 1) := dX13_refresh_30g.2.2.1
theorem dX13_refresh_35 : decode cX13_refresh 35 = .ok (.aload_n 0, 1) := dX13_refresh_30g.2.2.2.1
theorem dX13_refresh_36 : decode cX13_refresh 36 = .ok (.invokevirtual 483, 3) := dX13_refresh_30g.2.2.2.2.1
theorem dX13_refresh_39 : decode cX13_refresh 39 = .ok (.iconst 1, 1) := dX13_refresh_30g.2.2.2.2.2.1
theorem dX13_refresh_40 : decode cX13_refresh 40 = .ok (.istore_n 1, 1) := dX13_refresh_30g.2.2.2.2.2.2.1
theorem dX13_refresh_41 : decode cX13_refresh 41 = .ok (.iconst 0, 1) := dX13_refresh_30g.2.2.2.2.2.2.2.1
theorem dX13_refresh_42 : decode cX13_refresh 42 = .ok (.istore_n 2, 1) := dX13_refresh_30g.2.2.2.2.2.2.2.2.1
theorem dX13_refresh_43 : decode cX13_refresh 43 = .ok (.iload_n 2, 1) := dX13_refresh_30g.2.2.2.2.2.2.2.2.2.1
theorem dX13_refresh_44 : decode cX13_refresh 44 = .ok (.aload_n 0, 1) := dX13_refresh_30g.2.2.2.2.2.2.2.2.2.2.1
theorem dX13_refresh_45 : decode cX13_refresh 45 = .ok (.getfield 439, 3) := dX13_refresh_30g.2.2.2.2.2.2.2.2.2.2.2.1
theorem dX13_refresh_48 : decode cX13_refresh 48 = .ok (.if_icmp .ge 69, 3) := dX13_refresh_30g.2.2.2.2.2.2.2.2.2.2.2.2.1
theorem dX13_refresh_51 : decode cX13_refresh 51 = .ok (.iload_n 1, 1) := dX13_refresh_30g.2.2.2.2.2.2.2.2.2.2.2.2.2.1
theorem dX13_refresh_52 : decode cX13_refresh 52 = .ok (.ifCond .eq 65, 3) := dX13_refresh_30g.2.2.2.2.2.2.2.2.2.2.2.2.2.2.1
theorem dX13_refresh_55 : decode cX13_refresh 55 = .ok (.aload_n 0, 1) := dX13_refresh_30g.2.2.2.2.2.2.2.2.2.2.2.2.2.2.2
theorem dX13_refresh_56g : decode cX13_refresh 56 = .ok (.getfield 168, 3) ∧ decode cX13_refresh 59 = .ok (.iload_n 2, 1) ∧ decode cX13_refresh 60 = .ok (.iaload, 1) ∧ decode cX13_refresh 61 = .ok (.istore_n 3, 1) ∧ decode cX13_refresh 62 = .ok (.aload_n 0, 1) ∧ decode cX13_refresh 63 = .ok (.getfield 132, 3) ∧ decode cX13_refresh 66 = .ok (.iload_n 3, 1) ∧ decode cX13_refresh 67 = .ok (.iaload, 1) ∧ decode cX13_refresh 68 = .ok (.ifCond .ne 43, 3) ∧ decode cX13_refresh 71 = .ok (.aload_n 0, 1) ∧ decode cX13_refresh 72 = .ok (.iload_n 2, 1) ∧ decode cX13_refresh 73 = .ok (.invokevirtual 507, 3) ∧ decode cX13_refresh 76 = .ok (.ifCond .ne 35, 3) ∧ decode cX13_refresh 79 = .ok (.aload_n 0, 1) ∧ decode cX13_refresh 80 = .ok (.iload_n 2, 1) ∧ decode cX13_refresh 81 = .ok (.invokevirtual 510, 3) := by decide +kernel
theorem dX13_refresh_56 : decode cX13_refresh 56 = .ok (.getfield 168, 3) := dX13_refresh_56g.1
theorem dX13_refresh_59 : decode cX13_refresh 59 = .ok (.iload_n 2, 1) := dX13_refresh_56g.2.1
theorem dX13_refresh_60 : decode cX13_refresh 60 = .ok (.iaload, 1) := dX13_refresh_56g.2.2.1
theorem dX13_refresh_61 : decode cX13_refresh 61 = .ok (.istore_n 3, 1) := dX13_refresh_56g.2.2.2.1
theorem dX13_refresh_62 : decode cX13_refresh 62 = .ok (.aload_n 0, 1) := dX13_refresh_56g.2.2.2.2.1
theorem dX13_refresh_63 : decode cX13_refresh 63 = .ok (.getfield 132, 3) := dX13_refresh_56g.2.2.2.2.2.1
theorem dX13_refresh_66 : decode cX13_refresh 66 = .ok (.iload_n 3, 1) := dX13_refresh_56g.2.2.2.2.2.2.1
theorem dX13_refresh_67 : decode cX13_refresh 67 = .ok (.iaload, 1) := dX13_refresh_56g.2.2.2.2.2.2.2.1
theorem dX13_refresh_68 : decode cX13_refresh 68 = .ok (.ifCond .ne 43, 3) := dX13_refresh_56g.2.2.2.2.2.2.2.2.1
theorem dX13_refresh_71 : decode cX13_refresh 71 = .ok (.aload_n 0, 1) := dX13_refresh_56g.2.2.2.2.2.2.2.2.2.1
theorem dX13_refresh_72 : decode cX13_refresh 72 = .ok (.iload_n 2, 1) := dX13_refresh_56g.2.2.2.2.2.2.2.2.2.2.1
theorem dX13_refresh_73 : decode cX13_refresh 73 = .ok (.invokevirtual 507, 3) := dX13_refresh_56g.2.2.2.2.2.2.2.2.2.2.2.1
theorem dX13_refresh_76 : decode cX13_refresh 76 = .ok (.ifCond .ne 35, 3) := dX13_refresh_56g.2.2.2.2.2.2.2.2.2.2.2.2.1
theorem dX13_refresh_79 : decode cX13_refresh 79 = .ok (.aload_n 0, 1) := dX13_refresh_56g.2.2.2.2.2.2.2.2.2.2.2.2.2.1
theorem dX13_refresh_80 : decode cX13_refresh 80 = .ok (.iload_n 2, 1) := dX13_refresh_56g.2.2.2.2.2.2.2.2.2.2.2.2.2.2.1
theorem dX13_refresh_81 : decode cX13_refresh 81 = .ok (.invokevirtual 510, 3) := dX13_refresh_56g.2.2.2.2.2.2.2.2.2.2.2.2.2.2.2
theorem dX13_refresh_84g : decode cX13_refresh 84 = .ok (.ifCond .ne 27, 3) ∧ decode cX13_refresh 87 = .ok (.aload_n 0, 1) ∧ decode cX13_refresh 88 = .ok (.iload_n 3, 1) ∧ decode cX13_refresh 89 = .ok (.ldc2_w 394, 3) ∧ decode cX13_refresh 92 = .ok (.invokevirtual 359, 3) ∧ decode cX13_refresh 95 = .ok (.aload_n 0, 1) ∧ decode cX13_refresh 96 = .ok (.getfield 55, 3) ∧ decode cX13_refresh 99 = .ok (.iconst 0, 1) ∧ decode cX13_refresh 100 = .ok (.laload, 1) ∧ decode cX13_refresh 101 = .ok (.lcmp, 1) ∧ decode cX13_refresh 102 = .ok (.ifCond .eq 9, 3) ∧ decode cX13_refresh 105 = .ok (.aload_n 0, 1) ∧ decode cX13_refresh 106 = .ok (.iload_n 2, 1) ∧ decode cX13_refresh 107 = .ok (.invokevirtual 614, 3) ∧ decode cX13_refresh 110 = .ok (.istore_n 1, 1) ∧ decode cX13_refresh 111 = .ok (.iinc 2 1, 3) := by decide +kernel
theorem dX13_refresh_84 : decode cX13_refresh 84 = .ok (.ifCond .ne 27, 3) := dX13_refresh_84g.1
theorem dX13_refresh_87 : decode cX13_refresh 87 = .ok (.aload_n 0, 1) := dX13_refresh_84g.2.1
theorem dX13_refresh_88 : decode cX13_refresh 88 = .ok (.iload_n 3, 1) := dX13_refresh_84g.2.2.1
theorem dX13_refresh_89 : decode cX13_refresh 89 = .ok (.ldc2_w 394, 3) := dX13_refresh_84g.2.2.2.1
theorem dX13_refresh_92 : decode cX13_refresh 92 = .ok (.invokevirtual 359, 3) := dX13_refresh_84g.2.2.2.2.1
theorem dX13_refresh_95 : decode cX13_refresh 95 = .ok (.aload_n 0, 1) := dX13_refresh_84g.2.2.2.2.2.1
theorem dX13_refresh_96 : decode cX13_refresh 96 = .ok (.getfield 55, 3) := dX13_refresh_84g.2.2.2.2.2.2.1
theorem dX13_refresh_99 : decode cX13_refresh 99 = .ok (.iconst 0, 1) := dX13_refresh_84g.2.2.2.2.2.2.2.1
theorem dX13_refresh_100 : decode cX13_refresh 100 = .ok (.laload, 1) := dX13_refresh_84g.2.2.2.2.2.2.2.2.1
theorem dX13_refresh_101 : decode cX13_refresh 101 = .ok (.lcmp, 1) := dX13_refresh_84g.2.2.2.2.2.2.2.2.2.1
theorem dX13_refresh_102 : decode cX13_refresh 102 = .ok (.ifCond .eq 9, 3) := dX13_refresh_84g.2.2.2.2.2.2.2.2.2.2.1
theorem dX13_refresh_105 : decode cX13_refresh 105 = .ok (.aload_n 0, 1) := dX13_refresh_84g.2.2.2.2.2.2.2.2.2.2.2.1
theorem dX13_refresh_106 : decode cX13_refresh 106 = .ok (.iload_n 2, 1) := dX13_refresh_84g.2.2.2.2.2.2.2.2.2.2.2.2.1
theorem dX13_refresh_107 : decode cX13_refresh 107 = .ok (.invokevirtual 614, 3) := dX13_refresh_84g.2.2.2.2.2.2.2.2.2.2.2.2.2.1
theorem dX13_refresh_110 : decode cX13_refresh 110 = .ok (.istore_n 1, 1) := dX13_refresh_84g.2.2.2.2.2.2.2.2.2.2.2.2.2.2.1
theorem dX13_refresh_111 : decode cX13_refresh 111 = .ok (.iinc 2 1, 3) := dX13_refresh_84g.2.2.2.2.2.2.2.2.2.2.2.2.2.2.2
theorem dX13_refresh_114g : decode cX13_refresh 114 = .ok (.goto (-71), 3) ∧ decode cX13_refresh 117 = .ok (.iload_n 1, 1) ∧ decode cX13_refresh 118 = .ok (.ifCond .ne 7, 3) ∧ decode cX13_refresh 121 = .ok (.aload_n 0, 1) ∧ decode cX13_refresh 122 = .ok (.invokevirtual 617, 3) ∧ decode cX13_refresh 125 = .ok (.aload_n 0, 1) ∧ decode cX13_refresh 126 = .ok (.iload_n 1, 1) ∧ decode cX13_refresh 127 = .ok (.ifCond .eq 7, 3) ∧ decode cX13_refresh 130 = .ok (.iconst 0, 1) ∧ decode cX13_refresh 131 = .ok (.goto 4, 3) ∧ decode cX13_refresh 134 = .ok (.iconst 2, 1) ∧ decode cX13_refresh 135 = .ok (.putfield 252, 3) ∧ decode cX13_refresh 138 = .ok (.iload_n 1, 1) ∧ decode cX13_refresh 139 = .ok (.ifCond .eq 10, 3) ∧ decode cX13_refresh 142 = .ok (.aload_n 0, 1) ∧ decode cX13_refresh 143 = .ok (.getfield 480, 3) := by decide +kernel
theorem dX13_refresh_114 : decode cX13_refresh 114 = .ok (.goto (-71), 3) := dX13_refresh_114g.1
theorem dX13_refresh_117 : decode cX13_refresh 117 = .ok (.iload_n 1, 1) := dX13_refresh_114g.2.1
theorem dX13_refresh_118 : decode cX13_refresh 118 = .ok (.ifCond .ne 7, 3) := dX13_refresh_114g.2.2.1
theorem dX13_refresh_121 : decode cX13_refresh 121 = .ok (.aload_n 0, 1) := dX13_refresh_114g.2.2.2.1
theorem dX13_refresh_122 : decode cX13_refresh 122 = .ok (.invokevirtual 617, 3) := dX13_refresh_114g.2.2.2.2.1
theorem dX13_refresh_125 : decode cX13_refresh 125 = .ok (.aload_n 0, 1) := dX13_refresh_114g.2.2.2.2.2.1
theorem dX13_refresh_126 : decode cX13_refresh 126 = .ok (.iload_n 1, 1) := dX13_refresh_114g.2.2.2.2.2.2.1
theorem dX13_refresh_127 : decode cX13_refresh 127 = .ok (.ifCond .eq 7, 3) := dX13_refresh_114g.2.2.2.2.2.2.2.1
theorem dX13_refresh_130 : decode cX13_refresh 130 = .ok (.iconst 0, 1) := dX13_refresh_114g.2.2.2.2.2.2.2.2.1
theorem dX13_refresh_131 : decode cX13_refresh 131 = .ok (.goto 4, 3) := dX13_refresh_114g.2.2.2.2.2.2.2.2.2.1
theorem dX13_refresh_134 : decode cX13_refresh 134 = .ok (.iconst 2, 1) := dX13_refresh_114g.2.2.2.2.2.2.2.2.2.2.1
theorem dX13_refresh_135 : decode cX13_refresh 135 = .ok (.putfield 252, 3) := dX13_refresh_114g.2.2.2.2.2.2.2.2.2.2.2.1
theorem dX13_refresh_138 : decode cX13_refresh 138 = .ok (.iload_n 1, 1) := dX13_refresh_114g.2.2.2.2.2.2.2.2.2.2.2.2.1
theorem dX13_refresh_139 : decode cX13_refresh 139 = .ok (.ifCond .eq 10, 3) := dX13_refresh_114g.2.2.2.2.2.2.2.2.2.2.2.2.2.1
theorem dX13_refresh_142 : decode cX13_refresh 142 = .ok (.aload_n 0, 1) := dX13_refresh_114g.2.2.2.2.2.2.2.2.2.2.2.2.2.2.1
theorem dX13_refresh_143 : decode cX13_refresh 143 = .ok (.getfield 480, 3) := dX13_refresh_114g.2.2.2.2.2.2.2.2.2.2.2.2.2.2.2
theorem dX13_refresh_146g : decode cX13_refresh 146 = .ok (.goto 4, 3) ∧ decode cX13_refresh 149 = .ok (.iconst 0, 1) ∧ decode cX13_refresh 150 = .ok (.ireturn, 1) := by decide +kernel
theorem dX13_refresh_146 : decode cX13_refresh 146 = .ok (.goto 4, 3) := dX13_refresh_146g.1
theorem dX13_refresh_149 : decode cX13_refresh 149 = .ok (.iconst 0, 1) := dX13_refresh_146g.2.1
theorem dX13_refresh_150 : decode cX13_refresh 150 = .ok (.ireturn, 1) := dX13_refresh_146g.2.2
theorem dX13_letters_0g : decode cX13_letters 0 = .ok (.lconst 0, 1) ∧ decode cX13_letters 1 = .ok (.lstore_n 2, 1) ∧ decode cX13_letters 2 = .ok (.bipush 56, 2) ∧ decode cX13_letters 4 = .ok (.istore 4, 2) ∧ decode cX13_letters 6 = .ok (.iload 4, 2) ∧ decode cX13_letters 8 = .ok (.ifCond .lt 40, 3) ∧ decode cX13_letters 11 = .ok (.lload_n 0, 1) ∧ decode cX13_letters 12 = .ok (.iload 4, 2) ∧ decode cX13_letters 14 = .ok (.lshr, 1) ∧ decode cX13_letters 15 = .ok (.ldc2_w 313, 3) ∧ decode cX13_letters 18 = .ok (.land, 1) ∧ decode cX13_letters 19 = .ok (.lconst 0, 1) ∧ decode cX13_letters 20 = .ok (.lcmp, 1) ∧ decode cX13_letters 21 = .ok (.ifCond .ne 7, 3) ∧ decode cX13_letters 24 = .ok (.lload_n 2, 1) ∧ decode cX13_letters 25 = .ok (.goto 16, 3) := by decide +kernel
theorem dX13_letters_0 : decode cX13_letters 0 = .ok (.lconst 0, 1) := dX13_letters_0g.1
theorem dX13_letters_1 : decode cX13_letters 1 = .ok (.lstore_n 2, 1) := dX13_letters_0g.2.1
theorem dX13_letters_2 : decode cX13_letters 2 = .ok (.bipush 56, 2) := dX13_letters_0g.2.2.1
theorem dX13_letters_4 : decode cX13_letters 4 = .ok (.istore 4, 2) := dX13_letters_0g.2.2.2.1
theorem dX13_letters_6 : decode cX13_letters 6 = .ok (.iload 4, 2) := dX13_letters_0g.2.2.2.2.1
theorem dX13_letters_8 : decode cX13_letters 8 = .ok (.ifCond .lt 40, 3) := dX13_letters_0g.2.2.2.2.2.1
theorem dX13_letters_11 : decode cX13_letters 11 = .ok (.lload_n 0, 1) := dX13_letters_0g.2.2.2.2.2.2.1
theorem dX13_letters_12 : decode cX13_letters 12 = .ok (.iload 4, 2) := dX13_letters_0g.2.2.2.2.2.2.2.1
theorem dX13_letters_14 : decode cX13_letters 14 = .ok (.lshr, 1) := dX13_letters_0g.2.2.2.2.2.2.2.2.1
theorem dX13_letters_15 : decode cX13_letters 15 = .ok (.ldc2_w 313, 3) := dX13_letters_0g.2.2.2.2.2.2.2.2.2.1
theorem dX13_letters_18 : decode cX13_letters 18 = .ok (.land, 1) := dX13_letters_0g.2.2.2.2.2.2.2.2.2.2.1
theorem dX13_letters_19 : decode cX13_letters 19 = .ok (.lconst 0, 1) := dX13_letters_0g.2.2.2.2.2.2.2.2.2.2.2.1
theorem dX13_letters_20 : decode cX13_letters 20 = .ok (.lcmp, 1) := dX13_letters_0g.2.2.2.2.2.2.2.2.2.2.2.2.1
theorem dX13_letters_21 : decode cX13_letters 21 = .ok (.ifCond .ne 7, 3) := dX13_letters_0g.2.2.2.2.2.2.2.2.2.2.2.2.2.1
theorem dX13_letters_24 : decode cX13_letters 24 = .ok (.lload_n 2, 1) := dX13_letters_0g.2.2.2.2.2.2.2.2.2.2.2.2.2.2.1
theorem dX13_letters_25 : decode cX13_letters 25 = .ok (.goto 16, 3) := dX13_letters_0g.2.2.2.2.2.2.2.2.2.2.2.2.2.2.2
theorem dX13_letters_28g : decode cX13_letters 28 = .ok (.lload_n 2, 1) ∧ decode cX13_letters 29 = .ok (.bipush 8, 2) ∧ decode cX13_letters 31 = .ok (.lshl, 1) ∧ decode cX13_letters 32 = .ok (.lload_n 0, 1) ∧ decode cX13_letters 33 = .ok (.iload 4, 2) ∧ decode cX13_letters 35 = .ok (.lshr, 1) ∧ decode cX13_letters 36 = .ok (.ldc2_w 313, 3) ∧ decode cX13_letters 39 = .ok (.land, 1) ∧ decode cX13_letters 40 = .ok (.lor, 1) ∧ decode cX13_letters 41 = .ok (.lstore_n 2, 1) ∧ decode cX13_letters 42 = .ok (.iinc 4 (-8), 3) ∧ decode cX13_letters 45 = .ok (.goto (-39), 3) ∧ decode cX13_letters 48 = .ok (.lload_n 2, 1) ∧ decode cX13_letters 49 = .ok (.lreturn, 1) := by decide +kernel
theorem dX13_letters_28 : decode cX13_letters 28 = .ok (.lload_n 2, 1) := dX13_letters_28g.1
theorem dX13_letters_29 : decode cX13_letters 29 = .ok (.bipush 8, 2) := dX13_letters_28g.2.1
theorem dX13_letters_31 : decode cX13_letters 31 = .ok (.lshl, 1) := dX13_letters_28g.2.2.1
theorem dX13_letters_32 : decode cX13_letters 32 = .ok (.lload_n 0, 1) := dX13_letters_28g.2.2.2.1
theorem dX13_letters_33 : decode cX13_letters 33 = .ok (.iload 4, 2) := dX13_letters_28g.2.2.2.2.1
theorem dX13_letters_35 : decode cX13_letters 35 = .ok (.lshr, 1) := dX13_letters_28g.2.2.2.2.2.1
theorem dX13_letters_36 : decode cX13_letters 36 = .ok (.ldc2_w 313, 3) := dX13_letters_28g.2.2.2.2.2.2.1
theorem dX13_letters_39 : decode cX13_letters 39 = .ok (.land, 1) := dX13_letters_28g.2.2.2.2.2.2.2.1
theorem dX13_letters_40 : decode cX13_letters 40 = .ok (.lor, 1) := dX13_letters_28g.2.2.2.2.2.2.2.2.1
theorem dX13_letters_41 : decode cX13_letters 41 = .ok (.lstore_n 2, 1) := dX13_letters_28g.2.2.2.2.2.2.2.2.2.1
theorem dX13_letters_42 : decode cX13_letters 42 = .ok (.iinc 4 (-8), 3) := dX13_letters_28g.2.2.2.2.2.2.2.2.2.2.1
theorem dX13_letters_45 : decode cX13_letters 45 = .ok (.goto (-39), 3) := dX13_letters_28g.2.2.2.2.2.2.2.2.2.2.2.1
theorem dX13_letters_48 : decode cX13_letters 48 = .ok (.lload_n 2, 1) := dX13_letters_28g.2.2.2.2.2.2.2.2.2.2.2.2.1
theorem dX13_letters_49 : decode cX13_letters 49 = .ok (.lreturn, 1) := dX13_letters_28g.2.2.2.2.2.2.2.2.2.2.2.2.2
theorem dX13_get_0g : decode cX13_get 0 = .ok (.aload_n 0, 1) ∧ decode cX13_get 1 = .ok (.iconst 0, 1) ∧ decode cX13_get 2 = .ok (.putfield 498, 3) ∧ decode cX13_get 5 = .ok (.aload_n 0, 1) ∧ decode cX13_get 6 = .ok (.iconst (-1), 1) ∧ decode cX13_get 7 = .ok (.putfield 186, 3) ∧ decode cX13_get 10 = .ok (.aload_n 0, 1) ∧ decode cX13_get 11 = .ok (.aload_n 0, 1) ∧ decode cX13_get 12 = .ok (.getfield 477, 3) ∧ decode cX13_get 15 = .ok (.ifCond .eq 7, 3) ∧ decode cX13_get 18 = .ok (.iconst 0, 1) ∧ decode cX13_get 19 = .ok (.goto 4, 3) ∧ decode cX13_get 22 = .ok (.iconst 1, 1) ∧ decode cX13_get 23 = .ok (.putfield 252, 3) ∧ decode cX13_get 26 = .ok (.aload_n 0, 1) ∧ decode cX13_get 27 = .ok (.getfield 252, 3) := by decide +kernel
theorem dX13_get_0 : decode cX13_get 0 = .ok (.aload_n 0, 1) := dX13_get_0g.1
theorem dX13_get_1 : decode cX13_get 1 = .ok (.iconst 0, 1) := dX13_get_0g.2.1
theorem dX13_get_2 : decode cX13_get 2 = .ok (.putfield 498, 3) := dX13_get_0g.2.2.1
theorem dX13_get_5 : decode cX13_get 5 = .ok (.aload_n 0, 1) := dX13_get_0g.2.2.2.1
theorem dX13_get_6 : decode cX13_get 6 = .ok (.iconst (-1), 1) := dX13_get_0g.2.2.2.2.1
theorem dX13_get_7 : decode cX13_get 7 = .ok (.putfield 186, 3) := dX13_get_0g.2.2.2.2.2.1
theorem dX13_get_10 : decode cX13_get 10 = .ok (.aload_n 0, 1) := dX13_get_0g.2.2.2.2.2.2.1
theorem dX13_get_11 : decode cX13_get 11 = .ok (.aload_n 0, 1) := dX13_get_0g.2.2.2.2.2.2.2.1
theorem dX13_get_12 : decode cX13_get 12 = .ok (.getfield 477, 3) := dX13_get_0g.2.2.2.2.2.2.2.2.1
theorem dX13_get_15 : decode cX13_get 15 = .ok (.ifCond .eq 7, 3) := dX13_get_0g.2.2.2.2.2.2.2.2.2.1
theorem dX13_get_18 : decode cX13_get 18 = .ok (.iconst 0, 1) := dX13_get_0g.2.2.2.2.2.2.2.2.2.2.1
theorem dX13_get_19 : decode cX13_get 19 = .ok (.goto 4, 3) := dX13_get_0g.2.2.2.2.2.2.2.2.2.2.2.1
theorem dX13_get_22 : decode cX13_get 22 = .ok (.iconst 1, 1) := dX13_get_0g.2.2.2.2.2.2.2.2.2.2.2.2.1
theorem dX13_get_23 : decode cX13_get 23 = .ok (.putfield 252, 3) := dX13_get_0g.2.2.2.2.2.2.2.2.2.2.2.2.2.1
theorem dX13_get_26 : decode cX13_get 26 = .ok (.aload_n 0, 1) := dX13_get_0g.2.2.2.2.2.2.2.2.2.2.2.2.2.2.1
theorem dX13_get_27 : decode cX13_get 27 = .ok (.getfield 252, 3) := dX13_get_0g.2.2.2.2.2.2.2.2.2.2.2.2.2.2.2
theorem dX13_get_30g : decode cX13_get 30 = .ok (.ifCond .le 5, 3) ∧ decode cX13_get 33 = .ok (.iconst 0, 1) ∧ decode cX13_get 34 = .ok (.ireturn, 1) ∧ decode cX13_get 35 = .ok (.aload_n 0, 1) ∧ decode cX13_get 36 = .ok (.aload_n 0, 1) ∧ decode cX13_get 37 = .ok (.aload_n 0, 1) ∧ decode cX13_get 38 = .ok (.lload_n 1, 1) ∧ decode cX13_get 39 = .ok (.invokestatic 620, 3) ∧ decode cX13_get 42 = .ok (.invokevirtual 520, 3) ∧ decode cX13_get 45 = .ok (.invokevirtual 614, 3) ∧ decode cX13_get 48 = .ok (.ifCond .eq 7, 3) ∧ decode cX13_get 51 = .ok (.iconst 0, 1) ∧ decode cX13_get 52 = .ok (.goto 4, 3) ∧ decode cX13_get 55 = .ok (.iconst 2, 1) ∧ decode cX13_get 56 = .ok (.putfield 252, 3) ∧ decode cX13_get 59 = .ok (.aload_n 0, 1) := by decide +kernel
theorem dX13_get_30 : decode cX13_get 30 = .ok (.ifCond .le 5, 3) := dX13_get_30g.1
theorem dX13_get_33 : decode cX13_get 33 = .ok (.iconst 0, 1) := dX13_get_30g.2.1
theorem dX13_get_34 : decode cX13_get 34 = .ok (.ireturn, 1) := dX13_get_30g.2.2.1
theorem dX13_get_35 : decode cX13_get 35 = .ok (.aload_n 0, 1) := dX13_get_30g.2.2.2.1
theorem dX13_get_36 : decode cX13_get 36 = .ok (.aload_n 0, 1) := dX13_get_30g.2.2.2.2.1
theorem dX13_get_37 : decode cX13_get 37 = .ok (.aload_n 0, 1) := dX13_get_30g.2.2.2.2.2.1
theorem dX13_get_38 : decode cX13_get 38 = .ok (.lload_n 1, 1) := dX13_get_30g.2.2.2.2.2.2.1
theorem dX13_get_39 : decode cX13_get 39 = .ok (.invokestatic 620, 3) := dX13_get_30g.2.2.2.2.2.2.2.1
theorem dX13_get_42 : decode cX13_get 42 = .ok (.invokevirtual 520, 3) := dX13_get_30g.2.2.2.2.2.2.2.2.1
theorem dX13_get_45 : decode cX13_get 45 = .ok (.invokevirtual 614, 3) := dX13_get_30g.2.2.2.2.2.2.2.2.2.1
theorem dX13_get_48 : decode cX13_get 48 = .ok (.ifCond .eq 7, 3) := dX13_get_30g.2.2.2.2.2.2.2.2.2.2.1
theorem dX13_get_51 : decode cX13_get 51 = .ok (.iconst 0, 1) := dX13_get_30g.2.2.2.2.2.2.2.2.2.2.2.1
theorem dX13_get_52 : decode cX13_get 52 = .ok (.goto 4, 3) := dX13_get_30g.2.2.2.2.2.2.2.2.2.2.2.2.1
theorem dX13_get_55 : decode cX13_get 55 = .ok (.iconst 2, 1) := dX13_get_30g.2.2.2.2.2.2.2.2.2.2.2.2.2.1
theorem dX13_get_56 : decode cX13_get 56 = .ok (.putfield 252, 3) := dX13_get_30g.2.2.2.2.2.2.2.2.2.2.2.2.2.2.1
theorem dX13_get_59 : decode cX13_get 59 = .ok (.aload_n 0, 1) := dX13_get_30g.2.2.2.2.2.2.2.2.2.2.2.2.2.2.2
theorem dX13_get_60g : decode cX13_get 60 = .ok (.getfield 252, 3) ∧ decode cX13_get 63 = .ok (.ifCond .le 7, 3) ∧ decode cX13_get 66 = .ok (.iconst 0, 1) ∧ decode cX13_get 67 = .ok (.goto 7, 3) ∧ decode cX13_get 70 = .ok (.aload_n 0, 1) ∧ decode cX13_get 71 = .ok (.getfield 513, 3) ∧ decode cX13_get 74 = .ok (.ireturn, 1) := by decide +kernel
theorem dX13_get_60 : decode cX13_get 60 = .ok (.getfield 252, 3) := dX13_get_60g.1
theorem dX13_get_63 : decode cX13_get 63 = .ok (.ifCond .le 7, 3) := dX13_get_60g.2.1
theorem dX13_get_66 : decode cX13_get 66 = .ok (.iconst 0, 1) := dX13_get_60g.2.2.1
theorem dX13_get_67 : decode cX13_get 67 = .ok (.goto 7, 3) := dX13_get_60g.2.2.2.1
theorem dX13_get_70 : decode cX13_get 70 = .ok (.aload_n 0, 1) := dX13_get_60g.2.2.2.2.1
theorem dX13_get_71 : decode cX13_get 71 = .ok (.getfield 513, 3) := dX13_get_60g.2.2.2.2.2.1
theorem dX13_get_74 : decode cX13_get 74 = .ok (.ireturn, 1) := dX13_get_60g.2.2.2.2.2.2
theorem dX13_call_0g : decode cX13_call 0 = .ok (.aload_n 0, 1) ∧ decode cX13_call 1 = .ok (.iconst 0, 1) ∧ decode cX13_call 2 = .ok (.putfield 498, 3) ∧ decode cX13_call 5 = .ok (.aload_n 0, 1) ∧ decode cX13_call 6 = .ok (.iconst (-1), 1) ∧ decode cX13_call 7 = .ok (.putfield 186, 3) ∧ decode cX13_call 10 = .ok (.aload_n 0, 1) ∧ decode cX13_call 11 = .ok (.aload_n 0, 1) ∧ decode cX13_call 12 = .ok (.getfield 477, 3) ∧ decode cX13_call 15 = .ok (.ifCond .eq 7, 3) ∧ decode cX13_call 18 = .ok (.iconst 0, 1) ∧ decode cX13_call 19 = .ok (.goto 4, 3) ∧ decode cX13_call 22 = .ok (.iconst 1, 1) ∧ decode cX13_call 23 = .ok (.putfield 252, 3) ∧ decode cX13_call 26 = .ok (.aload_n 0, 1) ∧ decode cX13_call 27 = .ok (.getfield 252, 3) := by decide +kernel
theorem dX13_call_0 : decode cX13_call 0 = .ok (.aload_n 0, 1) := dX13_call_0g.1
theorem dX13_call_1 : decode cX13_call 1 = .ok (.iconst 0, 1) := dX13_call_0g.2.1
theorem dX13_call_2 : decode cX13_call 2 = .ok (.putfield 498, 3) := dX13_call_0g.2.2.1
theorem dX13_call_5 : decode cX13_call 5 = .ok (.aload_n 0, 1) := dX13_call_0g.2.2.2.1
theorem dX13_call_6 : decode cX13_call 6 = .ok (.iconst (-1), 1) := dX13_call_0g.2.2.2.2.1
theorem dX13_call_7 : decode cX13_call 7 = .ok (.putfield 186, 3) := dX13_call_0g.2.2.2.2.2.1
theorem dX13_call_10 : decode cX13_call 10 = .ok (.aload_n 0, 1) := dX13_call_0g.2.2.2.2.2.2.1
theorem dX13_call_11 : decode cX13_call 11 = .ok (.aload_n 0, 1) := dX13_call_0g.2.2.2.2.2.2.2.1
theorem dX13_call_12 : decode cX13_call 12 = .ok (.getfield 477, 3) := dX13_call_0g.2.2.2.2.2.2.2.2.1
theorem dX13_call_15 : decode cX13_call 15 = .ok (.ifCond .eq 7, 3) := dX13_call_0g.2.2.2.2.2.2.2.2.2.1
theorem dX13_call_18 : decode cX13_call 18 = .ok (.iconst 0, 1) := dX13_call_0g.2.2.2.2.2.2.2.2.2.2.1
theorem dX13_call_19 : decode cX13_call 19 = .ok (.goto 4, 3) := dX13_call_0g.2.2.2.2.2.2.2.2.2.2.2.1
theorem dX13_call_22 : decode cX13_call 22 = .ok (.iconst 1, 1) := dX13_call_0g.2.2.2.2.2.2.2.2.2.2.2.2.1
theorem dX13_call_23 : decode cX13_call 23 = .ok (.putfield 252, 3) := dX13_call_0g.2.2.2.2.2.2.2.2.2.2.2.2.2.1
theorem dX13_call_26 : decode cX13_call 26 = .ok (.aload_n 0, 1) := dX13_call_0g.2.2.2.2.2.2.2.2.2.2.2.2.2.2.1
theorem dX13_call_27 : decode cX13_call 27 = .ok (.getfield 252, 3) := dX13_call_0g.2.2.2.2.2.2.2.2.2.2.2.2.2.2.2
theorem dX13_call_30g : decode cX13_call 30 = .ok (.ifCond .le 5, 3) ∧ decode cX13_call 33 = .ok (.iconst 0, 1) ∧ decode cX13_call 34 = .ok (.ireturn, 1) ∧ decode cX13_call 35 = .ok (.iconst (-1), 1) ∧ decode cX13_call 36 = .ok (.istore_n 3, 1) ∧ decode cX13_call 37 = .ok (.iload_n 1, 1) ∧ decode cX13_call 38 = .ok (.ifCond .lt 15, 3) ∧ decode cX13_call 41 = .ok (.iload_n 1, 1) ∧ decode cX13_call 42 = .ok (.aload_n 0, 1) ∧ decode cX13_call 43 = .ok (.getfield 480, 3) ∧ decode cX13_call 46 = .ok (.if_icmp .ge 7, 3) ∧ decode cX13_call 49 = .ok (.iconst 1, 1) ∧ decode cX13_call 50 = .ok (.goto 4, 3) ∧ decode cX13_call 53 = .ok (.iconst 0, 1) ∧ decode cX13_call 54 = .ok (.istore 4, 2) ∧ decode cX13_call 56 = .ok (.iconst 0, 1) := by decide +kernel
theorem dX13_call_30 : decode cX13_call 30 = .ok (.ifCond .le 5, 3) := dX13_call_30g.1
theorem dX13_call_33 : decode cX13_call 33 = .ok (.iconst 0, 1) := dX13_call_30g.2.1
theorem dX13_call_34 : decode cX13_call 34 = .ok (.ireturn, 1) := dX13_call_30g.2.2.1
theorem dX13_call_35 : decode cX13_call 35 = .ok (.iconst (-1), 1) := dX13_call_30g.2.2.2.1
theorem dX13_call_36 : decode cX13_call 36 = .ok (.istore_n 3, 1) := dX13_call_30g.2.2.2.2.1
theorem dX13_call_37 : decode cX13_call 37 = .ok (.iload_n 1, 1) := dX13_call_30g.2.2.2.2.2.1
theorem dX13_call_38 : decode cX13_call 38 = .ok (.ifCond .lt 15, 3) := dX13_call_30g.2.2.2.2.2.2.1
theorem dX13_call_41 : decode cX13_call 41 = .ok (.iload_n 1, 1) := dX13_call_30g.2.2.2.2.2.2.2.1
theorem dX13_call_42 : decode cX13_call 42 = .ok (.aload_n 0, 1) := dX13_call_30g.2.2.2.2.2.2.2.2.1
theorem dX13_call_43 : decode cX13_call 43 = .ok (.getfield 480, 3) := dX13_call_30g.2.2.2.2.2.2.2.2.2.1
theorem dX13_call_46 : decode cX13_call 46 = .ok (.if_icmp .ge 7, 3) := dX13_call_30g.2.2.2.2.2.2.2.2.2.2.1
theorem dX13_call_49 : decode cX13_call 49 = .ok (.iconst 1, 1) := dX13_call_30g.2.2.2.2.2.2.2.2.2.2.2.1
theorem dX13_call_50 : decode cX13_call 50 = .ok (.goto 4, 3) := dX13_call_30g.2.2.2.2.2.2.2.2.2.2.2.2.1
theorem dX13_call_53 : decode cX13_call 53 = .ok (.iconst 0, 1) := dX13_call_30g.2.2.2.2.2.2.2.2.2.2.2.2.2.1
theorem dX13_call_54 : decode cX13_call 54 = .ok (.istore 4, 2) := dX13_call_30g.2.2.2.2.2.2.2.2.2.2.2.2.2.2.1
theorem dX13_call_56 : decode cX13_call 56 = .ok (.iconst 0, 1) := dX13_call_30g.2.2.2.2.2.2.2.2.2.2.2.2.2.2.2
theorem dX13_call_57g : decode cX13_call 57 = .ok (.istore 5, 2) ∧ decode cX13_call 59 = .ok (.iload 4, 2) ∧ decode cX13_call 61 = .ok (.ifCond .eq 68, 3) ∧ decode cX13_call 64 = .ok (.iload 5, 2) ∧ decode cX13_call 66 = .ok (.aload_n 0, 1) ∧ decode cX13_call 67 = .ok (.getfield 180, 3) ∧ decode cX13_call 70 = .ok (.aload_n 0, 1) ∧ decode cX13_call 71 = .ok (.getfield 192, 3) ∧ decode cX13_call 74 = .ok (.iload_n 1, 1) ∧ decode cX13_call 75 = .ok (.iaload, 1) ∧ decode cX13_call 76 = .ok (.iaload, 1) ∧ decode cX13_call 77 = .ok (.if_icmp .ge 52, 3) ∧ decode cX13_call 80 = .ok (.aload_n 0, 1) ∧ decode cX13_call 81 = .ok (.getfield 183, 3) ∧ decode cX13_call 84 = .ok (.bipush 26, 2) ∧ decode cX13_call 86 = .ok (.aload_n 0, 1) := by decide +kernel
theorem dX13_call_57 : decode cX13_call 57 = .ok (.istore 5, 2) := dX13_call_57g.1
theorem dX13_call_59 : decode cX13_call 59 = .ok (.iload 4, 2) := dX13_call_57g.2.1
theorem dX13_call_61 : decode cX13_call 61 = .ok (.ifCond .eq 68, 3) := dX13_call_57g.2.2.1
theorem dX13_call_64 : decode cX13_call 64 = .ok (.iload 5, 2) := dX13_call_57g.2.2.2.1
theorem dX13_call_66 : decode cX13_call 66 = .ok (.aload_n 0, 1) := dX13_call_57g.2.2.2.2.1
theorem dX13_call_67 : decode cX13_call 67 = .ok (.getfield 180, 3) := dX13_call_57g.2.2.2.2.2.1
theorem dX13_call_70 : decode cX13_call 70 = .ok (.aload_n 0, 1) := dX13_call_57g.2.2.2.2.2.2.1
theorem dX13_call_71 : decode cX13_call 71 = .ok (.getfield 192, 3) := dX13_call_57g.2.2.2.2.2.2.2.1
theorem dX13_call_74 : decode cX13_call 74 = .ok (.iload_n 1, 1) := dX13_call_57g.2.2.2.2.2.2.2.2.1
theorem dX13_call_75 : decode cX13_call 75 = .ok (.iaload, 1) := dX13_call_57g.2.2.2.2.2.2.2.2.2.1
theorem dX13_call_76 : decode cX13_call 76 = .ok (.iaload, 1) := dX13_call_57g.2.2.2.2.2.2.2.2.2.2.1
theorem dX13_call_77 : decode cX13_call 77 = .ok (.if_icmp .ge 52, 3) := dX13_call_57g.2.2.2.2.2.2.2.2.2.2.2.1
theorem dX13_call_80 : decode cX13_call 80 = .ok (.aload_n 0, 1) := dX13_call_57g.2.2.2.2.2.2.2.2.2.2.2.2.1
theorem dX13_call_81 : decode cX13_call 81 = .ok (.getfield 183, 3) := dX13_call_57g.2.2.2.2.2.2.2.2.2.2.2.2.2.1
theorem dX13_call_84 : decode cX13_call 84 = .ok (.bipush 26, 2) := dX13_call_57g.2.2.2.2.2.2.2.2.2.2.2.2.2.2.1
theorem dX13_call_86 : decode cX13_call 86 = .ok (.aload_n 0, 1) := dX13_call_57g.2.2.2.2.2.2.2.2.2.2.2.2.2.2.2
theorem dX13_call_87g : decode cX13_call 87 = .ok (.getfield 192, 3) ∧ decode cX13_call 90 = .ok (.iload_n 1, 1) ∧ decode cX13_call 91 = .ok (.iaload, 1) ∧ decode cX13_call 92 = .ok (.imul, 1) ∧ decode cX13_call 93 = .ok (.iload 5, 2) ∧ decode cX13_call 95 = .ok (.iadd, 1) ∧ decode cX13_call 96 = .ok (.iaload, 1) ∧ decode cX13_call 97 = .ok (.istore 6, 2) ∧ decode cX13_call 99 = .ok (.aload_n 0, 1) ∧ decode cX13_call 100 = .ok (.iload 6, 2) ∧ decode cX13_call 102 = .ok (.ldc2_w 380, 3) ∧ decode cX13_call 105 = .ok (.invokevirtual 359, 3) ∧ decode cX13_call 108 = .ok (.l2i, 1) ∧ decode cX13_call 109 = .ok (.bipush 97, 2) ∧ decode cX13_call 111 = .ok (.isub, 1) ∧ decode cX13_call 112 = .ok (.iload_n 2, 1) := by decide +kernel
theorem dX13_call_87 : decode cX13_call 87 = .ok (.getfield 192, 3) := dX13_call_87g.1
theorem dX13_call_90 : decode cX13_call 90 = .ok (.iload_n 1, 1) := dX13_call_87g.2.1
theorem dX13_call_91 : decode cX13_call 91 = .ok (.iaload, 1) := dX13_call_87g.2.2.1
theorem dX13_call_92 : decode cX13_call 92 = .ok (.imul, 1) := dX13_call_87g.2.2.2.1
theorem dX13_call_93 : decode cX13_call 93 = .ok (.iload 5, 2) := dX13_call_87g.2.2.2.2.1
theorem dX13_call_95 : decode cX13_call 95 = .ok (.iadd, 1) := dX13_call_87g.2.2.2.2.2.1
theorem dX13_call_96 : decode cX13_call 96 = .ok (.iaload, 1) := dX13_call_87g.2.2.2.2.2.2.1
theorem dX13_call_97 : decode cX13_call 97 = .ok (.istore 6, 2) := dX13_call_87g.2.2.2.2.2.2.2.1
theorem dX13_call_99 : decode cX13_call 99 = .ok (.aload_n 0, 1) := dX13_call_87g.2.2.2.2.2.2.2.2.1
theorem dX13_call_100 : decode cX13_call 100 = .ok (.iload 6, 2) := dX13_call_87g.2.2.2.2.2.2.2.2.2.1
theorem dX13_call_102 : decode cX13_call 102 = .ok (.ldc2_w 380, 3) := dX13_call_87g.2.2.2.2.2.2.2.2.2.2.1
theorem dX13_call_105 : decode cX13_call 105 = .ok (.invokevirtual 359, 3) := dX13_call_87g.2.2.2.2.2.2.2.2.2.2.2.1
theorem dX13_call_108 : decode cX13_call 108 = .ok (.l2i, 1) := dX13_call_87g.2.2.2.2.2.2.2.2.2.2.2.2.1
theorem dX13_call_109 : decode cX13_call 109 = .ok (.bipush 97, 2) := dX13_call_87g.2.2.2.2.2.2.2.2.2.2.2.2.2.1
theorem dX13_call_111 : decode cX13_call 111 = .ok (.isub, 1) := dX13_call_87g.2.2.2.2.2.2.2.2.2.2.2.2.2.2.1
theorem dX13_call_112 : decode cX13_call 112 = .ok (.iload_n 2, 1) := dX13_call_87g.2.2.2.2.2.2.2.2.2.2.2.2.2.2.2
theorem dX13_call_113g : decode cX13_call 113 = .ok (.if_icmp .ne 8, 3) ∧ decode cX13_call 116 = .ok (.iload 6, 2) ∧ decode cX13_call 118 = .ok (.goto 4, 3) ∧ decode cX13_call 121 = .ok (.iload_n 3, 1) ∧ decode cX13_call 122 = .ok (.istore_n 3, 1) ∧ decode cX13_call 123 = .ok (.iinc 5 1, 3) ∧ decode cX13_call 126 = .ok (.goto (-67), 3) ∧ decode cX13_call 129 = .ok (.aload_n 0, 1) ∧ decode cX13_call 130 = .ok (.iload_n 3, 1) ∧ decode cX13_call 131 = .ok (.iconst (-1), 1) ∧ decode cX13_call 132 = .ok (.if_icmp .ne 7, 3) ∧ decode cX13_call 135 = .ok (.iconst 2, 1) ∧ decode cX13_call 136 = .ok (.goto 4, 3) ∧ decode cX13_call 139 = .ok (.iconst 0, 1) ∧ decode cX13_call 140 = .ok (.putfield 252, 3) ∧ decode cX13_call 143 = .ok (.aload_n 0, 1) := by decide +kernel
theorem dX13_call_113 : decode cX13_call 113 = .ok (.if_icmp .ne 8, 3) := dX13_call_113g.1
theorem dX13_call_116 : decode cX13_call 116 = .ok (.iload 6, 2) := dX13_call_113g.2.1
theorem dX13_call_118 : decode cX13_call 118 = .ok (.goto 4, 3) := dX13_call_113g.2.2.1
theorem dX13_call_121 : decode cX13_call 121 = .ok (.iload_n 3, 1) := dX13_call_113g.2.2.2.1
theorem dX13_call_122 : decode cX13_call 122 = .ok (.istore_n 3, 1) := dX13_call_113g.2.2.2.2.1
theorem dX13_call_123 : decode cX13_call 123 = .ok (.iinc 5 1, 3) := dX13_call_113g.2.2.2.2.2.1
theorem dX13_call_126 : decode cX13_call 126 = .ok (.goto (-67), 3) := dX13_call_113g.2.2.2.2.2.2.1
theorem dX13_call_129 : decode cX13_call 129 = .ok (.aload_n 0, 1) := dX13_call_113g.2.2.2.2.2.2.2.1
theorem dX13_call_130 : decode cX13_call 130 = .ok (.iload_n 3, 1) := dX13_call_113g.2.2.2.2.2.2.2.2.1
theorem dX13_call_131 : decode cX13_call 131 = .ok (.iconst (-1), 1) := dX13_call_113g.2.2.2.2.2.2.2.2.2.1
theorem dX13_call_132 : decode cX13_call 132 = .ok (.if_icmp .ne 7, 3) := dX13_call_113g.2.2.2.2.2.2.2.2.2.2.1
theorem dX13_call_135 : decode cX13_call 135 = .ok (.iconst 2, 1) := dX13_call_113g.2.2.2.2.2.2.2.2.2.2.2.1
theorem dX13_call_136 : decode cX13_call 136 = .ok (.goto 4, 3) := dX13_call_113g.2.2.2.2.2.2.2.2.2.2.2.2.1
theorem dX13_call_139 : decode cX13_call 139 = .ok (.iconst 0, 1) := dX13_call_113g.2.2.2.2.2.2.2.2.2.2.2.2.2.1
theorem dX13_call_140 : decode cX13_call 140 = .ok (.putfield 252, 3) := dX13_call_113g.2.2.2.2.2.2.2.2.2.2.2.2.2.2.1
theorem dX13_call_143 : decode cX13_call 143 = .ok (.aload_n 0, 1) := dX13_call_113g.2.2.2.2.2.2.2.2.2.2.2.2.2.2.2
theorem dX13_call_144g : decode cX13_call 144 = .ok (.getfield 252, 3) ∧ decode cX13_call 147 = .ok (.ifCond .le 5, 3) ∧ decode cX13_call 150 = .ok (.iconst 0, 1) ∧ decode cX13_call 151 = .ok (.ireturn, 1) ∧ decode cX13_call 152 = .ok (.aload_n 0, 1) ∧ decode cX13_call 153 = .ok (.aload_n 0, 1) ∧ decode cX13_call 154 = .ok (.aload_n 0, 1) ∧ decode cX13_call 155 = .ok (.aload_n 0, 1) ∧ decode cX13_call 156 = .ok (.iload_n 3, 1) ∧ decode cX13_call 157 = .ok (.ldc2_w 11, 3) ∧ decode cX13_call 160 = .ok (.invokevirtual 359, 3) ∧ decode cX13_call 163 = .ok (.invokevirtual 520, 3) ∧ decode cX13_call 166 = .ok (.invokevirtual 614, 3) ∧ decode cX13_call 169 = .ok (.ifCond .eq 7, 3) ∧ decode cX13_call 172 = .ok (.iconst 0, 1) ∧ decode cX13_call 173 = .ok (.goto 4, 3) := by decide +kernel
theorem dX13_call_144 : decode cX13_call 144 = .ok (.getfield 252, 3) := dX13_call_144g.1
theorem dX13_call_147 : decode cX13_call 147 = .ok (.ifCond .le 5, 3) := dX13_call_144g.2.1
theorem dX13_call_150 : decode cX13_call 150 = .ok (.iconst 0, 1) := dX13_call_144g.2.2.1
theorem dX13_call_151 : decode cX13_call 151 = .ok (.ireturn, 1) := dX13_call_144g.2.2.2.1
theorem dX13_call_152 : decode cX13_call 152 = .ok (.aload_n 0, 1) := dX13_call_144g.2.2.2.2.1
theorem dX13_call_153 : decode cX13_call 153 = .ok (.aload_n 0, 1) := dX13_call_144g.2.2.2.2.2.1
theorem dX13_call_154 : decode cX13_call 154 = .ok (.aload_n 0, 1) := dX13_call_144g.2.2.2.2.2.2.1
theorem dX13_call_155 : decode cX13_call 155 = .ok (.aload_n 0, 1) := dX13_call_144g.2.2.2.2.2.2.2.1
theorem dX13_call_156 : decode cX13_call 156 = .ok (.iload_n 3, 1) := dX13_call_144g.2.2.2.2.2.2.2.2.1
theorem dX13_call_157 : decode cX13_call 157 = .ok (.ldc2_w 11, 3) := dX13_call_144g.2.2.2.2.2.2.2.2.2.1
theorem dX13_call_160 : decode cX13_call 160 = .ok (.invokevirtual 359, 3) := dX13_call_144g.2.2.2.2.2.2.2.2.2.2.1
theorem dX13_call_163 : decode cX13_call 163 = .ok (.invokevirtual 520, 3) := dX13_call_144g.2.2.2.2.2.2.2.2.2.2.2.1
theorem dX13_call_166 : decode cX13_call 166 = .ok (.invokevirtual 614, 3) := dX13_call_144g.2.2.2.2.2.2.2.2.2.2.2.2.1
theorem dX13_call_169 : decode cX13_call 169 = .ok (.ifCond .eq 7, 3) := dX13_call_144g.2.2.2.2.2.2.2.2.2.2.2.2.2.1
theorem dX13_call_172 : decode cX13_call 172 = .ok (.iconst 0, 1) := dX13_call_144g.2.2.2.2.2.2.2.2.2.2.2.2.2.2.1
theorem dX13_call_173 : decode cX13_call 173 = .ok (.goto 4, 3) := dX13_call_144g.2.2.2.2.2.2.2.2.2.2.2.2.2.2.2
theorem dX13_call_176g : decode cX13_call 176 = .ok (.iconst 3, 1) ∧ decode cX13_call 177 = .ok (.putfield 252, 3) ∧ decode cX13_call 180 = .ok (.aload_n 0, 1) ∧ decode cX13_call 181 = .ok (.getfield 252, 3) ∧ decode cX13_call 184 = .ok (.ifCond .le 7, 3) ∧ decode cX13_call 187 = .ok (.iconst 0, 1) ∧ decode cX13_call 188 = .ok (.goto 7, 3) ∧ decode cX13_call 191 = .ok (.aload_n 0, 1) ∧ decode cX13_call 192 = .ok (.getfield 513, 3) ∧ decode cX13_call 195 = .ok (.ireturn, 1) := by decide +kernel
theorem dX13_call_176 : decode cX13_call 176 = .ok (.iconst 3, 1) := dX13_call_176g.1
theorem dX13_call_177 : decode cX13_call 177 = .ok (.putfield 252, 3) := dX13_call_176g.2.1
theorem dX13_call_180 : decode cX13_call 180 = .ok (.aload_n 0, 1) := dX13_call_176g.2.2.1
theorem dX13_call_181 : decode cX13_call 181 = .ok (.getfield 252, 3) := dX13_call_176g.2.2.2.1
theorem dX13_call_184 : decode cX13_call 184 = .ok (.ifCond .le 7, 3) := dX13_call_176g.2.2.2.2.1
theorem dX13_call_187 : decode cX13_call 187 = .ok (.iconst 0, 1) := dX13_call_176g.2.2.2.2.2.1
theorem dX13_call_188 : decode cX13_call 188 = .ok (.goto 7, 3) := dX13_call_176g.2.2.2.2.2.2.1
theorem dX13_call_191 : decode cX13_call 191 = .ok (.aload_n 0, 1) := dX13_call_176g.2.2.2.2.2.2.2.1
theorem dX13_call_192 : decode cX13_call 192 = .ok (.getfield 513, 3) := dX13_call_176g.2.2.2.2.2.2.2.2.1
theorem dX13_call_195 : decode cX13_call 195 = .ok (.ireturn, 1) := dX13_call_176g.2.2.2.2.2.2.2.2.2
theorem dX13_shut_0g : decode cX13_shut 0 = .ok (.aload_n 0, 1) ∧ decode cX13_shut 1 = .ok (.getfield 474, 3) ∧ decode cX13_shut 4 = .ok (.iconst 1, 1) ∧ decode cX13_shut 5 = .ok (.isub, 1) ∧ decode cX13_shut 6 = .ok (.istore_n 1, 1) ∧ decode cX13_shut 7 = .ok (.iload_n 1, 1) ∧ decode cX13_shut 8 = .ok (.ifCond .lt 63, 3) ∧ decode cX13_shut 11 = .ok (.aload_n 0, 1) ∧ decode cX13_shut 12 = .ok (.getfield 207, 3) ∧ decode cX13_shut 15 = .ok (.iload_n 1, 1) ∧ decode cX13_shut 16 = .ok (.iaload, 1) ∧ decode cX13_shut 17 = .ok (.istore_n 2, 1) ∧ decode cX13_shut 18 = .ok (.aload_n 0, 1) ∧ decode cX13_shut 19 = .ok (.iload_n 2, 1) ∧ decode cX13_shut 20 = .ok (.ldc2_w 402, 3) ∧ decode cX13_shut 23 = .ok (.invokevirtual 567, 3) := by decide +kernel
theorem dX13_shut_0 : decode cX13_shut 0 = .ok (.aload_n 0, 1) := dX13_shut_0g.1
theorem dX13_shut_1 : decode cX13_shut 1 = .ok (.getfield 474, 3) := dX13_shut_0g.2.1
theorem dX13_shut_4 : decode cX13_shut 4 = .ok (.iconst 1, 1) := dX13_shut_0g.2.2.1
theorem dX13_shut_5 : decode cX13_shut 5 = .ok (.isub, 1) := dX13_shut_0g.2.2.2.1
theorem dX13_shut_6 : decode cX13_shut 6 = .ok (.istore_n 1, 1) := dX13_shut_0g.2.2.2.2.1
theorem dX13_shut_7 : decode cX13_shut 7 = .ok (.iload_n 1, 1) := dX13_shut_0g.2.2.2.2.2.1
theorem dX13_shut_8 : decode cX13_shut 8 = .ok (.ifCond .lt 63, 3) := dX13_shut_0g.2.2.2.2.2.2.1
theorem dX13_shut_11 : decode cX13_shut 11 = .ok (.aload_n 0, 1) := dX13_shut_0g.2.2.2.2.2.2.2.1
theorem dX13_shut_12 : decode cX13_shut 12 = .ok (.getfield 207, 3) := dX13_shut_0g.2.2.2.2.2.2.2.2.1
theorem dX13_shut_15 : decode cX13_shut 15 = .ok (.iload_n 1, 1) := dX13_shut_0g.2.2.2.2.2.2.2.2.2.1
theorem dX13_shut_16 : decode cX13_shut 16 = .ok (.iaload, 1) := dX13_shut_0g.2.2.2.2.2.2.2.2.2.2.1
theorem dX13_shut_17 : decode cX13_shut 17 = .ok (.istore_n 2, 1) := dX13_shut_0g.2.2.2.2.2.2.2.2.2.2.2.1
theorem dX13_shut_18 : decode cX13_shut 18 = .ok (.aload_n 0, 1) := dX13_shut_0g.2.2.2.2.2.2.2.2.2.2.2.2.1
theorem dX13_shut_19 : decode cX13_shut 19 = .ok (.iload_n 2, 1) := dX13_shut_0g.2.2.2.2.2.2.2.2.2.2.2.2.2.1
theorem dX13_shut_20 : decode cX13_shut 20 = .ok (.ldc2_w 402, 3) := dX13_shut_0g.2.2.2.2.2.2.2.2.2.2.2.2.2.2.1
theorem dX13_shut_23 : decode cX13_shut 23 = .ok (.invokevirtual 567, 3) := dX13_shut_0g.2.2.2.2.2.2.2.2.2.2.2.2.2.2.2
theorem dX13_shut_26g : decode cX13_shut 26 = .ok (.iconst (-1), 1) ∧ decode cX13_shut 27 = .ok (.if_icmp .eq 24, 3) ∧ decode cX13_shut 30 = .ok (.aload_n 0, 1) ∧ decode cX13_shut 31 = .ok (.bipush 7, 2) ∧ decode cX13_shut 33 = .ok (.aload_n 0, 1) ∧ decode cX13_shut 34 = .ok (.getfield 210, 3) ∧ decode cX13_shut 37 = .ok (.iload_n 2, 1) ∧ decode cX13_shut 38 = .ok (.iaload, 1) ∧ decode cX13_shut 39 = .ok (.aload_n 0, 1) ∧ decode cX13_shut 40 = .ok (.iload_n 2, 1) ∧ decode cX13_shut 41 = .ok (.ldc2_w 402, 3) ∧ decode cX13_shut 44 = .ok (.invokevirtual 567, 3) ∧ decode cX13_shut 47 = .ok (.iconst 0, 1) ∧ decode cX13_shut 48 = .ok (.invokevirtual 554, 3) ∧ decode cX13_shut 51 = .ok (.aload_n 0, 1) ∧ decode cX13_shut 52 = .ok (.getfield 213, 3) := by decide +kernel
theorem dX13_shut_26 : decode cX13_shut 26 = .ok (.iconst (-1), 1) := dX13_shut_26g.1
theorem dX13_shut_27 : decode cX13_shut 27 = .ok (.if_icmp .eq 24, 3) := dX13_shut_26g.2.1
theorem dX13_shut_30 : decode cX13_shut 30 = .ok (.aload_n 0, 1) := dX13_shut_26g.2.2.1
theorem dX13_shut_31 : decode cX13_shut 31 = .ok (.bipush 7, 2) := dX13_shut_26g.2.2.2.1
theorem dX13_shut_33 : decode cX13_shut 33 = .ok (.aload_n 0, 1) := dX13_shut_26g.2.2.2.2.1
theorem dX13_shut_34 : decode cX13_shut 34 = .ok (.getfield 210, 3) := dX13_shut_26g.2.2.2.2.2.1
theorem dX13_shut_37 : decode cX13_shut 37 = .ok (.iload_n 2, 1) := dX13_shut_26g.2.2.2.2.2.2.1
theorem dX13_shut_38 : decode cX13_shut 38 = .ok (.iaload, 1) := dX13_shut_26g.2.2.2.2.2.2.2.1
theorem dX13_shut_39 : decode cX13_shut 39 = .ok (.aload_n 0, 1) := dX13_shut_26g.2.2.2.2.2.2.2.2.1
theorem dX13_shut_40 : decode cX13_shut 40 = .ok (.iload_n 2, 1) := dX13_shut_26g.2.2.2.2.2.2.2.2.2.1
theorem dX13_shut_41 : decode cX13_shut 41 = .ok (.ldc2_w 402, 3) := dX13_shut_26g.2.2.2.2.2.2.2.2.2.2.1
theorem dX13_shut_44 : decode cX13_shut 44 = .ok (.invokevirtual 567, 3) := dX13_shut_26g.2.2.2.2.2.2.2.2.2.2.2.1
theorem dX13_shut_47 : decode cX13_shut 47 = .ok (.iconst 0, 1) := dX13_shut_26g.2.2.2.2.2.2.2.2.2.2.2.2.1
theorem dX13_shut_48 : decode cX13_shut 48 = .ok (.invokevirtual 554, 3) := dX13_shut_26g.2.2.2.2.2.2.2.2.2.2.2.2.2.1
theorem dX13_shut_51 : decode cX13_shut 51 = .ok (.aload_n 0, 1) := dX13_shut_26g.2.2.2.2.2.2.2.2.2.2.2.2.2.2.1
theorem dX13_shut_52 : decode cX13_shut 52 = .ok (.getfield 213, 3) := dX13_shut_26g.2.2.2.2.2.2.2.2.2.2.2.2.2.2.2
theorem dX13_shut_55g : decode cX13_shut 55 = .ok (.iload_n 2, 1) ∧ decode cX13_shut 56 = .ok (.iconst 0, 1) ∧ decode cX13_shut 57 = .ok (.bastore, 1) ∧ decode cX13_shut 58 = .ok (.aload_n 0, 1) ∧ decode cX13_shut 59 = .ok (.getfield 210, 3) ∧ decode cX13_shut 62 = .ok (.iload_n 2, 1) ∧ decode cX13_shut 63 = .ok (.iconst (-1), 1) ∧ decode cX13_shut 64 = .ok (.iastore, 1) ∧ decode cX13_shut 65 = .ok (.iinc 1 (-1), 3) ∧ decode cX13_shut 68 = .ok (.goto (-61), 3) ∧ decode cX13_shut 71 = .ok (.aload_n 0, 1) ∧ decode cX13_shut 72 = .ok (.iconst 0, 1) ∧ decode cX13_shut 73 = .ok (.putfield 474, 3) ∧ decode cX13_shut 76 = .ok (.return_, 1) := by decide +kernel
theorem dX13_shut_55 : decode cX13_shut 55 = .ok (.iload_n 2, 1) := dX13_shut_55g.1
theorem dX13_shut_56 : decode cX13_shut 56 = .ok (.iconst 0, 1) := dX13_shut_55g.2.1
theorem dX13_shut_57 : decode cX13_shut 57 = .ok (.bastore, 1) := dX13_shut_55g.2.2.1
theorem dX13_shut_58 : decode cX13_shut 58 = .ok (.aload_n 0, 1) := dX13_shut_55g.2.2.2.1
theorem dX13_shut_59 : decode cX13_shut 59 = .ok (.getfield 210, 3) := dX13_shut_55g.2.2.2.2.1
theorem dX13_shut_62 : decode cX13_shut 62 = .ok (.iload_n 2, 1) := dX13_shut_55g.2.2.2.2.2.1
theorem dX13_shut_63 : decode cX13_shut 63 = .ok (.iconst (-1), 1) := dX13_shut_55g.2.2.2.2.2.2.1
theorem dX13_shut_64 : decode cX13_shut 64 = .ok (.iastore, 1) := dX13_shut_55g.2.2.2.2.2.2.2.1
theorem dX13_shut_65 : decode cX13_shut 65 = .ok (.iinc 1 (-1), 3) := dX13_shut_55g.2.2.2.2.2.2.2.2.1
theorem dX13_shut_68 : decode cX13_shut 68 = .ok (.goto (-61), 3) := dX13_shut_55g.2.2.2.2.2.2.2.2.2.1
theorem dX13_shut_71 : decode cX13_shut 71 = .ok (.aload_n 0, 1) := dX13_shut_55g.2.2.2.2.2.2.2.2.2.2.1
theorem dX13_shut_72 : decode cX13_shut 72 = .ok (.iconst 0, 1) := dX13_shut_55g.2.2.2.2.2.2.2.2.2.2.2.1
theorem dX13_shut_73 : decode cX13_shut 73 = .ok (.putfield 474, 3) := dX13_shut_55g.2.2.2.2.2.2.2.2.2.2.2.2.1
theorem dX13_shut_76 : decode cX13_shut 76 = .ok (.return_, 1) := dX13_shut_55g.2.2.2.2.2.2.2.2.2.2.2.2.2
theorem dX13_close_0g : decode cX13_close 0 = .ok (.aload_n 0, 1) ∧ decode cX13_close 1 = .ok (.iconst 0, 1) ∧ decode cX13_close 2 = .ok (.putfield 252, 3) ∧ decode cX13_close 5 = .ok (.aload_n 0, 1) ∧ decode cX13_close 6 = .ok (.getfield 477, 3) ∧ decode cX13_close 9 = .ok (.ifCond .eq 7, 3) ∧ decode cX13_close 12 = .ok (.aload_n 0, 1) ∧ decode cX13_close 13 = .ok (.invokevirtual 617, 3) ∧ decode cX13_close 16 = .ok (.aload_n 0, 1) ∧ decode cX13_close 17 = .ok (.getfield 471, 3) ∧ decode cX13_close 20 = .ok (.ireturn, 1) := by decide +kernel
theorem dX13_close_0 : decode cX13_close 0 = .ok (.aload_n 0, 1) := dX13_close_0g.1
theorem dX13_close_1 : decode cX13_close 1 = .ok (.iconst 0, 1) := dX13_close_0g.2.1
theorem dX13_close_2 : decode cX13_close 2 = .ok (.putfield 252, 3) := dX13_close_0g.2.2.1
theorem dX13_close_5 : decode cX13_close 5 = .ok (.aload_n 0, 1) := dX13_close_0g.2.2.2.1
theorem dX13_close_6 : decode cX13_close 6 = .ok (.getfield 477, 3) := dX13_close_0g.2.2.2.2.1
theorem dX13_close_9 : decode cX13_close 9 = .ok (.ifCond .eq 7, 3) := dX13_close_0g.2.2.2.2.2.1
theorem dX13_close_12 : decode cX13_close 12 = .ok (.aload_n 0, 1) := dX13_close_0g.2.2.2.2.2.2.1
theorem dX13_close_13 : decode cX13_close 13 = .ok (.invokevirtual 617, 3) := dX13_close_0g.2.2.2.2.2.2.2.1
theorem dX13_close_16 : decode cX13_close 16 = .ok (.aload_n 0, 1) := dX13_close_0g.2.2.2.2.2.2.2.2.1
theorem dX13_close_17 : decode cX13_close 17 = .ok (.getfield 471, 3) := dX13_close_0g.2.2.2.2.2.2.2.2.2.1
theorem dX13_close_20 : decode cX13_close 20 = .ok (.ireturn, 1) := dX13_close_0g.2.2.2.2.2.2.2.2.2.2
theorem dX13_events_0g : decode cX13_events 0 = .ok (.aload_n 0, 1) ∧ decode cX13_events 1 = .ok (.iconst 0, 1) ∧ decode cX13_events 2 = .ok (.putfield 252, 3) ∧ decode cX13_events 5 = .ok (.aload_n 0, 1) ∧ decode cX13_events 6 = .ok (.getfield 471, 3) ∧ decode cX13_events 9 = .ok (.ireturn, 1) := by decide +kernel
theorem dX13_events_0 : decode cX13_events 0 = .ok (.aload_n 0, 1) := dX13_events_0g.1
theorem dX13_events_1 : decode cX13_events 1 = .ok (.iconst 0, 1) := dX13_events_0g.2.1
theorem dX13_events_2 : decode cX13_events 2 = .ok (.putfield 252, 3) := dX13_events_0g.2.2.1
theorem dX13_events_5 : decode cX13_events 5 = .ok (.aload_n 0, 1) := dX13_events_0g.2.2.2.1
theorem dX13_events_6 : decode cX13_events 6 = .ok (.getfield 471, 3) := dX13_events_0g.2.2.2.2.1
theorem dX13_events_9 : decode cX13_events 9 = .ok (.ireturn, 1) := dX13_events_0g.2.2.2.2.2
theorem dX13_event_0g : decode cX13_event 0 = .ok (.aload_n 0, 1) ∧ decode cX13_event 1 = .ok (.iconst 0, 1) ∧ decode cX13_event 2 = .ok (.putfield 252, 3) ∧ decode cX13_event 5 = .ok (.iload_n 1, 1) ∧ decode cX13_event 6 = .ok (.ifCond .lt 11, 3) ∧ decode cX13_event 9 = .ok (.iload_n 1, 1) ∧ decode cX13_event 10 = .ok (.aload_n 0, 1) ∧ decode cX13_event 11 = .ok (.getfield 471, 3) ∧ decode cX13_event 14 = .ok (.if_icmp .lt 5, 3) ∧ decode cX13_event 17 = .ok (.iconst (-1), 1) ∧ decode cX13_event 18 = .ok (.ireturn, 1) ∧ decode cX13_event 19 = .ok (.iload_n 2, 1) ∧ decode cX13_event 20 = .ok (.tableswitch 60 0 3 #[32, 39, 46, 53], 32) ∧ decode cX13_event 52 = .ok (.aload_n 0, 1) ∧ decode cX13_event 53 = .ok (.getfield 195, 3) ∧ decode cX13_event 56 = .ok (.iload_n 1, 1) := by decide +kernel
theorem dX13_event_0 : decode cX13_event 0 = .ok (.aload_n 0, 1) := dX13_event_0g.1
theorem dX13_event_1 : decode cX13_event 1 = .ok (.iconst 0, 1) := dX13_event_0g.2.1
theorem dX13_event_2 : decode cX13_event 2 = .ok (.putfield 252, 3) := dX13_event_0g.2.2.1
theorem dX13_event_5 : decode cX13_event 5 = .ok (.iload_n 1, 1) := dX13_event_0g.2.2.2.1
theorem dX13_event_6 : decode cX13_event 6 = .ok (.ifCond .lt 11, 3) := dX13_event_0g.2.2.2.2.1
theorem dX13_event_9 : decode cX13_event 9 = .ok (.iload_n 1, 1) := dX13_event_0g.2.2.2.2.2.1
theorem dX13_event_10 : decode cX13_event 10 = .ok (.aload_n 0, 1) := dX13_event_0g.2.2.2.2.2.2.1
theorem dX13_event_11 : decode cX13_event 11 = .ok (.getfield 471, 3) := dX13_event_0g.2.2.2.2.2.2.2.1
theorem dX13_event_14 : decode cX13_event 14 = .ok (.if_icmp .lt 5, 3) := dX13_event_0g.2.2.2.2.2.2.2.2.1
theorem dX13_event_17 : decode cX13_event 17 = .ok (.iconst (-1), 1) := dX13_event_0g.2.2.2.2.2.2.2.2.2.1
theorem dX13_event_18 : decode cX13_event 18 = .ok (.ireturn, 1) := dX13_event_0g.2.2.2.2.2.2.2.2.2.2.1
theorem dX13_event_19 : decode cX13_event 19 = .ok (.iload_n 2, 1) := dX13_event_0g.2.2.2.2.2.2.2.2.2.2.2.1
theorem dX13_event_20 : decode cX13_event 20 = .ok (.tableswitch 60 0 3 #[32, 39, 46, 53], 32) := dX13_event_0g.2.2.2.2.2.2.2.2.2.2.2.2.1
theorem dX13_event_52 : decode cX13_event 52 = .ok (.aload_n 0, 1) := dX13_event_0g.2.2.2.2.2.2.2.2.2.2.2.2.2.1
theorem dX13_event_53 : decode cX13_event 53 = .ok (.getfield 195, 3) := dX13_event_0g.2.2.2.2.2.2.2.2.2.2.2.2.2.2.1
theorem dX13_event_56 : decode cX13_event 56 = .ok (.iload_n 1, 1) := dX13_event_0g.2.2.2.2.2.2.2.2.2.2.2.2.2.2.2
theorem dX13_event_57g : decode cX13_event 57 = .ok (.iaload, 1) ∧ decode cX13_event 58 = .ok (.ireturn, 1) ∧ decode cX13_event 59 = .ok (.aload_n 0, 1) ∧ decode cX13_event 60 = .ok (.getfield 198, 3) ∧ decode cX13_event 63 = .ok (.iload_n 1, 1) ∧ decode cX13_event 64 = .ok (.iaload, 1) ∧ decode cX13_event 65 = .ok (.ireturn, 1) ∧ decode cX13_event 66 = .ok (.aload_n 0, 1) ∧ decode cX13_event 67 = .ok (.getfield 201, 3) ∧ decode cX13_event 70 = .ok (.iload_n 1, 1) ∧ decode cX13_event 71 = .ok (.iaload, 1) ∧ decode cX13_event 72 = .ok (.ireturn, 1) ∧ decode cX13_event 73 = .ok (.aload_n 0, 1) ∧ decode cX13_event 74 = .ok (.getfield 204, 3) ∧ decode cX13_event 77 = .ok (.iload_n 1, 1) ∧ decode cX13_event 78 = .ok (.iaload, 1) := by decide +kernel
theorem dX13_event_57 : decode cX13_event 57 = .ok (.iaload, 1) := dX13_event_57g.1
theorem dX13_event_58 : decode cX13_event 58 = .ok (.ireturn, 1) := dX13_event_57g.2.1
theorem dX13_event_59 : decode cX13_event 59 = .ok (.aload_n 0, 1) := dX13_event_57g.2.2.1
theorem dX13_event_60 : decode cX13_event 60 = .ok (.getfield 198, 3) := dX13_event_57g.2.2.2.1
theorem dX13_event_63 : decode cX13_event 63 = .ok (.iload_n 1, 1) := dX13_event_57g.2.2.2.2.1
theorem dX13_event_64 : decode cX13_event 64 = .ok (.iaload, 1) := dX13_event_57g.2.2.2.2.2.1
theorem dX13_event_65 : decode cX13_event 65 = .ok (.ireturn, 1) := dX13_event_57g.2.2.2.2.2.2.1
theorem dX13_event_66 : decode cX13_event 66 = .ok (.aload_n 0, 1) := dX13_event_57g.2.2.2.2.2.2.2.1
theorem dX13_event_67 : decode cX13_event 67 = .ok (.getfield 201, 3) := dX13_event_57g.2.2.2.2.2.2.2.2.1
theorem dX13_event_70 : decode cX13_event 70 = .ok (.iload_n 1, 1) := dX13_event_57g.2.2.2.2.2.2.2.2.2.1
theorem dX13_event_71 : decode cX13_event 71 = .ok (.iaload, 1) := dX13_event_57g.2.2.2.2.2.2.2.2.2.2.1
theorem dX13_event_72 : decode cX13_event 72 = .ok (.ireturn, 1) := dX13_event_57g.2.2.2.2.2.2.2.2.2.2.2.1
theorem dX13_event_73 : decode cX13_event 73 = .ok (.aload_n 0, 1) := dX13_event_57g.2.2.2.2.2.2.2.2.2.2.2.2.1
theorem dX13_event_74 : decode cX13_event 74 = .ok (.getfield 204, 3) := dX13_event_57g.2.2.2.2.2.2.2.2.2.2.2.2.2.1
theorem dX13_event_77 : decode cX13_event 77 = .ok (.iload_n 1, 1) := dX13_event_57g.2.2.2.2.2.2.2.2.2.2.2.2.2.2.1
theorem dX13_event_78 : decode cX13_event 78 = .ok (.iaload, 1) := dX13_event_57g.2.2.2.2.2.2.2.2.2.2.2.2.2.2.2
theorem dX13_event_79g : decode cX13_event 79 = .ok (.ireturn, 1) ∧ decode cX13_event 80 = .ok (.iconst (-1), 1) ∧ decode cX13_event 81 = .ok (.ireturn, 1) := by decide +kernel
theorem dX13_event_79 : decode cX13_event 79 = .ok (.ireturn, 1) := dX13_event_79g.1
theorem dX13_event_80 : decode cX13_event 80 = .ok (.iconst (-1), 1) := dX13_event_79g.2.1
theorem dX13_event_81 : decode cX13_event 81 = .ok (.ireturn, 1) := dX13_event_79g.2.2
theorem dX13_object_0g : decode cX13_object 0 = .ok (.aload_n 0, 1) ∧ decode cX13_object 1 = .ok (.iconst 0, 1) ∧ decode cX13_object 2 = .ok (.putfield 252, 3) ∧ decode cX13_object 5 = .ok (.iload_n 1, 1) ∧ decode cX13_object 6 = .ok (.ifCond .lt 20, 3) ∧ decode cX13_object 9 = .ok (.iload_n 1, 1) ∧ decode cX13_object 10 = .ok (.aload_n 0, 1) ∧ decode cX13_object 11 = .ok (.getfield 480, 3) ∧ decode cX13_object 14 = .ok (.if_icmp .ge 12, 3) ∧ decode cX13_object 17 = .ok (.iload_n 2, 1) ∧ decode cX13_object 18 = .ok (.ifCond .lt 8, 3) ∧ decode cX13_object 21 = .ok (.iload_n 2, 1) ∧ decode cX13_object 22 = .ok (.iconst 1, 1) ∧ decode cX13_object 23 = .ok (.if_icmp .le 7, 3) ∧ decode cX13_object 26 = .ok (.iconst (-1), 1) ∧ decode cX13_object 27 = .ok (.goto 22, 3) := by decide +kernel
theorem dX13_object_0 : decode cX13_object 0 = .ok (.aload_n 0, 1) := dX13_object_0g.1
theorem dX13_object_1 : decode cX13_object 1 = .ok (.iconst 0, 1) := dX13_object_0g.2.1
theorem dX13_object_2 : decode cX13_object 2 = .ok (.putfield 252, 3) := dX13_object_0g.2.2.1
theorem dX13_object_5 : decode cX13_object 5 = .ok (.iload_n 1, 1) := dX13_object_0g.2.2.2.1
theorem dX13_object_6 : decode cX13_object 6 = .ok (.ifCond .lt 20, 3) := dX13_object_0g.2.2.2.2.1
theorem dX13_object_9 : decode cX13_object 9 = .ok (.iload_n 1, 1) := dX13_object_0g.2.2.2.2.2.1
theorem dX13_object_10 : decode cX13_object 10 = .ok (.aload_n 0, 1) := dX13_object_0g.2.2.2.2.2.2.1
theorem dX13_object_11 : decode cX13_object 11 = .ok (.getfield 480, 3) := dX13_object_0g.2.2.2.2.2.2.2.1
theorem dX13_object_14 : decode cX13_object 14 = .ok (.if_icmp .ge 12, 3) := dX13_object_0g.2.2.2.2.2.2.2.2.1
theorem dX13_object_17 : decode cX13_object 17 = .ok (.iload_n 2, 1) := dX13_object_0g.2.2.2.2.2.2.2.2.2.1
theorem dX13_object_18 : decode cX13_object 18 = .ok (.ifCond .lt 8, 3) := dX13_object_0g.2.2.2.2.2.2.2.2.2.2.1
theorem dX13_object_21 : decode cX13_object 21 = .ok (.iload_n 2, 1) := dX13_object_0g.2.2.2.2.2.2.2.2.2.2.2.1
theorem dX13_object_22 : decode cX13_object 22 = .ok (.iconst 1, 1) := dX13_object_0g.2.2.2.2.2.2.2.2.2.2.2.2.1
theorem dX13_object_23 : decode cX13_object 23 = .ok (.if_icmp .le 7, 3) := dX13_object_0g.2.2.2.2.2.2.2.2.2.2.2.2.2.1
theorem dX13_object_26 : decode cX13_object 26 = .ok (.iconst (-1), 1) := dX13_object_0g.2.2.2.2.2.2.2.2.2.2.2.2.2.2.1
theorem dX13_object_27 : decode cX13_object 27 = .ok (.goto 22, 3) := dX13_object_0g.2.2.2.2.2.2.2.2.2.2.2.2.2.2.2
theorem dX13_object_30g : decode cX13_object 30 = .ok (.iload_n 2, 1) ∧ decode cX13_object 31 = .ok (.ifCond .ne 12, 3) ∧ decode cX13_object 34 = .ok (.aload_n 0, 1) ∧ decode cX13_object 35 = .ok (.getfield 189, 3) ∧ decode cX13_object 38 = .ok (.iload_n 1, 1) ∧ decode cX13_object 39 = .ok (.iaload, 1) ∧ decode cX13_object 40 = .ok (.goto 9, 3) ∧ decode cX13_object 43 = .ok (.aload_n 0, 1) ∧ decode cX13_object 44 = .ok (.getfield 192, 3) ∧ decode cX13_object 47 = .ok (.iload_n 1, 1) ∧ decode cX13_object 48 = .ok (.iaload, 1) ∧ decode cX13_object 49 = .ok (.ireturn, 1) := by decide +kernel
theorem dX13_object_30 : decode cX13_object 30 = .ok (.iload_n 2, 1) := dX13_object_30g.1
theorem dX13_object_31 : decode cX13_object 31 = .ok (.ifCond .ne 12, 3) := dX13_object_30g.2.1
theorem dX13_object_34 : decode cX13_object 34 = .ok (.aload_n 0, 1) := dX13_object_30g.2.2.1
theorem dX13_object_35 : decode cX13_object 35 = .ok (.getfield 189, 3) := dX13_object_30g.2.2.2.1
theorem dX13_object_38 : decode cX13_object 38 = .ok (.iload_n 1, 1) := dX13_object_30g.2.2.2.2.1
theorem dX13_object_39 : decode cX13_object 39 = .ok (.iaload, 1) := dX13_object_30g.2.2.2.2.2.1
theorem dX13_object_40 : decode cX13_object 40 = .ok (.goto 9, 3) := dX13_object_30g.2.2.2.2.2.2.1
theorem dX13_object_43 : decode cX13_object 43 = .ok (.aload_n 0, 1) := dX13_object_30g.2.2.2.2.2.2.2.1
theorem dX13_object_44 : decode cX13_object 44 = .ok (.getfield 192, 3) := dX13_object_30g.2.2.2.2.2.2.2.2.1
theorem dX13_object_47 : decode cX13_object 47 = .ok (.iload_n 1, 1) := dX13_object_30g.2.2.2.2.2.2.2.2.2.1
theorem dX13_object_48 : decode cX13_object 48 = .ok (.iaload, 1) := dX13_object_30g.2.2.2.2.2.2.2.2.2.2.1
theorem dX13_object_49 : decode cX13_object 49 = .ok (.ireturn, 1) := dX13_object_30g.2.2.2.2.2.2.2.2.2.2.2
theorem dX13_bean_0g : decode cX13_bean 0 = .ok (.aload_n 0, 1) ∧ decode cX13_bean 1 = .ok (.iconst 0, 1) ∧ decode cX13_bean 2 = .ok (.putfield 252, 3) ∧ decode cX13_bean 5 = .ok (.iload_n 1, 1) ∧ decode cX13_bean 6 = .ok (.ifCond .lt 18, 3) ∧ decode cX13_bean 9 = .ok (.iload_n 1, 1) ∧ decode cX13_bean 10 = .ok (.aload_n 0, 1) ∧ decode cX13_bean 11 = .ok (.getfield 439, 3) ∧ decode cX13_bean 14 = .ok (.if_icmp .ge 10, 3) ∧ decode cX13_bean 17 = .ok (.aload_n 0, 1) ∧ decode cX13_bean 18 = .ok (.getfield 477, 3) ∧ decode cX13_bean 21 = .ok (.ifCond .ne 5, 3) ∧ decode cX13_bean 24 = .ok (.iconst (-1), 1) ∧ decode cX13_bean 25 = .ok (.ireturn, 1) ∧ decode cX13_bean 26 = .ok (.aload_n 0, 1) ∧ decode cX13_bean 27 = .ok (.getfield 168, 3) := by decide +kernel
theorem dX13_bean_0 : decode cX13_bean 0 = .ok (.aload_n 0, 1) := dX13_bean_0g.1
theorem dX13_bean_1 : decode cX13_bean 1 = .ok (.iconst 0, 1) := dX13_bean_0g.2.1
theorem dX13_bean_2 : decode cX13_bean 2 = .ok (.putfield 252, 3) := dX13_bean_0g.2.2.1
theorem dX13_bean_5 : decode cX13_bean 5 = .ok (.iload_n 1, 1) := dX13_bean_0g.2.2.2.1
theorem dX13_bean_6 : decode cX13_bean 6 = .ok (.ifCond .lt 18, 3) := dX13_bean_0g.2.2.2.2.1
theorem dX13_bean_9 : decode cX13_bean 9 = .ok (.iload_n 1, 1) := dX13_bean_0g.2.2.2.2.2.1
theorem dX13_bean_10 : decode cX13_bean 10 = .ok (.aload_n 0, 1) := dX13_bean_0g.2.2.2.2.2.2.1
theorem dX13_bean_11 : decode cX13_bean 11 = .ok (.getfield 439, 3) := dX13_bean_0g.2.2.2.2.2.2.2.1
theorem dX13_bean_14 : decode cX13_bean 14 = .ok (.if_icmp .ge 10, 3) := dX13_bean_0g.2.2.2.2.2.2.2.2.1
theorem dX13_bean_17 : decode cX13_bean 17 = .ok (.aload_n 0, 1) := dX13_bean_0g.2.2.2.2.2.2.2.2.2.1
theorem dX13_bean_18 : decode cX13_bean 18 = .ok (.getfield 477, 3) := dX13_bean_0g.2.2.2.2.2.2.2.2.2.2.1
theorem dX13_bean_21 : decode cX13_bean 21 = .ok (.ifCond .ne 5, 3) := dX13_bean_0g.2.2.2.2.2.2.2.2.2.2.2.1
theorem dX13_bean_24 : decode cX13_bean 24 = .ok (.iconst (-1), 1) := dX13_bean_0g.2.2.2.2.2.2.2.2.2.2.2.2.1
theorem dX13_bean_25 : decode cX13_bean 25 = .ok (.ireturn, 1) := dX13_bean_0g.2.2.2.2.2.2.2.2.2.2.2.2.2.1
theorem dX13_bean_26 : decode cX13_bean 26 = .ok (.aload_n 0, 1) := dX13_bean_0g.2.2.2.2.2.2.2.2.2.2.2.2.2.2.1
theorem dX13_bean_27 : decode cX13_bean 27 = .ok (.getfield 168, 3) := dX13_bean_0g.2.2.2.2.2.2.2.2.2.2.2.2.2.2.2
theorem dX13_bean_30g : decode cX13_bean 30 = .ok (.iload_n 1, 1) ∧ decode cX13_bean 31 = .ok (.iaload, 1) ∧ decode cX13_bean 32 = .ok (.istore_n 3, 1) ∧ decode cX13_bean 33 = .ok (.iload_n 2, 1) ∧ decode cX13_bean 34 = .ok (.tableswitch 199 0 11 #[62, 68, 74, 81, 88, 97, 106, 115, 129, 153, 177, 192], 62) ∧ decode cX13_bean 96 = .ok (.aload_n 0, 1) ∧ decode cX13_bean 97 = .ok (.iload_n 1, 1) ∧ decode cX13_bean 98 = .ok (.invokevirtual 574, 3) ∧ decode cX13_bean 101 = .ok (.ireturn, 1) ∧ decode cX13_bean 102 = .ok (.aload_n 0, 1) ∧ decode cX13_bean 103 = .ok (.iload_n 1, 1) ∧ decode cX13_bean 104 = .ok (.invokevirtual 557, 3) ∧ decode cX13_bean 107 = .ok (.ireturn, 1) ∧ decode cX13_bean 108 = .ok (.aload_n 0, 1) ∧ decode cX13_bean 109 = .ok (.getfield 174, 3) ∧ decode cX13_bean 112 = .ok (.iload_n 1, 1) := by decide +kernel
theorem dX13_bean_30 : decode cX13_bean 30 = .ok (.iload_n 1, 1) := dX13_bean_30g.1
theorem dX13_bean_31 : decode cX13_bean 31 = .ok (.iaload, 1) := dX13_bean_30g.2.1
theorem dX13_bean_32 : decode cX13_bean 32 = .ok (.istore_n 3, 1) := dX13_bean_30g.2.2.1
theorem dX13_bean_33 : decode cX13_bean 33 = .ok (.iload_n 2, 1) := dX13_bean_30g.2.2.2.1
theorem dX13_bean_34 : decode cX13_bean 34 = .ok (.tableswitch 199 0 11 #[62, 68, 74, 81, 88, 97, 106, 115, 129, 153, 177, 192], 62) := dX13_bean_30g.2.2.2.2.1
theorem dX13_bean_96 : decode cX13_bean 96 = .ok (.aload_n 0, 1) := dX13_bean_30g.2.2.2.2.2.1
theorem dX13_bean_97 : decode cX13_bean 97 = .ok (.iload_n 1, 1) := dX13_bean_30g.2.2.2.2.2.2.1
theorem dX13_bean_98 : decode cX13_bean 98 = .ok (.invokevirtual 574, 3) := dX13_bean_30g.2.2.2.2.2.2.2.1
theorem dX13_bean_101 : decode cX13_bean 101 = .ok (.ireturn, 1) := dX13_bean_30g.2.2.2.2.2.2.2.2.1
theorem dX13_bean_102 : decode cX13_bean 102 = .ok (.aload_n 0, 1) := dX13_bean_30g.2.2.2.2.2.2.2.2.2.1
theorem dX13_bean_103 : decode cX13_bean 103 = .ok (.iload_n 1, 1) := dX13_bean_30g.2.2.2.2.2.2.2.2.2.2.1
theorem dX13_bean_104 : decode cX13_bean 104 = .ok (.invokevirtual 557, 3) := dX13_bean_30g.2.2.2.2.2.2.2.2.2.2.2.1
theorem dX13_bean_107 : decode cX13_bean 107 = .ok (.ireturn, 1) := dX13_bean_30g.2.2.2.2.2.2.2.2.2.2.2.2.1
theorem dX13_bean_108 : decode cX13_bean 108 = .ok (.aload_n 0, 1) := dX13_bean_30g.2.2.2.2.2.2.2.2.2.2.2.2.2.1
theorem dX13_bean_109 : decode cX13_bean 109 = .ok (.getfield 174, 3) := dX13_bean_30g.2.2.2.2.2.2.2.2.2.2.2.2.2.2.1
theorem dX13_bean_112 : decode cX13_bean 112 = .ok (.iload_n 1, 1) := dX13_bean_30g.2.2.2.2.2.2.2.2.2.2.2.2.2.2.2
theorem dX13_bean_113g : decode cX13_bean 113 = .ok (.iaload, 1) ∧ decode cX13_bean 114 = .ok (.ireturn, 1) ∧ decode cX13_bean 115 = .ok (.aload_n 0, 1) ∧ decode cX13_bean 116 = .ok (.getfield 180, 3) ∧ decode cX13_bean 119 = .ok (.iload_n 1, 1) ∧ decode cX13_bean 120 = .ok (.iaload, 1) ∧ decode cX13_bean 121 = .ok (.ireturn, 1) ∧ decode cX13_bean 122 = .ok (.aload_n 0, 1) ∧ decode cX13_bean 123 = .ok (.iload_n 1, 1) ∧ decode cX13_bean 124 = .ok (.ldc2_w 398, 3) ∧ decode cX13_bean 127 = .ok (.invokevirtual 567, 3) ∧ decode cX13_bean 130 = .ok (.ireturn, 1) ∧ decode cX13_bean 131 = .ok (.aload_n 0, 1) ∧ decode cX13_bean 132 = .ok (.iload_n 1, 1) ∧ decode cX13_bean 133 = .ok (.ldc2_w 400, 3) ∧ decode cX13_bean 136 = .ok (.invokevirtual 567, 3) := by decide +kernel
theorem dX13_bean_113 : decode cX13_bean 113 = .ok (.iaload, 1) := dX13_bean_113g.1
theorem dX13_bean_114 : decode cX13_bean 114 = .ok (.ireturn, 1) := dX13_bean_113g.2.1
theorem dX13_bean_115 : decode cX13_bean 115 = .ok (.aload_n 0, 1) := dX13_bean_113g.2.2.1
theorem dX13_bean_116 : decode cX13_bean 116 = .ok (.getfield 180, 3) := dX13_bean_113g.2.2.2.1
theorem dX13_bean_119 : decode cX13_bean 119 = .ok (.iload_n 1, 1) := dX13_bean_113g.2.2.2.2.1
theorem dX13_bean_120 : decode cX13_bean 120 = .ok (.iaload, 1) := dX13_bean_113g.2.2.2.2.2.1
theorem dX13_bean_121 : decode cX13_bean 121 = .ok (.ireturn, 1) := dX13_bean_113g.2.2.2.2.2.2.1
theorem dX13_bean_122 : decode cX13_bean 122 = .ok (.aload_n 0, 1) := dX13_bean_113g.2.2.2.2.2.2.2.1
theorem dX13_bean_123 : decode cX13_bean 123 = .ok (.iload_n 1, 1) := dX13_bean_113g.2.2.2.2.2.2.2.2.1
theorem dX13_bean_124 : decode cX13_bean 124 = .ok (.ldc2_w 398, 3) := dX13_bean_113g.2.2.2.2.2.2.2.2.2.1
theorem dX13_bean_127 : decode cX13_bean 127 = .ok (.invokevirtual 567, 3) := dX13_bean_113g.2.2.2.2.2.2.2.2.2.2.1
theorem dX13_bean_130 : decode cX13_bean 130 = .ok (.ireturn, 1) := dX13_bean_113g.2.2.2.2.2.2.2.2.2.2.2.1
theorem dX13_bean_131 : decode cX13_bean 131 = .ok (.aload_n 0, 1) := dX13_bean_113g.2.2.2.2.2.2.2.2.2.2.2.2.1
theorem dX13_bean_132 : decode cX13_bean 132 = .ok (.iload_n 1, 1) := dX13_bean_113g.2.2.2.2.2.2.2.2.2.2.2.2.2.1
theorem dX13_bean_133 : decode cX13_bean 133 = .ok (.ldc2_w 400, 3) := dX13_bean_113g.2.2.2.2.2.2.2.2.2.2.2.2.2.2.1
theorem dX13_bean_136 : decode cX13_bean 136 = .ok (.invokevirtual 567, 3) := dX13_bean_113g.2.2.2.2.2.2.2.2.2.2.2.2.2.2.2
theorem dX13_bean_139g : decode cX13_bean 139 = .ok (.ireturn, 1) ∧ decode cX13_bean 140 = .ok (.aload_n 0, 1) ∧ decode cX13_bean 141 = .ok (.iload_n 1, 1) ∧ decode cX13_bean 142 = .ok (.ldc2_w 402, 3) ∧ decode cX13_bean 145 = .ok (.invokevirtual 567, 3) ∧ decode cX13_bean 148 = .ok (.ireturn, 1) ∧ decode cX13_bean 149 = .ok (.aload_n 0, 1) ∧ decode cX13_bean 150 = .ok (.iload_n 1, 1) ∧ decode cX13_bean 151 = .ok (.invokevirtual 507, 3) ∧ decode cX13_bean 154 = .ok (.ifCond .eq 7, 3) ∧ decode cX13_bean 157 = .ok (.iconst 1, 1) ∧ decode cX13_bean 158 = .ok (.goto 4, 3) ∧ decode cX13_bean 161 = .ok (.iconst 0, 1) ∧ decode cX13_bean 162 = .ok (.ireturn, 1) ∧ decode cX13_bean 163 = .ok (.aload_n 0, 1) ∧ decode cX13_bean 164 = .ok (.iload_n 3, 1) := by decide +kernel
theorem dX13_bean_139 : decode cX13_bean 139 = .ok (.ireturn, 1) := dX13_bean_139g.1
theorem dX13_bean_140 : decode cX13_bean 140 = .ok (.aload_n 0, 1) := dX13_bean_139g.2.1
theorem dX13_bean_141 : decode cX13_bean 141 = .ok (.iload_n 1, 1) := dX13_bean_139g.2.2.1
theorem dX13_bean_142 : decode cX13_bean 142 = .ok (.ldc2_w 402, 3) := dX13_bean_139g.2.2.2.1
theorem dX13_bean_145 : decode cX13_bean 145 = .ok (.invokevirtual 567, 3) := dX13_bean_139g.2.2.2.2.1
theorem dX13_bean_148 : decode cX13_bean 148 = .ok (.ireturn, 1) := dX13_bean_139g.2.2.2.2.2.1
theorem dX13_bean_149 : decode cX13_bean 149 = .ok (.aload_n 0, 1) := dX13_bean_139g.2.2.2.2.2.2.1
theorem dX13_bean_150 : decode cX13_bean 150 = .ok (.iload_n 1, 1) := dX13_bean_139g.2.2.2.2.2.2.2.1
theorem dX13_bean_151 : decode cX13_bean 151 = .ok (.invokevirtual 507, 3) := dX13_bean_139g.2.2.2.2.2.2.2.2.1
theorem dX13_bean_154 : decode cX13_bean 154 = .ok (.ifCond .eq 7, 3) := dX13_bean_139g.2.2.2.2.2.2.2.2.2.1
theorem dX13_bean_157 : decode cX13_bean 157 = .ok (.iconst 1, 1) := dX13_bean_139g.2.2.2.2.2.2.2.2.2.2.1
theorem dX13_bean_158 : decode cX13_bean 158 = .ok (.goto 4, 3) := dX13_bean_139g.2.2.2.2.2.2.2.2.2.2.2.1
theorem dX13_bean_161 : decode cX13_bean 161 = .ok (.iconst 0, 1) := dX13_bean_139g.2.2.2.2.2.2.2.2.2.2.2.2.1
theorem dX13_bean_162 : decode cX13_bean 162 = .ok (.ireturn, 1) := dX13_bean_139g.2.2.2.2.2.2.2.2.2.2.2.2.2.1
theorem dX13_bean_163 : decode cX13_bean 163 = .ok (.aload_n 0, 1) := dX13_bean_139g.2.2.2.2.2.2.2.2.2.2.2.2.2.2.1
theorem dX13_bean_164 : decode cX13_bean 164 = .ok (.iload_n 3, 1) := dX13_bean_139g.2.2.2.2.2.2.2.2.2.2.2.2.2.2.2
theorem dX13_bean_165g : decode cX13_bean 165 = .ok (.ldc2_w 392, 3) ∧ decode cX13_bean 168 = .ok (.invokevirtual 359, 3) ∧ decode cX13_bean 171 = .ok (.aload_n 0, 1) ∧ decode cX13_bean 172 = .ok (.getfield 55, 3) ∧ decode cX13_bean 175 = .ok (.iconst 3, 1) ∧ decode cX13_bean 176 = .ok (.laload, 1) ∧ decode cX13_bean 177 = .ok (.lcmp, 1) ∧ decode cX13_bean 178 = .ok (.ifCond .ne 7, 3) ∧ decode cX13_bean 181 = .ok (.iconst 1, 1) ∧ decode cX13_bean 182 = .ok (.goto 4, 3) ∧ decode cX13_bean 185 = .ok (.iconst 0, 1) ∧ decode cX13_bean 186 = .ok (.ireturn, 1) ∧ decode cX13_bean 187 = .ok (.aload_n 0, 1) ∧ decode cX13_bean 188 = .ok (.iload_n 3, 1) ∧ decode cX13_bean 189 = .ok (.ldc2_w 394, 3) ∧ decode cX13_bean 192 = .ok (.invokevirtual 359, 3) := by decide +kernel
theorem dX13_bean_165 : decode cX13_bean 165 = .ok (.ldc2_w 392, 3) := dX13_bean_165g.1
theorem dX13_bean_168 : decode cX13_bean 168 = .ok (.invokevirtual 359, 3) := dX13_bean_165g.2.1
theorem dX13_bean_171 : decode cX13_bean 171 = .ok (.aload_n 0, 1) := dX13_bean_165g.2.2.1
theorem dX13_bean_172 : decode cX13_bean 172 = .ok (.getfield 55, 3) := dX13_bean_165g.2.2.2.1
theorem dX13_bean_175 : decode cX13_bean 175 = .ok (.iconst 3, 1) := dX13_bean_165g.2.2.2.2.1
theorem dX13_bean_176 : decode cX13_bean 176 = .ok (.laload, 1) := dX13_bean_165g.2.2.2.2.2.1
theorem dX13_bean_177 : decode cX13_bean 177 = .ok (.lcmp, 1) := dX13_bean_165g.2.2.2.2.2.2.1
theorem dX13_bean_178 : decode cX13_bean 178 = .ok (.ifCond .ne 7, 3) := dX13_bean_165g.2.2.2.2.2.2.2.1
theorem dX13_bean_181 : decode cX13_bean 181 = .ok (.iconst 1, 1) := dX13_bean_165g.2.2.2.2.2.2.2.2.1
theorem dX13_bean_182 : decode cX13_bean 182 = .ok (.goto 4, 3) := dX13_bean_165g.2.2.2.2.2.2.2.2.2.1
theorem dX13_bean_185 : decode cX13_bean 185 = .ok (.iconst 0, 1) := dX13_bean_165g.2.2.2.2.2.2.2.2.2.2.1
theorem dX13_bean_186 : decode cX13_bean 186 = .ok (.ireturn, 1) := dX13_bean_165g.2.2.2.2.2.2.2.2.2.2.2.1
theorem dX13_bean_187 : decode cX13_bean 187 = .ok (.aload_n 0, 1) := dX13_bean_165g.2.2.2.2.2.2.2.2.2.2.2.2.1
theorem dX13_bean_188 : decode cX13_bean 188 = .ok (.iload_n 3, 1) := dX13_bean_165g.2.2.2.2.2.2.2.2.2.2.2.2.2.1
theorem dX13_bean_189 : decode cX13_bean 189 = .ok (.ldc2_w 394, 3) := dX13_bean_165g.2.2.2.2.2.2.2.2.2.2.2.2.2.2.1
theorem dX13_bean_192 : decode cX13_bean 192 = .ok (.invokevirtual 359, 3) := dX13_bean_165g.2.2.2.2.2.2.2.2.2.2.2.2.2.2.2
theorem dX13_bean_195g : decode cX13_bean 195 = .ok (.aload_n 0, 1) ∧ decode cX13_bean 196 = .ok (.getfield 55, 3) ∧ decode cX13_bean 199 = .ok (.iconst 0, 1) ∧ decode cX13_bean 200 = .ok (.laload, 1) ∧ decode cX13_bean 201 = .ok (.lcmp, 1) ∧ decode cX13_bean 202 = .ok (.ifCond .ne 7, 3) ∧ decode cX13_bean 205 = .ok (.iconst 1, 1) ∧ decode cX13_bean 206 = .ok (.goto 4, 3) ∧ decode cX13_bean 209 = .ok (.iconst 0, 1) ∧ decode cX13_bean 210 = .ok (.ireturn, 1) ∧ decode cX13_bean 211 = .ok (.aload_n 0, 1) ∧ decode cX13_bean 212 = .ok (.getfield 213, 3) ∧ decode cX13_bean 215 = .ok (.iload_n 1, 1) ∧ decode cX13_bean 216 = .ok (.baload, 1) ∧ decode cX13_bean 217 = .ok (.ifCond .eq 7, 3) ∧ decode cX13_bean 220 = .ok (.iconst 1, 1) := by decide +kernel
theorem dX13_bean_195 : decode cX13_bean 195 = .ok (.aload_n 0, 1) := dX13_bean_195g.1
theorem dX13_bean_196 : decode cX13_bean 196 = .ok (.getfield 55, 3) := dX13_bean_195g.2.1
theorem dX13_bean_199 : decode cX13_bean 199 = .ok (.iconst 0, 1) := dX13_bean_195g.2.2.1
theorem dX13_bean_200 : decode cX13_bean 200 = .ok (.laload, 1) := dX13_bean_195g.2.2.2.1
theorem dX13_bean_201 : decode cX13_bean 201 = .ok (.lcmp, 1) := dX13_bean_195g.2.2.2.2.1
theorem dX13_bean_202 : decode cX13_bean 202 = .ok (.ifCond .ne 7, 3) := dX13_bean_195g.2.2.2.2.2.1
theorem dX13_bean_205 : decode cX13_bean 205 = .ok (.iconst 1, 1) := dX13_bean_195g.2.2.2.2.2.2.1
theorem dX13_bean_206 : decode cX13_bean 206 = .ok (.goto 4, 3) := dX13_bean_195g.2.2.2.2.2.2.2.1
theorem dX13_bean_209 : decode cX13_bean 209 = .ok (.iconst 0, 1) := dX13_bean_195g.2.2.2.2.2.2.2.2.1
theorem dX13_bean_210 : decode cX13_bean 210 = .ok (.ireturn, 1) := dX13_bean_195g.2.2.2.2.2.2.2.2.2.1
theorem dX13_bean_211 : decode cX13_bean 211 = .ok (.aload_n 0, 1) := dX13_bean_195g.2.2.2.2.2.2.2.2.2.2.1
theorem dX13_bean_212 : decode cX13_bean 212 = .ok (.getfield 213, 3) := dX13_bean_195g.2.2.2.2.2.2.2.2.2.2.2.1
theorem dX13_bean_215 : decode cX13_bean 215 = .ok (.iload_n 1, 1) := dX13_bean_195g.2.2.2.2.2.2.2.2.2.2.2.2.1
theorem dX13_bean_216 : decode cX13_bean 216 = .ok (.baload, 1) := dX13_bean_195g.2.2.2.2.2.2.2.2.2.2.2.2.2.1
theorem dX13_bean_217 : decode cX13_bean 217 = .ok (.ifCond .eq 7, 3) := dX13_bean_195g.2.2.2.2.2.2.2.2.2.2.2.2.2.2.1
theorem dX13_bean_220 : decode cX13_bean 220 = .ok (.iconst 1, 1) := dX13_bean_195g.2.2.2.2.2.2.2.2.2.2.2.2.2.2.2
theorem dX13_bean_221g : decode cX13_bean 221 = .ok (.goto 4, 3) ∧ decode cX13_bean 224 = .ok (.iconst 0, 1) ∧ decode cX13_bean 225 = .ok (.ireturn, 1) ∧ decode cX13_bean 226 = .ok (.aload_n 0, 1) ∧ decode cX13_bean 227 = .ok (.getfield 129, 3) ∧ decode cX13_bean 230 = .ok (.iload_n 3, 1) ∧ decode cX13_bean 231 = .ok (.iaload, 1) ∧ decode cX13_bean 232 = .ok (.ireturn, 1) ∧ decode cX13_bean 233 = .ok (.iconst (-1), 1) ∧ decode cX13_bean 234 = .ok (.ireturn, 1) := by decide +kernel
theorem dX13_bean_221 : decode cX13_bean 221 = .ok (.goto 4, 3) := dX13_bean_221g.1
theorem dX13_bean_224 : decode cX13_bean 224 = .ok (.iconst 0, 1) := dX13_bean_221g.2.1
theorem dX13_bean_225 : decode cX13_bean 225 = .ok (.ireturn, 1) := dX13_bean_221g.2.2.1
theorem dX13_bean_226 : decode cX13_bean 226 = .ok (.aload_n 0, 1) := dX13_bean_221g.2.2.2.1
theorem dX13_bean_227 : decode cX13_bean 227 = .ok (.getfield 129, 3) := dX13_bean_221g.2.2.2.2.1
theorem dX13_bean_230 : decode cX13_bean 230 = .ok (.iload_n 3, 1) := dX13_bean_221g.2.2.2.2.2.1
theorem dX13_bean_231 : decode cX13_bean 231 = .ok (.iaload, 1) := dX13_bean_221g.2.2.2.2.2.2.1
theorem dX13_bean_232 : decode cX13_bean 232 = .ok (.ireturn, 1) := dX13_bean_221g.2.2.2.2.2.2.2.1
theorem dX13_bean_233 : decode cX13_bean 233 = .ok (.iconst (-1), 1) := dX13_bean_221g.2.2.2.2.2.2.2.2.1
theorem dX13_bean_234 : decode cX13_bean 234 = .ok (.ireturn, 1) := dX13_bean_221g.2.2.2.2.2.2.2.2.2
