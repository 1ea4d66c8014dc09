theorem dX13_readDocument_0g : decode cX13_readDocument 0 = .ok (.aload_n 0, 1) ∧ decode cX13_readDocument 1 = .ok (.invokevirtual 339, 3) ∧ decode cX13_readDocument 4 = .ok (.aload_n 0, 1) ∧ decode cX13_readDocument 5 = .ok (.getfield 276, 3) ∧ decode cX13_readDocument 8 = .ok (.ifCond .ne 21, 3) ∧ decode cX13_readDocument 11 = .ok (.aload_n 0, 1) ∧ decode cX13_readDocument 12 = .ok (.iconst 0, 1) ∧ decode cX13_readDocument 13 = .ok (.invokevirtual 282, 3) ∧ decode cX13_readDocument 16 = .ok (.bipush 60, 2) ∧ decode cX13_readDocument 18 = .ok (.if_icmp .eq 11, 3) ∧ decode cX13_readDocument 21 = .ok (.aload_n 0, 1) ∧ decode cX13_readDocument 22 = .ok (.aload_n 0, 1) ∧ decode cX13_readDocument 23 = .ok (.getfield 279, 3) ∧ decode cX13_readDocument 26 = .ok (.invokevirtual 289, 3) ∧ decode cX13_readDocument 29 = .ok (.aload_n 0, 1) ∧ decode cX13_readDocument 30 = .ok (.getfield 276, 3) := by decide +kernel
theorem dX13_readDocument_0 : decode cX13_readDocument 0 = .ok (.aload_n 0, 1) := dX13_readDocument_0g.1
theorem dX13_readDocument_1 : decode cX13_readDocument 1 = .ok (.invokevirtual 339, 3) := dX13_readDocument_0g.2.1
theorem dX13_readDocument_4 : decode cX13_readDocument 4 = .ok (.aload_n 0, 1) := dX13_readDocument_0g.2.2.1
theorem dX13_readDocument_5 : decode cX13_readDocument 5 = .ok (.getfield 276, 3) := dX13_readDocument_0g.2.2.2.1
theorem dX13_readDocument_8 : decode cX13_readDocument 8 = .ok (.ifCond .ne 21, 3) := dX13_readDocument_0g.2.2.2.2.1
theorem dX13_readDocument_11 : decode cX13_readDocument 11 = .ok (.aload_n 0, 1) := dX13_readDocument_0g.2.2.2.2.2.1
theorem dX13_readDocument_12 : decode cX13_readDocument 12 = .ok (.iconst 0, 1) := dX13_readDocument_0g.2.2.2.2.2.2.1
theorem dX13_readDocument_13 : decode cX13_readDocument 13 = .ok (.invokevirtual 282, 3) := dX13_readDocument_0g.2.2.2.2.2.2.2.1
theorem dX13_readDocument_16 : decode cX13_readDocument 16 = .ok (.bipush 60, 2) := dX13_readDocument_0g.2.2.2.2.2.2.2.2.1
theorem dX13_readDocument_18 : decode cX13_readDocument 18 = .ok (.if_icmp .eq 11, 3) := dX13_readDocument_0g.2.2.2.2.2.2.2.2.2.1
theorem dX13_readDocument_21 : decode cX13_readDocument 21 = .ok (.aload_n 0, 1) := dX13_readDocument_0g.2.2.2.2.2.2.2.2.2.2.1
theorem dX13_readDocument_22 : decode cX13_readDocument 22 = .ok (.aload_n 0, 1) := dX13_readDocument_0g.2.2.2.2.2.2.2.2.2.2.2.1
theorem dX13_readDocument_23 : decode cX13_readDocument 23 = .ok (.getfield 279, 3) := dX13_readDocument_0g.2.2.2.2.2.2.2.2.2.2.2.2.1
theorem dX13_readDocument_26 : decode cX13_readDocument 26 = .ok (.invokevirtual 289, 3) := dX13_readDocument_0g.2.2.2.2.2.2.2.2.2.2.2.2.2.1
theorem dX13_readDocument_29 : decode cX13_readDocument 29 = .ok (.aload_n 0, 1) := dX13_readDocument_0g.2.2.2.2.2.2.2.2.2.2.2.2.2.2.1
theorem dX13_readDocument_30 : decode cX13_readDocument 30 = .ok (.getfield 276, 3) := dX13_readDocument_0g.2.2.2.2.2.2.2.2.2.2.2.2.2.2.2
theorem dX13_readDocument_33g : decode cX13_readDocument 33 = .ok (.ifCond .ne 25, 3) ∧ decode cX13_readDocument 36 = .ok (.aload_n 0, 1) ∧ decode cX13_readDocument 37 = .ok (.aload_n 0, 1) ∧ decode cX13_readDocument 38 = .ok (.iconst 1, 1) ∧ decode cX13_readDocument 39 = .ok (.invokevirtual 282, 3) ∧ decode cX13_readDocument 42 = .ok (.invokevirtual 303, 3) ∧ decode cX13_readDocument 45 = .ok (.ifCond .ne 13, 3) ∧ decode cX13_readDocument 48 = .ok (.aload_n 0, 1) ∧ decode cX13_readDocument 49 = .ok (.aload_n 0, 1) ∧ decode cX13_readDocument 50 = .ok (.getfield 279, 3) ∧ decode cX13_readDocument 53 = .ok (.iconst 1, 1) ∧ decode cX13_readDocument 54 = .ok (.iadd, 1) ∧ decode cX13_readDocument 55 = .ok (.invokevirtual 289, 3) ∧ decode cX13_readDocument 58 = .ok (.aload_n 0, 1) ∧ decode cX13_readDocument 59 = .ok (.iconst (-1), 1) ∧ decode cX13_readDocument 60 = .ok (.iconst 0, 1) := by decide +kernel
theorem dX13_readDocument_33 : decode cX13_readDocument 33 = .ok (.ifCond .ne 25, 3) := dX13_readDocument_33g.1
theorem dX13_readDocument_36 : decode cX13_readDocument 36 = .ok (.aload_n 0, 1) := dX13_readDocument_33g.2.1
theorem dX13_readDocument_37 : decode cX13_readDocument 37 = .ok (.aload_n 0, 1) := dX13_readDocument_33g.2.2.1
theorem dX13_readDocument_38 : decode cX13_readDocument 38 = .ok (.iconst 1, 1) := dX13_readDocument_33g.2.2.2.1
theorem dX13_readDocument_39 : decode cX13_readDocument 39 = .ok (.invokevirtual 282, 3) := dX13_readDocument_33g.2.2.2.2.1
theorem dX13_readDocument_42 : decode cX13_readDocument 42 = .ok (.invokevirtual 303, 3) := dX13_readDocument_33g.2.2.2.2.2.1
theorem dX13_readDocument_45 : decode cX13_readDocument 45 = .ok (.ifCond .ne 13, 3) := dX13_readDocument_33g.2.2.2.2.2.2.1
theorem dX13_readDocument_48 : decode cX13_readDocument 48 = .ok (.aload_n 0, 1) := dX13_readDocument_33g.2.2.2.2.2.2.2.1
theorem dX13_readDocument_49 : decode cX13_readDocument 49 = .ok (.aload_n 0, 1) := dX13_readDocument_33g.2.2.2.2.2.2.2.2.1
theorem dX13_readDocument_50 : decode cX13_readDocument 50 = .ok (.getfield 279, 3) := dX13_readDocument_33g.2.2.2.2.2.2.2.2.2.1
theorem dX13_readDocument_53 : decode cX13_readDocument 53 = .ok (.iconst 1, 1) := dX13_readDocument_33g.2.2.2.2.2.2.2.2.2.2.1
theorem dX13_readDocument_54 : decode cX13_readDocument 54 = .ok (.iadd, 1) := dX13_readDocument_33g.2.2.2.2.2.2.2.2.2.2.2.1
theorem dX13_readDocument_55 : decode cX13_readDocument 55 = .ok (.invokevirtual 289, 3) := dX13_readDocument_33g.2.2.2.2.2.2.2.2.2.2.2.2.1
theorem dX13_readDocument_58 : decode cX13_readDocument 58 = .ok (.aload_n 0, 1) := dX13_readDocument_33g.2.2.2.2.2.2.2.2.2.2.2.2.2.1
theorem dX13_readDocument_59 : decode cX13_readDocument 59 = .ok (.iconst (-1), 1) := dX13_readDocument_33g.2.2.2.2.2.2.2.2.2.2.2.2.2.2.1
theorem dX13_readDocument_60 : decode cX13_readDocument 60 = .ok (.iconst 0, 1) := dX13_readDocument_33g.2.2.2.2.2.2.2.2.2.2.2.2.2.2.2
theorem dX13_readDocument_61g : decode cX13_readDocument 61 = .ok (.invokevirtual 342, 3) ∧ decode cX13_readDocument 64 = .ok (.istore_n 1, 1) ∧ decode cX13_readDocument 65 = .ok (.iconst 1, 1) ∧ decode cX13_readDocument 66 = .ok (.istore_n 2, 1) ∧ decode cX13_readDocument 67 = .ok (.aload_n 0, 1) ∧ decode cX13_readDocument 68 = .ok (.getfield 335, 3) ∧ decode cX13_readDocument 71 = .ok (.ifCond .eq 5, 3) ∧ decode cX13_readDocument 74 = .ok (.iconst 0, 1) ∧ decode cX13_readDocument 75 = .ok (.istore_n 2, 1) ∧ decode cX13_readDocument 76 = .ok (.aload_n 0, 1) ∧ decode cX13_readDocument 77 = .ok (.getfield 276, 3) ∧ decode cX13_readDocument 80 = .ok (.ifCond .ne 173, 3) ∧ decode cX13_readDocument 83 = .ok (.iload_n 2, 1) ∧ decode cX13_readDocument 84 = .ok (.ifCond .le 169, 3) ∧ decode cX13_readDocument 87 = .ok (.aload_n 0, 1) ∧ decode cX13_readDocument 88 = .ok (.iconst 0, 1) := by decide +kernel
theorem dX13_readDocument_61 : decode cX13_readDocument 61 = .ok (.invokevirtual 342, 3) := dX13_readDocument_61g.1
theorem dX13_readDocument_64 : decode cX13_readDocument 64 = .ok (.istore_n 1, 1) := dX13_readDocument_61g.2.1
theorem dX13_readDocument_65 : decode cX13_readDocument 65 = .ok (.iconst 1, 1) := dX13_readDocument_61g.2.2.1
theorem dX13_readDocument_66 : decode cX13_readDocument 66 = .ok (.istore_n 2, 1) := dX13_readDocument_61g.2.2.2.1
theorem dX13_readDocument_67 : decode cX13_readDocument 67 = .ok (.aload_n 0, 1) := dX13_readDocument_61g.2.2.2.2.1
theorem dX13_readDocument_68 : decode cX13_readDocument 68 = .ok (.getfield 335, 3) := dX13_readDocument_61g.2.2.2.2.2.1
theorem dX13_readDocument_71 : decode cX13_readDocument 71 = .ok (.ifCond .eq 5, 3) := dX13_readDocument_61g.2.2.2.2.2.2.1
theorem dX13_readDocument_74 : decode cX13_readDocument 74 = .ok (.iconst 0, 1) := dX13_readDocument_61g.2.2.2.2.2.2.2.1
theorem dX13_readDocument_75 : decode cX13_readDocument 75 = .ok (.istore_n 2, 1) := dX13_readDocument_61g.2.2.2.2.2.2.2.2.1
theorem dX13_readDocument_76 : decode cX13_readDocument 76 = .ok (.aload_n 0, 1) := dX13_readDocument_61g.2.2.2.2.2.2.2.2.2.1
theorem dX13_readDocument_77 : decode cX13_readDocument 77 = .ok (.getfield 276, 3) := dX13_readDocument_61g.2.2.2.2.2.2.2.2.2.2.1
theorem dX13_readDocument_80 : decode cX13_readDocument 80 = .ok (.ifCond .ne 173, 3) := dX13_readDocument_61g.2.2.2.2.2.2.2.2.2.2.2.1
theorem dX13_readDocument_83 : decode cX13_readDocument 83 = .ok (.iload_n 2, 1) := dX13_readDocument_61g.2.2.2.2.2.2.2.2.2.2.2.2.1
theorem dX13_readDocument_84 : decode cX13_readDocument 84 = .ok (.ifCond .le 169, 3) := dX13_readDocument_61g.2.2.2.2.2.2.2.2.2.2.2.2.2.1
theorem dX13_readDocument_87 : decode cX13_readDocument 87 = .ok (.aload_n 0, 1) := dX13_readDocument_61g.2.2.2.2.2.2.2.2.2.2.2.2.2.2.1
theorem dX13_readDocument_88 : decode cX13_readDocument 88 = .ok (.iconst 0, 1) := dX13_readDocument_61g.2.2.2.2.2.2.2.2.2.2.2.2.2.2.2
theorem dX13_readDocument_89g : decode cX13_readDocument 89 = .ok (.invokevirtual 282, 3) ∧ decode cX13_readDocument 92 = .ok (.istore_n 3, 1) ∧ decode cX13_readDocument 93 = .ok (.iload_n 3, 1) ∧ decode cX13_readDocument 94 = .ok (.iconst (-1), 1) ∧ decode cX13_readDocument 95 = .ok (.if_icmp .ne 14, 3) ∧ decode cX13_readDocument 98 = .ok (.aload_n 0, 1) ∧ decode cX13_readDocument 99 = .ok (.aload_n 0, 1) ∧ decode cX13_readDocument 100 = .ok (.getfield 279, 3) ∧ decode cX13_readDocument 103 = .ok (.invokevirtual 289, 3) ∧ decode cX13_readDocument 106 = .ok (.goto 144, 3) ∧ decode cX13_readDocument 109 = .ok (.iload_n 3, 1) ∧ decode cX13_readDocument 110 = .ok (.bipush 60, 2) ∧ decode cX13_readDocument 112 = .ok (.if_icmp .eq 40, 3) ∧ decode cX13_readDocument 115 = .ok (.iload_n 3, 1) ∧ decode cX13_readDocument 116 = .ok (.bipush 38, 2) ∧ decode cX13_readDocument 118 = .ok (.if_icmp .ne 8, 3) := by decide +kernel
theorem dX13_readDocument_89 : decode cX13_readDocument 89 = .ok (.invokevirtual 282, 3) := dX13_readDocument_89g.1
theorem dX13_readDocument_92 : decode cX13_readDocument 92 = .ok (.istore_n 3, 1) := dX13_readDocument_89g.2.1
theorem dX13_readDocument_93 : decode cX13_readDocument 93 = .ok (.iload_n 3, 1) := dX13_readDocument_89g.2.2.1
theorem dX13_readDocument_94 : decode cX13_readDocument 94 = .ok (.iconst (-1), 1) := dX13_readDocument_89g.2.2.2.1
theorem dX13_readDocument_95 : decode cX13_readDocument 95 = .ok (.if_icmp .ne 14, 3) := dX13_readDocument_89g.2.2.2.2.1
theorem dX13_readDocument_98 : decode cX13_readDocument 98 = .ok (.aload_n 0, 1) := dX13_readDocument_89g.2.2.2.2.2.1
theorem dX13_readDocument_99 : decode cX13_readDocument 99 = .ok (.aload_n 0, 1) := dX13_readDocument_89g.2.2.2.2.2.2.1
theorem dX13_readDocument_100 : decode cX13_readDocument 100 = .ok (.getfield 279, 3) := dX13_readDocument_89g.2.2.2.2.2.2.2.1
theorem dX13_readDocument_103 : decode cX13_readDocument 103 = .ok (.invokevirtual 289, 3) := dX13_readDocument_89g.2.2.2.2.2.2.2.2.1
theorem dX13_readDocument_106 : decode cX13_readDocument 106 = .ok (.goto 144, 3) := dX13_readDocument_89g.2.2.2.2.2.2.2.2.2.1
theorem dX13_readDocument_109 : decode cX13_readDocument 109 = .ok (.iload_n 3, 1) := dX13_readDocument_89g.2.2.2.2.2.2.2.2.2.2.1
theorem dX13_readDocument_110 : decode cX13_readDocument 110 = .ok (.bipush 60, 2) := dX13_readDocument_89g.2.2.2.2.2.2.2.2.2.2.2.1
theorem dX13_readDocument_112 : decode cX13_readDocument 112 = .ok (.if_icmp .eq 40, 3) := dX13_readDocument_89g.2.2.2.2.2.2.2.2.2.2.2.2.1
theorem dX13_readDocument_115 : decode cX13_readDocument 115 = .ok (.iload_n 3, 1) := dX13_readDocument_89g.2.2.2.2.2.2.2.2.2.2.2.2.2.1
theorem dX13_readDocument_116 : decode cX13_readDocument 116 = .ok (.bipush 38, 2) := dX13_readDocument_89g.2.2.2.2.2.2.2.2.2.2.2.2.2.2.1
theorem dX13_readDocument_118 : decode cX13_readDocument 118 = .ok (.if_icmp .ne 8, 3) := dX13_readDocument_89g.2.2.2.2.2.2.2.2.2.2.2.2.2.2.2
theorem dX13_readDocument_121g : decode cX13_readDocument 121 = .ok (.aload_n 0, 1) ∧ decode cX13_readDocument 122 = .ok (.invokevirtual 326, 3) ∧ decode cX13_readDocument 125 = .ok (.istore_n 3, 1) ∧ decode cX13_readDocument 126 = .ok (.aload_n 0, 1) ∧ decode cX13_readDocument 127 = .ok (.getfield 276, 3) ∧ decode cX13_readDocument 130 = .ok (.ifCond .ne 9, 3) ∧ decode cX13_readDocument 133 = .ok (.aload_n 0, 1) ∧ decode cX13_readDocument 134 = .ok (.iload_n 1, 1) ∧ decode cX13_readDocument 135 = .ok (.iload_n 3, 1) ∧ decode cX13_readDocument 136 = .ok (.invokevirtual 346, 3) ∧ decode cX13_readDocument 139 = .ok (.aload_n 0, 1) ∧ decode cX13_readDocument 140 = .ok (.dup, 1) ∧ decode cX13_readDocument 141 = .ok (.getfield 279, 3) ∧ decode cX13_readDocument 144 = .ok (.iconst 1, 1) ∧ decode cX13_readDocument 145 = .ok (.iadd, 1) ∧ decode cX13_readDocument 146 = .ok (.putfield 279, 3) := by decide +kernel
theorem dX13_readDocument_121 : decode cX13_readDocument 121 = .ok (.aload_n 0, 1) := dX13_readDocument_121g.1
theorem dX13_readDocument_122 : decode cX13_readDocument 122 = .ok (.invokevirtual 326, 3) := dX13_readDocument_121g.2.1
theorem dX13_readDocument_125 : decode cX13_readDocument 125 = .ok (.istore_n 3, 1) := dX13_readDocument_121g.2.2.1
theorem dX13_readDocument_126 : decode cX13_readDocument 126 = .ok (.aload_n 0, 1) := dX13_readDocument_121g.2.2.2.1
theorem dX13_readDocument_127 : decode cX13_readDocument 127 = .ok (.getfield 276, 3) := dX13_readDocument_121g.2.2.2.2.1
theorem dX13_readDocument_130 : decode cX13_readDocument 130 = .ok (.ifCond .ne 9, 3) := dX13_readDocument_121g.2.2.2.2.2.1
theorem dX13_readDocument_133 : decode cX13_readDocument 133 = .ok (.aload_n 0, 1) := dX13_readDocument_121g.2.2.2.2.2.2.1
theorem dX13_readDocument_134 : decode cX13_readDocument 134 = .ok (.iload_n 1, 1) := dX13_readDocument_121g.2.2.2.2.2.2.2.1
theorem dX13_readDocument_135 : decode cX13_readDocument 135 = .ok (.iload_n 3, 1) := dX13_readDocument_121g.2.2.2.2.2.2.2.2.1
theorem dX13_readDocument_136 : decode cX13_readDocument 136 = .ok (.invokevirtual 346, 3) := dX13_readDocument_121g.2.2.2.2.2.2.2.2.2.1
theorem dX13_readDocument_139 : decode cX13_readDocument 139 = .ok (.aload_n 0, 1) := dX13_readDocument_121g.2.2.2.2.2.2.2.2.2.2.1
theorem dX13_readDocument_140 : decode cX13_readDocument 140 = .ok (.dup, 1) := dX13_readDocument_121g.2.2.2.2.2.2.2.2.2.2.2.1
theorem dX13_readDocument_141 : decode cX13_readDocument 141 = .ok (.getfield 279, 3) := dX13_readDocument_121g.2.2.2.2.2.2.2.2.2.2.2.2.1
theorem dX13_readDocument_144 : decode cX13_readDocument 144 = .ok (.iconst 1, 1) := dX13_readDocument_121g.2.2.2.2.2.2.2.2.2.2.2.2.2.1
theorem dX13_readDocument_145 : decode cX13_readDocument 145 = .ok (.iadd, 1) := dX13_readDocument_121g.2.2.2.2.2.2.2.2.2.2.2.2.2.2.1
theorem dX13_readDocument_146 : decode cX13_readDocument 146 = .ok (.putfield 279, 3) := dX13_readDocument_121g.2.2.2.2.2.2.2.2.2.2.2.2.2.2.2
theorem dX13_readDocument_149g : decode cX13_readDocument 149 = .ok (.goto 101, 3) ∧ decode cX13_readDocument 152 = .ok (.aload_n 0, 1) ∧ decode cX13_readDocument 153 = .ok (.iconst 1, 1) ∧ decode cX13_readDocument 154 = .ok (.invokevirtual 282, 3) ∧ decode cX13_readDocument 157 = .ok (.bipush 33, 2) ∧ decode cX13_readDocument 159 = .ok (.if_icmp .ne 10, 3) ∧ decode cX13_readDocument 162 = .ok (.aload_n 0, 1) ∧ decode cX13_readDocument 163 = .ok (.invokevirtual 300, 3) ∧ decode cX13_readDocument 166 = .ok (.goto 84, 3) ∧ decode cX13_readDocument 169 = .ok (.aload_n 0, 1) ∧ decode cX13_readDocument 170 = .ok (.iconst 1, 1) ∧ decode cX13_readDocument 171 = .ok (.invokevirtual 282, 3) ∧ decode cX13_readDocument 174 = .ok (.bipush 47, 2) ∧ decode cX13_readDocument 176 = .ok (.if_icmp .ne 21, 3) ∧ decode cX13_readDocument 179 = .ok (.aload_n 0, 1) ∧ decode cX13_readDocument 180 = .ok (.iload_n 1, 1) := by decide +kernel
theorem dX13_readDocument_149 : decode cX13_readDocument 149 = .ok (.goto 101, 3) := dX13_readDocument_149g.1
theorem dX13_readDocument_152 : decode cX13_readDocument 152 = .ok (.aload_n 0, 1) := dX13_readDocument_149g.2.1
theorem dX13_readDocument_153 : decode cX13_readDocument 153 = .ok (.iconst 1, 1) := dX13_readDocument_149g.2.2.1
theorem dX13_readDocument_154 : decode cX13_readDocument 154 = .ok (.invokevirtual 282, 3) := dX13_readDocument_149g.2.2.2.1
theorem dX13_readDocument_157 : decode cX13_readDocument 157 = .ok (.bipush 33, 2) := dX13_readDocument_149g.2.2.2.2.1
theorem dX13_readDocument_159 : decode cX13_readDocument 159 = .ok (.if_icmp .ne 10, 3) := dX13_readDocument_149g.2.2.2.2.2.1
theorem dX13_readDocument_162 : decode cX13_readDocument 162 = .ok (.aload_n 0, 1) := dX13_readDocument_149g.2.2.2.2.2.2.1
theorem dX13_readDocument_163 : decode cX13_readDocument 163 = .ok (.invokevirtual 300, 3) := dX13_readDocument_149g.2.2.2.2.2.2.2.1
theorem dX13_readDocument_166 : decode cX13_readDocument 166 = .ok (.goto 84, 3) := dX13_readDocument_149g.2.2.2.2.2.2.2.2.1
theorem dX13_readDocument_169 : decode cX13_readDocument 169 = .ok (.aload_n 0, 1) := dX13_readDocument_149g.2.2.2.2.2.2.2.2.2.1
theorem dX13_readDocument_170 : decode cX13_readDocument 170 = .ok (.iconst 1, 1) := dX13_readDocument_149g.2.2.2.2.2.2.2.2.2.2.1
theorem dX13_readDocument_171 : decode cX13_readDocument 171 = .ok (.invokevirtual 282, 3) := dX13_readDocument_149g.2.2.2.2.2.2.2.2.2.2.2.1
theorem dX13_readDocument_174 : decode cX13_readDocument 174 = .ok (.bipush 47, 2) := dX13_readDocument_149g.2.2.2.2.2.2.2.2.2.2.2.2.1
theorem dX13_readDocument_176 : decode cX13_readDocument 176 = .ok (.if_icmp .ne 21, 3) := dX13_readDocument_149g.2.2.2.2.2.2.2.2.2.2.2.2.2.1
theorem dX13_readDocument_179 : decode cX13_readDocument 179 = .ok (.aload_n 0, 1) := dX13_readDocument_149g.2.2.2.2.2.2.2.2.2.2.2.2.2.2.1
theorem dX13_readDocument_180 : decode cX13_readDocument 180 = .ok (.iload_n 1, 1) := dX13_readDocument_149g.2.2.2.2.2.2.2.2.2.2.2.2.2.2.2
theorem dX13_readDocument_181g : decode cX13_readDocument 181 = .ok (.invokevirtual 350, 3) ∧ decode cX13_readDocument 184 = .ok (.aload_n 0, 1) ∧ decode cX13_readDocument 185 = .ok (.getfield 132, 3) ∧ decode cX13_readDocument 188 = .ok (.iload_n 1, 1) ∧ decode cX13_readDocument 189 = .ok (.iaload, 1) ∧ decode cX13_readDocument 190 = .ok (.istore_n 1, 1) ∧ decode cX13_readDocument 191 = .ok (.iinc 2 (-1), 3) ∧ decode cX13_readDocument 194 = .ok (.goto 56, 3) ∧ decode cX13_readDocument 197 = .ok (.aload_n 0, 1) ∧ decode cX13_readDocument 198 = .ok (.aload_n 0, 1) ∧ decode cX13_readDocument 199 = .ok (.iconst 1, 1) ∧ decode cX13_readDocument 200 = .ok (.invokevirtual 282, 3) ∧ decode cX13_readDocument 203 = .ok (.invokevirtual 303, 3) ∧ decode cX13_readDocument 206 = .ok (.ifCond .eq 34, 3) ∧ decode cX13_readDocument 209 = .ok (.aload_n 0, 1) ∧ decode cX13_readDocument 210 = .ok (.iload_n 1, 1) := by decide +kernel
theorem dX13_readDocument_181 : decode cX13_readDocument 181 = .ok (.invokevirtual 350, 3) := dX13_readDocument_181g.1
theorem dX13_readDocument_184 : decode cX13_readDocument 184 = .ok (.aload_n 0, 1) := dX13_readDocument_181g.2.1
theorem dX13_readDocument_185 : decode cX13_readDocument 185 = .ok (.getfield 132, 3) := dX13_readDocument_181g.2.2.1
theorem dX13_readDocument_188 : decode cX13_readDocument 188 = .ok (.iload_n 1, 1) := dX13_readDocument_181g.2.2.2.1
theorem dX13_readDocument_189 : decode cX13_readDocument 189 = .ok (.iaload, 1) := dX13_readDocument_181g.2.2.2.2.1
theorem dX13_readDocument_190 : decode cX13_readDocument 190 = .ok (.istore_n 1, 1) := dX13_readDocument_181g.2.2.2.2.2.1
theorem dX13_readDocument_191 : decode cX13_readDocument 191 = .ok (.iinc 2 (-1), 3) := dX13_readDocument_181g.2.2.2.2.2.2.1
theorem dX13_readDocument_194 : decode cX13_readDocument 194 = .ok (.goto 56, 3) := dX13_readDocument_181g.2.2.2.2.2.2.2.1
theorem dX13_readDocument_197 : decode cX13_readDocument 197 = .ok (.aload_n 0, 1) := dX13_readDocument_181g.2.2.2.2.2.2.2.2.1
theorem dX13_readDocument_198 : decode cX13_readDocument 198 = .ok (.aload_n 0, 1) := dX13_readDocument_181g.2.2.2.2.2.2.2.2.2.1
theorem dX13_readDocument_199 : decode cX13_readDocument 199 = .ok (.iconst 1, 1) := dX13_readDocument_181g.2.2.2.2.2.2.2.2.2.2.1
theorem dX13_readDocument_200 : decode cX13_readDocument 200 = .ok (.invokevirtual 282, 3) := dX13_readDocument_181g.2.2.2.2.2.2.2.2.2.2.2.1
theorem dX13_readDocument_203 : decode cX13_readDocument 203 = .ok (.invokevirtual 303, 3) := dX13_readDocument_181g.2.2.2.2.2.2.2.2.2.2.2.2.1
theorem dX13_readDocument_206 : decode cX13_readDocument 206 = .ok (.ifCond .eq 34, 3) := dX13_readDocument_181g.2.2.2.2.2.2.2.2.2.2.2.2.2.1
theorem dX13_readDocument_209 : decode cX13_readDocument 209 = .ok (.aload_n 0, 1) := dX13_readDocument_181g.2.2.2.2.2.2.2.2.2.2.2.2.2.2.1
theorem dX13_readDocument_210 : decode cX13_readDocument 210 = .ok (.iload_n 1, 1) := dX13_readDocument_181g.2.2.2.2.2.2.2.2.2.2.2.2.2.2.2
theorem dX13_readDocument_211g : decode cX13_readDocument 211 = .ok (.iload_n 2, 1) ∧ decode cX13_readDocument 212 = .ok (.invokevirtual 342, 3) ∧ decode cX13_readDocument 215 = .ok (.istore 4, 2) ∧ decode cX13_readDocument 217 = .ok (.aload_n 0, 1) ∧ decode cX13_readDocument 218 = .ok (.getfield 276, 3) ∧ decode cX13_readDocument 221 = .ok (.ifCond .ne 16, 3) ∧ decode cX13_readDocument 224 = .ok (.aload_n 0, 1) ∧ decode cX13_readDocument 225 = .ok (.getfield 335, 3) ∧ decode cX13_readDocument 228 = .ok (.ifCond .ne 9, 3) ∧ decode cX13_readDocument 231 = .ok (.iload 4, 2) ∧ decode cX13_readDocument 233 = .ok (.istore_n 1, 1) ∧ decode cX13_readDocument 234 = .ok (.iinc 2 1, 3) ∧ decode cX13_readDocument 237 = .ok (.goto 13, 3) ∧ decode cX13_readDocument 240 = .ok (.aload_n 0, 1) ∧ decode cX13_readDocument 241 = .ok (.aload_n 0, 1) ∧ decode cX13_readDocument 242 = .ok (.getfield 279, 3) := by decide +kernel
theorem dX13_readDocument_211 : decode cX13_readDocument 211 = .ok (.iload_n 2, 1) := dX13_readDocument_211g.1
theorem dX13_readDocument_212 : decode cX13_readDocument 212 = .ok (.invokevirtual 342, 3) := dX13_readDocument_211g.2.1
theorem dX13_readDocument_215 : decode cX13_readDocument 215 = .ok (.istore 4, 2) := dX13_readDocument_211g.2.2.1
theorem dX13_readDocument_217 : decode cX13_readDocument 217 = .ok (.aload_n 0, 1) := dX13_readDocument_211g.2.2.2.1
theorem dX13_readDocument_218 : decode cX13_readDocument 218 = .ok (.getfield 276, 3) := dX13_readDocument_211g.2.2.2.2.1
theorem dX13_readDocument_221 : decode cX13_readDocument 221 = .ok (.ifCond .ne 16, 3) := dX13_readDocument_211g.2.2.2.2.2.1
theorem dX13_readDocument_224 : decode cX13_readDocument 224 = .ok (.aload_n 0, 1) := dX13_readDocument_211g.2.2.2.2.2.2.1
theorem dX13_readDocument_225 : decode cX13_readDocument 225 = .ok (.getfield 335, 3) := dX13_readDocument_211g.2.2.2.2.2.2.2.1
theorem dX13_readDocument_228 : decode cX13_readDocument 228 = .ok (.ifCond .ne 9, 3) := dX13_readDocument_211g.2.2.2.2.2.2.2.2.1
theorem dX13_readDocument_231 : decode cX13_readDocument 231 = .ok (.iload 4, 2) := dX13_readDocument_211g.2.2.2.2.2.2.2.2.2.1
theorem dX13_readDocument_233 : decode cX13_readDocument 233 = .ok (.istore_n 1, 1) := dX13_readDocument_211g.2.2.2.2.2.2.2.2.2.2.1
theorem dX13_readDocument_234 : decode cX13_readDocument 234 = .ok (.iinc 2 1, 3) := dX13_readDocument_211g.2.2.2.2.2.2.2.2.2.2.2.1
theorem dX13_readDocument_237 : decode cX13_readDocument 237 = .ok (.goto 13, 3) := dX13_readDocument_211g.2.2.2.2.2.2.2.2.2.2.2.2.1
theorem dX13_readDocument_240 : decode cX13_readDocument 240 = .ok (.aload_n 0, 1) := dX13_readDocument_211g.2.2.2.2.2.2.2.2.2.2.2.2.2.1
theorem dX13_readDocument_241 : decode cX13_readDocument 241 = .ok (.aload_n 0, 1) := dX13_readDocument_211g.2.2.2.2.2.2.2.2.2.2.2.2.2.2.1
theorem dX13_readDocument_242 : decode cX13_readDocument 242 = .ok (.getfield 279, 3) := dX13_readDocument_211g.2.2.2.2.2.2.2.2.2.2.2.2.2.2.2
theorem dX13_readDocument_245g : decode cX13_readDocument 245 = .ok (.iconst 1, 1) ∧ decode cX13_readDocument 246 = .ok (.iadd, 1) ∧ decode cX13_readDocument 247 = .ok (.invokevirtual 289, 3) ∧ decode cX13_readDocument 250 = .ok (.goto (-174), 3) ∧ decode cX13_readDocument 253 = .ok (.aload_n 0, 1) ∧ decode cX13_readDocument 254 = .ok (.getfield 276, 3) ∧ decode cX13_readDocument 257 = .ok (.ifCond .ne 7, 3) ∧ decode cX13_readDocument 260 = .ok (.aload_n 0, 1) ∧ decode cX13_readDocument 261 = .ok (.invokevirtual 339, 3) ∧ decode cX13_readDocument 264 = .ok (.aload_n 0, 1) ∧ decode cX13_readDocument 265 = .ok (.getfield 276, 3) ∧ decode cX13_readDocument 268 = .ok (.ifCond .ne 41, 3) ∧ decode cX13_readDocument 271 = .ok (.aload_n 0, 1) ∧ decode cX13_readDocument 272 = .ok (.getfield 279, 3) ∧ decode cX13_readDocument 275 = .ok (.aload_n 0, 1) ∧ decode cX13_readDocument 276 = .ok (.getfield 273, 3) := by decide +kernel
theorem dX13_readDocument_245 : decode cX13_readDocument 245 = .ok (.iconst 1, 1) := dX13_readDocument_245g.1
theorem dX13_readDocument_246 : decode cX13_readDocument 246 = .ok (.iadd, 1) := dX13_readDocument_245g.2.1
theorem dX13_readDocument_247 : decode cX13_readDocument 247 = .ok (.invokevirtual 289, 3) := dX13_readDocument_245g.2.2.1
theorem dX13_readDocument_250 : decode cX13_readDocument 250 = .ok (.goto (-174), 3) := dX13_readDocument_245g.2.2.2.1
theorem dX13_readDocument_253 : decode cX13_readDocument 253 = .ok (.aload_n 0, 1) := dX13_readDocument_245g.2.2.2.2.1
theorem dX13_readDocument_254 : decode cX13_readDocument 254 = .ok (.getfield 276, 3) := dX13_readDocument_245g.2.2.2.2.2.1
theorem dX13_readDocument_257 : decode cX13_readDocument 257 = .ok (.ifCond .ne 7, 3) := dX13_readDocument_245g.2.2.2.2.2.2.1
theorem dX13_readDocument_260 : decode cX13_readDocument 260 = .ok (.aload_n 0, 1) := dX13_readDocument_245g.2.2.2.2.2.2.2.1
theorem dX13_readDocument_261 : decode cX13_readDocument 261 = .ok (.invokevirtual 339, 3) := dX13_readDocument_245g.2.2.2.2.2.2.2.2.1
theorem dX13_readDocument_264 : decode cX13_readDocument 264 = .ok (.aload_n 0, 1) := dX13_readDocument_245g.2.2.2.2.2.2.2.2.2.1
theorem dX13_readDocument_265 : decode cX13_readDocument 265 = .ok (.getfield 276, 3) := dX13_readDocument_245g.2.2.2.2.2.2.2.2.2.2.1
theorem dX13_readDocument_268 : decode cX13_readDocument 268 = .ok (.ifCond .ne 41, 3) := dX13_readDocument_245g.2.2.2.2.2.2.2.2.2.2.2.1
theorem dX13_readDocument_271 : decode cX13_readDocument 271 = .ok (.aload_n 0, 1) := dX13_readDocument_245g.2.2.2.2.2.2.2.2.2.2.2.2.1
theorem dX13_readDocument_272 : decode cX13_readDocument 272 = .ok (.getfield 279, 3) := dX13_readDocument_245g.2.2.2.2.2.2.2.2.2.2.2.2.2.1
theorem dX13_readDocument_275 : decode cX13_readDocument 275 = .ok (.aload_n 0, 1) := dX13_readDocument_245g.2.2.2.2.2.2.2.2.2.2.2.2.2.2.1
theorem dX13_readDocument_276 : decode cX13_readDocument 276 = .ok (.getfield 273, 3) := dX13_readDocument_245g.2.2.2.2.2.2.2.2.2.2.2.2.2.2.2
theorem dX13_readDocument_279g : decode cX13_readDocument 279 = .ok (.if_icmp .ge 30, 3) ∧ decode cX13_readDocument 282 = .ok (.aload_n 0, 1) ∧ decode cX13_readDocument 283 = .ok (.aload_n 0, 1) ∧ decode cX13_readDocument 284 = .ok (.iconst 0, 1) ∧ decode cX13_readDocument 285 = .ok (.invokevirtual 282, 3) ∧ decode cX13_readDocument 288 = .ok (.bipush 60, 2) ∧ decode cX13_readDocument 290 = .ok (.if_icmp .ne 12, 3) ∧ decode cX13_readDocument 293 = .ok (.aload_n 0, 1) ∧ decode cX13_readDocument 294 = .ok (.getfield 279, 3) ∧ decode cX13_readDocument 297 = .ok (.iconst 1, 1) ∧ decode cX13_readDocument 298 = .ok (.iadd, 1) ∧ decode cX13_readDocument 299 = .ok (.goto 7, 3) ∧ decode cX13_readDocument 302 = .ok (.aload_n 0, 1) ∧ decode cX13_readDocument 303 = .ok (.getfield 279, 3) ∧ decode cX13_readDocument 306 = .ok (.invokevirtual 289, 3) ∧ decode cX13_readDocument 309 = .ok (.return_, 1) := by decide +kernel
theorem dX13_readDocument_279 : decode cX13_readDocument 279 = .ok (.if_icmp .ge 30, 3) := dX13_readDocument_279g.1
theorem dX13_readDocument_282 : decode cX13_readDocument 282 = .ok (.aload_n 0, 1) := dX13_readDocument_279g.2.1
theorem dX13_readDocument_283 : decode cX13_readDocument 283 = .ok (.aload_n 0, 1) := dX13_readDocument_279g.2.2.1
theorem dX13_readDocument_284 : decode cX13_readDocument 284 = .ok (.iconst 0, 1) := dX13_readDocument_279g.2.2.2.1
theorem dX13_readDocument_285 : decode cX13_readDocument 285 = .ok (.invokevirtual 282, 3) := dX13_readDocument_279g.2.2.2.2.1
theorem dX13_readDocument_288 : decode cX13_readDocument 288 = .ok (.bipush 60, 2) := dX13_readDocument_279g.2.2.2.2.2.1
theorem dX13_readDocument_290 : decode cX13_readDocument 290 = .ok (.if_icmp .ne 12, 3) := dX13_readDocument_279g.2.2.2.2.2.2.1
theorem dX13_readDocument_293 : decode cX13_readDocument 293 = .ok (.aload_n 0, 1) := dX13_readDocument_279g.2.2.2.2.2.2.2.1
theorem dX13_readDocument_294 : decode cX13_readDocument 294 = .ok (.getfield 279, 3) := dX13_readDocument_279g.2.2.2.2.2.2.2.2.1
theorem dX13_readDocument_297 : decode cX13_readDocument 297 = .ok (.iconst 1, 1) := dX13_readDocument_279g.2.2.2.2.2.2.2.2.2.1
theorem dX13_readDocument_298 : decode cX13_readDocument 298 = .ok (.iadd, 1) := dX13_readDocument_279g.2.2.2.2.2.2.2.2.2.2.1
theorem dX13_readDocument_299 : decode cX13_readDocument 299 = .ok (.goto 7, 3) := dX13_readDocument_279g.2.2.2.2.2.2.2.2.2.2.2.1
theorem dX13_readDocument_302 : decode cX13_readDocument 302 = .ok (.aload_n 0, 1) := dX13_readDocument_279g.2.2.2.2.2.2.2.2.2.2.2.2.1
theorem dX13_readDocument_303 : decode cX13_readDocument 303 = .ok (.getfield 279, 3) := dX13_readDocument_279g.2.2.2.2.2.2.2.2.2.2.2.2.2.1
theorem dX13_readDocument_306 : decode cX13_readDocument 306 = .ok (.invokevirtual 289, 3) := dX13_readDocument_279g.2.2.2.2.2.2.2.2.2.2.2.2.2.2.1
theorem dX13_readDocument_309 : decode cX13_readDocument 309 = .ok (.return_, 1) := dX13_readDocument_279g.2.2.2.2.2.2.2.2.2.2.2.2.2.2.2
theorem dX13_isGoodBean_0g : decode cX13_isGoodBean 0 = .ok (.aload_n 0, 1) ∧ decode cX13_isGoodBean 1 = .ok (.getfield 126, 3) ∧ decode cX13_isGoodBean 4 = .ok (.aload_n 0, 1) ∧ decode cX13_isGoodBean 5 = .ok (.getfield 132, 3) ∧ decode cX13_isGoodBean 8 = .ok (.iload_n 1, 1) ∧ decode cX13_isGoodBean 9 = .ok (.iaload, 1) ∧ decode cX13_isGoodBean 10 = .ok (.iaload, 1) ∧ decode cX13_isGoodBean 11 = .ok (.iconst 1, 1) ∧ decode cX13_isGoodBean 12 = .ok (.if_icmp .eq 7, 3) ∧ decode cX13_isGoodBean 15 = .ok (.iconst 1, 1) ∧ decode cX13_isGoodBean 16 = .ok (.goto 4, 3) ∧ decode cX13_isGoodBean 19 = .ok (.iconst 0, 1) ∧ decode cX13_isGoodBean 20 = .ok (.istore_n 2, 1) ∧ decode cX13_isGoodBean 21 = .ok (.aload_n 0, 1) ∧ decode cX13_isGoodBean 22 = .ok (.iload_n 1, 1) ∧ decode cX13_isGoodBean 23 = .ok (.ldc2_w 384, 3) := by decide +kernel
theorem dX13_isGoodBean_0 : decode cX13_isGoodBean 0 = .ok (.aload_n 0, 1) := dX13_isGoodBean_0g.1
theorem dX13_isGoodBean_1 : decode cX13_isGoodBean 1 = .ok (.getfield 126, 3) := dX13_isGoodBean_0g.2.1
theorem dX13_isGoodBean_4 : decode cX13_isGoodBean 4 = .ok (.aload_n 0, 1) := dX13_isGoodBean_0g.2.2.1
theorem dX13_isGoodBean_5 : decode cX13_isGoodBean 5 = .ok (.getfield 132, 3) := dX13_isGoodBean_0g.2.2.2.1
theorem dX13_isGoodBean_8 : decode cX13_isGoodBean 8 = .ok (.iload_n 1, 1) := dX13_isGoodBean_0g.2.2.2.2.1
theorem dX13_isGoodBean_9 : decode cX13_isGoodBean 9 = .ok (.iaload, 1) := dX13_isGoodBean_0g.2.2.2.2.2.1
theorem dX13_isGoodBean_10 : decode cX13_isGoodBean 10 = .ok (.iaload, 1) := dX13_isGoodBean_0g.2.2.2.2.2.2.1
theorem dX13_isGoodBean_11 : decode cX13_isGoodBean 11 = .ok (.iconst 1, 1) := dX13_isGoodBean_0g.2.2.2.2.2.2.2.1
theorem dX13_isGoodBean_12 : decode cX13_isGoodBean 12 = .ok (.if_icmp .eq 7, 3) := dX13_isGoodBean_0g.2.2.2.2.2.2.2.2.1
theorem dX13_isGoodBean_15 : decode cX13_isGoodBean 15 = .ok (.iconst 1, 1) := dX13_isGoodBean_0g.2.2.2.2.2.2.2.2.2.1
theorem dX13_isGoodBean_16 : decode cX13_isGoodBean 16 = .ok (.goto 4, 3) := dX13_isGoodBean_0g.2.2.2.2.2.2.2.2.2.2.1
theorem dX13_isGoodBean_19 : decode cX13_isGoodBean 19 = .ok (.iconst 0, 1) := dX13_isGoodBean_0g.2.2.2.2.2.2.2.2.2.2.2.1
theorem dX13_isGoodBean_20 : decode cX13_isGoodBean 20 = .ok (.istore_n 2, 1) := dX13_isGoodBean_0g.2.2.2.2.2.2.2.2.2.2.2.2.1
theorem dX13_isGoodBean_21 : decode cX13_isGoodBean 21 = .ok (.aload_n 0, 1) := dX13_isGoodBean_0g.2.2.2.2.2.2.2.2.2.2.2.2.2.1
theorem dX13_isGoodBean_22 : decode cX13_isGoodBean 22 = .ok (.iload_n 1, 1) := dX13_isGoodBean_0g.2.2.2.2.2.2.2.2.2.2.2.2.2.2.1
theorem dX13_isGoodBean_23 : decode cX13_isGoodBean 23 = .ok (.ldc2_w 384, 3) := dX13_isGoodBean_0g.2.2.2.2.2.2.2.2.2.2.2.2.2.2.2
theorem dX13_isGoodBean_26g : decode cX13_isGoodBean 26 = .ok (.invokevirtual 355, 3) ∧ decode cX13_isGoodBean 29 = .ok (.ifCond .eq 14, 3) ∧ decode cX13_isGoodBean 32 = .ok (.aload_n 0, 1) ∧ decode cX13_isGoodBean 33 = .ok (.iload_n 1, 1) ∧ decode cX13_isGoodBean 34 = .ok (.ldc2_w 384, 3) ∧ decode cX13_isGoodBean 37 = .ok (.invokevirtual 369, 3) ∧ decode cX13_isGoodBean 40 = .ok (.ifCond .eq 73, 3) ∧ decode cX13_isGoodBean 43 = .ok (.aload_n 0, 1) ∧ decode cX13_isGoodBean 44 = .ok (.iload_n 1, 1) ∧ decode cX13_isGoodBean 45 = .ok (.ldc2_w 388, 3) ∧ decode cX13_isGoodBean 48 = .ok (.invokevirtual 355, 3) ∧ decode cX13_isGoodBean 51 = .ok (.ifCond .eq 14, 3) ∧ decode cX13_isGoodBean 54 = .ok (.aload_n 0, 1) ∧ decode cX13_isGoodBean 55 = .ok (.iload_n 1, 1) ∧ decode cX13_isGoodBean 56 = .ok (.ldc2_w 388, 3) ∧ decode cX13_isGoodBean 59 = .ok (.invokevirtual 369, 3) := by decide +kernel
theorem dX13_isGoodBean_26 : decode cX13_isGoodBean 26 = .ok (.invokevirtual 355, 3) := dX13_isGoodBean_26g.1
theorem dX13_isGoodBean_29 : decode cX13_isGoodBean 29 = .ok (.ifCond .eq 14, 3) := dX13_isGoodBean_26g.2.1
theorem dX13_isGoodBean_32 : decode cX13_isGoodBean 32 = .ok (.aload_n 0, 1) := dX13_isGoodBean_26g.2.2.1
theorem dX13_isGoodBean_33 : decode cX13_isGoodBean 33 = .ok (.iload_n 1, 1) := dX13_isGoodBean_26g.2.2.2.1
theorem dX13_isGoodBean_34 : decode cX13_isGoodBean 34 = .ok (.ldc2_w 384, 3) := dX13_isGoodBean_26g.2.2.2.2.1
theorem dX13_isGoodBean_37 : decode cX13_isGoodBean 37 = .ok (.invokevirtual 369, 3) := dX13_isGoodBean_26g.2.2.2.2.2.1
theorem dX13_isGoodBean_40 : decode cX13_isGoodBean 40 = .ok (.ifCond .eq 73, 3) := dX13_isGoodBean_26g.2.2.2.2.2.2.1
theorem dX13_isGoodBean_43 : decode cX13_isGoodBean 43 = .ok (.aload_n 0, 1) := dX13_isGoodBean_26g.2.2.2.2.2.2.2.1
theorem dX13_isGoodBean_44 : decode cX13_isGoodBean 44 = .ok (.iload_n 1, 1) := dX13_isGoodBean_26g.2.2.2.2.2.2.2.2.1
theorem dX13_isGoodBean_45 : decode cX13_isGoodBean 45 = .ok (.ldc2_w 388, 3) := dX13_isGoodBean_26g.2.2.2.2.2.2.2.2.2.1
theorem dX13_isGoodBean_48 : decode cX13_isGoodBean 48 = .ok (.invokevirtual 355, 3) := dX13_isGoodBean_26g.2.2.2.2.2.2.2.2.2.2.1
theorem dX13_isGoodBean_51 : decode cX13_isGoodBean 51 = .ok (.ifCond .eq 14, 3) := dX13_isGoodBean_26g.2.2.2.2.2.2.2.2.2.2.2.1
theorem dX13_isGoodBean_54 : decode cX13_isGoodBean 54 = .ok (.aload_n 0, 1) := dX13_isGoodBean_26g.2.2.2.2.2.2.2.2.2.2.2.2.1
theorem dX13_isGoodBean_55 : decode cX13_isGoodBean 55 = .ok (.iload_n 1, 1) := dX13_isGoodBean_26g.2.2.2.2.2.2.2.2.2.2.2.2.2.1
theorem dX13_isGoodBean_56 : decode cX13_isGoodBean 56 = .ok (.ldc2_w 388, 3) := dX13_isGoodBean_26g.2.2.2.2.2.2.2.2.2.2.2.2.2.2.1
theorem dX13_isGoodBean_59 : decode cX13_isGoodBean 59 = .ok (.invokevirtual 369, 3) := dX13_isGoodBean_26g.2.2.2.2.2.2.2.2.2.2.2.2.2.2.2
theorem dX13_isGoodBean_62g : decode cX13_isGoodBean 62 = .ok (.ifCond .eq 51, 3) ∧ decode cX13_isGoodBean 65 = .ok (.aload_n 0, 1) ∧ decode cX13_isGoodBean 66 = .ok (.iload_n 1, 1) ∧ decode cX13_isGoodBean 67 = .ok (.ldc2_w 396, 3) ∧ decode cX13_isGoodBean 70 = .ok (.invokevirtual 355, 3) ∧ decode cX13_isGoodBean 73 = .ok (.ifCond .eq 14, 3) ∧ decode cX13_isGoodBean 76 = .ok (.aload_n 0, 1) ∧ decode cX13_isGoodBean 77 = .ok (.iload_n 1, 1) ∧ decode cX13_isGoodBean 78 = .ok (.ldc2_w 396, 3) ∧ decode cX13_isGoodBean 81 = .ok (.invokevirtual 369, 3) ∧ decode cX13_isGoodBean 84 = .ok (.ifCond .eq 29, 3) ∧ decode cX13_isGoodBean 87 = .ok (.aload_n 0, 1) ∧ decode cX13_isGoodBean 88 = .ok (.iload_n 1, 1) ∧ decode cX13_isGoodBean 89 = .ok (.ldc2_w 404, 3) ∧ decode cX13_isGoodBean 92 = .ok (.invokevirtual 355, 3) ∧ decode cX13_isGoodBean 95 = .ok (.ifCond .eq 14, 3) := by decide +kernel
theorem dX13_isGoodBean_62 : decode cX13_isGoodBean 62 = .ok (.ifCond .eq 51, 3) := dX13_isGoodBean_62g.1
theorem dX13_isGoodBean_65 : decode cX13_isGoodBean 65 = .ok (.aload_n 0, 1) := dX13_isGoodBean_62g.2.1
theorem dX13_isGoodBean_66 : decode cX13_isGoodBean 66 = .ok (.iload_n 1, 1) := dX13_isGoodBean_62g.2.2.1
theorem dX13_isGoodBean_67 : decode cX13_isGoodBean 67 = .ok (.ldc2_w 396, 3) := dX13_isGoodBean_62g.2.2.2.1
theorem dX13_isGoodBean_70 : decode cX13_isGoodBean 70 = .ok (.invokevirtual 355, 3) := dX13_isGoodBean_62g.2.2.2.2.1
theorem dX13_isGoodBean_73 : decode cX13_isGoodBean 73 = .ok (.ifCond .eq 14, 3) := dX13_isGoodBean_62g.2.2.2.2.2.1
theorem dX13_isGoodBean_76 : decode cX13_isGoodBean 76 = .ok (.aload_n 0, 1) := dX13_isGoodBean_62g.2.2.2.2.2.2.1
theorem dX13_isGoodBean_77 : decode cX13_isGoodBean 77 = .ok (.iload_n 1, 1) := dX13_isGoodBean_62g.2.2.2.2.2.2.2.1
theorem dX13_isGoodBean_78 : decode cX13_isGoodBean 78 = .ok (.ldc2_w 396, 3) := dX13_isGoodBean_62g.2.2.2.2.2.2.2.2.1
theorem dX13_isGoodBean_81 : decode cX13_isGoodBean 81 = .ok (.invokevirtual 369, 3) := dX13_isGoodBean_62g.2.2.2.2.2.2.2.2.2.1
theorem dX13_isGoodBean_84 : decode cX13_isGoodBean 84 = .ok (.ifCond .eq 29, 3) := dX13_isGoodBean_62g.2.2.2.2.2.2.2.2.2.2.1
theorem dX13_isGoodBean_87 : decode cX13_isGoodBean 87 = .ok (.aload_n 0, 1) := dX13_isGoodBean_62g.2.2.2.2.2.2.2.2.2.2.2.1
theorem dX13_isGoodBean_88 : decode cX13_isGoodBean 88 = .ok (.iload_n 1, 1) := dX13_isGoodBean_62g.2.2.2.2.2.2.2.2.2.2.2.2.1
theorem dX13_isGoodBean_89 : decode cX13_isGoodBean 89 = .ok (.ldc2_w 404, 3) := dX13_isGoodBean_62g.2.2.2.2.2.2.2.2.2.2.2.2.2.1
theorem dX13_isGoodBean_92 : decode cX13_isGoodBean 92 = .ok (.invokevirtual 355, 3) := dX13_isGoodBean_62g.2.2.2.2.2.2.2.2.2.2.2.2.2.2.1
theorem dX13_isGoodBean_95 : decode cX13_isGoodBean 95 = .ok (.ifCond .eq 14, 3) := dX13_isGoodBean_62g.2.2.2.2.2.2.2.2.2.2.2.2.2.2.2
theorem dX13_isGoodBean_98g : decode cX13_isGoodBean 98 = .ok (.aload_n 0, 1) ∧ decode cX13_isGoodBean 99 = .ok (.iload_n 1, 1) ∧ decode cX13_isGoodBean 100 = .ok (.ldc2_w 404, 3) ∧ decode cX13_isGoodBean 103 = .ok (.invokevirtual 369, 3) ∧ decode cX13_isGoodBean 106 = .ok (.ifCond .eq 7, 3) ∧ decode cX13_isGoodBean 109 = .ok (.iconst 1, 1) ∧ decode cX13_isGoodBean 110 = .ok (.goto 4, 3) ∧ decode cX13_isGoodBean 113 = .ok (.iconst 0, 1) ∧ decode cX13_isGoodBean 114 = .ok (.istore_n 3, 1) ∧ decode cX13_isGoodBean 115 = .ok (.aload_n 0, 1) ∧ decode cX13_isGoodBean 116 = .ok (.iload_n 1, 1) ∧ decode cX13_isGoodBean 117 = .ok (.ldc2_w 398, 3) ∧ decode cX13_isGoodBean 120 = .ok (.invokevirtual 355, 3) ∧ decode cX13_isGoodBean 123 = .ok (.ifCond .eq 14, 3) ∧ decode cX13_isGoodBean 126 = .ok (.aload_n 0, 1) ∧ decode cX13_isGoodBean 127 = .ok (.iload_n 1, 1) := by decide +kernel
theorem dX13_isGoodBean_98 : decode cX13_isGoodBean 98 = .ok (.aload_n 0, 1) := dX13_isGoodBean_98g.1
theorem dX13_isGoodBean_99 : decode cX13_isGoodBean 99 = .ok (.iload_n 1, 1) := dX13_isGoodBean_98g.2.1
theorem dX13_isGoodBean_100 : decode cX13_isGoodBean 100 = .ok (.ldc2_w 404, 3) := dX13_isGoodBean_98g.2.2.1
theorem dX13_isGoodBean_103 : decode cX13_isGoodBean 103 = .ok (.invokevirtual 369, 3) := dX13_isGoodBean_98g.2.2.2.1
theorem dX13_isGoodBean_106 : decode cX13_isGoodBean 106 = .ok (.ifCond .eq 7, 3) := dX13_isGoodBean_98g.2.2.2.2.1
theorem dX13_isGoodBean_109 : decode cX13_isGoodBean 109 = .ok (.iconst 1, 1) := dX13_isGoodBean_98g.2.2.2.2.2.1
theorem dX13_isGoodBean_110 : decode cX13_isGoodBean 110 = .ok (.goto 4, 3) := dX13_isGoodBean_98g.2.2.2.2.2.2.1
theorem dX13_isGoodBean_113 : decode cX13_isGoodBean 113 = .ok (.iconst 0, 1) := dX13_isGoodBean_98g.2.2.2.2.2.2.2.1
theorem dX13_isGoodBean_114 : decode cX13_isGoodBean 114 = .ok (.istore_n 3, 1) := dX13_isGoodBean_98g.2.2.2.2.2.2.2.2.1
theorem dX13_isGoodBean_115 : decode cX13_isGoodBean 115 = .ok (.aload_n 0, 1) := dX13_isGoodBean_98g.2.2.2.2.2.2.2.2.2.1
theorem dX13_isGoodBean_116 : decode cX13_isGoodBean 116 = .ok (.iload_n 1, 1) := dX13_isGoodBean_98g.2.2.2.2.2.2.2.2.2.2.1
theorem dX13_isGoodBean_117 : decode cX13_isGoodBean 117 = .ok (.ldc2_w 398, 3) := dX13_isGoodBean_98g.2.2.2.2.2.2.2.2.2.2.2.1
theorem dX13_isGoodBean_120 : decode cX13_isGoodBean 120 = .ok (.invokevirtual 355, 3) := dX13_isGoodBean_98g.2.2.2.2.2.2.2.2.2.2.2.2.1
theorem dX13_isGoodBean_123 : decode cX13_isGoodBean 123 = .ok (.ifCond .eq 14, 3) := dX13_isGoodBean_98g.2.2.2.2.2.2.2.2.2.2.2.2.2.1
theorem dX13_isGoodBean_126 : decode cX13_isGoodBean 126 = .ok (.aload_n 0, 1) := dX13_isGoodBean_98g.2.2.2.2.2.2.2.2.2.2.2.2.2.2.1
theorem dX13_isGoodBean_127 : decode cX13_isGoodBean 127 = .ok (.iload_n 1, 1) := dX13_isGoodBean_98g.2.2.2.2.2.2.2.2.2.2.2.2.2.2.2
theorem dX13_isGoodBean_128g : decode cX13_isGoodBean 128 = .ok (.ldc2_w 398, 3) ∧ decode cX13_isGoodBean 131 = .ok (.invokevirtual 408, 3) ∧ decode cX13_isGoodBean 134 = .ok (.ifCond .eq 51, 3) ∧ decode cX13_isGoodBean 137 = .ok (.aload_n 0, 1) ∧ decode cX13_isGoodBean 138 = .ok (.iload_n 1, 1) ∧ decode cX13_isGoodBean 139 = .ok (.ldc2_w 400, 3) ∧ decode cX13_isGoodBean 142 = .ok (.invokevirtual 355, 3) ∧ decode cX13_isGoodBean 145 = .ok (.ifCond .eq 14, 3) ∧ decode cX13_isGoodBean 148 = .ok (.aload_n 0, 1) ∧ decode cX13_isGoodBean 149 = .ok (.iload_n 1, 1) ∧ decode cX13_isGoodBean 150 = .ok (.ldc2_w 400, 3) ∧ decode cX13_isGoodBean 153 = .ok (.invokevirtual 408, 3) ∧ decode cX13_isGoodBean 156 = .ok (.ifCond .eq 29, 3) ∧ decode cX13_isGoodBean 159 = .ok (.aload_n 0, 1) ∧ decode cX13_isGoodBean 160 = .ok (.iload_n 1, 1) ∧ decode cX13_isGoodBean 161 = .ok (.ldc2_w 402, 3) := by decide +kernel
theorem dX13_isGoodBean_128 : decode cX13_isGoodBean 128 = .ok (.ldc2_w 398, 3) := dX13_isGoodBean_128g.1
theorem dX13_isGoodBean_131 : decode cX13_isGoodBean 131 = .ok (.invokevirtual 408, 3) := dX13_isGoodBean_128g.2.1
theorem dX13_isGoodBean_134 : decode cX13_isGoodBean 134 = .ok (.ifCond .eq 51, 3) := dX13_isGoodBean_128g.2.2.1
theorem dX13_isGoodBean_137 : decode cX13_isGoodBean 137 = .ok (.aload_n 0, 1) := dX13_isGoodBean_128g.2.2.2.1
theorem dX13_isGoodBean_138 : decode cX13_isGoodBean 138 = .ok (.iload_n 1, 1) := dX13_isGoodBean_128g.2.2.2.2.1
theorem dX13_isGoodBean_139 : decode cX13_isGoodBean 139 = .ok (.ldc2_w 400, 3) := dX13_isGoodBean_128g.2.2.2.2.2.1
theorem dX13_isGoodBean_142 : decode cX13_isGoodBean 142 = .ok (.invokevirtual 355, 3) := dX13_isGoodBean_128g.2.2.2.2.2.2.1
theorem dX13_isGoodBean_145 : decode cX13_isGoodBean 145 = .ok (.ifCond .eq 14, 3) := dX13_isGoodBean_128g.2.2.2.2.2.2.2.1
theorem dX13_isGoodBean_148 : decode cX13_isGoodBean 148 = .ok (.aload_n 0, 1) := dX13_isGoodBean_128g.2.2.2.2.2.2.2.2.1
theorem dX13_isGoodBean_149 : decode cX13_isGoodBean 149 = .ok (.iload_n 1, 1) := dX13_isGoodBean_128g.2.2.2.2.2.2.2.2.2.1
theorem dX13_isGoodBean_150 : decode cX13_isGoodBean 150 = .ok (.ldc2_w 400, 3) := dX13_isGoodBean_128g.2.2.2.2.2.2.2.2.2.2.1
theorem dX13_isGoodBean_153 : decode cX13_isGoodBean 153 = .ok (.invokevirtual 408, 3) := dX13_isGoodBean_128g.2.2.2.2.2.2.2.2.2.2.2.1
theorem dX13_isGoodBean_156 : decode cX13_isGoodBean 156 = .ok (.ifCond .eq 29, 3) := dX13_isGoodBean_128g.2.2.2.2.2.2.2.2.2.2.2.2.1
theorem dX13_isGoodBean_159 : decode cX13_isGoodBean 159 = .ok (.aload_n 0, 1) := dX13_isGoodBean_128g.2.2.2.2.2.2.2.2.2.2.2.2.2.1
theorem dX13_isGoodBean_160 : decode cX13_isGoodBean 160 = .ok (.iload_n 1, 1) := dX13_isGoodBean_128g.2.2.2.2.2.2.2.2.2.2.2.2.2.2.1
theorem dX13_isGoodBean_161 : decode cX13_isGoodBean 161 = .ok (.ldc2_w 402, 3) := dX13_isGoodBean_128g.2.2.2.2.2.2.2.2.2.2.2.2.2.2.2
theorem dX13_isGoodBean_164g : decode cX13_isGoodBean 164 = .ok (.invokevirtual 355, 3) ∧ decode cX13_isGoodBean 167 = .ok (.ifCond .eq 14, 3) ∧ decode cX13_isGoodBean 170 = .ok (.aload_n 0, 1) ∧ decode cX13_isGoodBean 171 = .ok (.iload_n 1, 1) ∧ decode cX13_isGoodBean 172 = .ok (.ldc2_w 402, 3) ∧ decode cX13_isGoodBean 175 = .ok (.invokevirtual 408, 3) ∧ decode cX13_isGoodBean 178 = .ok (.ifCond .eq 7, 3) ∧ decode cX13_isGoodBean 181 = .ok (.iconst 1, 1) ∧ decode cX13_isGoodBean 182 = .ok (.goto 4, 3) ∧ decode cX13_isGoodBean 185 = .ok (.iconst 0, 1) ∧ decode cX13_isGoodBean 186 = .ok (.istore 4, 2) ∧ decode cX13_isGoodBean 188 = .ok (.aload_n 0, 1) ∧ decode cX13_isGoodBean 189 = .ok (.iload_n 1, 1) ∧ decode cX13_isGoodBean 190 = .ok (.ldc2_w 386, 3) ∧ decode cX13_isGoodBean 193 = .ok (.invokevirtual 355, 3) ∧ decode cX13_isGoodBean 196 = .ok (.ifCond .eq 18, 3) := by decide +kernel
theorem dX13_isGoodBean_164 : decode cX13_isGoodBean 164 = .ok (.invokevirtual 355, 3) := dX13_isGoodBean_164g.1
theorem dX13_isGoodBean_167 : decode cX13_isGoodBean 167 = .ok (.ifCond .eq 14, 3) := dX13_isGoodBean_164g.2.1
theorem dX13_isGoodBean_170 : decode cX13_isGoodBean 170 = .ok (.aload_n 0, 1) := dX13_isGoodBean_164g.2.2.1
theorem dX13_isGoodBean_171 : decode cX13_isGoodBean 171 = .ok (.iload_n 1, 1) := dX13_isGoodBean_164g.2.2.2.1
theorem dX13_isGoodBean_172 : decode cX13_isGoodBean 172 = .ok (.ldc2_w 402, 3) := dX13_isGoodBean_164g.2.2.2.2.1
theorem dX13_isGoodBean_175 : decode cX13_isGoodBean 175 = .ok (.invokevirtual 408, 3) := dX13_isGoodBean_164g.2.2.2.2.2.1
theorem dX13_isGoodBean_178 : decode cX13_isGoodBean 178 = .ok (.ifCond .eq 7, 3) := dX13_isGoodBean_164g.2.2.2.2.2.2.1
theorem dX13_isGoodBean_181 : decode cX13_isGoodBean 181 = .ok (.iconst 1, 1) := dX13_isGoodBean_164g.2.2.2.2.2.2.2.1
theorem dX13_isGoodBean_182 : decode cX13_isGoodBean 182 = .ok (.goto 4, 3) := dX13_isGoodBean_164g.2.2.2.2.2.2.2.2.1
theorem dX13_isGoodBean_185 : decode cX13_isGoodBean 185 = .ok (.iconst 0, 1) := dX13_isGoodBean_164g.2.2.2.2.2.2.2.2.2.1
theorem dX13_isGoodBean_186 : decode cX13_isGoodBean 186 = .ok (.istore 4, 2) := dX13_isGoodBean_164g.2.2.2.2.2.2.2.2.2.2.1
theorem dX13_isGoodBean_188 : decode cX13_isGoodBean 188 = .ok (.aload_n 0, 1) := dX13_isGoodBean_164g.2.2.2.2.2.2.2.2.2.2.2.1
theorem dX13_isGoodBean_189 : decode cX13_isGoodBean 189 = .ok (.iload_n 1, 1) := dX13_isGoodBean_164g.2.2.2.2.2.2.2.2.2.2.2.2.1
theorem dX13_isGoodBean_190 : decode cX13_isGoodBean 190 = .ok (.ldc2_w 386, 3) := dX13_isGoodBean_164g.2.2.2.2.2.2.2.2.2.2.2.2.2.1
theorem dX13_isGoodBean_193 : decode cX13_isGoodBean 193 = .ok (.invokevirtual 355, 3) := dX13_isGoodBean_164g.2.2.2.2.2.2.2.2.2.2.2.2.2.2.1
theorem dX13_isGoodBean_196 : decode cX13_isGoodBean 196 = .ok (.ifCond .eq 18, 3) := dX13_isGoodBean_164g.2.2.2.2.2.2.2.2.2.2.2.2.2.2.2
theorem dX13_isGoodBean_199g : decode cX13_isGoodBean 199 = .ok (.aload_n 0, 1) ∧ decode cX13_isGoodBean 200 = .ok (.iload_n 1, 1) ∧ decode cX13_isGoodBean 201 = .ok (.ldc2_w 386, 3) ∧ decode cX13_isGoodBean 204 = .ok (.invokevirtual 359, 3) ∧ decode cX13_isGoodBean 207 = .ok (.invokestatic 376, 3) ∧ decode cX13_isGoodBean 210 = .ok (.iconst (-1), 1) ∧ decode cX13_isGoodBean 211 = .ok (.if_icmp .eq 46, 3) ∧ decode cX13_isGoodBean 214 = .ok (.aload_n 0, 1) ∧ decode cX13_isGoodBean 215 = .ok (.iload_n 1, 1) ∧ decode cX13_isGoodBean 216 = .ok (.ldc2_w 390, 3) ∧ decode cX13_isGoodBean 219 = .ok (.iconst 0, 1) ∧ decode cX13_isGoodBean 220 = .ok (.iconst 1, 1) ∧ decode cX13_isGoodBean 221 = .ok (.invokevirtual 411, 3) ∧ decode cX13_isGoodBean 224 = .ok (.ifCond .eq 33, 3) ∧ decode cX13_isGoodBean 227 = .ok (.aload_n 0, 1) ∧ decode cX13_isGoodBean 228 = .ok (.iload_n 1, 1) := by decide +kernel
theorem dX13_isGoodBean_199 : decode cX13_isGoodBean 199 = .ok (.aload_n 0, 1) := dX13_isGoodBean_199g.1
theorem dX13_isGoodBean_200 : decode cX13_isGoodBean 200 = .ok (.iload_n 1, 1) := dX13_isGoodBean_199g.2.1
theorem dX13_isGoodBean_201 : decode cX13_isGoodBean 201 = .ok (.ldc2_w 386, 3) := dX13_isGoodBean_199g.2.2.1
theorem dX13_isGoodBean_204 : decode cX13_isGoodBean 204 = .ok (.invokevirtual 359, 3) := dX13_isGoodBean_199g.2.2.2.1
theorem dX13_isGoodBean_207 : decode cX13_isGoodBean 207 = .ok (.invokestatic 376, 3) := dX13_isGoodBean_199g.2.2.2.2.1
theorem dX13_isGoodBean_210 : decode cX13_isGoodBean 210 = .ok (.iconst (-1), 1) := dX13_isGoodBean_199g.2.2.2.2.2.1
theorem dX13_isGoodBean_211 : decode cX13_isGoodBean 211 = .ok (.if_icmp .eq 46, 3) := dX13_isGoodBean_199g.2.2.2.2.2.2.1
theorem dX13_isGoodBean_214 : decode cX13_isGoodBean 214 = .ok (.aload_n 0, 1) := dX13_isGoodBean_199g.2.2.2.2.2.2.2.1
theorem dX13_isGoodBean_215 : decode cX13_isGoodBean 215 = .ok (.iload_n 1, 1) := dX13_isGoodBean_199g.2.2.2.2.2.2.2.2.1
theorem dX13_isGoodBean_216 : decode cX13_isGoodBean 216 = .ok (.ldc2_w 390, 3) := dX13_isGoodBean_199g.2.2.2.2.2.2.2.2.2.1
theorem dX13_isGoodBean_219 : decode cX13_isGoodBean 219 = .ok (.iconst 0, 1) := dX13_isGoodBean_199g.2.2.2.2.2.2.2.2.2.2.1
theorem dX13_isGoodBean_220 : decode cX13_isGoodBean 220 = .ok (.iconst 1, 1) := dX13_isGoodBean_199g.2.2.2.2.2.2.2.2.2.2.2.1
theorem dX13_isGoodBean_221 : decode cX13_isGoodBean 221 = .ok (.invokevirtual 411, 3) := dX13_isGoodBean_199g.2.2.2.2.2.2.2.2.2.2.2.2.1
theorem dX13_isGoodBean_224 : decode cX13_isGoodBean 224 = .ok (.ifCond .eq 33, 3) := dX13_isGoodBean_199g.2.2.2.2.2.2.2.2.2.2.2.2.2.1
theorem dX13_isGoodBean_227 : decode cX13_isGoodBean 227 = .ok (.aload_n 0, 1) := dX13_isGoodBean_199g.2.2.2.2.2.2.2.2.2.2.2.2.2.2.1
theorem dX13_isGoodBean_228 : decode cX13_isGoodBean 228 = .ok (.iload_n 1, 1) := dX13_isGoodBean_199g.2.2.2.2.2.2.2.2.2.2.2.2.2.2.2
theorem dX13_isGoodBean_229g : decode cX13_isGoodBean 229 = .ok (.ldc2_w 394, 3) ∧ decode cX13_isGoodBean 232 = .ok (.iconst 0, 1) ∧ decode cX13_isGoodBean 233 = .ok (.iconst 1, 1) ∧ decode cX13_isGoodBean 234 = .ok (.invokevirtual 411, 3) ∧ decode cX13_isGoodBean 237 = .ok (.ifCond .eq 20, 3) ∧ decode cX13_isGoodBean 240 = .ok (.aload_n 0, 1) ∧ decode cX13_isGoodBean 241 = .ok (.iload_n 1, 1) ∧ decode cX13_isGoodBean 242 = .ok (.ldc2_w 392, 3) ∧ decode cX13_isGoodBean 245 = .ok (.iconst 2, 1) ∧ decode cX13_isGoodBean 246 = .ok (.iconst 3, 1) ∧ decode cX13_isGoodBean 247 = .ok (.invokevirtual 411, 3) ∧ decode cX13_isGoodBean 250 = .ok (.ifCond .eq 7, 3) ∧ decode cX13_isGoodBean 253 = .ok (.iconst 1, 1) ∧ decode cX13_isGoodBean 254 = .ok (.goto 4, 3) ∧ decode cX13_isGoodBean 257 = .ok (.iconst 0, 1) ∧ decode cX13_isGoodBean 258 = .ok (.istore 5, 2) := by decide +kernel
theorem dX13_isGoodBean_229 : decode cX13_isGoodBean 229 = .ok (.ldc2_w 394, 3) := dX13_isGoodBean_229g.1
theorem dX13_isGoodBean_232 : decode cX13_isGoodBean 232 = .ok (.iconst 0, 1) := dX13_isGoodBean_229g.2.1
theorem dX13_isGoodBean_233 : decode cX13_isGoodBean 233 = .ok (.iconst 1, 1) := dX13_isGoodBean_229g.2.2.1
theorem dX13_isGoodBean_234 : decode cX13_isGoodBean 234 = .ok (.invokevirtual 411, 3) := dX13_isGoodBean_229g.2.2.2.1
theorem dX13_isGoodBean_237 : decode cX13_isGoodBean 237 = .ok (.ifCond .eq 20, 3) := dX13_isGoodBean_229g.2.2.2.2.1
theorem dX13_isGoodBean_240 : decode cX13_isGoodBean 240 = .ok (.aload_n 0, 1) := dX13_isGoodBean_229g.2.2.2.2.2.1
theorem dX13_isGoodBean_241 : decode cX13_isGoodBean 241 = .ok (.iload_n 1, 1) := dX13_isGoodBean_229g.2.2.2.2.2.2.1
theorem dX13_isGoodBean_242 : decode cX13_isGoodBean 242 = .ok (.ldc2_w 392, 3) := dX13_isGoodBean_229g.2.2.2.2.2.2.2.1
theorem dX13_isGoodBean_245 : decode cX13_isGoodBean 245 = .ok (.iconst 2, 1) := dX13_isGoodBean_229g.2.2.2.2.2.2.2.2.1
theorem dX13_isGoodBean_246 : decode cX13_isGoodBean 246 = .ok (.iconst 3, 1) := dX13_isGoodBean_229g.2.2.2.2.2.2.2.2.2.1
theorem dX13_isGoodBean_247 : decode cX13_isGoodBean 247 = .ok (.invokevirtual 411, 3) := dX13_isGoodBean_229g.2.2.2.2.2.2.2.2.2.2.1
theorem dX13_isGoodBean_250 : decode cX13_isGoodBean 250 = .ok (.ifCond .eq 7, 3) := dX13_isGoodBean_229g.2.2.2.2.2.2.2.2.2.2.2.1
theorem dX13_isGoodBean_253 : decode cX13_isGoodBean 253 = .ok (.iconst 1, 1) := dX13_isGoodBean_229g.2.2.2.2.2.2.2.2.2.2.2.2.1
theorem dX13_isGoodBean_254 : decode cX13_isGoodBean 254 = .ok (.goto 4, 3) := dX13_isGoodBean_229g.2.2.2.2.2.2.2.2.2.2.2.2.2.1
theorem dX13_isGoodBean_257 : decode cX13_isGoodBean 257 = .ok (.iconst 0, 1) := dX13_isGoodBean_229g.2.2.2.2.2.2.2.2.2.2.2.2.2.2.1
theorem dX13_isGoodBean_258 : decode cX13_isGoodBean 258 = .ok (.istore 5, 2) := dX13_isGoodBean_229g.2.2.2.2.2.2.2.2.2.2.2.2.2.2.2
theorem dX13_isGoodBean_260g : decode cX13_isGoodBean 260 = .ok (.iload_n 2, 1) ∧ decode cX13_isGoodBean 261 = .ok (.ifCond .eq 44, 3) ∧ decode cX13_isGoodBean 264 = .ok (.aload_n 0, 1) ∧ decode cX13_isGoodBean 265 = .ok (.iload_n 1, 1) ∧ decode cX13_isGoodBean 266 = .ok (.ldc2_w 384, 3) ∧ decode cX13_isGoodBean 269 = .ok (.invokevirtual 355, 3) ∧ decode cX13_isGoodBean 272 = .ok (.ifCond .ne 29, 3) ∧ decode cX13_isGoodBean 275 = .ok (.aload_n 0, 1) ∧ decode cX13_isGoodBean 276 = .ok (.iload_n 1, 1) ∧ decode cX13_isGoodBean 277 = .ok (.ldc2_w 390, 3) ∧ decode cX13_isGoodBean 280 = .ok (.invokevirtual 355, 3) ∧ decode cX13_isGoodBean 283 = .ok (.ifCond .ne 18, 3) ∧ decode cX13_isGoodBean 286 = .ok (.aload_n 0, 1) ∧ decode cX13_isGoodBean 287 = .ok (.iload_n 1, 1) ∧ decode cX13_isGoodBean 288 = .ok (.ldc2_w 394, 3) ∧ decode cX13_isGoodBean 291 = .ok (.invokevirtual 355, 3) := by decide +kernel
theorem dX13_isGoodBean_260 : decode cX13_isGoodBean 260 = .ok (.iload_n 2, 1) := dX13_isGoodBean_260g.1
theorem dX13_isGoodBean_261 : decode cX13_isGoodBean 261 = .ok (.ifCond .eq 44, 3) := dX13_isGoodBean_260g.2.1
theorem dX13_isGoodBean_264 : decode cX13_isGoodBean 264 = .ok (.aload_n 0, 1) := dX13_isGoodBean_260g.2.2.1
theorem dX13_isGoodBean_265 : decode cX13_isGoodBean 265 = .ok (.iload_n 1, 1) := dX13_isGoodBean_260g.2.2.2.1
theorem dX13_isGoodBean_266 : decode cX13_isGoodBean 266 = .ok (.ldc2_w 384, 3) := dX13_isGoodBean_260g.2.2.2.2.1
theorem dX13_isGoodBean_269 : decode cX13_isGoodBean 269 = .ok (.invokevirtual 355, 3) := dX13_isGoodBean_260g.2.2.2.2.2.1
theorem dX13_isGoodBean_272 : decode cX13_isGoodBean 272 = .ok (.ifCond .ne 29, 3) := dX13_isGoodBean_260g.2.2.2.2.2.2.1
theorem dX13_isGoodBean_275 : decode cX13_isGoodBean 275 = .ok (.aload_n 0, 1) := dX13_isGoodBean_260g.2.2.2.2.2.2.2.1
theorem dX13_isGoodBean_276 : decode cX13_isGoodBean 276 = .ok (.iload_n 1, 1) := dX13_isGoodBean_260g.2.2.2.2.2.2.2.2.1
theorem dX13_isGoodBean_277 : decode cX13_isGoodBean 277 = .ok (.ldc2_w 390, 3) := dX13_isGoodBean_260g.2.2.2.2.2.2.2.2.2.1
theorem dX13_isGoodBean_280 : decode cX13_isGoodBean 280 = .ok (.invokevirtual 355, 3) := dX13_isGoodBean_260g.2.2.2.2.2.2.2.2.2.2.1
theorem dX13_isGoodBean_283 : decode cX13_isGoodBean 283 = .ok (.ifCond .ne 18, 3) := dX13_isGoodBean_260g.2.2.2.2.2.2.2.2.2.2.2.1
theorem dX13_isGoodBean_286 : decode cX13_isGoodBean 286 = .ok (.aload_n 0, 1) := dX13_isGoodBean_260g.2.2.2.2.2.2.2.2.2.2.2.2.1
theorem dX13_isGoodBean_287 : decode cX13_isGoodBean 287 = .ok (.iload_n 1, 1) := dX13_isGoodBean_260g.2.2.2.2.2.2.2.2.2.2.2.2.2.1
theorem dX13_isGoodBean_288 : decode cX13_isGoodBean 288 = .ok (.ldc2_w 394, 3) := dX13_isGoodBean_260g.2.2.2.2.2.2.2.2.2.2.2.2.2.2.1
theorem dX13_isGoodBean_291 : decode cX13_isGoodBean 291 = .ok (.invokevirtual 355, 3) := dX13_isGoodBean_260g.2.2.2.2.2.2.2.2.2.2.2.2.2.2.2
theorem dX13_isGoodBean_294g : decode cX13_isGoodBean 294 = .ok (.ifCond .ne 7, 3) ∧ decode cX13_isGoodBean 297 = .ok (.iconst 1, 1) ∧ decode cX13_isGoodBean 298 = .ok (.goto 15, 3) ∧ decode cX13_isGoodBean 301 = .ok (.iconst 0, 1) ∧ decode cX13_isGoodBean 302 = .ok (.goto 11, 3) ∧ decode cX13_isGoodBean 305 = .ok (.aload_n 0, 1) ∧ decode cX13_isGoodBean 306 = .ok (.iload_n 1, 1) ∧ decode cX13_isGoodBean 307 = .ok (.ldc2_w 384, 3) ∧ decode cX13_isGoodBean 310 = .ok (.invokevirtual 355, 3) ∧ decode cX13_isGoodBean 313 = .ok (.istore 6, 2) ∧ decode cX13_isGoodBean 315 = .ok (.aload_n 0, 1) ∧ decode cX13_isGoodBean 316 = .ok (.iload_n 1, 1) ∧ decode cX13_isGoodBean 317 = .ok (.ldc2_w 390, 3) ∧ decode cX13_isGoodBean 320 = .ok (.invokevirtual 359, 3) ∧ decode cX13_isGoodBean 323 = .ok (.aload_n 0, 1) ∧ decode cX13_isGoodBean 324 = .ok (.getfield 55, 3) := by decide +kernel
theorem dX13_isGoodBean_294 : decode cX13_isGoodBean 294 = .ok (.ifCond .ne 7, 3) := dX13_isGoodBean_294g.1
theorem dX13_isGoodBean_297 : decode cX13_isGoodBean 297 = .ok (.iconst 1, 1) := dX13_isGoodBean_294g.2.1
theorem dX13_isGoodBean_298 : decode cX13_isGoodBean 298 = .ok (.goto 15, 3) := dX13_isGoodBean_294g.2.2.1
theorem dX13_isGoodBean_301 : decode cX13_isGoodBean 301 = .ok (.iconst 0, 1) := dX13_isGoodBean_294g.2.2.2.1
theorem dX13_isGoodBean_302 : decode cX13_isGoodBean 302 = .ok (.goto 11, 3) := dX13_isGoodBean_294g.2.2.2.2.1
theorem dX13_isGoodBean_305 : decode cX13_isGoodBean 305 = .ok (.aload_n 0, 1) := dX13_isGoodBean_294g.2.2.2.2.2.1
theorem dX13_isGoodBean_306 : decode cX13_isGoodBean 306 = .ok (.iload_n 1, 1) := dX13_isGoodBean_294g.2.2.2.2.2.2.1
theorem dX13_isGoodBean_307 : decode cX13_isGoodBean 307 = .ok (.ldc2_w 384, 3) := dX13_isGoodBean_294g.2.2.2.2.2.2.2.1
theorem dX13_isGoodBean_310 : decode cX13_isGoodBean 310 = .ok (.invokevirtual 355, 3) := dX13_isGoodBean_294g.2.2.2.2.2.2.2.2.1
theorem dX13_isGoodBean_313 : decode cX13_isGoodBean 313 = .ok (.istore 6, 2) := dX13_isGoodBean_294g.2.2.2.2.2.2.2.2.2.1
theorem dX13_isGoodBean_315 : decode cX13_isGoodBean 315 = .ok (.aload_n 0, 1) := dX13_isGoodBean_294g.2.2.2.2.2.2.2.2.2.2.1
theorem dX13_isGoodBean_316 : decode cX13_isGoodBean 316 = .ok (.iload_n 1, 1) := dX13_isGoodBean_294g.2.2.2.2.2.2.2.2.2.2.2.1
theorem dX13_isGoodBean_317 : decode cX13_isGoodBean 317 = .ok (.ldc2_w 390, 3) := dX13_isGoodBean_294g.2.2.2.2.2.2.2.2.2.2.2.2.1
theorem dX13_isGoodBean_320 : decode cX13_isGoodBean 320 = .ok (.invokevirtual 359, 3) := dX13_isGoodBean_294g.2.2.2.2.2.2.2.2.2.2.2.2.2.1
theorem dX13_isGoodBean_323 : decode cX13_isGoodBean 323 = .ok (.aload_n 0, 1) := dX13_isGoodBean_294g.2.2.2.2.2.2.2.2.2.2.2.2.2.2.1
theorem dX13_isGoodBean_324 : decode cX13_isGoodBean 324 = .ok (.getfield 55, 3) := dX13_isGoodBean_294g.2.2.2.2.2.2.2.2.2.2.2.2.2.2.2
theorem dX13_isGoodBean_327g : decode cX13_isGoodBean 327 = .ok (.iconst 0, 1) ∧ decode cX13_isGoodBean 328 = .ok (.laload, 1) ∧ decode cX13_isGoodBean 329 = .ok (.lcmp, 1) ∧ decode cX13_isGoodBean 330 = .ok (.ifCond .eq 36, 3) ∧ decode cX13_isGoodBean 333 = .ok (.aload_n 0, 1) ∧ decode cX13_isGoodBean 334 = .ok (.iload_n 1, 1) ∧ decode cX13_isGoodBean 335 = .ok (.ldc2_w 386, 3) ∧ decode cX13_isGoodBean 338 = .ok (.invokevirtual 355, 3) ∧ decode cX13_isGoodBean 341 = .ok (.ifCond .ne 25, 3) ∧ decode cX13_isGoodBean 344 = .ok (.aload_n 0, 1) ∧ decode cX13_isGoodBean 345 = .ok (.iload_n 1, 1) ∧ decode cX13_isGoodBean 346 = .ok (.ldc2_w 388, 3) ∧ decode cX13_isGoodBean 349 = .ok (.invokevirtual 355, 3) ∧ decode cX13_isGoodBean 352 = .ok (.ifCond .ne 14, 3) ∧ decode cX13_isGoodBean 355 = .ok (.aload_n 0, 1) ∧ decode cX13_isGoodBean 356 = .ok (.iload_n 1, 1) := by decide +kernel
theorem dX13_isGoodBean_327 : decode cX13_isGoodBean 327 = .ok (.iconst 0, 1) := dX13_isGoodBean_327g.1
theorem dX13_isGoodBean_328 : decode cX13_isGoodBean 328 = .ok (.laload, 1) := dX13_isGoodBean_327g.2.1
theorem dX13_isGoodBean_329 : decode cX13_isGoodBean 329 = .ok (.lcmp, 1) := dX13_isGoodBean_327g.2.2.1
theorem dX13_isGoodBean_330 : decode cX13_isGoodBean 330 = .ok (.ifCond .eq 36, 3) := dX13_isGoodBean_327g.2.2.2.1
theorem dX13_isGoodBean_333 : decode cX13_isGoodBean 333 = .ok (.aload_n 0, 1) := dX13_isGoodBean_327g.2.2.2.2.1
theorem dX13_isGoodBean_334 : decode cX13_isGoodBean 334 = .ok (.iload_n 1, 1) := dX13_isGoodBean_327g.2.2.2.2.2.1
theorem dX13_isGoodBean_335 : decode cX13_isGoodBean 335 = .ok (.ldc2_w 386, 3) := dX13_isGoodBean_327g.2.2.2.2.2.2.1
theorem dX13_isGoodBean_338 : decode cX13_isGoodBean 338 = .ok (.invokevirtual 355, 3) := dX13_isGoodBean_327g.2.2.2.2.2.2.2.1
theorem dX13_isGoodBean_341 : decode cX13_isGoodBean 341 = .ok (.ifCond .ne 25, 3) := dX13_isGoodBean_327g.2.2.2.2.2.2.2.2.1
theorem dX13_isGoodBean_344 : decode cX13_isGoodBean 344 = .ok (.aload_n 0, 1) := dX13_isGoodBean_327g.2.2.2.2.2.2.2.2.2.1
theorem dX13_isGoodBean_345 : decode cX13_isGoodBean 345 = .ok (.iload_n 1, 1) := dX13_isGoodBean_327g.2.2.2.2.2.2.2.2.2.2.1
theorem dX13_isGoodBean_346 : decode cX13_isGoodBean 346 = .ok (.ldc2_w 388, 3) := dX13_isGoodBean_327g.2.2.2.2.2.2.2.2.2.2.2.1
theorem dX13_isGoodBean_349 : decode cX13_isGoodBean 349 = .ok (.invokevirtual 355, 3) := dX13_isGoodBean_327g.2.2.2.2.2.2.2.2.2.2.2.2.1
theorem dX13_isGoodBean_352 : decode cX13_isGoodBean 352 = .ok (.ifCond .ne 14, 3) := dX13_isGoodBean_327g.2.2.2.2.2.2.2.2.2.2.2.2.2.1
theorem dX13_isGoodBean_355 : decode cX13_isGoodBean 355 = .ok (.aload_n 0, 1) := dX13_isGoodBean_327g.2.2.2.2.2.2.2.2.2.2.2.2.2.2.1
theorem dX13_isGoodBean_356 : decode cX13_isGoodBean 356 = .ok (.iload_n 1, 1) := dX13_isGoodBean_327g.2.2.2.2.2.2.2.2.2.2.2.2.2.2.2
theorem dX13_isGoodBean_357g : decode cX13_isGoodBean 357 = .ok (.ldc2_w 396, 3) ∧ decode cX13_isGoodBean 360 = .ok (.invokevirtual 355, 3) ∧ decode cX13_isGoodBean 363 = .ok (.ifCond .eq 7, 3) ∧ decode cX13_isGoodBean 366 = .ok (.iconst 1, 1) ∧ decode cX13_isGoodBean 367 = .ok (.goto 4, 3) ∧ decode cX13_isGoodBean 370 = .ok (.iconst 0, 1) ∧ decode cX13_isGoodBean 371 = .ok (.istore 7, 2) ∧ decode cX13_isGoodBean 373 = .ok (.iload_n 3, 1) ∧ decode cX13_isGoodBean 374 = .ok (.ifCond .eq 49, 3) ∧ decode cX13_isGoodBean 377 = .ok (.iload 4, 2) ∧ decode cX13_isGoodBean 379 = .ok (.ifCond .eq 44, 3) ∧ decode cX13_isGoodBean 382 = .ok (.iload 5, 2) ∧ decode cX13_isGoodBean 384 = .ok (.ifCond .eq 39, 3) ∧ decode cX13_isGoodBean 387 = .ok (.iload 6, 2) ∧ decode cX13_isGoodBean 389 = .ok (.ifCond .eq 34, 3) ∧ decode cX13_isGoodBean 392 = .ok (.iload 7, 2) := by decide +kernel
theorem dX13_isGoodBean_357 : decode cX13_isGoodBean 357 = .ok (.ldc2_w 396, 3) := dX13_isGoodBean_357g.1
theorem dX13_isGoodBean_360 : decode cX13_isGoodBean 360 = .ok (.invokevirtual 355, 3) := dX13_isGoodBean_357g.2.1
theorem dX13_isGoodBean_363 : decode cX13_isGoodBean 363 = .ok (.ifCond .eq 7, 3) := dX13_isGoodBean_357g.2.2.1
theorem dX13_isGoodBean_366 : decode cX13_isGoodBean 366 = .ok (.iconst 1, 1) := dX13_isGoodBean_357g.2.2.2.1
theorem dX13_isGoodBean_367 : decode cX13_isGoodBean 367 = .ok (.goto 4, 3) := dX13_isGoodBean_357g.2.2.2.2.1
theorem dX13_isGoodBean_370 : decode cX13_isGoodBean 370 = .ok (.iconst 0, 1) := dX13_isGoodBean_357g.2.2.2.2.2.1
theorem dX13_isGoodBean_371 : decode cX13_isGoodBean 371 = .ok (.istore 7, 2) := dX13_isGoodBean_357g.2.2.2.2.2.2.1
theorem dX13_isGoodBean_373 : decode cX13_isGoodBean 373 = .ok (.iload_n 3, 1) := dX13_isGoodBean_357g.2.2.2.2.2.2.2.1
theorem dX13_isGoodBean_374 : decode cX13_isGoodBean 374 = .ok (.ifCond .eq 49, 3) := dX13_isGoodBean_357g.2.2.2.2.2.2.2.2.1
theorem dX13_isGoodBean_377 : decode cX13_isGoodBean 377 = .ok (.iload 4, 2) := dX13_isGoodBean_357g.2.2.2.2.2.2.2.2.2.1
theorem dX13_isGoodBean_379 : decode cX13_isGoodBean 379 = .ok (.ifCond .eq 44, 3) := dX13_isGoodBean_357g.2.2.2.2.2.2.2.2.2.2.1
theorem dX13_isGoodBean_382 : decode cX13_isGoodBean 382 = .ok (.iload 5, 2) := dX13_isGoodBean_357g.2.2.2.2.2.2.2.2.2.2.2.1
theorem dX13_isGoodBean_384 : decode cX13_isGoodBean 384 = .ok (.ifCond .eq 39, 3) := dX13_isGoodBean_357g.2.2.2.2.2.2.2.2.2.2.2.2.1
theorem dX13_isGoodBean_387 : decode cX13_isGoodBean 387 = .ok (.iload 6, 2) := dX13_isGoodBean_357g.2.2.2.2.2.2.2.2.2.2.2.2.2.1
theorem dX13_isGoodBean_389 : decode cX13_isGoodBean 389 = .ok (.ifCond .eq 34, 3) := dX13_isGoodBean_357g.2.2.2.2.2.2.2.2.2.2.2.2.2.2.1
theorem dX13_isGoodBean_392 : decode cX13_isGoodBean 392 = .ok (.iload 7, 2) := dX13_isGoodBean_357g.2.2.2.2.2.2.2.2.2.2.2.2.2.2.2
theorem dX13_isGoodBean_394g : decode cX13_isGoodBean 394 = .ok (.ifCond .eq 29, 3) ∧ decode cX13_isGoodBean 397 = .ok (.aload_n 0, 1) ∧ decode cX13_isGoodBean 398 = .ok (.iload_n 1, 1) ∧ decode cX13_isGoodBean 399 = .ok (.ldc2_w 396, 3) ∧ decode cX13_isGoodBean 402 = .ok (.invokevirtual 355, 3) ∧ decode cX13_isGoodBean 405 = .ok (.ifCond .eq 14, 3) ∧ decode cX13_isGoodBean 408 = .ok (.aload_n 0, 1) ∧ decode cX13_isGoodBean 409 = .ok (.iload_n 1, 1) ∧ decode cX13_isGoodBean 410 = .ok (.ldc2_w 398, 3) ∧ decode cX13_isGoodBean 413 = .ok (.invokevirtual 355, 3) ∧ decode cX13_isGoodBean 416 = .ok (.ifCond .eq 7, 3) ∧ decode cX13_isGoodBean 419 = .ok (.iconst 1, 1) ∧ decode cX13_isGoodBean 420 = .ok (.goto 4, 3) ∧ decode cX13_isGoodBean 423 = .ok (.iconst 0, 1) ∧ decode cX13_isGoodBean 424 = .ok (.ireturn, 1) := by decide +kernel
theorem dX13_isGoodBean_394 : decode cX13_isGoodBean 394 = .ok (.ifCond .eq 29, 3) := dX13_isGoodBean_394g.1
theorem dX13_isGoodBean_397 : decode cX13_isGoodBean 397 = .ok (.aload_n 0, 1) := dX13_isGoodBean_394g.2.1
theorem dX13_isGoodBean_398 : decode cX13_isGoodBean 398 = .ok (.iload_n 1, 1) := dX13_isGoodBean_394g.2.2.1
theorem dX13_isGoodBean_399 : decode cX13_isGoodBean 399 = .ok (.ldc2_w 396, 3) := dX13_isGoodBean_394g.2.2.2.1
theorem dX13_isGoodBean_402 : decode cX13_isGoodBean 402 = .ok (.invokevirtual 355, 3) := dX13_isGoodBean_394g.2.2.2.2.1
theorem dX13_isGoodBean_405 : decode cX13_isGoodBean 405 = .ok (.ifCond .eq 14, 3) := dX13_isGoodBean_394g.2.2.2.2.2.1
theorem dX13_isGoodBean_408 : decode cX13_isGoodBean 408 = .ok (.aload_n 0, 1) := dX13_isGoodBean_394g.2.2.2.2.2.2.1
theorem dX13_isGoodBean_409 : decode cX13_isGoodBean 409 = .ok (.iload_n 1, 1) := dX13_isGoodBean_394g.2.2.2.2.2.2.2.1
theorem dX13_isGoodBean_410 : decode cX13_isGoodBean 410 = .ok (.ldc2_w 398, 3) := dX13_isGoodBean_394g.2.2.2.2.2.2.2.2.1
theorem dX13_isGoodBean_413 : decode cX13_isGoodBean 413 = .ok (.invokevirtual 355, 3) := dX13_isGoodBean_394g.2.2.2.2.2.2.2.2.2.1
theorem dX13_isGoodBean_416 : decode cX13_isGoodBean 416 = .ok (.ifCond .eq 7, 3) := dX13_isGoodBean_394g.2.2.2.2.2.2.2.2.2.2.1
theorem dX13_isGoodBean_419 : decode cX13_isGoodBean 419 = .ok (.iconst 1, 1) := dX13_isGoodBean_394g.2.2.2.2.2.2.2.2.2.2.2.1
theorem dX13_isGoodBean_420 : decode cX13_isGoodBean 420 = .ok (.goto 4, 3) := dX13_isGoodBean_394g.2.2.2.2.2.2.2.2.2.2.2.2.1
theorem dX13_isGoodBean_423 : decode cX13_isGoodBean 423 = .ok (.iconst 0, 1) := dX13_isGoodBean_394g.2.2.2.2.2.2.2.2.2.2.2.2.2.1
theorem dX13_isGoodBean_424 : decode cX13_isGoodBean 424 = .ok (.ireturn, 1) := dX13_isGoodBean_394g.2.2.2.2.2.2.2.2.2.2.2.2.2.2
theorem dX13_ahead_0g : decode cX13_ahead 0 = .ok (.iconst 0, 1) ∧ decode cX13_ahead 1 = .ok (.istore_n 3, 1) ∧ decode cX13_ahead 2 = .ok (.iconst 0, 1) ∧ decode cX13_ahead 3 = .ok (.istore 4, 2) ∧ decode cX13_ahead 5 = .ok (.iload 4, 2) ∧ decode cX13_ahead 7 = .ok (.iload_n 1, 1) ∧ decode cX13_ahead 8 = .ok (.if_icmp .ge 74, 3) ∧ decode cX13_ahead 11 = .ok (.iload_n 3, 1) ∧ decode cX13_ahead 12 = .ok (.aload_n 0, 1) ∧ decode cX13_ahead 13 = .ok (.getfield 132, 3) ∧ decode cX13_ahead 16 = .ok (.iload 4, 2) ∧ decode cX13_ahead 18 = .ok (.iaload, 1) ∧ decode cX13_ahead 19 = .ok (.aload_n 0, 1) ∧ decode cX13_ahead 20 = .ok (.getfield 132, 3) ∧ decode cX13_ahead 23 = .ok (.iload_n 1, 1) ∧ decode cX13_ahead 24 = .ok (.iaload, 1) := by decide +kernel
theorem dX13_ahead_0 : decode cX13_ahead 0 = .ok (.iconst 0, 1) := dX13_ahead_0g.1
theorem dX13_ahead_1 : decode cX13_ahead 1 = .ok (.istore_n 3, 1) := dX13_ahead_0g.2.1
theorem dX13_ahead_2 : decode cX13_ahead 2 = .ok (.iconst 0, 1) := dX13_ahead_0g.2.2.1
theorem dX13_ahead_3 : decode cX13_ahead 3 = .ok (.istore 4, 2) := dX13_ahead_0g.2.2.2.1
theorem dX13_ahead_5 : decode cX13_ahead 5 = .ok (.iload 4, 2) := dX13_ahead_0g.2.2.2.2.1
theorem dX13_ahead_7 : decode cX13_ahead 7 = .ok (.iload_n 1, 1) := dX13_ahead_0g.2.2.2.2.2.1
theorem dX13_ahead_8 : decode cX13_ahead 8 = .ok (.if_icmp .ge 74, 3) := dX13_ahead_0g.2.2.2.2.2.2.1
theorem dX13_ahead_11 : decode cX13_ahead 11 = .ok (.iload_n 3, 1) := dX13_ahead_0g.2.2.2.2.2.2.2.1
theorem dX13_ahead_12 : decode cX13_ahead 12 = .ok (.aload_n 0, 1) := dX13_ahead_0g.2.2.2.2.2.2.2.2.1
theorem dX13_ahead_13 : decode cX13_ahead 13 = .ok (.getfield 132, 3) := dX13_ahead_0g.2.2.2.2.2.2.2.2.2.1
theorem dX13_ahead_16 : decode cX13_ahead 16 = .ok (.iload 4, 2) := dX13_ahead_0g.2.2.2.2.2.2.2.2.2.2.1
theorem dX13_ahead_18 : decode cX13_ahead 18 = .ok (.iaload, 1) := dX13_ahead_0g.2.2.2.2.2.2.2.2.2.2.2.1
theorem dX13_ahead_19 : decode cX13_ahead 19 = .ok (.aload_n 0, 1) := dX13_ahead_0g.2.2.2.2.2.2.2.2.2.2.2.2.1
theorem dX13_ahead_20 : decode cX13_ahead 20 = .ok (.getfield 132, 3) := dX13_ahead_0g.2.2.2.2.2.2.2.2.2.2.2.2.2.1
theorem dX13_ahead_23 : decode cX13_ahead 23 = .ok (.iload_n 1, 1) := dX13_ahead_0g.2.2.2.2.2.2.2.2.2.2.2.2.2.2.1
theorem dX13_ahead_24 : decode cX13_ahead 24 = .ok (.iaload, 1) := dX13_ahead_0g.2.2.2.2.2.2.2.2.2.2.2.2.2.2.2
theorem dX13_ahead_25g : decode cX13_ahead 25 = .ok (.if_icmp .ne 48, 3) ∧ decode cX13_ahead 28 = .ok (.aload_n 0, 1) ∧ decode cX13_ahead 29 = .ok (.getfield 126, 3) ∧ decode cX13_ahead 32 = .ok (.iload 4, 2) ∧ decode cX13_ahead 34 = .ok (.iaload, 1) ∧ decode cX13_ahead 35 = .ok (.aload_n 0, 1) ∧ decode cX13_ahead 36 = .ok (.getfield 126, 3) ∧ decode cX13_ahead 39 = .ok (.iload_n 1, 1) ∧ decode cX13_ahead 40 = .ok (.iaload, 1) ∧ decode cX13_ahead 41 = .ok (.if_icmp .ne 32, 3) ∧ decode cX13_ahead 44 = .ok (.iload_n 2, 1) ∧ decode cX13_ahead 45 = .ok (.ifCond .eq 24, 3) ∧ decode cX13_ahead 48 = .ok (.aload_n 0, 1) ∧ decode cX13_ahead 49 = .ok (.iload 4, 2) ∧ decode cX13_ahead 51 = .ok (.ldc2_w 380, 3) ∧ decode cX13_ahead 54 = .ok (.invokevirtual 359, 3) := by decide +kernel
theorem dX13_ahead_25 : decode cX13_ahead 25 = .ok (.if_icmp .ne 48, 3) := dX13_ahead_25g.1
theorem dX13_ahead_28 : decode cX13_ahead 28 = .ok (.aload_n 0, 1) := dX13_ahead_25g.2.1
theorem dX13_ahead_29 : decode cX13_ahead 29 = .ok (.getfield 126, 3) := dX13_ahead_25g.2.2.1
theorem dX13_ahead_32 : decode cX13_ahead 32 = .ok (.iload 4, 2) := dX13_ahead_25g.2.2.2.1
theorem dX13_ahead_34 : decode cX13_ahead 34 = .ok (.iaload, 1) := dX13_ahead_25g.2.2.2.2.1
theorem dX13_ahead_35 : decode cX13_ahead 35 = .ok (.aload_n 0, 1) := dX13_ahead_25g.2.2.2.2.2.1
theorem dX13_ahead_36 : decode cX13_ahead 36 = .ok (.getfield 126, 3) := dX13_ahead_25g.2.2.2.2.2.2.1
theorem dX13_ahead_39 : decode cX13_ahead 39 = .ok (.iload_n 1, 1) := dX13_ahead_25g.2.2.2.2.2.2.2.1
theorem dX13_ahead_40 : decode cX13_ahead 40 = .ok (.iaload, 1) := dX13_ahead_25g.2.2.2.2.2.2.2.2.1
theorem dX13_ahead_41 : decode cX13_ahead 41 = .ok (.if_icmp .ne 32, 3) := dX13_ahead_25g.2.2.2.2.2.2.2.2.2.1
theorem dX13_ahead_44 : decode cX13_ahead 44 = .ok (.iload_n 2, 1) := dX13_ahead_25g.2.2.2.2.2.2.2.2.2.2.1
theorem dX13_ahead_45 : decode cX13_ahead 45 = .ok (.ifCond .eq 24, 3) := dX13_ahead_25g.2.2.2.2.2.2.2.2.2.2.2.1
theorem dX13_ahead_48 : decode cX13_ahead 48 = .ok (.aload_n 0, 1) := dX13_ahead_25g.2.2.2.2.2.2.2.2.2.2.2.2.1
theorem dX13_ahead_49 : decode cX13_ahead 49 = .ok (.iload 4, 2) := dX13_ahead_25g.2.2.2.2.2.2.2.2.2.2.2.2.2.1
theorem dX13_ahead_51 : decode cX13_ahead 51 = .ok (.ldc2_w 380, 3) := dX13_ahead_25g.2.2.2.2.2.2.2.2.2.2.2.2.2.2.1
theorem dX13_ahead_54 : decode cX13_ahead 54 = .ok (.invokevirtual 359, 3) := dX13_ahead_25g.2.2.2.2.2.2.2.2.2.2.2.2.2.2.2
theorem dX13_ahead_57g : decode cX13_ahead 57 = .ok (.aload_n 0, 1) ∧ decode cX13_ahead 58 = .ok (.iload_n 1, 1) ∧ decode cX13_ahead 59 = .ok (.ldc2_w 380, 3) ∧ decode cX13_ahead 62 = .ok (.invokevirtual 359, 3) ∧ decode cX13_ahead 65 = .ok (.lcmp, 1) ∧ decode cX13_ahead 66 = .ok (.ifCond .ne 7, 3) ∧ decode cX13_ahead 69 = .ok (.iconst 1, 1) ∧ decode cX13_ahead 70 = .ok (.goto 4, 3) ∧ decode cX13_ahead 73 = .ok (.iconst 0, 1) ∧ decode cX13_ahead 74 = .ok (.iadd, 1) ∧ decode cX13_ahead 75 = .ok (.istore_n 3, 1) ∧ decode cX13_ahead 76 = .ok (.iinc 4 1, 3) ∧ decode cX13_ahead 79 = .ok (.goto (-74), 3) ∧ decode cX13_ahead 82 = .ok (.iload_n 3, 1) ∧ decode cX13_ahead 83 = .ok (.ireturn, 1) := by decide +kernel
theorem dX13_ahead_57 : decode cX13_ahead 57 = .ok (.aload_n 0, 1) := dX13_ahead_57g.1
theorem dX13_ahead_58 : decode cX13_ahead 58 = .ok (.iload_n 1, 1) := dX13_ahead_57g.2.1
theorem dX13_ahead_59 : decode cX13_ahead 59 = .ok (.ldc2_w 380, 3) := dX13_ahead_57g.2.2.1
theorem dX13_ahead_62 : decode cX13_ahead 62 = .ok (.invokevirtual 359, 3) := dX13_ahead_57g.2.2.2.1
theorem dX13_ahead_65 : decode cX13_ahead 65 = .ok (.lcmp, 1) := dX13_ahead_57g.2.2.2.2.1
theorem dX13_ahead_66 : decode cX13_ahead 66 = .ok (.ifCond .ne 7, 3) := dX13_ahead_57g.2.2.2.2.2.1
theorem dX13_ahead_69 : decode cX13_ahead 69 = .ok (.iconst 1, 1) := dX13_ahead_57g.2.2.2.2.2.2.1
theorem dX13_ahead_70 : decode cX13_ahead 70 = .ok (.goto 4, 3) := dX13_ahead_57g.2.2.2.2.2.2.2.1
theorem dX13_ahead_73 : decode cX13_ahead 73 = .ok (.iconst 0, 1) := dX13_ahead_57g.2.2.2.2.2.2.2.2.1
theorem dX13_ahead_74 : decode cX13_ahead 74 = .ok (.iadd, 1) := dX13_ahead_57g.2.2.2.2.2.2.2.2.2.1
theorem dX13_ahead_75 : decode cX13_ahead 75 = .ok (.istore_n 3, 1) := dX13_ahead_57g.2.2.2.2.2.2.2.2.2.2.1
theorem dX13_ahead_76 : decode cX13_ahead 76 = .ok (.iinc 4 1, 3) := dX13_ahead_57g.2.2.2.2.2.2.2.2.2.2.2.1
theorem dX13_ahead_79 : decode cX13_ahead 79 = .ok (.goto (-74), 3) := dX13_ahead_57g.2.2.2.2.2.2.2.2.2.2.2.2.1
theorem dX13_ahead_82 : decode cX13_ahead 82 = .ok (.iload_n 3, 1) := dX13_ahead_57g.2.2.2.2.2.2.2.2.2.2.2.2.2.1
theorem dX13_ahead_83 : decode cX13_ahead 83 = .ok (.ireturn, 1) := dX13_ahead_57g.2.2.2.2.2.2.2.2.2.2.2.2.2.2
theorem dX13_isGoodHolder_0g : decode cX13_isGoodHolder 0 = .ok (.aload_n 0, 1) ∧ decode cX13_isGoodHolder 1 = .ok (.iload_n 1, 1) ∧ decode cX13_isGoodHolder 2 = .ok (.ldc2_w 19, 3) ∧ decode cX13_isGoodHolder 5 = .ok (.invokevirtual 355, 3) ∧ decode cX13_isGoodHolder 8 = .ok (.ifCond .eq 7, 3) ∧ decode cX13_isGoodHolder 11 = .ok (.iconst 1, 1) ∧ decode cX13_isGoodHolder 12 = .ok (.goto 4, 3) ∧ decode cX13_isGoodHolder 15 = .ok (.iconst 0, 1) ∧ decode cX13_isGoodHolder 16 = .ok (.aload_n 0, 1) ∧ decode cX13_isGoodHolder 17 = .ok (.iload_n 1, 1) ∧ decode cX13_isGoodHolder 18 = .ok (.ldc2_w 21, 3) ∧ decode cX13_isGoodHolder 21 = .ok (.invokevirtual 355, 3) ∧ decode cX13_isGoodHolder 24 = .ok (.ifCond .eq 7, 3) ∧ decode cX13_isGoodHolder 27 = .ok (.iconst 1, 1) ∧ decode cX13_isGoodHolder 28 = .ok (.goto 4, 3) ∧ decode cX13_isGoodHolder 31 = .ok (.iconst 0, 1) := by decide +kernel
theorem dX13_isGoodHolder_0 : decode cX13_isGoodHolder 0 = .ok (.aload_n 0, 1) := dX13_isGoodHolder_0g.1
theorem dX13_isGoodHolder_1 : decode cX13_isGoodHolder 1 = .ok (.iload_n 1, 1) := dX13_isGoodHolder_0g.2.1
theorem dX13_isGoodHolder_2 : decode cX13_isGoodHolder 2 = .ok (.ldc2_w 19, 3) := dX13_isGoodHolder_0g.2.2.1
theorem dX13_isGoodHolder_5 : decode cX13_isGoodHolder 5 = .ok (.invokevirtual 355, 3) := dX13_isGoodHolder_0g.2.2.2.1
theorem dX13_isGoodHolder_8 : decode cX13_isGoodHolder 8 = .ok (.ifCond .eq 7, 3) := dX13_isGoodHolder_0g.2.2.2.2.1
theorem dX13_isGoodHolder_11 : decode cX13_isGoodHolder 11 = .ok (.iconst 1, 1) := dX13_isGoodHolder_0g.2.2.2.2.2.1
theorem dX13_isGoodHolder_12 : decode cX13_isGoodHolder 12 = .ok (.goto 4, 3) := dX13_isGoodHolder_0g.2.2.2.2.2.2.1
theorem dX13_isGoodHolder_15 : decode cX13_isGoodHolder 15 = .ok (.iconst 0, 1) := dX13_isGoodHolder_0g.2.2.2.2.2.2.2.1
theorem dX13_isGoodHolder_16 : decode cX13_isGoodHolder 16 = .ok (.aload_n 0, 1) := dX13_isGoodHolder_0g.2.2.2.2.2.2.2.2.1
theorem dX13_isGoodHolder_17 : decode cX13_isGoodHolder 17 = .ok (.iload_n 1, 1) := dX13_isGoodHolder_0g.2.2.2.2.2.2.2.2.2.1
theorem dX13_isGoodHolder_18 : decode cX13_isGoodHolder 18 = .ok (.ldc2_w 21, 3) := dX13_isGoodHolder_0g.2.2.2.2.2.2.2.2.2.2.1
theorem dX13_isGoodHolder_21 : decode cX13_isGoodHolder 21 = .ok (.invokevirtual 355, 3) := dX13_isGoodHolder_0g.2.2.2.2.2.2.2.2.2.2.2.1
theorem dX13_isGoodHolder_24 : decode cX13_isGoodHolder 24 = .ok (.ifCond .eq 7, 3) := dX13_isGoodHolder_0g.2.2.2.2.2.2.2.2.2.2.2.2.1
theorem dX13_isGoodHolder_27 : decode cX13_isGoodHolder 27 = .ok (.iconst 1, 1) := dX13_isGoodHolder_0g.2.2.2.2.2.2.2.2.2.2.2.2.2.1
theorem dX13_isGoodHolder_28 : decode cX13_isGoodHolder 28 = .ok (.goto 4, 3) := dX13_isGoodHolder_0g.2.2.2.2.2.2.2.2.2.2.2.2.2.2.1
theorem dX13_isGoodHolder_31 : decode cX13_isGoodHolder 31 = .ok (.iconst 0, 1) := dX13_isGoodHolder_0g.2.2.2.2.2.2.2.2.2.2.2.2.2.2.2
theorem dX13_isGoodHolder_32g : decode cX13_isGoodHolder 32 = .ok (.iadd, 1) ∧ decode cX13_isGoodHolder 33 = .ok (.aload_n 0, 1) ∧ decode cX13_isGoodHolder 34 = .ok (.getfield 135, 3) ∧ decode cX13_isGoodHolder 37 = .ok (.iload_n 1, 1) ∧ decode cX13_isGoodHolder 38 = .ok (.iaload, 1) ∧ decode cX13_isGoodHolder 39 = .ok (.iadd, 1) ∧ decode cX13_isGoodHolder 40 = .ok (.istore_n 2, 1) ∧ decode cX13_isGoodHolder 41 = .ok (.iload_n 2, 1) ∧ decode cX13_isGoodHolder 42 = .ok (.iconst 1, 1) ∧ decode cX13_isGoodHolder 43 = .ok (.if_icmp .ne 29, 3) ∧ decode cX13_isGoodHolder 46 = .ok (.aload_n 0, 1) ∧ decode cX13_isGoodHolder 47 = .ok (.iload_n 1, 1) ∧ decode cX13_isGoodHolder 48 = .ok (.ldc2_w 21, 3) ∧ decode cX13_isGoodHolder 51 = .ok (.invokevirtual 355, 3) ∧ decode cX13_isGoodHolder 54 = .ok (.ifCond .eq 14, 3) ∧ decode cX13_isGoodHolder 57 = .ok (.aload_n 0, 1) := by decide +kernel
theorem dX13_isGoodHolder_32 : decode cX13_isGoodHolder 32 = .ok (.iadd, 1) := dX13_isGoodHolder_32g.1
theorem dX13_isGoodHolder_33 : decode cX13_isGoodHolder 33 = .ok (.aload_n 0, 1) := dX13_isGoodHolder_32g.2.1
theorem dX13_isGoodHolder_34 : decode cX13_isGoodHolder 34 = .ok (.getfield 135, 3) := dX13_isGoodHolder_32g.2.2.1
theorem dX13_isGoodHolder_37 : decode cX13_isGoodHolder 37 = .ok (.iload_n 1, 1) := dX13_isGoodHolder_32g.2.2.2.1
theorem dX13_isGoodHolder_38 : decode cX13_isGoodHolder 38 = .ok (.iaload, 1) := dX13_isGoodHolder_32g.2.2.2.2.1
theorem dX13_isGoodHolder_39 : decode cX13_isGoodHolder 39 = .ok (.iadd, 1) := dX13_isGoodHolder_32g.2.2.2.2.2.1
theorem dX13_isGoodHolder_40 : decode cX13_isGoodHolder 40 = .ok (.istore_n 2, 1) := dX13_isGoodHolder_32g.2.2.2.2.2.2.1
theorem dX13_isGoodHolder_41 : decode cX13_isGoodHolder 41 = .ok (.iload_n 2, 1) := dX13_isGoodHolder_32g.2.2.2.2.2.2.2.1
theorem dX13_isGoodHolder_42 : decode cX13_isGoodHolder 42 = .ok (.iconst 1, 1) := dX13_isGoodHolder_32g.2.2.2.2.2.2.2.2.1
theorem dX13_isGoodHolder_43 : decode cX13_isGoodHolder 43 = .ok (.if_icmp .ne 29, 3) := dX13_isGoodHolder_32g.2.2.2.2.2.2.2.2.2.1
theorem dX13_isGoodHolder_46 : decode cX13_isGoodHolder 46 = .ok (.aload_n 0, 1) := dX13_isGoodHolder_32g.2.2.2.2.2.2.2.2.2.2.1
theorem dX13_isGoodHolder_47 : decode cX13_isGoodHolder 47 = .ok (.iload_n 1, 1) := dX13_isGoodHolder_32g.2.2.2.2.2.2.2.2.2.2.2.1
theorem dX13_isGoodHolder_48 : decode cX13_isGoodHolder 48 = .ok (.ldc2_w 21, 3) := dX13_isGoodHolder_32g.2.2.2.2.2.2.2.2.2.2.2.2.1
theorem dX13_isGoodHolder_51 : decode cX13_isGoodHolder 51 = .ok (.invokevirtual 355, 3) := dX13_isGoodHolder_32g.2.2.2.2.2.2.2.2.2.2.2.2.2.1
theorem dX13_isGoodHolder_54 : decode cX13_isGoodHolder 54 = .ok (.ifCond .eq 14, 3) := dX13_isGoodHolder_32g.2.2.2.2.2.2.2.2.2.2.2.2.2.2.1
theorem dX13_isGoodHolder_57 : decode cX13_isGoodHolder 57 = .ok (.aload_n 0, 1) := dX13_isGoodHolder_32g.2.2.2.2.2.2.2.2.2.2.2.2.2.2.2
theorem dX13_isGoodHolder_58g : decode cX13_isGoodHolder 58 = .ok (.iload_n 1, 1) ∧ decode cX13_isGoodHolder 59 = .ok (.ldc2_w 21, 3) ∧ decode cX13_isGoodHolder 62 = .ok (.invokevirtual 369, 3) ∧ decode cX13_isGoodHolder 65 = .ok (.ifCond .eq 7, 3) ∧ decode cX13_isGoodHolder 68 = .ok (.iconst 1, 1) ∧ decode cX13_isGoodHolder 69 = .ok (.goto 4, 3) ∧ decode cX13_isGoodHolder 72 = .ok (.iconst 0, 1) ∧ decode cX13_isGoodHolder 73 = .ok (.ireturn, 1) := by decide +kernel
theorem dX13_isGoodHolder_58 : decode cX13_isGoodHolder 58 = .ok (.iload_n 1, 1) := dX13_isGoodHolder_58g.1
theorem dX13_isGoodHolder_59 : decode cX13_isGoodHolder 59 = .ok (.ldc2_w 21, 3) := dX13_isGoodHolder_58g.2.1
theorem dX13_isGoodHolder_62 : decode cX13_isGoodHolder 62 = .ok (.invokevirtual 369, 3) := dX13_isGoodHolder_58g.2.2.1
theorem dX13_isGoodHolder_65 : decode cX13_isGoodHolder 65 = .ok (.ifCond .eq 7, 3) := dX13_isGoodHolder_58g.2.2.2.1
theorem dX13_isGoodHolder_68 : decode cX13_isGoodHolder 68 = .ok (.iconst 1, 1) := dX13_isGoodHolder_58g.2.2.2.2.1
theorem dX13_isGoodHolder_69 : decode cX13_isGoodHolder 69 = .ok (.goto 4, 3) := dX13_isGoodHolder_58g.2.2.2.2.2.1
theorem dX13_isGoodHolder_72 : decode cX13_isGoodHolder 72 = .ok (.iconst 0, 1) := dX13_isGoodHolder_58g.2.2.2.2.2.2.1
theorem dX13_isGoodHolder_73 : decode cX13_isGoodHolder 73 = .ok (.ireturn, 1) := dX13_isGoodHolder_58g.2.2.2.2.2.2.2
theorem dX13_isInPlace_0g : decode cX13_isInPlace 0 = .ok (.aload_n 0, 1) ∧ decode cX13_isInPlace 1 = .ok (.getfield 132, 3) ∧ decode cX13_isInPlace 4 = .ok (.iload_n 1, 1) ∧ decode cX13_isInPlace 5 = .ok (.iaload, 1) ∧ decode cX13_isInPlace 6 = .ok (.iconst (-1), 1) ∧ decode cX13_isInPlace 7 = .ok (.if_icmp .ne 7, 3) ∧ decode cX13_isInPlace 10 = .ok (.iconst 0, 1) ∧ decode cX13_isInPlace 11 = .ok (.goto 14, 3) ∧ decode cX13_isInPlace 14 = .ok (.aload_n 0, 1) ∧ decode cX13_isInPlace 15 = .ok (.getfield 126, 3) ∧ decode cX13_isInPlace 18 = .ok (.aload_n 0, 1) ∧ decode cX13_isInPlace 19 = .ok (.getfield 132, 3) ∧ decode cX13_isInPlace 22 = .ok (.iload_n 1, 1) ∧ decode cX13_isInPlace 23 = .ok (.iaload, 1) ∧ decode cX13_isInPlace 24 = .ok (.iaload, 1) ∧ decode cX13_isInPlace 25 = .ok (.istore_n 2, 1) := by decide +kernel
theorem dX13_isInPlace_0 : decode cX13_isInPlace 0 = .ok (.aload_n 0, 1) := dX13_isInPlace_0g.1
theorem dX13_isInPlace_1 : decode cX13_isInPlace 1 = .ok (.getfield 132, 3) := dX13_isInPlace_0g.2.1
theorem dX13_isInPlace_4 : decode cX13_isInPlace 4 = .ok (.iload_n 1, 1) := dX13_isInPlace_0g.2.2.1
theorem dX13_isInPlace_5 : decode cX13_isInPlace 5 = .ok (.iaload, 1) := dX13_isInPlace_0g.2.2.2.1
theorem dX13_isInPlace_6 : decode cX13_isInPlace 6 = .ok (.iconst (-1), 1) := dX13_isInPlace_0g.2.2.2.2.1
theorem dX13_isInPlace_7 : decode cX13_isInPlace 7 = .ok (.if_icmp .ne 7, 3) := dX13_isInPlace_0g.2.2.2.2.2.1
theorem dX13_isInPlace_10 : decode cX13_isInPlace 10 = .ok (.iconst 0, 1) := dX13_isInPlace_0g.2.2.2.2.2.2.1
theorem dX13_isInPlace_11 : decode cX13_isInPlace 11 = .ok (.goto 14, 3) := dX13_isInPlace_0g.2.2.2.2.2.2.2.1
theorem dX13_isInPlace_14 : decode cX13_isInPlace 14 = .ok (.aload_n 0, 1) := dX13_isInPlace_0g.2.2.2.2.2.2.2.2.1
theorem dX13_isInPlace_15 : decode cX13_isInPlace 15 = .ok (.getfield 126, 3) := dX13_isInPlace_0g.2.2.2.2.2.2.2.2.2.1
theorem dX13_isInPlace_18 : decode cX13_isInPlace 18 = .ok (.aload_n 0, 1) := dX13_isInPlace_0g.2.2.2.2.2.2.2.2.2.2.1
theorem dX13_isInPlace_19 : decode cX13_isInPlace 19 = .ok (.getfield 132, 3) := dX13_isInPlace_0g.2.2.2.2.2.2.2.2.2.2.2.1
theorem dX13_isInPlace_22 : decode cX13_isInPlace 22 = .ok (.iload_n 1, 1) := dX13_isInPlace_0g.2.2.2.2.2.2.2.2.2.2.2.2.1
theorem dX13_isInPlace_23 : decode cX13_isInPlace 23 = .ok (.iaload, 1) := dX13_isInPlace_0g.2.2.2.2.2.2.2.2.2.2.2.2.2.1
theorem dX13_isInPlace_24 : decode cX13_isInPlace 24 = .ok (.iaload, 1) := dX13_isInPlace_0g.2.2.2.2.2.2.2.2.2.2.2.2.2.2.1
theorem dX13_isInPlace_25 : decode cX13_isInPlace 25 = .ok (.istore_n 2, 1) := dX13_isInPlace_0g.2.2.2.2.2.2.2.2.2.2.2.2.2.2.2
theorem dX13_isInPlace_26g : decode cX13_isInPlace 26 = .ok (.aload_n 0, 1) ∧ decode cX13_isInPlace 27 = .ok (.getfield 126, 3) ∧ decode cX13_isInPlace 30 = .ok (.iload_n 1, 1) ∧ decode cX13_isInPlace 31 = .ok (.iaload, 1) ∧ decode cX13_isInPlace 32 = .ok (.tableswitch 153 1 10 #[56, 66, 77, 104, 104, 115, 131, 131, 131, 104], 56) ∧ decode cX13_isInPlace 88 = .ok (.iload_n 2, 1) ∧ decode cX13_isInPlace 89 = .ok (.ifCond .ne 7, 3) ∧ decode cX13_isInPlace 92 = .ok (.iconst 1, 1) ∧ decode cX13_isInPlace 93 = .ok (.goto 4, 3) ∧ decode cX13_isInPlace 96 = .ok (.iconst 0, 1) ∧ decode cX13_isInPlace 97 = .ok (.ireturn, 1) ∧ decode cX13_isInPlace 98 = .ok (.iload_n 2, 1) ∧ decode cX13_isInPlace 99 = .ok (.iconst 1, 1) ∧ decode cX13_isInPlace 100 = .ok (.if_icmp .ne 7, 3) ∧ decode cX13_isInPlace 103 = .ok (.iconst 1, 1) ∧ decode cX13_isInPlace 104 = .ok (.goto 4, 3) := by decide +kernel
theorem dX13_isInPlace_26 : decode cX13_isInPlace 26 = .ok (.aload_n 0, 1) := dX13_isInPlace_26g.1
theorem dX13_isInPlace_27 : decode cX13_isInPlace 27 = .ok (.getfield 126, 3) := dX13_isInPlace_26g.2.1
theorem dX13_isInPlace_30 : decode cX13_isInPlace 30 = .ok (.iload_n 1, 1) := dX13_isInPlace_26g.2.2.1
theorem dX13_isInPlace_31 : decode cX13_isInPlace 31 = .ok (.iaload, 1) := dX13_isInPlace_26g.2.2.2.1
theorem dX13_isInPlace_32 : decode cX13_isInPlace 32 = .ok (.tableswitch 153 1 10 #[56, 66, 77, 104, 104, 115, 131, 131, 131, 104], 56) := dX13_isInPlace_26g.2.2.2.2.1
theorem dX13_isInPlace_88 : decode cX13_isInPlace 88 = .ok (.iload_n 2, 1) := dX13_isInPlace_26g.2.2.2.2.2.1
theorem dX13_isInPlace_89 : decode cX13_isInPlace 89 = .ok (.ifCond .ne 7, 3) := dX13_isInPlace_26g.2.2.2.2.2.2.1
theorem dX13_isInPlace_92 : decode cX13_isInPlace 92 = .ok (.iconst 1, 1) := dX13_isInPlace_26g.2.2.2.2.2.2.2.1
theorem dX13_isInPlace_93 : decode cX13_isInPlace 93 = .ok (.goto 4, 3) := dX13_isInPlace_26g.2.2.2.2.2.2.2.2.1
theorem dX13_isInPlace_96 : decode cX13_isInPlace 96 = .ok (.iconst 0, 1) := dX13_isInPlace_26g.2.2.2.2.2.2.2.2.2.1
theorem dX13_isInPlace_97 : decode cX13_isInPlace 97 = .ok (.ireturn, 1) := dX13_isInPlace_26g.2.2.2.2.2.2.2.2.2.2.1
theorem dX13_isInPlace_98 : decode cX13_isInPlace 98 = .ok (.iload_n 2, 1) := dX13_isInPlace_26g.2.2.2.2.2.2.2.2.2.2.2.1
theorem dX13_isInPlace_99 : decode cX13_isInPlace 99 = .ok (.iconst 1, 1) := dX13_isInPlace_26g.2.2.2.2.2.2.2.2.2.2.2.2.1
theorem dX13_isInPlace_100 : decode cX13_isInPlace 100 = .ok (.if_icmp .ne 7, 3) := dX13_isInPlace_26g.2.2.2.2.2.2.2.2.2.2.2.2.2.1
theorem dX13_isInPlace_103 : decode cX13_isInPlace 103 = .ok (.iconst 1, 1) := dX13_isInPlace_26g.2.2.2.2.2.2.2.2.2.2.2.2.2.2.1
theorem dX13_isInPlace_104 : decode cX13_isInPlace 104 = .ok (.goto 4, 3) := dX13_isInPlace_26g.2.2.2.2.2.2.2.2.2.2.2.2.2.2.2
theorem dX13_isInPlace_107g : decode cX13_isInPlace 107 = .ok (.iconst 0, 1) ∧ decode cX13_isInPlace 108 = .ok (.ireturn, 1) ∧ decode cX13_isInPlace 109 = .ok (.iload_n 2, 1) ∧ decode cX13_isInPlace 110 = .ok (.iconst 1, 1) ∧ decode cX13_isInPlace 111 = .ok (.if_icmp .eq 19, 3) ∧ decode cX13_isInPlace 114 = .ok (.iload_n 2, 1) ∧ decode cX13_isInPlace 115 = .ok (.iconst 4, 1) ∧ decode cX13_isInPlace 116 = .ok (.if_icmp .eq 14, 3) ∧ decode cX13_isInPlace 119 = .ok (.iload_n 2, 1) ∧ decode cX13_isInPlace 120 = .ok (.iconst 5, 1) ∧ decode cX13_isInPlace 121 = .ok (.if_icmp .eq 9, 3) ∧ decode cX13_isInPlace 124 = .ok (.iload_n 2, 1) ∧ decode cX13_isInPlace 125 = .ok (.bipush 6, 2) ∧ decode cX13_isInPlace 127 = .ok (.if_icmp .ne 7, 3) ∧ decode cX13_isInPlace 130 = .ok (.iconst 1, 1) ∧ decode cX13_isInPlace 131 = .ok (.goto 4, 3) := by decide +kernel
theorem dX13_isInPlace_107 : decode cX13_isInPlace 107 = .ok (.iconst 0, 1) := dX13_isInPlace_107g.1
theorem dX13_isInPlace_108 : decode cX13_isInPlace 108 = .ok (.ireturn, 1) := dX13_isInPlace_107g.2.1
theorem dX13_isInPlace_109 : decode cX13_isInPlace 109 = .ok (.iload_n 2, 1) := dX13_isInPlace_107g.2.2.1
theorem dX13_isInPlace_110 : decode cX13_isInPlace 110 = .ok (.iconst 1, 1) := dX13_isInPlace_107g.2.2.2.1
theorem dX13_isInPlace_111 : decode cX13_isInPlace 111 = .ok (.if_icmp .eq 19, 3) := dX13_isInPlace_107g.2.2.2.2.1
theorem dX13_isInPlace_114 : decode cX13_isInPlace 114 = .ok (.iload_n 2, 1) := dX13_isInPlace_107g.2.2.2.2.2.1
theorem dX13_isInPlace_115 : decode cX13_isInPlace 115 = .ok (.iconst 4, 1) := dX13_isInPlace_107g.2.2.2.2.2.2.1
theorem dX13_isInPlace_116 : decode cX13_isInPlace 116 = .ok (.if_icmp .eq 14, 3) := dX13_isInPlace_107g.2.2.2.2.2.2.2.1
theorem dX13_isInPlace_119 : decode cX13_isInPlace 119 = .ok (.iload_n 2, 1) := dX13_isInPlace_107g.2.2.2.2.2.2.2.2.1
theorem dX13_isInPlace_120 : decode cX13_isInPlace 120 = .ok (.iconst 5, 1) := dX13_isInPlace_107g.2.2.2.2.2.2.2.2.2.1
theorem dX13_isInPlace_121 : decode cX13_isInPlace 121 = .ok (.if_icmp .eq 9, 3) := dX13_isInPlace_107g.2.2.2.2.2.2.2.2.2.2.1
theorem dX13_isInPlace_124 : decode cX13_isInPlace 124 = .ok (.iload_n 2, 1) := dX13_isInPlace_107g.2.2.2.2.2.2.2.2.2.2.2.1
theorem dX13_isInPlace_125 : decode cX13_isInPlace 125 = .ok (.bipush 6, 2) := dX13_isInPlace_107g.2.2.2.2.2.2.2.2.2.2.2.2.1
theorem dX13_isInPlace_127 : decode cX13_isInPlace 127 = .ok (.if_icmp .ne 7, 3) := dX13_isInPlace_107g.2.2.2.2.2.2.2.2.2.2.2.2.2.1
theorem dX13_isInPlace_130 : decode cX13_isInPlace 130 = .ok (.iconst 1, 1) := dX13_isInPlace_107g.2.2.2.2.2.2.2.2.2.2.2.2.2.2.1
theorem dX13_isInPlace_131 : decode cX13_isInPlace 131 = .ok (.goto 4, 3) := dX13_isInPlace_107g.2.2.2.2.2.2.2.2.2.2.2.2.2.2.2
theorem dX13_isInPlace_134g : decode cX13_isInPlace 134 = .ok (.iconst 0, 1) ∧ decode cX13_isInPlace 135 = .ok (.ireturn, 1) ∧ decode cX13_isInPlace 136 = .ok (.iload_n 2, 1) ∧ decode cX13_isInPlace 137 = .ok (.iconst 3, 1) ∧ decode cX13_isInPlace 138 = .ok (.if_icmp .ne 7, 3) ∧ decode cX13_isInPlace 141 = .ok (.iconst 1, 1) ∧ decode cX13_isInPlace 142 = .ok (.goto 4, 3) ∧ decode cX13_isInPlace 145 = .ok (.iconst 0, 1) ∧ decode cX13_isInPlace 146 = .ok (.ireturn, 1) ∧ decode cX13_isInPlace 147 = .ok (.iload_n 2, 1) ∧ decode cX13_isInPlace 148 = .ok (.iconst 4, 1) ∧ decode cX13_isInPlace 149 = .ok (.if_icmp .eq 8, 3) ∧ decode cX13_isInPlace 152 = .ok (.iload_n 2, 1) ∧ decode cX13_isInPlace 153 = .ok (.iconst 5, 1) ∧ decode cX13_isInPlace 154 = .ok (.if_icmp .ne 7, 3) ∧ decode cX13_isInPlace 157 = .ok (.iconst 1, 1) := by decide +kernel
theorem dX13_isInPlace_134 : decode cX13_isInPlace 134 = .ok (.iconst 0, 1) := dX13_isInPlace_134g.1
theorem dX13_isInPlace_135 : decode cX13_isInPlace 135 = .ok (.ireturn, 1) := dX13_isInPlace_134g.2.1
theorem dX13_isInPlace_136 : decode cX13_isInPlace 136 = .ok (.iload_n 2, 1) := dX13_isInPlace_134g.2.2.1
theorem dX13_isInPlace_137 : decode cX13_isInPlace 137 = .ok (.iconst 3, 1) := dX13_isInPlace_134g.2.2.2.1
theorem dX13_isInPlace_138 : decode cX13_isInPlace 138 = .ok (.if_icmp .ne 7, 3) := dX13_isInPlace_134g.2.2.2.2.1
theorem dX13_isInPlace_141 : decode cX13_isInPlace 141 = .ok (.iconst 1, 1) := dX13_isInPlace_134g.2.2.2.2.2.1
theorem dX13_isInPlace_142 : decode cX13_isInPlace 142 = .ok (.goto 4, 3) := dX13_isInPlace_134g.2.2.2.2.2.2.1
theorem dX13_isInPlace_145 : decode cX13_isInPlace 145 = .ok (.iconst 0, 1) := dX13_isInPlace_134g.2.2.2.2.2.2.2.1
theorem dX13_isInPlace_146 : decode cX13_isInPlace 146 = .ok (.ireturn, 1) := dX13_isInPlace_134g.2.2.2.2.2.2.2.2.1
theorem dX13_isInPlace_147 : decode cX13_isInPlace 147 = .ok (.iload_n 2, 1) := dX13_isInPlace_134g.2.2.2.2.2.2.2.2.2.1
theorem dX13_isInPlace_148 : decode cX13_isInPlace 148 = .ok (.iconst 4, 1) := dX13_isInPlace_134g.2.2.2.2.2.2.2.2.2.2.1
theorem dX13_isInPlace_149 : decode cX13_isInPlace 149 = .ok (.if_icmp .eq 8, 3) := dX13_isInPlace_134g.2.2.2.2.2.2.2.2.2.2.2.1
theorem dX13_isInPlace_152 : decode cX13_isInPlace 152 = .ok (.iload_n 2, 1) := dX13_isInPlace_134g.2.2.2.2.2.2.2.2.2.2.2.2.1
theorem dX13_isInPlace_153 : decode cX13_isInPlace 153 = .ok (.iconst 5, 1) := dX13_isInPlace_134g.2.2.2.2.2.2.2.2.2.2.2.2.2.1
theorem dX13_isInPlace_154 : decode cX13_isInPlace 154 = .ok (.if_icmp .ne 7, 3) := dX13_isInPlace_134g.2.2.2.2.2.2.2.2.2.2.2.2.2.2.1
theorem dX13_isInPlace_157 : decode cX13_isInPlace 157 = .ok (.iconst 1, 1) := dX13_isInPlace_134g.2.2.2.2.2.2.2.2.2.2.2.2.2.2.2
theorem dX13_isInPlace_158g : decode cX13_isInPlace 158 = .ok (.goto 4, 3) ∧ decode cX13_isInPlace 161 = .ok (.iconst 0, 1) ∧ decode cX13_isInPlace 162 = .ok (.ireturn, 1) ∧ decode cX13_isInPlace 163 = .ok (.iload_n 2, 1) ∧ decode cX13_isInPlace 164 = .ok (.iconst 4, 1) ∧ decode cX13_isInPlace 165 = .ok (.if_icmp .eq 14, 3) ∧ decode cX13_isInPlace 168 = .ok (.iload_n 2, 1) ∧ decode cX13_isInPlace 169 = .ok (.iconst 5, 1) ∧ decode cX13_isInPlace 170 = .ok (.if_icmp .eq 9, 3) ∧ decode cX13_isInPlace 173 = .ok (.iload_n 2, 1) ∧ decode cX13_isInPlace 174 = .ok (.bipush 6, 2) ∧ decode cX13_isInPlace 176 = .ok (.if_icmp .ne 7, 3) ∧ decode cX13_isInPlace 179 = .ok (.iconst 1, 1) ∧ decode cX13_isInPlace 180 = .ok (.goto 4, 3) ∧ decode cX13_isInPlace 183 = .ok (.iconst 0, 1) ∧ decode cX13_isInPlace 184 = .ok (.ireturn, 1) := by decide +kernel
theorem dX13_isInPlace_158 : decode cX13_isInPlace 158 = .ok (.goto 4, 3) := dX13_isInPlace_158g.1
theorem dX13_isInPlace_161 : decode cX13_isInPlace 161 = .ok (.iconst 0, 1) := dX13_isInPlace_158g.2.1
theorem dX13_isInPlace_162 : decode cX13_isInPlace 162 = .ok (.ireturn, 1) := dX13_isInPlace_158g.2.2.1
theorem dX13_isInPlace_163 : decode cX13_isInPlace 163 = .ok (.iload_n 2, 1) := dX13_isInPlace_158g.2.2.2.1
theorem dX13_isInPlace_164 : decode cX13_isInPlace 164 = .ok (.iconst 4, 1) := dX13_isInPlace_158g.2.2.2.2.1
theorem dX13_isInPlace_165 : decode cX13_isInPlace 165 = .ok (.if_icmp .eq 14, 3) := dX13_isInPlace_158g.2.2.2.2.2.1
theorem dX13_isInPlace_168 : decode cX13_isInPlace 168 = .ok (.iload_n 2, 1) := dX13_isInPlace_158g.2.2.2.2.2.2.1
theorem dX13_isInPlace_169 : decode cX13_isInPlace 169 = .ok (.iconst 5, 1) := dX13_isInPlace_158g.2.2.2.2.2.2.2.1
theorem dX13_isInPlace_170 : decode cX13_isInPlace 170 = .ok (.if_icmp .eq 9, 3) := dX13_isInPlace_158g.2.2.2.2.2.2.2.2.1
theorem dX13_isInPlace_173 : decode cX13_isInPlace 173 = .ok (.iload_n 2, 1) := dX13_isInPlace_158g.2.2.2.2.2.2.2.2.2.1
theorem dX13_isInPlace_174 : decode cX13_isInPlace 174 = .ok (.bipush 6, 2) := dX13_isInPlace_158g.2.2.2.2.2.2.2.2.2.2.1
theorem dX13_isInPlace_176 : decode cX13_isInPlace 176 = .ok (.if_icmp .ne 7, 3) := dX13_isInPlace_158g.2.2.2.2.2.2.2.2.2.2.2.1
theorem dX13_isInPlace_179 : decode cX13_isInPlace 179 = .ok (.iconst 1, 1) := dX13_isInPlace_158g.2.2.2.2.2.2.2.2.2.2.2.2.1
theorem dX13_isInPlace_180 : decode cX13_isInPlace 180 = .ok (.goto 4, 3) := dX13_isInPlace_158g.2.2.2.2.2.2.2.2.2.2.2.2.2.1
theorem dX13_isInPlace_183 : decode cX13_isInPlace 183 = .ok (.iconst 0, 1) := dX13_isInPlace_158g.2.2.2.2.2.2.2.2.2.2.2.2.2.2.1
theorem dX13_isInPlace_184 : decode cX13_isInPlace 184 = .ok (.ireturn, 1) := dX13_isInPlace_158g.2.2.2.2.2.2.2.2.2.2.2.2.2.2.2
theorem dX13_isInPlace_185 : decode cX13_isInPlace 185 = .ok (.iconst 0, 1) := by decide +kernel
theorem dX13_isInPlace_186 : decode cX13_isInPlace 186 = .ok (.ireturn, 1) := by decide +kernel
theorem dX13_isGood_0g : decode cX13_isGood 0 = .ok (.aload_n 0, 1) ∧ decode cX13_isGood 1 = .ok (.iload_n 1, 1) ∧ decode cX13_isGood 2 = .ok (.invokevirtual 415, 3) ∧ decode cX13_isGood 5 = .ok (.ifCond .eq 23, 3) ∧ decode cX13_isGood 8 = .ok (.aload_n 0, 1) ∧ decode cX13_isGood 9 = .ok (.getfield 126, 3) ∧ decode cX13_isGood 12 = .ok (.iload_n 1, 1) ∧ decode cX13_isGood 13 = .ok (.iaload, 1) ∧ decode cX13_isGood 14 = .ok (.bipush 7, 2) ∧ decode cX13_isGood 16 = .ok (.if_icmp .eq 14, 3) ∧ decode cX13_isGood 19 = .ok (.aload_n 0, 1) ∧ decode cX13_isGood 20 = .ok (.getfield 141, 3) ∧ decode cX13_isGood 23 = .ok (.iload_n 1, 1) ∧ decode cX13_isGood 24 = .ok (.iaload, 1) ∧ decode cX13_isGood 25 = .ok (.ifCond .le 5, 3) ∧ decode cX13_isGood 28 = .ok (.iconst 0, 1) := by decide +kernel
theorem dX13_isGood_0 : decode cX13_isGood 0 = .ok (.aload_n 0, 1) := dX13_isGood_0g.1
theorem dX13_isGood_1 : decode cX13_isGood 1 = .ok (.iload_n 1, 1) := dX13_isGood_0g.2.1
theorem dX13_isGood_2 : decode cX13_isGood 2 = .ok (.invokevirtual 415, 3) := dX13_isGood_0g.2.2.1
theorem dX13_isGood_5 : decode cX13_isGood 5 = .ok (.ifCond .eq 23, 3) := dX13_isGood_0g.2.2.2.1
theorem dX13_isGood_8 : decode cX13_isGood 8 = .ok (.aload_n 0, 1) := dX13_isGood_0g.2.2.2.2.1
theorem dX13_isGood_9 : decode cX13_isGood 9 = .ok (.getfield 126, 3) := dX13_isGood_0g.2.2.2.2.2.1
theorem dX13_isGood_12 : decode cX13_isGood 12 = .ok (.iload_n 1, 1) := dX13_isGood_0g.2.2.2.2.2.2.1
theorem dX13_isGood_13 : decode cX13_isGood 13 = .ok (.iaload, 1) := dX13_isGood_0g.2.2.2.2.2.2.2.1
theorem dX13_isGood_14 : decode cX13_isGood 14 = .ok (.bipush 7, 2) := dX13_isGood_0g.2.2.2.2.2.2.2.2.1
theorem dX13_isGood_16 : decode cX13_isGood 16 = .ok (.if_icmp .eq 14, 3) := dX13_isGood_0g.2.2.2.2.2.2.2.2.2.1
theorem dX13_isGood_19 : decode cX13_isGood 19 = .ok (.aload_n 0, 1) := dX13_isGood_0g.2.2.2.2.2.2.2.2.2.2.1
theorem dX13_isGood_20 : decode cX13_isGood 20 = .ok (.getfield 141, 3) := dX13_isGood_0g.2.2.2.2.2.2.2.2.2.2.2.1
theorem dX13_isGood_23 : decode cX13_isGood 23 = .ok (.iload_n 1, 1) := dX13_isGood_0g.2.2.2.2.2.2.2.2.2.2.2.2.1
theorem dX13_isGood_24 : decode cX13_isGood 24 = .ok (.iaload, 1) := dX13_isGood_0g.2.2.2.2.2.2.2.2.2.2.2.2.2.1
theorem dX13_isGood_25 : decode cX13_isGood 25 = .ok (.ifCond .le 5, 3) := dX13_isGood_0g.2.2.2.2.2.2.2.2.2.2.2.2.2.2.1
theorem dX13_isGood_28 : decode cX13_isGood 28 = .ok (.iconst 0, 1) := dX13_isGood_0g.2.2.2.2.2.2.2.2.2.2.2.2.2.2.2
theorem dX13_isGood_29g : decode cX13_isGood 29 = .ok (.ireturn, 1) ∧ decode cX13_isGood 30 = .ok (.iconst 0, 1) ∧ decode cX13_isGood 31 = .ok (.istore_n 2, 1) ∧ decode cX13_isGood 32 = .ok (.iload_n 2, 1) ∧ decode cX13_isGood 33 = .ok (.aload_n 0, 1) ∧ decode cX13_isGood 34 = .ok (.getfield 138, 3) ∧ decode cX13_isGood 37 = .ok (.iload_n 1, 1) ∧ decode cX13_isGood 38 = .ok (.iaload, 1) ∧ decode cX13_isGood 39 = .ok (.if_icmp .ge 35, 3) ∧ decode cX13_isGood 42 = .ok (.aload_n 0, 1) ∧ decode cX13_isGood 43 = .ok (.aload_n 0, 1) ∧ decode cX13_isGood 44 = .ok (.getfield 126, 3) ∧ decode cX13_isGood 47 = .ok (.iload_n 1, 1) ∧ decode cX13_isGood 48 = .ok (.iaload, 1) ∧ decode cX13_isGood 49 = .ok (.aload_n 0, 1) ∧ decode cX13_isGood 50 = .ok (.getfield 153, 3) := by decide +kernel
theorem dX13_isGood_29 : decode cX13_isGood 29 = .ok (.ireturn, 1) := dX13_isGood_29g.1
theorem dX13_isGood_30 : decode cX13_isGood 30 = .ok (.iconst 0, 1) := dX13_isGood_29g.2.1
theorem dX13_isGood_31 : decode cX13_isGood 31 = .ok (.istore_n 2, 1) := dX13_isGood_29g.2.2.1
theorem dX13_isGood_32 : decode cX13_isGood 32 = .ok (.iload_n 2, 1) := dX13_isGood_29g.2.2.2.1
theorem dX13_isGood_33 : decode cX13_isGood 33 = .ok (.aload_n 0, 1) := dX13_isGood_29g.2.2.2.2.1
theorem dX13_isGood_34 : decode cX13_isGood 34 = .ok (.getfield 138, 3) := dX13_isGood_29g.2.2.2.2.2.1
theorem dX13_isGood_37 : decode cX13_isGood 37 = .ok (.iload_n 1, 1) := dX13_isGood_29g.2.2.2.2.2.2.1
theorem dX13_isGood_38 : decode cX13_isGood 38 = .ok (.iaload, 1) := dX13_isGood_29g.2.2.2.2.2.2.2.1
theorem dX13_isGood_39 : decode cX13_isGood 39 = .ok (.if_icmp .ge 35, 3) := dX13_isGood_29g.2.2.2.2.2.2.2.2.1
theorem dX13_isGood_42 : decode cX13_isGood 42 = .ok (.aload_n 0, 1) := dX13_isGood_29g.2.2.2.2.2.2.2.2.2.1
theorem dX13_isGood_43 : decode cX13_isGood 43 = .ok (.aload_n 0, 1) := dX13_isGood_29g.2.2.2.2.2.2.2.2.2.2.1
theorem dX13_isGood_44 : decode cX13_isGood 44 = .ok (.getfield 126, 3) := dX13_isGood_29g.2.2.2.2.2.2.2.2.2.2.2.1
theorem dX13_isGood_47 : decode cX13_isGood 47 = .ok (.iload_n 1, 1) := dX13_isGood_29g.2.2.2.2.2.2.2.2.2.2.2.2.1
theorem dX13_isGood_48 : decode cX13_isGood 48 = .ok (.iaload, 1) := dX13_isGood_29g.2.2.2.2.2.2.2.2.2.2.2.2.2.1
theorem dX13_isGood_49 : decode cX13_isGood 49 = .ok (.aload_n 0, 1) := dX13_isGood_29g.2.2.2.2.2.2.2.2.2.2.2.2.2.2.1
theorem dX13_isGood_50 : decode cX13_isGood 50 = .ok (.getfield 153, 3) := dX13_isGood_29g.2.2.2.2.2.2.2.2.2.2.2.2.2.2.2
theorem dX13_isGood_53g : decode cX13_isGood 53 = .ok (.bipush 12, 2) ∧ decode cX13_isGood 55 = .ok (.iload_n 1, 1) ∧ decode cX13_isGood 56 = .ok (.imul, 1) ∧ decode cX13_isGood 57 = .ok (.iload_n 2, 1) ∧ decode cX13_isGood 58 = .ok (.iadd, 1) ∧ decode cX13_isGood 59 = .ok (.laload, 1) ∧ decode cX13_isGood 60 = .ok (.invokevirtual 418, 3) ∧ decode cX13_isGood 63 = .ok (.ifCond .ne 5, 3) ∧ decode cX13_isGood 66 = .ok (.iconst 0, 1) ∧ decode cX13_isGood 67 = .ok (.ireturn, 1) ∧ decode cX13_isGood 68 = .ok (.iinc 2 1, 3) ∧ decode cX13_isGood 71 = .ok (.goto (-39), 3) ∧ decode cX13_isGood 74 = .ok (.aload_n 0, 1) ∧ decode cX13_isGood 75 = .ok (.getfield 126, 3) ∧ decode cX13_isGood 78 = .ok (.iload_n 1, 1) ∧ decode cX13_isGood 79 = .ok (.iaload, 1) := by decide +kernel
theorem dX13_isGood_53 : decode cX13_isGood 53 = .ok (.bipush 12, 2) := dX13_isGood_53g.1
theorem dX13_isGood_55 : decode cX13_isGood 55 = .ok (.iload_n 1, 1) := dX13_isGood_53g.2.1
theorem dX13_isGood_56 : decode cX13_isGood 56 = .ok (.imul, 1) := dX13_isGood_53g.2.2.1
theorem dX13_isGood_57 : decode cX13_isGood 57 = .ok (.iload_n 2, 1) := dX13_isGood_53g.2.2.2.1
theorem dX13_isGood_58 : decode cX13_isGood 58 = .ok (.iadd, 1) := dX13_isGood_53g.2.2.2.2.1
theorem dX13_isGood_59 : decode cX13_isGood 59 = .ok (.laload, 1) := dX13_isGood_53g.2.2.2.2.2.1
theorem dX13_isGood_60 : decode cX13_isGood 60 = .ok (.invokevirtual 418, 3) := dX13_isGood_53g.2.2.2.2.2.2.1
theorem dX13_isGood_63 : decode cX13_isGood 63 = .ok (.ifCond .ne 5, 3) := dX13_isGood_53g.2.2.2.2.2.2.2.1
theorem dX13_isGood_66 : decode cX13_isGood 66 = .ok (.iconst 0, 1) := dX13_isGood_53g.2.2.2.2.2.2.2.2.1
theorem dX13_isGood_67 : decode cX13_isGood 67 = .ok (.ireturn, 1) := dX13_isGood_53g.2.2.2.2.2.2.2.2.2.1
theorem dX13_isGood_68 : decode cX13_isGood 68 = .ok (.iinc 2 1, 3) := dX13_isGood_53g.2.2.2.2.2.2.2.2.2.2.1
theorem dX13_isGood_71 : decode cX13_isGood 71 = .ok (.goto (-39), 3) := dX13_isGood_53g.2.2.2.2.2.2.2.2.2.2.2.1
theorem dX13_isGood_74 : decode cX13_isGood 74 = .ok (.aload_n 0, 1) := dX13_isGood_53g.2.2.2.2.2.2.2.2.2.2.2.2.1
theorem dX13_isGood_75 : decode cX13_isGood 75 = .ok (.getfield 126, 3) := dX13_isGood_53g.2.2.2.2.2.2.2.2.2.2.2.2.2.1
theorem dX13_isGood_78 : decode cX13_isGood 78 = .ok (.iload_n 1, 1) := dX13_isGood_53g.2.2.2.2.2.2.2.2.2.2.2.2.2.2.1
theorem dX13_isGood_79 : decode cX13_isGood 79 = .ok (.iaload, 1) := dX13_isGood_53g.2.2.2.2.2.2.2.2.2.2.2.2.2.2.2
theorem dX13_isGood_80g : decode cX13_isGood 80 = .ok (.tableswitch 339 2 10 #[52, 89, 95, 180, 225, 242, 257, 242, 283], 52) ∧ decode cX13_isGood 132 = .ok (.aload_n 0, 1) ∧ decode cX13_isGood 133 = .ok (.iload_n 1, 1) ∧ decode cX13_isGood 134 = .ok (.ldc2_w 380, 3) ∧ decode cX13_isGood 137 = .ok (.invokevirtual 369, 3) ∧ decode cX13_isGood 140 = .ok (.ifCond .eq 27, 3) ∧ decode cX13_isGood 143 = .ok (.aload_n 0, 1) ∧ decode cX13_isGood 144 = .ok (.iload_n 1, 1) ∧ decode cX13_isGood 145 = .ok (.ldc2_w 382, 3) ∧ decode cX13_isGood 148 = .ok (.invokevirtual 369, 3) ∧ decode cX13_isGood 151 = .ok (.ifCond .eq 16, 3) ∧ decode cX13_isGood 154 = .ok (.aload_n 0, 1) ∧ decode cX13_isGood 155 = .ok (.getfield 135, 3) ∧ decode cX13_isGood 158 = .ok (.iload_n 1, 1) ∧ decode cX13_isGood 159 = .ok (.iaload, 1) ∧ decode cX13_isGood 160 = .ok (.ifCond .ne 7, 3) := by decide +kernel
theorem dX13_isGood_80 : decode cX13_isGood 80 = .ok (.tableswitch 339 2 10 #[52, 89, 95, 180, 225, 242, 257, 242, 283], 52) := dX13_isGood_80g.1
theorem dX13_isGood_132 : decode cX13_isGood 132 = .ok (.aload_n 0, 1) := dX13_isGood_80g.2.1
theorem dX13_isGood_133 : decode cX13_isGood 133 = .ok (.iload_n 1, 1) := dX13_isGood_80g.2.2.1
theorem dX13_isGood_134 : decode cX13_isGood 134 = .ok (.ldc2_w 380, 3) := dX13_isGood_80g.2.2.2.1
theorem dX13_isGood_137 : decode cX13_isGood 137 = .ok (.invokevirtual 369, 3) := dX13_isGood_80g.2.2.2.2.1
theorem dX13_isGood_140 : decode cX13_isGood 140 = .ok (.ifCond .eq 27, 3) := dX13_isGood_80g.2.2.2.2.2.1
theorem dX13_isGood_143 : decode cX13_isGood 143 = .ok (.aload_n 0, 1) := dX13_isGood_80g.2.2.2.2.2.2.1
theorem dX13_isGood_144 : decode cX13_isGood 144 = .ok (.iload_n 1, 1) := dX13_isGood_80g.2.2.2.2.2.2.2.1
theorem dX13_isGood_145 : decode cX13_isGood 145 = .ok (.ldc2_w 382, 3) := dX13_isGood_80g.2.2.2.2.2.2.2.2.1
theorem dX13_isGood_148 : decode cX13_isGood 148 = .ok (.invokevirtual 369, 3) := dX13_isGood_80g.2.2.2.2.2.2.2.2.2.1
theorem dX13_isGood_151 : decode cX13_isGood 151 = .ok (.ifCond .eq 16, 3) := dX13_isGood_80g.2.2.2.2.2.2.2.2.2.2.1
theorem dX13_isGood_154 : decode cX13_isGood 154 = .ok (.aload_n 0, 1) := dX13_isGood_80g.2.2.2.2.2.2.2.2.2.2.2.1
theorem dX13_isGood_155 : decode cX13_isGood 155 = .ok (.getfield 135, 3) := dX13_isGood_80g.2.2.2.2.2.2.2.2.2.2.2.2.1
theorem dX13_isGood_158 : decode cX13_isGood 158 = .ok (.iload_n 1, 1) := dX13_isGood_80g.2.2.2.2.2.2.2.2.2.2.2.2.2.1
theorem dX13_isGood_159 : decode cX13_isGood 159 = .ok (.iaload, 1) := dX13_isGood_80g.2.2.2.2.2.2.2.2.2.2.2.2.2.2.1
theorem dX13_isGood_160 : decode cX13_isGood 160 = .ok (.ifCond .ne 7, 3) := dX13_isGood_80g.2.2.2.2.2.2.2.2.2.2.2.2.2.2.2
theorem dX13_isGood_163g : decode cX13_isGood 163 = .ok (.iconst 1, 1) ∧ decode cX13_isGood 164 = .ok (.goto 4, 3) ∧ decode cX13_isGood 167 = .ok (.iconst 0, 1) ∧ decode cX13_isGood 168 = .ok (.ireturn, 1) ∧ decode cX13_isGood 169 = .ok (.aload_n 0, 1) ∧ decode cX13_isGood 170 = .ok (.iload_n 1, 1) ∧ decode cX13_isGood 171 = .ok (.invokevirtual 421, 3) ∧ decode cX13_isGood 174 = .ok (.ireturn, 1) ∧ decode cX13_isGood 175 = .ok (.aload_n 0, 1) ∧ decode cX13_isGood 176 = .ok (.iload_n 1, 1) ∧ decode cX13_isGood 177 = .ok (.invokevirtual 424, 3) ∧ decode cX13_isGood 180 = .ok (.ifCond .eq 78, 3) ∧ decode cX13_isGood 183 = .ok (.aload_n 0, 1) ∧ decode cX13_isGood 184 = .ok (.iload_n 1, 1) ∧ decode cX13_isGood 185 = .ok (.iconst 0, 1) ∧ decode cX13_isGood 186 = .ok (.invokevirtual 427, 3) := by decide +kernel
theorem dX13_isGood_163 : decode cX13_isGood 163 = .ok (.iconst 1, 1) := dX13_isGood_163g.1
theorem dX13_isGood_164 : decode cX13_isGood 164 = .ok (.goto 4, 3) := dX13_isGood_163g.2.1
theorem dX13_isGood_167 : decode cX13_isGood 167 = .ok (.iconst 0, 1) := dX13_isGood_163g.2.2.1
theorem dX13_isGood_168 : decode cX13_isGood 168 = .ok (.ireturn, 1) := dX13_isGood_163g.2.2.2.1
theorem dX13_isGood_169 : decode cX13_isGood 169 = .ok (.aload_n 0, 1) := dX13_isGood_163g.2.2.2.2.1
theorem dX13_isGood_170 : decode cX13_isGood 170 = .ok (.iload_n 1, 1) := dX13_isGood_163g.2.2.2.2.2.1
theorem dX13_isGood_171 : decode cX13_isGood 171 = .ok (.invokevirtual 421, 3) := dX13_isGood_163g.2.2.2.2.2.2.1
theorem dX13_isGood_174 : decode cX13_isGood 174 = .ok (.ireturn, 1) := dX13_isGood_163g.2.2.2.2.2.2.2.1
theorem dX13_isGood_175 : decode cX13_isGood 175 = .ok (.aload_n 0, 1) := dX13_isGood_163g.2.2.2.2.2.2.2.2.1
theorem dX13_isGood_176 : decode cX13_isGood 176 = .ok (.iload_n 1, 1) := dX13_isGood_163g.2.2.2.2.2.2.2.2.2.1
theorem dX13_isGood_177 : decode cX13_isGood 177 = .ok (.invokevirtual 424, 3) := dX13_isGood_163g.2.2.2.2.2.2.2.2.2.2.1
theorem dX13_isGood_180 : decode cX13_isGood 180 = .ok (.ifCond .eq 78, 3) := dX13_isGood_163g.2.2.2.2.2.2.2.2.2.2.2.1
theorem dX13_isGood_183 : decode cX13_isGood 183 = .ok (.aload_n 0, 1) := dX13_isGood_163g.2.2.2.2.2.2.2.2.2.2.2.2.1
theorem dX13_isGood_184 : decode cX13_isGood 184 = .ok (.iload_n 1, 1) := dX13_isGood_163g.2.2.2.2.2.2.2.2.2.2.2.2.2.1
theorem dX13_isGood_185 : decode cX13_isGood 185 = .ok (.iconst 0, 1) := dX13_isGood_163g.2.2.2.2.2.2.2.2.2.2.2.2.2.2.1
theorem dX13_isGood_186 : decode cX13_isGood 186 = .ok (.invokevirtual 427, 3) := dX13_isGood_163g.2.2.2.2.2.2.2.2.2.2.2.2.2.2.2
theorem dX13_isGood_189g : decode cX13_isGood 189 = .ok (.iconst 4, 1) ∧ decode cX13_isGood 190 = .ok (.if_icmp .ge 68, 3) ∧ decode cX13_isGood 193 = .ok (.aload_n 0, 1) ∧ decode cX13_isGood 194 = .ok (.iload_n 1, 1) ∧ decode cX13_isGood 195 = .ok (.ldc2_w 406, 3) ∧ decode cX13_isGood 198 = .ok (.invokevirtual 355, 3) ∧ decode cX13_isGood 201 = .ok (.ifCond .eq 33, 3) ∧ decode cX13_isGood 204 = .ok (.aload_n 0, 1) ∧ decode cX13_isGood 205 = .ok (.iload_n 1, 1) ∧ decode cX13_isGood 206 = .ok (.ldc2_w 406, 3) ∧ decode cX13_isGood 209 = .ok (.invokevirtual 359, 3) ∧ decode cX13_isGood 212 = .ok (.ldc2_w 365, 3) ∧ decode cX13_isGood 215 = .ok (.lcmp, 1) ∧ decode cX13_isGood 216 = .ok (.ifCond .lt 42, 3) ∧ decode cX13_isGood 219 = .ok (.aload_n 0, 1) ∧ decode cX13_isGood 220 = .ok (.iload_n 1, 1) := by decide +kernel
theorem dX13_isGood_189 : decode cX13_isGood 189 = .ok (.iconst 4, 1) := dX13_isGood_189g.1
theorem dX13_isGood_190 : decode cX13_isGood 190 = .ok (.if_icmp .ge 68, 3) := dX13_isGood_189g.2.1
theorem dX13_isGood_193 : decode cX13_isGood 193 = .ok (.aload_n 0, 1) := dX13_isGood_189g.2.2.1
theorem dX13_isGood_194 : decode cX13_isGood 194 = .ok (.iload_n 1, 1) := dX13_isGood_189g.2.2.2.1
theorem dX13_isGood_195 : decode cX13_isGood 195 = .ok (.ldc2_w 406, 3) := dX13_isGood_189g.2.2.2.2.1
theorem dX13_isGood_198 : decode cX13_isGood 198 = .ok (.invokevirtual 355, 3) := dX13_isGood_189g.2.2.2.2.2.1
theorem dX13_isGood_201 : decode cX13_isGood 201 = .ok (.ifCond .eq 33, 3) := dX13_isGood_189g.2.2.2.2.2.2.1
theorem dX13_isGood_204 : decode cX13_isGood 204 = .ok (.aload_n 0, 1) := dX13_isGood_189g.2.2.2.2.2.2.2.1
theorem dX13_isGood_205 : decode cX13_isGood 205 = .ok (.iload_n 1, 1) := dX13_isGood_189g.2.2.2.2.2.2.2.2.1
theorem dX13_isGood_206 : decode cX13_isGood 206 = .ok (.ldc2_w 406, 3) := dX13_isGood_189g.2.2.2.2.2.2.2.2.2.1
theorem dX13_isGood_209 : decode cX13_isGood 209 = .ok (.invokevirtual 359, 3) := dX13_isGood_189g.2.2.2.2.2.2.2.2.2.2.1
theorem dX13_isGood_212 : decode cX13_isGood 212 = .ok (.ldc2_w 365, 3) := dX13_isGood_189g.2.2.2.2.2.2.2.2.2.2.2.1
theorem dX13_isGood_215 : decode cX13_isGood 215 = .ok (.lcmp, 1) := dX13_isGood_189g.2.2.2.2.2.2.2.2.2.2.2.2.1
theorem dX13_isGood_216 : decode cX13_isGood 216 = .ok (.ifCond .lt 42, 3) := dX13_isGood_189g.2.2.2.2.2.2.2.2.2.2.2.2.2.1
theorem dX13_isGood_219 : decode cX13_isGood 219 = .ok (.aload_n 0, 1) := dX13_isGood_189g.2.2.2.2.2.2.2.2.2.2.2.2.2.2.1
theorem dX13_isGood_220 : decode cX13_isGood 220 = .ok (.iload_n 1, 1) := dX13_isGood_189g.2.2.2.2.2.2.2.2.2.2.2.2.2.2.2
theorem dX13_isGood_221g : decode cX13_isGood 221 = .ok (.ldc2_w 406, 3) ∧ decode cX13_isGood 224 = .ok (.invokevirtual 359, 3) ∧ decode cX13_isGood 227 = .ok (.ldc2_w 431, 3) ∧ decode cX13_isGood 230 = .ok (.lcmp, 1) ∧ decode cX13_isGood 231 = .ok (.ifCond .gt 27, 3) ∧ decode cX13_isGood 234 = .ok (.aload_n 0, 1) ∧ decode cX13_isGood 235 = .ok (.iload_n 1, 1) ∧ decode cX13_isGood 236 = .ok (.ldc2_w 374, 3) ∧ decode cX13_isGood 239 = .ok (.invokevirtual 355, 3) ∧ decode cX13_isGood 242 = .ok (.ifCond .eq 12, 3) ∧ decode cX13_isGood 245 = .ok (.aload_n 0, 1) ∧ decode cX13_isGood 246 = .ok (.iload_n 1, 1) ∧ decode cX13_isGood 247 = .ok (.invokevirtual 433, 3) ∧ decode cX13_isGood 250 = .ok (.iconst (-1), 1) ∧ decode cX13_isGood 251 = .ok (.if_icmp .eq 7, 3) ∧ decode cX13_isGood 254 = .ok (.iconst 1, 1) := by decide +kernel
theorem dX13_isGood_221 : decode cX13_isGood 221 = .ok (.ldc2_w 406, 3) := dX13_isGood_221g.1
theorem dX13_isGood_224 : decode cX13_isGood 224 = .ok (.invokevirtual 359, 3) := dX13_isGood_221g.2.1
theorem dX13_isGood_227 : decode cX13_isGood 227 = .ok (.ldc2_w 431, 3) := dX13_isGood_221g.2.2.1
theorem dX13_isGood_230 : decode cX13_isGood 230 = .ok (.lcmp, 1) := dX13_isGood_221g.2.2.2.1
theorem dX13_isGood_231 : decode cX13_isGood 231 = .ok (.ifCond .gt 27, 3) := dX13_isGood_221g.2.2.2.2.1
theorem dX13_isGood_234 : decode cX13_isGood 234 = .ok (.aload_n 0, 1) := dX13_isGood_221g.2.2.2.2.2.1
theorem dX13_isGood_235 : decode cX13_isGood 235 = .ok (.iload_n 1, 1) := dX13_isGood_221g.2.2.2.2.2.2.1
theorem dX13_isGood_236 : decode cX13_isGood 236 = .ok (.ldc2_w 374, 3) := dX13_isGood_221g.2.2.2.2.2.2.2.1
theorem dX13_isGood_239 : decode cX13_isGood 239 = .ok (.invokevirtual 355, 3) := dX13_isGood_221g.2.2.2.2.2.2.2.2.1
theorem dX13_isGood_242 : decode cX13_isGood 242 = .ok (.ifCond .eq 12, 3) := dX13_isGood_221g.2.2.2.2.2.2.2.2.2.1
theorem dX13_isGood_245 : decode cX13_isGood 245 = .ok (.aload_n 0, 1) := dX13_isGood_221g.2.2.2.2.2.2.2.2.2.2.1
theorem dX13_isGood_246 : decode cX13_isGood 246 = .ok (.iload_n 1, 1) := dX13_isGood_221g.2.2.2.2.2.2.2.2.2.2.2.1
theorem dX13_isGood_247 : decode cX13_isGood 247 = .ok (.invokevirtual 433, 3) := dX13_isGood_221g.2.2.2.2.2.2.2.2.2.2.2.2.1
theorem dX13_isGood_250 : decode cX13_isGood 250 = .ok (.iconst (-1), 1) := dX13_isGood_221g.2.2.2.2.2.2.2.2.2.2.2.2.2.1
theorem dX13_isGood_251 : decode cX13_isGood 251 = .ok (.if_icmp .eq 7, 3) := dX13_isGood_221g.2.2.2.2.2.2.2.2.2.2.2.2.2.2.1
theorem dX13_isGood_254 : decode cX13_isGood 254 = .ok (.iconst 1, 1) := dX13_isGood_221g.2.2.2.2.2.2.2.2.2.2.2.2.2.2.2
theorem dX13_isGood_255g : decode cX13_isGood 255 = .ok (.goto 4, 3) ∧ decode cX13_isGood 258 = .ok (.iconst 0, 1) ∧ decode cX13_isGood 259 = .ok (.ireturn, 1) ∧ decode cX13_isGood 260 = .ok (.aload_n 0, 1) ∧ decode cX13_isGood 261 = .ok (.iload_n 1, 1) ∧ decode cX13_isGood 262 = .ok (.invokevirtual 424, 3) ∧ decode cX13_isGood 265 = .ok (.ifCond .eq 38, 3) ∧ decode cX13_isGood 268 = .ok (.aload_n 0, 1) ∧ decode cX13_isGood 269 = .ok (.iload_n 1, 1) ∧ decode cX13_isGood 270 = .ok (.ldc2_w 380, 3) ∧ decode cX13_isGood 273 = .ok (.invokevirtual 408, 3) ∧ decode cX13_isGood 276 = .ok (.ifCond .eq 27, 3) ∧ decode cX13_isGood 279 = .ok (.aload_n 0, 1) ∧ decode cX13_isGood 280 = .ok (.iload_n 1, 1) ∧ decode cX13_isGood 281 = .ok (.iconst 0, 1) ∧ decode cX13_isGood 282 = .ok (.invokevirtual 427, 3) := by decide +kernel
theorem dX13_isGood_255 : decode cX13_isGood 255 = .ok (.goto 4, 3) := dX13_isGood_255g.1
theorem dX13_isGood_258 : decode cX13_isGood 258 = .ok (.iconst 0, 1) := dX13_isGood_255g.2.1
theorem dX13_isGood_259 : decode cX13_isGood 259 = .ok (.ireturn, 1) := dX13_isGood_255g.2.2.1
theorem dX13_isGood_260 : decode cX13_isGood 260 = .ok (.aload_n 0, 1) := dX13_isGood_255g.2.2.2.1
theorem dX13_isGood_261 : decode cX13_isGood 261 = .ok (.iload_n 1, 1) := dX13_isGood_255g.2.2.2.2.1
theorem dX13_isGood_262 : decode cX13_isGood 262 = .ok (.invokevirtual 424, 3) := dX13_isGood_255g.2.2.2.2.2.1
theorem dX13_isGood_265 : decode cX13_isGood 265 = .ok (.ifCond .eq 38, 3) := dX13_isGood_255g.2.2.2.2.2.2.1
theorem dX13_isGood_268 : decode cX13_isGood 268 = .ok (.aload_n 0, 1) := dX13_isGood_255g.2.2.2.2.2.2.2.1
theorem dX13_isGood_269 : decode cX13_isGood 269 = .ok (.iload_n 1, 1) := dX13_isGood_255g.2.2.2.2.2.2.2.2.1
theorem dX13_isGood_270 : decode cX13_isGood 270 = .ok (.ldc2_w 380, 3) := dX13_isGood_255g.2.2.2.2.2.2.2.2.2.1
theorem dX13_isGood_273 : decode cX13_isGood 273 = .ok (.invokevirtual 408, 3) := dX13_isGood_255g.2.2.2.2.2.2.2.2.2.2.1
theorem dX13_isGood_276 : decode cX13_isGood 276 = .ok (.ifCond .eq 27, 3) := dX13_isGood_255g.2.2.2.2.2.2.2.2.2.2.2.1
theorem dX13_isGood_279 : decode cX13_isGood 279 = .ok (.aload_n 0, 1) := dX13_isGood_255g.2.2.2.2.2.2.2.2.2.2.2.2.1
theorem dX13_isGood_280 : decode cX13_isGood 280 = .ok (.iload_n 1, 1) := dX13_isGood_255g.2.2.2.2.2.2.2.2.2.2.2.2.2.1
theorem dX13_isGood_281 : decode cX13_isGood 281 = .ok (.iconst 0, 1) := dX13_isGood_255g.2.2.2.2.2.2.2.2.2.2.2.2.2.2.1
theorem dX13_isGood_282 : decode cX13_isGood 282 = .ok (.invokevirtual 427, 3) := dX13_isGood_255g.2.2.2.2.2.2.2.2.2.2.2.2.2.2.2
theorem dX13_isGood_285g : decode cX13_isGood 285 = .ok (.bipush 8, 2) ∧ decode cX13_isGood 287 = .ok (.if_icmp .ge 16, 3) ∧ decode cX13_isGood 290 = .ok (.aload_n 0, 1) ∧ decode cX13_isGood 291 = .ok (.iload_n 1, 1) ∧ decode cX13_isGood 292 = .ok (.iconst 1, 1) ∧ decode cX13_isGood 293 = .ok (.invokevirtual 427, 3) ∧ decode cX13_isGood 296 = .ok (.ifCond .ne 7, 3) ∧ decode cX13_isGood 299 = .ok (.iconst 1, 1) ∧ decode cX13_isGood 300 = .ok (.goto 4, 3) ∧ decode cX13_isGood 303 = .ok (.iconst 0, 1) ∧ decode cX13_isGood 304 = .ok (.ireturn, 1) ∧ decode cX13_isGood 305 = .ok (.aload_n 0, 1) ∧ decode cX13_isGood 306 = .ok (.getfield 135, 3) ∧ decode cX13_isGood 309 = .ok (.iload_n 1, 1) ∧ decode cX13_isGood 310 = .ok (.iaload, 1) ∧ decode cX13_isGood 311 = .ok (.bipush 6, 2) := by decide +kernel
theorem dX13_isGood_285 : decode cX13_isGood 285 = .ok (.bipush 8, 2) := dX13_isGood_285g.1
theorem dX13_isGood_287 : decode cX13_isGood 287 = .ok (.if_icmp .ge 16, 3) := dX13_isGood_285g.2.1
theorem dX13_isGood_290 : decode cX13_isGood 290 = .ok (.aload_n 0, 1) := dX13_isGood_285g.2.2.1
theorem dX13_isGood_291 : decode cX13_isGood 291 = .ok (.iload_n 1, 1) := dX13_isGood_285g.2.2.2.1
theorem dX13_isGood_292 : decode cX13_isGood 292 = .ok (.iconst 1, 1) := dX13_isGood_285g.2.2.2.2.1
theorem dX13_isGood_293 : decode cX13_isGood 293 = .ok (.invokevirtual 427, 3) := dX13_isGood_285g.2.2.2.2.2.1
theorem dX13_isGood_296 : decode cX13_isGood 296 = .ok (.ifCond .ne 7, 3) := dX13_isGood_285g.2.2.2.2.2.2.1
theorem dX13_isGood_299 : decode cX13_isGood 299 = .ok (.iconst 1, 1) := dX13_isGood_285g.2.2.2.2.2.2.2.1
theorem dX13_isGood_300 : decode cX13_isGood 300 = .ok (.goto 4, 3) := dX13_isGood_285g.2.2.2.2.2.2.2.2.1
theorem dX13_isGood_303 : decode cX13_isGood 303 = .ok (.iconst 0, 1) := dX13_isGood_285g.2.2.2.2.2.2.2.2.2.1
theorem dX13_isGood_304 : decode cX13_isGood 304 = .ok (.ireturn, 1) := dX13_isGood_285g.2.2.2.2.2.2.2.2.2.2.1
theorem dX13_isGood_305 : decode cX13_isGood 305 = .ok (.aload_n 0, 1) := dX13_isGood_285g.2.2.2.2.2.2.2.2.2.2.2.1
theorem dX13_isGood_306 : decode cX13_isGood 306 = .ok (.getfield 135, 3) := dX13_isGood_285g.2.2.2.2.2.2.2.2.2.2.2.2.1
theorem dX13_isGood_309 : decode cX13_isGood 309 = .ok (.iload_n 1, 1) := dX13_isGood_285g.2.2.2.2.2.2.2.2.2.2.2.2.2.1
theorem dX13_isGood_310 : decode cX13_isGood 310 = .ok (.iaload, 1) := dX13_isGood_285g.2.2.2.2.2.2.2.2.2.2.2.2.2.2.1
theorem dX13_isGood_311 : decode cX13_isGood 311 = .ok (.bipush 6, 2) := dX13_isGood_285g.2.2.2.2.2.2.2.2.2.2.2.2.2.2.2
theorem dX13_isGood_313g : decode cX13_isGood 313 = .ok (.if_icmp .gt 7, 3) ∧ decode cX13_isGood 316 = .ok (.iconst 1, 1) ∧ decode cX13_isGood 317 = .ok (.goto 4, 3) ∧ decode cX13_isGood 320 = .ok (.iconst 0, 1) ∧ decode cX13_isGood 321 = .ok (.ireturn, 1) ∧ decode cX13_isGood 322 = .ok (.aload_n 0, 1) ∧ decode cX13_isGood 323 = .ok (.getfield 135, 3) ∧ decode cX13_isGood 326 = .ok (.iload_n 1, 1) ∧ decode cX13_isGood 327 = .ok (.iaload, 1) ∧ decode cX13_isGood 328 = .ok (.ifCond .ne 7, 3) ∧ decode cX13_isGood 331 = .ok (.iconst 1, 1) ∧ decode cX13_isGood 332 = .ok (.goto 4, 3) ∧ decode cX13_isGood 335 = .ok (.iconst 0, 1) ∧ decode cX13_isGood 336 = .ok (.ireturn, 1) ∧ decode cX13_isGood 337 = .ok (.aload_n 0, 1) ∧ decode cX13_isGood 338 = .ok (.iload_n 1, 1) := by decide +kernel
theorem dX13_isGood_313 : decode cX13_isGood 313 = .ok (.if_icmp .gt 7, 3) := dX13_isGood_313g.1
theorem dX13_isGood_316 : decode cX13_isGood 316 = .ok (.iconst 1, 1) := dX13_isGood_313g.2.1
theorem dX13_isGood_317 : decode cX13_isGood 317 = .ok (.goto 4, 3) := dX13_isGood_313g.2.2.1
theorem dX13_isGood_320 : decode cX13_isGood 320 = .ok (.iconst 0, 1) := dX13_isGood_313g.2.2.2.1
theorem dX13_isGood_321 : decode cX13_isGood 321 = .ok (.ireturn, 1) := dX13_isGood_313g.2.2.2.2.1
theorem dX13_isGood_322 : decode cX13_isGood 322 = .ok (.aload_n 0, 1) := dX13_isGood_313g.2.2.2.2.2.1
theorem dX13_isGood_323 : decode cX13_isGood 323 = .ok (.getfield 135, 3) := dX13_isGood_313g.2.2.2.2.2.2.1
theorem dX13_isGood_326 : decode cX13_isGood 326 = .ok (.iload_n 1, 1) := dX13_isGood_313g.2.2.2.2.2.2.2.1
theorem dX13_isGood_327 : decode cX13_isGood 327 = .ok (.iaload, 1) := dX13_isGood_313g.2.2.2.2.2.2.2.2.1
theorem dX13_isGood_328 : decode cX13_isGood 328 = .ok (.ifCond .ne 7, 3) := dX13_isGood_313g.2.2.2.2.2.2.2.2.2.1
theorem dX13_isGood_331 : decode cX13_isGood 331 = .ok (.iconst 1, 1) := dX13_isGood_313g.2.2.2.2.2.2.2.2.2.2.1
theorem dX13_isGood_332 : decode cX13_isGood 332 = .ok (.goto 4, 3) := dX13_isGood_313g.2.2.2.2.2.2.2.2.2.2.2.1
theorem dX13_isGood_335 : decode cX13_isGood 335 = .ok (.iconst 0, 1) := dX13_isGood_313g.2.2.2.2.2.2.2.2.2.2.2.2.1
theorem dX13_isGood_336 : decode cX13_isGood 336 = .ok (.ireturn, 1) := dX13_isGood_313g.2.2.2.2.2.2.2.2.2.2.2.2.2.1
theorem dX13_isGood_337 : decode cX13_isGood 337 = .ok (.aload_n 0, 1) := dX13_isGood_313g.2.2.2.2.2.2.2.2.2.2.2.2.2.2.1
theorem dX13_isGood_338 : decode cX13_isGood 338 = .ok (.iload_n 1, 1) := dX13_isGood_313g.2.2.2.2.2.2.2.2.2.2.2.2.2.2.2
theorem dX13_isGood_339g : decode cX13_isGood 339 = .ok (.ldc2_w 11, 3) ∧ decode cX13_isGood 342 = .ok (.invokevirtual 369, 3) ∧ decode cX13_isGood 345 = .ok (.ifCond .eq 16, 3) ∧ decode cX13_isGood 348 = .ok (.aload_n 0, 1) ∧ decode cX13_isGood 349 = .ok (.getfield 135, 3) ∧ decode cX13_isGood 352 = .ok (.iload_n 1, 1) ∧ decode cX13_isGood 353 = .ok (.iaload, 1) ∧ decode cX13_isGood 354 = .ok (.ifCond .ne 7, 3) ∧ decode cX13_isGood 357 = .ok (.iconst 1, 1) ∧ decode cX13_isGood 358 = .ok (.goto 4, 3) ∧ decode cX13_isGood 361 = .ok (.iconst 0, 1) ∧ decode cX13_isGood 362 = .ok (.ireturn, 1) ∧ decode cX13_isGood 363 = .ok (.aload_n 0, 1) ∧ decode cX13_isGood 364 = .ok (.iload_n 1, 1) ∧ decode cX13_isGood 365 = .ok (.ldc2_w 380, 3) ∧ decode cX13_isGood 368 = .ok (.invokevirtual 408, 3) := by decide +kernel
theorem dX13_isGood_339 : decode cX13_isGood 339 = .ok (.ldc2_w 11, 3) := dX13_isGood_339g.1
theorem dX13_isGood_342 : decode cX13_isGood 342 = .ok (.invokevirtual 369, 3) := dX13_isGood_339g.2.1
theorem dX13_isGood_345 : decode cX13_isGood 345 = .ok (.ifCond .eq 16, 3) := dX13_isGood_339g.2.2.1
theorem dX13_isGood_348 : decode cX13_isGood 348 = .ok (.aload_n 0, 1) := dX13_isGood_339g.2.2.2.1
theorem dX13_isGood_349 : decode cX13_isGood 349 = .ok (.getfield 135, 3) := dX13_isGood_339g.2.2.2.2.1
theorem dX13_isGood_352 : decode cX13_isGood 352 = .ok (.iload_n 1, 1) := dX13_isGood_339g.2.2.2.2.2.1
theorem dX13_isGood_353 : decode cX13_isGood 353 = .ok (.iaload, 1) := dX13_isGood_339g.2.2.2.2.2.2.1
theorem dX13_isGood_354 : decode cX13_isGood 354 = .ok (.ifCond .ne 7, 3) := dX13_isGood_339g.2.2.2.2.2.2.2.1
theorem dX13_isGood_357 : decode cX13_isGood 357 = .ok (.iconst 1, 1) := dX13_isGood_339g.2.2.2.2.2.2.2.2.1
theorem dX13_isGood_358 : decode cX13_isGood 358 = .ok (.goto 4, 3) := dX13_isGood_339g.2.2.2.2.2.2.2.2.2.1
theorem dX13_isGood_361 : decode cX13_isGood 361 = .ok (.iconst 0, 1) := dX13_isGood_339g.2.2.2.2.2.2.2.2.2.2.1
theorem dX13_isGood_362 : decode cX13_isGood 362 = .ok (.ireturn, 1) := dX13_isGood_339g.2.2.2.2.2.2.2.2.2.2.2.1
theorem dX13_isGood_363 : decode cX13_isGood 363 = .ok (.aload_n 0, 1) := dX13_isGood_339g.2.2.2.2.2.2.2.2.2.2.2.2.1
theorem dX13_isGood_364 : decode cX13_isGood 364 = .ok (.iload_n 1, 1) := dX13_isGood_339g.2.2.2.2.2.2.2.2.2.2.2.2.2.1
theorem dX13_isGood_365 : decode cX13_isGood 365 = .ok (.ldc2_w 380, 3) := dX13_isGood_339g.2.2.2.2.2.2.2.2.2.2.2.2.2.2.1
theorem dX13_isGood_368 : decode cX13_isGood 368 = .ok (.invokevirtual 408, 3) := dX13_isGood_339g.2.2.2.2.2.2.2.2.2.2.2.2.2.2.2
theorem dX13_isGood_371g : decode cX13_isGood 371 = .ok (.ifCond .eq 46, 3) ∧ decode cX13_isGood 374 = .ok (.aload_n 0, 1) ∧ decode cX13_isGood 375 = .ok (.iload_n 1, 1) ∧ decode cX13_isGood 376 = .ok (.ldc2_w 11, 3) ∧ decode cX13_isGood 379 = .ok (.invokevirtual 369, 3) ∧ decode cX13_isGood 382 = .ok (.ifCond .eq 35, 3) ∧ decode cX13_isGood 385 = .ok (.aload_n 0, 1) ∧ decode cX13_isGood 386 = .ok (.getfield 135, 3) ∧ decode cX13_isGood 389 = .ok (.iload_n 1, 1) ∧ decode cX13_isGood 390 = .ok (.iaload, 1) ∧ decode cX13_isGood 391 = .ok (.ifCond .ne 26, 3) ∧ decode cX13_isGood 394 = .ok (.aload_n 0, 1) ∧ decode cX13_isGood 395 = .ok (.iload_n 1, 1) ∧ decode cX13_isGood 396 = .ok (.iconst 0, 1) ∧ decode cX13_isGood 397 = .ok (.invokevirtual 427, 3) ∧ decode cX13_isGood 400 = .ok (.iconst 2, 1) := by decide +kernel
theorem dX13_isGood_371 : decode cX13_isGood 371 = .ok (.ifCond .eq 46, 3) := dX13_isGood_371g.1
theorem dX13_isGood_374 : decode cX13_isGood 374 = .ok (.aload_n 0, 1) := dX13_isGood_371g.2.1
theorem dX13_isGood_375 : decode cX13_isGood 375 = .ok (.iload_n 1, 1) := dX13_isGood_371g.2.2.1
theorem dX13_isGood_376 : decode cX13_isGood 376 = .ok (.ldc2_w 11, 3) := dX13_isGood_371g.2.2.2.1
theorem dX13_isGood_379 : decode cX13_isGood 379 = .ok (.invokevirtual 369, 3) := dX13_isGood_371g.2.2.2.2.1
theorem dX13_isGood_382 : decode cX13_isGood 382 = .ok (.ifCond .eq 35, 3) := dX13_isGood_371g.2.2.2.2.2.1
theorem dX13_isGood_385 : decode cX13_isGood 385 = .ok (.aload_n 0, 1) := dX13_isGood_371g.2.2.2.2.2.2.1
theorem dX13_isGood_386 : decode cX13_isGood 386 = .ok (.getfield 135, 3) := dX13_isGood_371g.2.2.2.2.2.2.2.1
theorem dX13_isGood_389 : decode cX13_isGood 389 = .ok (.iload_n 1, 1) := dX13_isGood_371g.2.2.2.2.2.2.2.2.1
theorem dX13_isGood_390 : decode cX13_isGood 390 = .ok (.iaload, 1) := dX13_isGood_371g.2.2.2.2.2.2.2.2.2.1
theorem dX13_isGood_391 : decode cX13_isGood 391 = .ok (.ifCond .ne 26, 3) := dX13_isGood_371g.2.2.2.2.2.2.2.2.2.2.1
theorem dX13_isGood_394 : decode cX13_isGood 394 = .ok (.aload_n 0, 1) := dX13_isGood_371g.2.2.2.2.2.2.2.2.2.2.2.1
theorem dX13_isGood_395 : decode cX13_isGood 395 = .ok (.iload_n 1, 1) := dX13_isGood_371g.2.2.2.2.2.2.2.2.2.2.2.2.1
theorem dX13_isGood_396 : decode cX13_isGood 396 = .ok (.iconst 0, 1) := dX13_isGood_371g.2.2.2.2.2.2.2.2.2.2.2.2.2.1
theorem dX13_isGood_397 : decode cX13_isGood 397 = .ok (.invokevirtual 427, 3) := dX13_isGood_371g.2.2.2.2.2.2.2.2.2.2.2.2.2.2.1
theorem dX13_isGood_400 : decode cX13_isGood 400 = .ok (.iconst 2, 1) := dX13_isGood_371g.2.2.2.2.2.2.2.2.2.2.2.2.2.2.2
theorem dX13_isGood_401g : decode cX13_isGood 401 = .ok (.if_icmp .ge 16, 3) ∧ decode cX13_isGood 404 = .ok (.aload_n 0, 1) ∧ decode cX13_isGood 405 = .ok (.iload_n 1, 1) ∧ decode cX13_isGood 406 = .ok (.iconst 1, 1) ∧ decode cX13_isGood 407 = .ok (.invokevirtual 427, 3) ∧ decode cX13_isGood 410 = .ok (.ifCond .ne 7, 3) ∧ decode cX13_isGood 413 = .ok (.iconst 1, 1) ∧ decode cX13_isGood 414 = .ok (.goto 4, 3) ∧ decode cX13_isGood 417 = .ok (.iconst 0, 1) ∧ decode cX13_isGood 418 = .ok (.ireturn, 1) ∧ decode cX13_isGood 419 = .ok (.iconst 1, 1) ∧ decode cX13_isGood 420 = .ok (.ireturn, 1) := by decide +kernel
theorem dX13_isGood_401 : decode cX13_isGood 401 = .ok (.if_icmp .ge 16, 3) := dX13_isGood_401g.1
theorem dX13_isGood_404 : decode cX13_isGood 404 = .ok (.aload_n 0, 1) := dX13_isGood_401g.2.1
theorem dX13_isGood_405 : decode cX13_isGood 405 = .ok (.iload_n 1, 1) := dX13_isGood_401g.2.2.1
theorem dX13_isGood_406 : decode cX13_isGood 406 = .ok (.iconst 1, 1) := dX13_isGood_401g.2.2.2.1
theorem dX13_isGood_407 : decode cX13_isGood 407 = .ok (.invokevirtual 427, 3) := dX13_isGood_401g.2.2.2.2.1
theorem dX13_isGood_410 : decode cX13_isGood 410 = .ok (.ifCond .ne 7, 3) := dX13_isGood_401g.2.2.2.2.2.1
theorem dX13_isGood_413 : decode cX13_isGood 413 = .ok (.iconst 1, 1) := dX13_isGood_401g.2.2.2.2.2.2.1
theorem dX13_isGood_414 : decode cX13_isGood 414 = .ok (.goto 4, 3) := dX13_isGood_401g.2.2.2.2.2.2.2.1
theorem dX13_isGood_417 : decode cX13_isGood 417 = .ok (.iconst 0, 1) := dX13_isGood_401g.2.2.2.2.2.2.2.2.1
theorem dX13_isGood_418 : decode cX13_isGood 418 = .ok (.ireturn, 1) := dX13_isGood_401g.2.2.2.2.2.2.2.2.2.1
theorem dX13_isGood_419 : decode cX13_isGood 419 = .ok (.iconst 1, 1) := dX13_isGood_401g.2.2.2.2.2.2.2.2.2.2.1
theorem dX13_isGood_420 : decode cX13_isGood 420 = .ok (.ireturn, 1) := dX13_isGood_401g.2.2.2.2.2.2.2.2.2.2.2
theorem dX13_badStructure_0g : decode cX13_badStructure 0 = .ok (.iconst 0, 1) ∧ decode cX13_badStructure 1 = .ok (.istore_n 1, 1) ∧ decode cX13_badStructure 2 = .ok (.iload_n 1, 1) ∧ decode cX13_badStructure 3 = .ok (.aload_n 0, 1) ∧ decode cX13_badStructure 4 = .ok (.getfield 329, 3) ∧ decode cX13_badStructure 7 = .ok (.if_icmp .ge 64, 3) ∧ decode cX13_badStructure 10 = .ok (.aload_n 0, 1) ∧ decode cX13_badStructure 11 = .ok (.getfield 126, 3) ∧ decode cX13_badStructure 14 = .ok (.iload_n 1, 1) ∧ decode cX13_badStructure 15 = .ok (.iconst 0, 1) ∧ decode cX13_badStructure 16 = .ok (.iastore, 1) ∧ decode cX13_badStructure 17 = .ok (.iconst 0, 1) ∧ decode cX13_badStructure 18 = .ok (.istore_n 2, 1) ∧ decode cX13_badStructure 19 = .ok (.iload_n 2, 1) ∧ decode cX13_badStructure 20 = .ok (.bipush 10, 2) ∧ decode cX13_badStructure 22 = .ok (.if_icmp .ge 43, 3) := by decide +kernel
theorem dX13_badStructure_0 : decode cX13_badStructure 0 = .ok (.iconst 0, 1) := dX13_badStructure_0g.1
theorem dX13_badStructure_1 : decode cX13_badStructure 1 = .ok (.istore_n 1, 1) := dX13_badStructure_0g.2.1
theorem dX13_badStructure_2 : decode cX13_badStructure 2 = .ok (.iload_n 1, 1) := dX13_badStructure_0g.2.2.1
theorem dX13_badStructure_3 : decode cX13_badStructure 3 = .ok (.aload_n 0, 1) := dX13_badStructure_0g.2.2.2.1
theorem dX13_badStructure_4 : decode cX13_badStructure 4 = .ok (.getfield 329, 3) := dX13_badStructure_0g.2.2.2.2.1
theorem dX13_badStructure_7 : decode cX13_badStructure 7 = .ok (.if_icmp .ge 64, 3) := dX13_badStructure_0g.2.2.2.2.2.1
theorem dX13_badStructure_10 : decode cX13_badStructure 10 = .ok (.aload_n 0, 1) := dX13_badStructure_0g.2.2.2.2.2.2.1
theorem dX13_badStructure_11 : decode cX13_badStructure 11 = .ok (.getfield 126, 3) := dX13_badStructure_0g.2.2.2.2.2.2.2.1
theorem dX13_badStructure_14 : decode cX13_badStructure 14 = .ok (.iload_n 1, 1) := dX13_badStructure_0g.2.2.2.2.2.2.2.2.1
theorem dX13_badStructure_15 : decode cX13_badStructure 15 = .ok (.iconst 0, 1) := dX13_badStructure_0g.2.2.2.2.2.2.2.2.2.1
theorem dX13_badStructure_16 : decode cX13_badStructure 16 = .ok (.iastore, 1) := dX13_badStructure_0g.2.2.2.2.2.2.2.2.2.2.1
theorem dX13_badStructure_17 : decode cX13_badStructure 17 = .ok (.iconst 0, 1) := dX13_badStructure_0g.2.2.2.2.2.2.2.2.2.2.2.1
theorem dX13_badStructure_18 : decode cX13_badStructure 18 = .ok (.istore_n 2, 1) := dX13_badStructure_0g.2.2.2.2.2.2.2.2.2.2.2.2.1
theorem dX13_badStructure_19 : decode cX13_badStructure 19 = .ok (.iload_n 2, 1) := dX13_badStructure_0g.2.2.2.2.2.2.2.2.2.2.2.2.2.1
theorem dX13_badStructure_20 : decode cX13_badStructure 20 = .ok (.bipush 10, 2) := dX13_badStructure_0g.2.2.2.2.2.2.2.2.2.2.2.2.2.2.1
theorem dX13_badStructure_22 : decode cX13_badStructure 22 = .ok (.if_icmp .ge 43, 3) := dX13_badStructure_0g.2.2.2.2.2.2.2.2.2.2.2.2.2.2.2
theorem dX13_badStructure_25g : decode cX13_badStructure 25 = .ok (.aload_n 0, 1) ∧ decode cX13_badStructure 26 = .ok (.getfield 126, 3) ∧ decode cX13_badStructure 29 = .ok (.iload_n 1, 1) ∧ decode cX13_badStructure 30 = .ok (.aload_n 0, 1) ∧ decode cX13_badStructure 31 = .ok (.getfield 150, 3) ∧ decode cX13_badStructure 34 = .ok (.iload_n 1, 1) ∧ decode cX13_badStructure 35 = .ok (.laload, 1) ∧ decode cX13_badStructure 36 = .ok (.aload_n 0, 1) ∧ decode cX13_badStructure 37 = .ok (.getfield 27, 3) ∧ decode cX13_badStructure 40 = .ok (.iload_n 2, 1) ∧ decode cX13_badStructure 41 = .ok (.laload, 1) ∧ decode cX13_badStructure 42 = .ok (.lcmp, 1) ∧ decode cX13_badStructure 43 = .ok (.ifCond .ne 9, 3) ∧ decode cX13_badStructure 46 = .ok (.iconst 1, 1) ∧ decode cX13_badStructure 47 = .ok (.iload_n 2, 1) ∧ decode cX13_badStructure 48 = .ok (.iadd, 1) := by decide +kernel
theorem dX13_badStructure_25 : decode cX13_badStructure 25 = .ok (.aload_n 0, 1) := dX13_badStructure_25g.1
theorem dX13_badStructure_26 : decode cX13_badStructure 26 = .ok (.getfield 126, 3) := dX13_badStructure_25g.2.1
theorem dX13_badStructure_29 : decode cX13_badStructure 29 = .ok (.iload_n 1, 1) := dX13_badStructure_25g.2.2.1
theorem dX13_badStructure_30 : decode cX13_badStructure 30 = .ok (.aload_n 0, 1) := dX13_badStructure_25g.2.2.2.1
theorem dX13_badStructure_31 : decode cX13_badStructure 31 = .ok (.getfield 150, 3) := dX13_badStructure_25g.2.2.2.2.1
theorem dX13_badStructure_34 : decode cX13_badStructure 34 = .ok (.iload_n 1, 1) := dX13_badStructure_25g.2.2.2.2.2.1
theorem dX13_badStructure_35 : decode cX13_badStructure 35 = .ok (.laload, 1) := dX13_badStructure_25g.2.2.2.2.2.2.1
theorem dX13_badStructure_36 : decode cX13_badStructure 36 = .ok (.aload_n 0, 1) := dX13_badStructure_25g.2.2.2.2.2.2.2.1
theorem dX13_badStructure_37 : decode cX13_badStructure 37 = .ok (.getfield 27, 3) := dX13_badStructure_25g.2.2.2.2.2.2.2.2.1
theorem dX13_badStructure_40 : decode cX13_badStructure 40 = .ok (.iload_n 2, 1) := dX13_badStructure_25g.2.2.2.2.2.2.2.2.2.1
theorem dX13_badStructure_41 : decode cX13_badStructure 41 = .ok (.laload, 1) := dX13_badStructure_25g.2.2.2.2.2.2.2.2.2.2.1
theorem dX13_badStructure_42 : decode cX13_badStructure 42 = .ok (.lcmp, 1) := dX13_badStructure_25g.2.2.2.2.2.2.2.2.2.2.2.1
theorem dX13_badStructure_43 : decode cX13_badStructure 43 = .ok (.ifCond .ne 9, 3) := dX13_badStructure_25g.2.2.2.2.2.2.2.2.2.2.2.2.1
theorem dX13_badStructure_46 : decode cX13_badStructure 46 = .ok (.iconst 1, 1) := dX13_badStructure_25g.2.2.2.2.2.2.2.2.2.2.2.2.2.1
theorem dX13_badStructure_47 : decode cX13_badStructure 47 = .ok (.iload_n 2, 1) := dX13_badStructure_25g.2.2.2.2.2.2.2.2.2.2.2.2.2.2.1
theorem dX13_badStructure_48 : decode cX13_badStructure 48 = .ok (.iadd, 1) := dX13_badStructure_25g.2.2.2.2.2.2.2.2.2.2.2.2.2.2.2
theorem dX13_badStructure_49g : decode cX13_badStructure 49 = .ok (.goto 9, 3) ∧ decode cX13_badStructure 52 = .ok (.aload_n 0, 1) ∧ decode cX13_badStructure 53 = .ok (.getfield 126, 3) ∧ decode cX13_badStructure 56 = .ok (.iload_n 1, 1) ∧ decode cX13_badStructure 57 = .ok (.iaload, 1) ∧ decode cX13_badStructure 58 = .ok (.iastore, 1) ∧ decode cX13_badStructure 59 = .ok (.iinc 2 1, 3) ∧ decode cX13_badStructure 62 = .ok (.goto (-43), 3) ∧ decode cX13_badStructure 65 = .ok (.iinc 1 1, 3) ∧ decode cX13_badStructure 68 = .ok (.goto (-66), 3) ∧ decode cX13_badStructure 71 = .ok (.iconst 0, 1) ∧ decode cX13_badStructure 72 = .ok (.istore_n 1, 1) ∧ decode cX13_badStructure 73 = .ok (.iload_n 1, 1) ∧ decode cX13_badStructure 74 = .ok (.aload_n 0, 1) ∧ decode cX13_badStructure 75 = .ok (.getfield 329, 3) ∧ decode cX13_badStructure 78 = .ok (.if_icmp .ge 33, 3) := by decide +kernel
theorem dX13_badStructure_49 : decode cX13_badStructure 49 = .ok (.goto 9, 3) := dX13_badStructure_49g.1
theorem dX13_badStructure_52 : decode cX13_badStructure 52 = .ok (.aload_n 0, 1) := dX13_badStructure_49g.2.1
theorem dX13_badStructure_53 : decode cX13_badStructure 53 = .ok (.getfield 126, 3) := dX13_badStructure_49g.2.2.1
theorem dX13_badStructure_56 : decode cX13_badStructure 56 = .ok (.iload_n 1, 1) := dX13_badStructure_49g.2.2.2.1
theorem dX13_badStructure_57 : decode cX13_badStructure 57 = .ok (.iaload, 1) := dX13_badStructure_49g.2.2.2.2.1
theorem dX13_badStructure_58 : decode cX13_badStructure 58 = .ok (.iastore, 1) := dX13_badStructure_49g.2.2.2.2.2.1
theorem dX13_badStructure_59 : decode cX13_badStructure 59 = .ok (.iinc 2 1, 3) := dX13_badStructure_49g.2.2.2.2.2.2.1
theorem dX13_badStructure_62 : decode cX13_badStructure 62 = .ok (.goto (-43), 3) := dX13_badStructure_49g.2.2.2.2.2.2.2.1
theorem dX13_badStructure_65 : decode cX13_badStructure 65 = .ok (.iinc 1 1, 3) := dX13_badStructure_49g.2.2.2.2.2.2.2.2.1
theorem dX13_badStructure_68 : decode cX13_badStructure 68 = .ok (.goto (-66), 3) := dX13_badStructure_49g.2.2.2.2.2.2.2.2.2.1
theorem dX13_badStructure_71 : decode cX13_badStructure 71 = .ok (.iconst 0, 1) := dX13_badStructure_49g.2.2.2.2.2.2.2.2.2.2.1
theorem dX13_badStructure_72 : decode cX13_badStructure 72 = .ok (.istore_n 1, 1) := dX13_badStructure_49g.2.2.2.2.2.2.2.2.2.2.2.1
theorem dX13_badStructure_73 : decode cX13_badStructure 73 = .ok (.iload_n 1, 1) := dX13_badStructure_49g.2.2.2.2.2.2.2.2.2.2.2.2.1
theorem dX13_badStructure_74 : decode cX13_badStructure 74 = .ok (.aload_n 0, 1) := dX13_badStructure_49g.2.2.2.2.2.2.2.2.2.2.2.2.2.1
theorem dX13_badStructure_75 : decode cX13_badStructure 75 = .ok (.getfield 329, 3) := dX13_badStructure_49g.2.2.2.2.2.2.2.2.2.2.2.2.2.2.1
theorem dX13_badStructure_78 : decode cX13_badStructure 78 = .ok (.if_icmp .ge 33, 3) := dX13_badStructure_49g.2.2.2.2.2.2.2.2.2.2.2.2.2.2.2
theorem dX13_badStructure_81g : decode cX13_badStructure 81 = .ok (.iload_n 1, 1) ∧ decode cX13_badStructure 82 = .ok (.ifCond .ne 13, 3) ∧ decode cX13_badStructure 85 = .ok (.aload_n 0, 1) ∧ decode cX13_badStructure 86 = .ok (.getfield 126, 3) ∧ decode cX13_badStructure 89 = .ok (.iconst 0, 1) ∧ decode cX13_badStructure 90 = .ok (.iaload, 1) ∧ decode cX13_badStructure 91 = .ok (.iconst 1, 1) ∧ decode cX13_badStructure 92 = .ok (.if_icmp .ne 11, 3) ∧ decode cX13_badStructure 95 = .ok (.aload_n 0, 1) ∧ decode cX13_badStructure 96 = .ok (.iload_n 1, 1) ∧ decode cX13_badStructure 97 = .ok (.invokevirtual 436, 3) ∧ decode cX13_badStructure 100 = .ok (.ifCond .ne 5, 3) ∧ decode cX13_badStructure 103 = .ok (.iload_n 1, 1) ∧ decode cX13_badStructure 104 = .ok (.ireturn, 1) ∧ decode cX13_badStructure 105 = .ok (.iinc 1 1, 3) ∧ decode cX13_badStructure 108 = .ok (.goto (-35), 3) := by decide +kernel
theorem dX13_badStructure_81 : decode cX13_badStructure 81 = .ok (.iload_n 1, 1) := dX13_badStructure_81g.1
theorem dX13_badStructure_82 : decode cX13_badStructure 82 = .ok (.ifCond .ne 13, 3) := dX13_badStructure_81g.2.1
theorem dX13_badStructure_85 : decode cX13_badStructure 85 = .ok (.aload_n 0, 1) := dX13_badStructure_81g.2.2.1
theorem dX13_badStructure_86 : decode cX13_badStructure 86 = .ok (.getfield 126, 3) := dX13_badStructure_81g.2.2.2.1
theorem dX13_badStructure_89 : decode cX13_badStructure 89 = .ok (.iconst 0, 1) := dX13_badStructure_81g.2.2.2.2.1
theorem dX13_badStructure_90 : decode cX13_badStructure 90 = .ok (.iaload, 1) := dX13_badStructure_81g.2.2.2.2.2.1
theorem dX13_badStructure_91 : decode cX13_badStructure 91 = .ok (.iconst 1, 1) := dX13_badStructure_81g.2.2.2.2.2.2.1
theorem dX13_badStructure_92 : decode cX13_badStructure 92 = .ok (.if_icmp .ne 11, 3) := dX13_badStructure_81g.2.2.2.2.2.2.2.1
theorem dX13_badStructure_95 : decode cX13_badStructure 95 = .ok (.aload_n 0, 1) := dX13_badStructure_81g.2.2.2.2.2.2.2.2.1
theorem dX13_badStructure_96 : decode cX13_badStructure 96 = .ok (.iload_n 1, 1) := dX13_badStructure_81g.2.2.2.2.2.2.2.2.2.1
theorem dX13_badStructure_97 : decode cX13_badStructure 97 = .ok (.invokevirtual 436, 3) := dX13_badStructure_81g.2.2.2.2.2.2.2.2.2.2.1
theorem dX13_badStructure_100 : decode cX13_badStructure 100 = .ok (.ifCond .ne 5, 3) := dX13_badStructure_81g.2.2.2.2.2.2.2.2.2.2.2.1
theorem dX13_badStructure_103 : decode cX13_badStructure 103 = .ok (.iload_n 1, 1) := dX13_badStructure_81g.2.2.2.2.2.2.2.2.2.2.2.2.1
theorem dX13_badStructure_104 : decode cX13_badStructure 104 = .ok (.ireturn, 1) := dX13_badStructure_81g.2.2.2.2.2.2.2.2.2.2.2.2.2.1
theorem dX13_badStructure_105 : decode cX13_badStructure 105 = .ok (.iinc 1 1, 3) := dX13_badStructure_81g.2.2.2.2.2.2.2.2.2.2.2.2.2.2.1
theorem dX13_badStructure_108 : decode cX13_badStructure 108 = .ok (.goto (-35), 3) := dX13_badStructure_81g.2.2.2.2.2.2.2.2.2.2.2.2.2.2.2
theorem dX13_badStructure_111 : decode cX13_badStructure 111 = .ok (.iconst (-1), 1) := by decide +kernel
theorem dX13_badStructure_112 : decode cX13_badStructure 112 = .ok (.ireturn, 1) := by decide +kernel
theorem dX13_withId_0g : decode cX13_withId 0 = .ok (.iconst 0, 1) ∧ decode cX13_withId 1 = .ok (.istore_n 3, 1) ∧ decode cX13_withId 2 = .ok (.iload_n 3, 1) ∧ decode cX13_withId 3 = .ok (.aload_n 0, 1) ∧ decode cX13_withId 4 = .ok (.getfield 439, 3) ∧ decode cX13_withId 7 = .ok (.if_icmp .ge 43, 3) ∧ decode cX13_withId 10 = .ok (.aload_n 0, 1) ∧ decode cX13_withId 11 = .ok (.getfield 132, 3) ∧ decode cX13_withId 14 = .ok (.aload_n 0, 1) ∧ decode cX13_withId 15 = .ok (.getfield 168, 3) ∧ decode cX13_withId 18 = .ok (.iload_n 3, 1) ∧ decode cX13_withId 19 = .ok (.iaload, 1) ∧ decode cX13_withId 20 = .ok (.iaload, 1) ∧ decode cX13_withId 21 = .ok (.ifCond .ne 23, 3) ∧ decode cX13_withId 24 = .ok (.aload_n 0, 1) ∧ decode cX13_withId 25 = .ok (.aload_n 0, 1) := by decide +kernel
theorem dX13_withId_0 : decode cX13_withId 0 = .ok (.iconst 0, 1) := dX13_withId_0g.1
theorem dX13_withId_1 : decode cX13_withId 1 = .ok (.istore_n 3, 1) := dX13_withId_0g.2.1
theorem dX13_withId_2 : decode cX13_withId 2 = .ok (.iload_n 3, 1) := dX13_withId_0g.2.2.1
theorem dX13_withId_3 : decode cX13_withId 3 = .ok (.aload_n 0, 1) := dX13_withId_0g.2.2.2.1
theorem dX13_withId_4 : decode cX13_withId 4 = .ok (.getfield 439, 3) := dX13_withId_0g.2.2.2.2.1
theorem dX13_withId_7 : decode cX13_withId 7 = .ok (.if_icmp .ge 43, 3) := dX13_withId_0g.2.2.2.2.2.1
theorem dX13_withId_10 : decode cX13_withId 10 = .ok (.aload_n 0, 1) := dX13_withId_0g.2.2.2.2.2.2.1
theorem dX13_withId_11 : decode cX13_withId 11 = .ok (.getfield 132, 3) := dX13_withId_0g.2.2.2.2.2.2.2.1
theorem dX13_withId_14 : decode cX13_withId 14 = .ok (.aload_n 0, 1) := dX13_withId_0g.2.2.2.2.2.2.2.2.1
theorem dX13_withId_15 : decode cX13_withId 15 = .ok (.getfield 168, 3) := dX13_withId_0g.2.2.2.2.2.2.2.2.2.1
theorem dX13_withId_18 : decode cX13_withId 18 = .ok (.iload_n 3, 1) := dX13_withId_0g.2.2.2.2.2.2.2.2.2.2.1
theorem dX13_withId_19 : decode cX13_withId 19 = .ok (.iaload, 1) := dX13_withId_0g.2.2.2.2.2.2.2.2.2.2.2.1
theorem dX13_withId_20 : decode cX13_withId 20 = .ok (.iaload, 1) := dX13_withId_0g.2.2.2.2.2.2.2.2.2.2.2.2.1
theorem dX13_withId_21 : decode cX13_withId 21 = .ok (.ifCond .ne 23, 3) := dX13_withId_0g.2.2.2.2.2.2.2.2.2.2.2.2.2.1
theorem dX13_withId_24 : decode cX13_withId 24 = .ok (.aload_n 0, 1) := dX13_withId_0g.2.2.2.2.2.2.2.2.2.2.2.2.2.2.1
theorem dX13_withId_25 : decode cX13_withId 25 = .ok (.aload_n 0, 1) := dX13_withId_0g.2.2.2.2.2.2.2.2.2.2.2.2.2.2.2
theorem dX13_withId_26g : decode cX13_withId 26 = .ok (.getfield 168, 3) ∧ decode cX13_withId 29 = .ok (.iload_n 3, 1) ∧ decode cX13_withId 30 = .ok (.iaload, 1) ∧ decode cX13_withId 31 = .ok (.ldc2_w 384, 3) ∧ decode cX13_withId 34 = .ok (.invokevirtual 359, 3) ∧ decode cX13_withId 37 = .ok (.lload_n 1, 1) ∧ decode cX13_withId 38 = .ok (.lcmp, 1) ∧ decode cX13_withId 39 = .ok (.ifCond .ne 5, 3) ∧ decode cX13_withId 42 = .ok (.iload_n 3, 1) ∧ decode cX13_withId 43 = .ok (.ireturn, 1) ∧ decode cX13_withId 44 = .ok (.iinc 3 1, 3) ∧ decode cX13_withId 47 = .ok (.goto (-45), 3) ∧ decode cX13_withId 50 = .ok (.iconst (-1), 1) ∧ decode cX13_withId 51 = .ok (.ireturn, 1) := by decide +kernel
theorem dX13_withId_26 : decode cX13_withId 26 = .ok (.getfield 168, 3) := dX13_withId_26g.1
theorem dX13_withId_29 : decode cX13_withId 29 = .ok (.iload_n 3, 1) := dX13_withId_26g.2.1
theorem dX13_withId_30 : decode cX13_withId 30 = .ok (.iaload, 1) := dX13_withId_26g.2.2.1
theorem dX13_withId_31 : decode cX13_withId 31 = .ok (.ldc2_w 384, 3) := dX13_withId_26g.2.2.2.1
theorem dX13_withId_34 : decode cX13_withId 34 = .ok (.invokevirtual 359, 3) := dX13_withId_26g.2.2.2.2.1
theorem dX13_withId_37 : decode cX13_withId 37 = .ok (.lload_n 1, 1) := dX13_withId_26g.2.2.2.2.2.1
theorem dX13_withId_38 : decode cX13_withId 38 = .ok (.lcmp, 1) := dX13_withId_26g.2.2.2.2.2.2.1
theorem dX13_withId_39 : decode cX13_withId 39 = .ok (.ifCond .ne 5, 3) := dX13_withId_26g.2.2.2.2.2.2.2.1
theorem dX13_withId_42 : decode cX13_withId 42 = .ok (.iload_n 3, 1) := dX13_withId_26g.2.2.2.2.2.2.2.2.1
theorem dX13_withId_43 : decode cX13_withId 43 = .ok (.ireturn, 1) := dX13_withId_26g.2.2.2.2.2.2.2.2.2.1
theorem dX13_withId_44 : decode cX13_withId 44 = .ok (.iinc 3 1, 3) := dX13_withId_26g.2.2.2.2.2.2.2.2.2.2.1
theorem dX13_withId_47 : decode cX13_withId 47 = .ok (.goto (-45), 3) := dX13_withId_26g.2.2.2.2.2.2.2.2.2.2.2.1
theorem dX13_withId_50 : decode cX13_withId 50 = .ok (.iconst (-1), 1) := dX13_withId_26g.2.2.2.2.2.2.2.2.2.2.2.2.1
theorem dX13_withId_51 : decode cX13_withId 51 = .ok (.ireturn, 1) := dX13_withId_26g.2.2.2.2.2.2.2.2.2.2.2.2.2
theorem dX13_parentOf_0g : decode cX13_parentOf 0 = .ok (.aload_n 0, 1) ∧ decode cX13_parentOf 1 = .ok (.aload_n 0, 1) ∧ decode cX13_parentOf 2 = .ok (.getfield 168, 3) ∧ decode cX13_parentOf 5 = .ok (.iload_n 1, 1) ∧ decode cX13_parentOf 6 = .ok (.iaload, 1) ∧ decode cX13_parentOf 7 = .ok (.ldc2_w 388, 3) ∧ decode cX13_parentOf 10 = .ok (.invokevirtual 355, 3) ∧ decode cX13_parentOf 13 = .ok (.ifCond .eq 23, 3) ∧ decode cX13_parentOf 16 = .ok (.aload_n 0, 1) ∧ decode cX13_parentOf 17 = .ok (.aload_n 0, 1) ∧ decode cX13_parentOf 18 = .ok (.aload_n 0, 1) ∧ decode cX13_parentOf 19 = .ok (.getfield 168, 3) ∧ decode cX13_parentOf 22 = .ok (.iload_n 1, 1) ∧ decode cX13_parentOf 23 = .ok (.iaload, 1) ∧ decode cX13_parentOf 24 = .ok (.ldc2_w 388, 3) ∧ decode cX13_parentOf 27 = .ok (.invokevirtual 359, 3) := by decide +kernel
theorem dX13_parentOf_0 : decode cX13_parentOf 0 = .ok (.aload_n 0, 1) := dX13_parentOf_0g.1
theorem dX13_parentOf_1 : decode cX13_parentOf 1 = .ok (.aload_n 0, 1) := dX13_parentOf_0g.2.1
theorem dX13_parentOf_2 : decode cX13_parentOf 2 = .ok (.getfield 168, 3) := dX13_parentOf_0g.2.2.1
theorem dX13_parentOf_5 : decode cX13_parentOf 5 = .ok (.iload_n 1, 1) := dX13_parentOf_0g.2.2.2.1
theorem dX13_parentOf_6 : decode cX13_parentOf 6 = .ok (.iaload, 1) := dX13_parentOf_0g.2.2.2.2.1
theorem dX13_parentOf_7 : decode cX13_parentOf 7 = .ok (.ldc2_w 388, 3) := dX13_parentOf_0g.2.2.2.2.2.1
theorem dX13_parentOf_10 : decode cX13_parentOf 10 = .ok (.invokevirtual 355, 3) := dX13_parentOf_0g.2.2.2.2.2.2.1
theorem dX13_parentOf_13 : decode cX13_parentOf 13 = .ok (.ifCond .eq 23, 3) := dX13_parentOf_0g.2.2.2.2.2.2.2.1
theorem dX13_parentOf_16 : decode cX13_parentOf 16 = .ok (.aload_n 0, 1) := dX13_parentOf_0g.2.2.2.2.2.2.2.2.1
theorem dX13_parentOf_17 : decode cX13_parentOf 17 = .ok (.aload_n 0, 1) := dX13_parentOf_0g.2.2.2.2.2.2.2.2.2.1
theorem dX13_parentOf_18 : decode cX13_parentOf 18 = .ok (.aload_n 0, 1) := dX13_parentOf_0g.2.2.2.2.2.2.2.2.2.2.1
theorem dX13_parentOf_19 : decode cX13_parentOf 19 = .ok (.getfield 168, 3) := dX13_parentOf_0g.2.2.2.2.2.2.2.2.2.2.2.1
theorem dX13_parentOf_22 : decode cX13_parentOf 22 = .ok (.iload_n 1, 1) := dX13_parentOf_0g.2.2.2.2.2.2.2.2.2.2.2.2.1
theorem dX13_parentOf_23 : decode cX13_parentOf 23 = .ok (.iaload, 1) := dX13_parentOf_0g.2.2.2.2.2.2.2.2.2.2.2.2.2.1
theorem dX13_parentOf_24 : decode cX13_parentOf 24 = .ok (.ldc2_w 388, 3) := dX13_parentOf_0g.2.2.2.2.2.2.2.2.2.2.2.2.2.2.1
theorem dX13_parentOf_27 : decode cX13_parentOf 27 = .ok (.invokevirtual 359, 3) := dX13_parentOf_0g.2.2.2.2.2.2.2.2.2.2.2.2.2.2.2
theorem dX13_parentOf_30g : decode cX13_parentOf 30 = .ok (.invokevirtual 442, 3) ∧ decode cX13_parentOf 33 = .ok (.goto 4, 3) ∧ decode cX13_parentOf 36 = .ok (.iconst (-1), 1) ∧ decode cX13_parentOf 37 = .ok (.ireturn, 1) := by decide +kernel
theorem dX13_parentOf_30 : decode cX13_parentOf 30 = .ok (.invokevirtual 442, 3) := dX13_parentOf_30g.1
theorem dX13_parentOf_33 : decode cX13_parentOf 33 = .ok (.goto 4, 3) := dX13_parentOf_30g.2.1
theorem dX13_parentOf_36 : decode cX13_parentOf 36 = .ok (.iconst (-1), 1) := dX13_parentOf_30g.2.2.1
theorem dX13_parentOf_37 : decode cX13_parentOf 37 = .ok (.ireturn, 1) := dX13_parentOf_30g.2.2.2
theorem dX13_isUsed_0g : decode cX13_isUsed 0 = .ok (.iconst 0, 1) ∧ decode cX13_isUsed 1 = .ok (.istore 4, 2) ∧ decode cX13_isUsed 3 = .ok (.iload 4, 2) ∧ decode cX13_isUsed 5 = .ok (.iload_n 1, 1) ∧ decode cX13_isUsed 6 = .ok (.if_icmp .ge 71, 3) ∧ decode cX13_isUsed 9 = .ok (.aload_n 0, 1) ∧ decode cX13_isUsed 10 = .ok (.getfield 132, 3) ∧ decode cX13_isUsed 13 = .ok (.iload 4, 2) ∧ decode cX13_isUsed 15 = .ok (.iaload, 1) ∧ decode cX13_isUsed 16 = .ok (.ifCond .ne 55, 3) ∧ decode cX13_isUsed 19 = .ok (.aload_n 0, 1) ∧ decode cX13_isUsed 20 = .ok (.getfield 126, 3) ∧ decode cX13_isUsed 23 = .ok (.iload 4, 2) ∧ decode cX13_isUsed 25 = .ok (.iaload, 1) ∧ decode cX13_isUsed 26 = .ok (.iconst 3, 1) ∧ decode cX13_isUsed 27 = .ok (.if_icmp .ne 17, 3) := by decide +kernel
theorem dX13_isUsed_0 : decode cX13_isUsed 0 = .ok (.iconst 0, 1) := dX13_isUsed_0g.1
theorem dX13_isUsed_1 : decode cX13_isUsed 1 = .ok (.istore 4, 2) := dX13_isUsed_0g.2.1
theorem dX13_isUsed_3 : decode cX13_isUsed 3 = .ok (.iload 4, 2) := dX13_isUsed_0g.2.2.1
theorem dX13_isUsed_5 : decode cX13_isUsed 5 = .ok (.iload_n 1, 1) := dX13_isUsed_0g.2.2.2.1
theorem dX13_isUsed_6 : decode cX13_isUsed 6 = .ok (.if_icmp .ge 71, 3) := dX13_isUsed_0g.2.2.2.2.1
theorem dX13_isUsed_9 : decode cX13_isUsed 9 = .ok (.aload_n 0, 1) := dX13_isUsed_0g.2.2.2.2.2.1
theorem dX13_isUsed_10 : decode cX13_isUsed 10 = .ok (.getfield 132, 3) := dX13_isUsed_0g.2.2.2.2.2.2.1
theorem dX13_isUsed_13 : decode cX13_isUsed 13 = .ok (.iload 4, 2) := dX13_isUsed_0g.2.2.2.2.2.2.2.1
theorem dX13_isUsed_15 : decode cX13_isUsed 15 = .ok (.iaload, 1) := dX13_isUsed_0g.2.2.2.2.2.2.2.2.1
theorem dX13_isUsed_16 : decode cX13_isUsed 16 = .ok (.ifCond .ne 55, 3) := dX13_isUsed_0g.2.2.2.2.2.2.2.2.2.1
theorem dX13_isUsed_19 : decode cX13_isUsed 19 = .ok (.aload_n 0, 1) := dX13_isUsed_0g.2.2.2.2.2.2.2.2.2.2.1
theorem dX13_isUsed_20 : decode cX13_isUsed 20 = .ok (.getfield 126, 3) := dX13_isUsed_0g.2.2.2.2.2.2.2.2.2.2.2.1
theorem dX13_isUsed_23 : decode cX13_isUsed 23 = .ok (.iload 4, 2) := dX13_isUsed_0g.2.2.2.2.2.2.2.2.2.2.2.2.1
theorem dX13_isUsed_25 : decode cX13_isUsed 25 = .ok (.iaload, 1) := dX13_isUsed_0g.2.2.2.2.2.2.2.2.2.2.2.2.2.1
theorem dX13_isUsed_26 : decode cX13_isUsed 26 = .ok (.iconst 3, 1) := dX13_isUsed_0g.2.2.2.2.2.2.2.2.2.2.2.2.2.2.1
theorem dX13_isUsed_27 : decode cX13_isUsed 27 = .ok (.if_icmp .ne 17, 3) := dX13_isUsed_0g.2.2.2.2.2.2.2.2.2.2.2.2.2.2.2
theorem dX13_isUsed_30g : decode cX13_isUsed 30 = .ok (.aload_n 0, 1) ∧ decode cX13_isUsed 31 = .ok (.iload 4, 2) ∧ decode cX13_isUsed 33 = .ok (.ldc2_w 384, 3) ∧ decode cX13_isUsed 36 = .ok (.invokevirtual 359, 3) ∧ decode cX13_isUsed 39 = .ok (.lload_n 2, 1) ∧ decode cX13_isUsed 40 = .ok (.lcmp, 1) ∧ decode cX13_isUsed 41 = .ok (.ifCond .eq 28, 3) ∧ decode cX13_isUsed 44 = .ok (.aload_n 0, 1) ∧ decode cX13_isUsed 45 = .ok (.getfield 126, 3) ∧ decode cX13_isUsed 48 = .ok (.iload 4, 2) ∧ decode cX13_isUsed 50 = .ok (.iaload, 1) ∧ decode cX13_isUsed 51 = .ok (.iconst 2, 1) ∧ decode cX13_isUsed 52 = .ok (.if_icmp .ne 19, 3) ∧ decode cX13_isUsed 55 = .ok (.aload_n 0, 1) ∧ decode cX13_isUsed 56 = .ok (.iload 4, 2) ∧ decode cX13_isUsed 58 = .ok (.ldc2_w 382, 3) := by decide +kernel
theorem dX13_isUsed_30 : decode cX13_isUsed 30 = .ok (.aload_n 0, 1) := dX13_isUsed_30g.1
theorem dX13_isUsed_31 : decode cX13_isUsed 31 = .ok (.iload 4, 2) := dX13_isUsed_30g.2.1
theorem dX13_isUsed_33 : decode cX13_isUsed 33 = .ok (.ldc2_w 384, 3) := dX13_isUsed_30g.2.2.1
theorem dX13_isUsed_36 : decode cX13_isUsed 36 = .ok (.invokevirtual 359, 3) := dX13_isUsed_30g.2.2.2.1
theorem dX13_isUsed_39 : decode cX13_isUsed 39 = .ok (.lload_n 2, 1) := dX13_isUsed_30g.2.2.2.2.1
theorem dX13_isUsed_40 : decode cX13_isUsed 40 = .ok (.lcmp, 1) := dX13_isUsed_30g.2.2.2.2.2.1
theorem dX13_isUsed_41 : decode cX13_isUsed 41 = .ok (.ifCond .eq 28, 3) := dX13_isUsed_30g.2.2.2.2.2.2.1
theorem dX13_isUsed_44 : decode cX13_isUsed 44 = .ok (.aload_n 0, 1) := dX13_isUsed_30g.2.2.2.2.2.2.2.1
theorem dX13_isUsed_45 : decode cX13_isUsed 45 = .ok (.getfield 126, 3) := dX13_isUsed_30g.2.2.2.2.2.2.2.2.1
theorem dX13_isUsed_48 : decode cX13_isUsed 48 = .ok (.iload 4, 2) := dX13_isUsed_30g.2.2.2.2.2.2.2.2.2.1
theorem dX13_isUsed_50 : decode cX13_isUsed 50 = .ok (.iaload, 1) := dX13_isUsed_30g.2.2.2.2.2.2.2.2.2.2.1
theorem dX13_isUsed_51 : decode cX13_isUsed 51 = .ok (.iconst 2, 1) := dX13_isUsed_30g.2.2.2.2.2.2.2.2.2.2.2.1
theorem dX13_isUsed_52 : decode cX13_isUsed 52 = .ok (.if_icmp .ne 19, 3) := dX13_isUsed_30g.2.2.2.2.2.2.2.2.2.2.2.2.1
theorem dX13_isUsed_55 : decode cX13_isUsed 55 = .ok (.aload_n 0, 1) := dX13_isUsed_30g.2.2.2.2.2.2.2.2.2.2.2.2.2.1
theorem dX13_isUsed_56 : decode cX13_isUsed 56 = .ok (.iload 4, 2) := dX13_isUsed_30g.2.2.2.2.2.2.2.2.2.2.2.2.2.2.1
theorem dX13_isUsed_58 : decode cX13_isUsed 58 = .ok (.ldc2_w 382, 3) := dX13_isUsed_30g.2.2.2.2.2.2.2.2.2.2.2.2.2.2.2
theorem dX13_isUsed_61g : decode cX13_isUsed 61 = .ok (.invokevirtual 359, 3) ∧ decode cX13_isUsed 64 = .ok (.lload_n 2, 1) ∧ decode cX13_isUsed 65 = .ok (.lcmp, 1) ∧ decode cX13_isUsed 66 = .ok (.ifCond .ne 5, 3) ∧ decode cX13_isUsed 69 = .ok (.iconst 1, 1) ∧ decode cX13_isUsed 70 = .ok (.ireturn, 1) ∧ decode cX13_isUsed 71 = .ok (.iinc 4 1, 3) ∧ decode cX13_isUsed 74 = .ok (.goto (-71), 3) ∧ decode cX13_isUsed 77 = .ok (.iconst 0, 1) ∧ decode cX13_isUsed 78 = .ok (.ireturn, 1) := by decide +kernel
theorem dX13_isUsed_61 : decode cX13_isUsed 61 = .ok (.invokevirtual 359, 3) := dX13_isUsed_61g.1
theorem dX13_isUsed_64 : decode cX13_isUsed 64 = .ok (.lload_n 2, 1) := dX13_isUsed_61g.2.1
theorem dX13_isUsed_65 : decode cX13_isUsed 65 = .ok (.lcmp, 1) := dX13_isUsed_61g.2.2.1
theorem dX13_isUsed_66 : decode cX13_isUsed 66 = .ok (.ifCond .ne 5, 3) := dX13_isUsed_61g.2.2.2.1
theorem dX13_isUsed_69 : decode cX13_isUsed 69 = .ok (.iconst 1, 1) := dX13_isUsed_61g.2.2.2.2.1
theorem dX13_isUsed_70 : decode cX13_isUsed 70 = .ok (.ireturn, 1) := dX13_isUsed_61g.2.2.2.2.2.1
theorem dX13_isUsed_71 : decode cX13_isUsed 71 = .ok (.iinc 4 1, 3) := dX13_isUsed_61g.2.2.2.2.2.2.1
theorem dX13_isUsed_74 : decode cX13_isUsed 74 = .ok (.goto (-71), 3) := dX13_isUsed_61g.2.2.2.2.2.2.2.1
theorem dX13_isUsed_77 : decode cX13_isUsed 77 = .ok (.iconst 0, 1) := dX13_isUsed_61g.2.2.2.2.2.2.2.2.1
theorem dX13_isUsed_78 : decode cX13_isUsed 78 = .ok (.ireturn, 1) := dX13_isUsed_61g.2.2.2.2.2.2.2.2.2
theorem dX13_comesToItself_0g : decode cX13_comesToItself 0 = .ok (.aload_n 0, 1) ∧ decode cX13_comesToItself 1 = .ok (.iload_n 1, 1) ∧ decode cX13_comesToItself 2 = .ok (.invokevirtual 445, 3) ∧ decode cX13_comesToItself 5 = .ok (.istore_n 2, 1) ∧ decode cX13_comesToItself 6 = .ok (.iconst 0, 1) ∧ decode cX13_comesToItself 7 = .ok (.istore_n 3, 1) ∧ decode cX13_comesToItself 8 = .ok (.iload_n 3, 1) ∧ decode cX13_comesToItself 9 = .ok (.bipush 80, 2) ∧ decode cX13_comesToItself 11 = .ok (.if_icmp .ge 27, 3) ∧ decode cX13_comesToItself 14 = .ok (.iload_n 2, 1) ∧ decode cX13_comesToItself 15 = .ok (.iconst (-1), 1) ∧ decode cX13_comesToItself 16 = .ok (.if_icmp .eq 22, 3) ∧ decode cX13_comesToItself 19 = .ok (.iload_n 2, 1) ∧ decode cX13_comesToItself 20 = .ok (.iload_n 1, 1) ∧ decode cX13_comesToItself 21 = .ok (.if_icmp .ne 5, 3) ∧ decode cX13_comesToItself 24 = .ok (.iconst 1, 1) := by decide +kernel
theorem dX13_comesToItself_0 : decode cX13_comesToItself 0 = .ok (.aload_n 0, 1) := dX13_comesToItself_0g.1
theorem dX13_comesToItself_1 : decode cX13_comesToItself 1 = .ok (.iload_n 1, 1) := dX13_comesToItself_0g.2.1
theorem dX13_comesToItself_2 : decode cX13_comesToItself 2 = .ok (.invokevirtual 445, 3) := dX13_comesToItself_0g.2.2.1
theorem dX13_comesToItself_5 : decode cX13_comesToItself 5 = .ok (.istore_n 2, 1) := dX13_comesToItself_0g.2.2.2.1
theorem dX13_comesToItself_6 : decode cX13_comesToItself 6 = .ok (.iconst 0, 1) := dX13_comesToItself_0g.2.2.2.2.1
theorem dX13_comesToItself_7 : decode cX13_comesToItself 7 = .ok (.istore_n 3, 1) := dX13_comesToItself_0g.2.2.2.2.2.1
theorem dX13_comesToItself_8 : decode cX13_comesToItself 8 = .ok (.iload_n 3, 1) := dX13_comesToItself_0g.2.2.2.2.2.2.1
theorem dX13_comesToItself_9 : decode cX13_comesToItself 9 = .ok (.bipush 80, 2) := dX13_comesToItself_0g.2.2.2.2.2.2.2.1
theorem dX13_comesToItself_11 : decode cX13_comesToItself 11 = .ok (.if_icmp .ge 27, 3) := dX13_comesToItself_0g.2.2.2.2.2.2.2.2.1
theorem dX13_comesToItself_14 : decode cX13_comesToItself 14 = .ok (.iload_n 2, 1) := dX13_comesToItself_0g.2.2.2.2.2.2.2.2.2.1
theorem dX13_comesToItself_15 : decode cX13_comesToItself 15 = .ok (.iconst (-1), 1) := dX13_comesToItself_0g.2.2.2.2.2.2.2.2.2.2.1
theorem dX13_comesToItself_16 : decode cX13_comesToItself 16 = .ok (.if_icmp .eq 22, 3) := dX13_comesToItself_0g.2.2.2.2.2.2.2.2.2.2.2.1
theorem dX13_comesToItself_19 : decode cX13_comesToItself 19 = .ok (.iload_n 2, 1) := dX13_comesToItself_0g.2.2.2.2.2.2.2.2.2.2.2.2.1
theorem dX13_comesToItself_20 : decode cX13_comesToItself 20 = .ok (.iload_n 1, 1) := dX13_comesToItself_0g.2.2.2.2.2.2.2.2.2.2.2.2.2.1
theorem dX13_comesToItself_21 : decode cX13_comesToItself 21 = .ok (.if_icmp .ne 5, 3) := dX13_comesToItself_0g.2.2.2.2.2.2.2.2.2.2.2.2.2.2.1
theorem dX13_comesToItself_24 : decode cX13_comesToItself 24 = .ok (.iconst 1, 1) := dX13_comesToItself_0g.2.2.2.2.2.2.2.2.2.2.2.2.2.2.2
theorem dX13_comesToItself_25g : decode cX13_comesToItself 25 = .ok (.ireturn, 1) ∧ decode cX13_comesToItself 26 = .ok (.aload_n 0, 1) ∧ decode cX13_comesToItself 27 = .ok (.iload_n 2, 1) ∧ decode cX13_comesToItself 28 = .ok (.invokevirtual 445, 3) ∧ decode cX13_comesToItself 31 = .ok (.istore_n 2, 1) ∧ decode cX13_comesToItself 32 = .ok (.iinc 3 1, 3) ∧ decode cX13_comesToItself 35 = .ok (.goto (-27), 3) ∧ decode cX13_comesToItself 38 = .ok (.iconst 0, 1) ∧ decode cX13_comesToItself 39 = .ok (.ireturn, 1) := by decide +kernel
theorem dX13_comesToItself_25 : decode cX13_comesToItself 25 = .ok (.ireturn, 1) := dX13_comesToItself_25g.1
theorem dX13_comesToItself_26 : decode cX13_comesToItself 26 = .ok (.aload_n 0, 1) := dX13_comesToItself_25g.2.1
theorem dX13_comesToItself_27 : decode cX13_comesToItself 27 = .ok (.iload_n 2, 1) := dX13_comesToItself_25g.2.2.1
theorem dX13_comesToItself_28 : decode cX13_comesToItself 28 = .ok (.invokevirtual 445, 3) := dX13_comesToItself_25g.2.2.2.1
theorem dX13_comesToItself_31 : decode cX13_comesToItself 31 = .ok (.istore_n 2, 1) := dX13_comesToItself_25g.2.2.2.2.1
theorem dX13_comesToItself_32 : decode cX13_comesToItself 32 = .ok (.iinc 3 1, 3) := dX13_comesToItself_25g.2.2.2.2.2.1
theorem dX13_comesToItself_35 : decode cX13_comesToItself 35 = .ok (.goto (-27), 3) := dX13_comesToItself_25g.2.2.2.2.2.2.1
theorem dX13_comesToItself_38 : decode cX13_comesToItself 38 = .ok (.iconst 0, 1) := dX13_comesToItself_25g.2.2.2.2.2.2.2.1
theorem dX13_comesToItself_39 : decode cX13_comesToItself 39 = .ok (.ireturn, 1) := dX13_comesToItself_25g.2.2.2.2.2.2.2.2
theorem dX13_badBeans_0g : decode cX13_badBeans 0 = .ok (.iconst 1, 1) ∧ decode cX13_badBeans 1 = .ok (.istore_n 1, 1) ∧ decode cX13_badBeans 2 = .ok (.iload_n 1, 1) ∧ decode cX13_badBeans 3 = .ok (.aload_n 0, 1) ∧ decode cX13_badBeans 4 = .ok (.getfield 329, 3) ∧ decode cX13_badBeans 7 = .ok (.if_icmp .ge 125, 3) ∧ decode cX13_badBeans 10 = .ok (.aload_n 0, 1) ∧ decode cX13_badBeans 11 = .ok (.getfield 132, 3) ∧ decode cX13_badBeans 14 = .ok (.iload_n 1, 1) ∧ decode cX13_badBeans 15 = .ok (.iaload, 1) ∧ decode cX13_badBeans 16 = .ok (.ifCond .ne 44, 3) ∧ decode cX13_badBeans 19 = .ok (.aload_n 0, 1) ∧ decode cX13_badBeans 20 = .ok (.iload_n 1, 1) ∧ decode cX13_badBeans 21 = .ok (.aload_n 0, 1) ∧ decode cX13_badBeans 22 = .ok (.getfield 126, 3) ∧ decode cX13_badBeans 25 = .ok (.iload_n 1, 1) := by decide +kernel
theorem dX13_badBeans_0 : decode cX13_badBeans 0 = .ok (.iconst 1, 1) := dX13_badBeans_0g.1
theorem dX13_badBeans_1 : decode cX13_badBeans 1 = .ok (.istore_n 1, 1) := dX13_badBeans_0g.2.1
theorem dX13_badBeans_2 : decode cX13_badBeans 2 = .ok (.iload_n 1, 1) := dX13_badBeans_0g.2.2.1
theorem dX13_badBeans_3 : decode cX13_badBeans 3 = .ok (.aload_n 0, 1) := dX13_badBeans_0g.2.2.2.1
theorem dX13_badBeans_4 : decode cX13_badBeans 4 = .ok (.getfield 329, 3) := dX13_badBeans_0g.2.2.2.2.1
theorem dX13_badBeans_7 : decode cX13_badBeans 7 = .ok (.if_icmp .ge 125, 3) := dX13_badBeans_0g.2.2.2.2.2.1
theorem dX13_badBeans_10 : decode cX13_badBeans 10 = .ok (.aload_n 0, 1) := dX13_badBeans_0g.2.2.2.2.2.2.1
theorem dX13_badBeans_11 : decode cX13_badBeans 11 = .ok (.getfield 132, 3) := dX13_badBeans_0g.2.2.2.2.2.2.2.1
theorem dX13_badBeans_14 : decode cX13_badBeans 14 = .ok (.iload_n 1, 1) := dX13_badBeans_0g.2.2.2.2.2.2.2.2.1
theorem dX13_badBeans_15 : decode cX13_badBeans 15 = .ok (.iaload, 1) := dX13_badBeans_0g.2.2.2.2.2.2.2.2.2.1
theorem dX13_badBeans_16 : decode cX13_badBeans 16 = .ok (.ifCond .ne 44, 3) := dX13_badBeans_0g.2.2.2.2.2.2.2.2.2.2.1
theorem dX13_badBeans_19 : decode cX13_badBeans 19 = .ok (.aload_n 0, 1) := dX13_badBeans_0g.2.2.2.2.2.2.2.2.2.2.2.1
theorem dX13_badBeans_20 : decode cX13_badBeans 20 = .ok (.iload_n 1, 1) := dX13_badBeans_0g.2.2.2.2.2.2.2.2.2.2.2.2.1
theorem dX13_badBeans_21 : decode cX13_badBeans 21 = .ok (.aload_n 0, 1) := dX13_badBeans_0g.2.2.2.2.2.2.2.2.2.2.2.2.2.1
theorem dX13_badBeans_22 : decode cX13_badBeans 22 = .ok (.getfield 126, 3) := dX13_badBeans_0g.2.2.2.2.2.2.2.2.2.2.2.2.2.2.1
theorem dX13_badBeans_25 : decode cX13_badBeans 25 = .ok (.iload_n 1, 1) := dX13_badBeans_0g.2.2.2.2.2.2.2.2.2.2.2.2.2.2.2
theorem dX13_badBeans_26g : decode cX13_badBeans 26 = .ok (.iaload, 1) ∧ decode cX13_badBeans 27 = .ok (.iconst 3, 1) ∧ decode cX13_badBeans 28 = .ok (.if_icmp .ne 14, 3) ∧ decode cX13_badBeans 31 = .ok (.aload_n 0, 1) ∧ decode cX13_badBeans 32 = .ok (.iload_n 1, 1) ∧ decode cX13_badBeans 33 = .ok (.ldc2_w 384, 3) ∧ decode cX13_badBeans 36 = .ok (.invokevirtual 359, 3) ∧ decode cX13_badBeans 39 = .ok (.goto 11, 3) ∧ decode cX13_badBeans 42 = .ok (.aload_n 0, 1) ∧ decode cX13_badBeans 43 = .ok (.iload_n 1, 1) ∧ decode cX13_badBeans 44 = .ok (.ldc2_w 382, 3) ∧ decode cX13_badBeans 47 = .ok (.invokevirtual 359, 3) ∧ decode cX13_badBeans 50 = .ok (.invokevirtual 448, 3) ∧ decode cX13_badBeans 53 = .ok (.ifCond .eq 7, 3) ∧ decode cX13_badBeans 56 = .ok (.iconst 1, 1) ∧ decode cX13_badBeans 57 = .ok (.goto 4, 3) := by decide +kernel
theorem dX13_badBeans_26 : decode cX13_badBeans 26 = .ok (.iaload, 1) := dX13_badBeans_26g.1
theorem dX13_badBeans_27 : decode cX13_badBeans 27 = .ok (.iconst 3, 1) := dX13_badBeans_26g.2.1
theorem dX13_badBeans_28 : decode cX13_badBeans 28 = .ok (.if_icmp .ne 14, 3) := dX13_badBeans_26g.2.2.1
theorem dX13_badBeans_31 : decode cX13_badBeans 31 = .ok (.aload_n 0, 1) := dX13_badBeans_26g.2.2.2.1
theorem dX13_badBeans_32 : decode cX13_badBeans 32 = .ok (.iload_n 1, 1) := dX13_badBeans_26g.2.2.2.2.1
theorem dX13_badBeans_33 : decode cX13_badBeans 33 = .ok (.ldc2_w 384, 3) := dX13_badBeans_26g.2.2.2.2.2.1
theorem dX13_badBeans_36 : decode cX13_badBeans 36 = .ok (.invokevirtual 359, 3) := dX13_badBeans_26g.2.2.2.2.2.2.1
theorem dX13_badBeans_39 : decode cX13_badBeans 39 = .ok (.goto 11, 3) := dX13_badBeans_26g.2.2.2.2.2.2.2.1
theorem dX13_badBeans_42 : decode cX13_badBeans 42 = .ok (.aload_n 0, 1) := dX13_badBeans_26g.2.2.2.2.2.2.2.2.1
theorem dX13_badBeans_43 : decode cX13_badBeans 43 = .ok (.iload_n 1, 1) := dX13_badBeans_26g.2.2.2.2.2.2.2.2.2.1
theorem dX13_badBeans_44 : decode cX13_badBeans 44 = .ok (.ldc2_w 382, 3) := dX13_badBeans_26g.2.2.2.2.2.2.2.2.2.2.1
theorem dX13_badBeans_47 : decode cX13_badBeans 47 = .ok (.invokevirtual 359, 3) := dX13_badBeans_26g.2.2.2.2.2.2.2.2.2.2.2.1
theorem dX13_badBeans_50 : decode cX13_badBeans 50 = .ok (.invokevirtual 448, 3) := dX13_badBeans_26g.2.2.2.2.2.2.2.2.2.2.2.2.1
theorem dX13_badBeans_53 : decode cX13_badBeans 53 = .ok (.ifCond .eq 7, 3) := dX13_badBeans_26g.2.2.2.2.2.2.2.2.2.2.2.2.2.1
theorem dX13_badBeans_56 : decode cX13_badBeans 56 = .ok (.iconst 1, 1) := dX13_badBeans_26g.2.2.2.2.2.2.2.2.2.2.2.2.2.2.1
theorem dX13_badBeans_57 : decode cX13_badBeans 57 = .ok (.goto 4, 3) := dX13_badBeans_26g.2.2.2.2.2.2.2.2.2.2.2.2.2.2.2
theorem dX13_badBeans_60g : decode cX13_badBeans 60 = .ok (.iconst 0, 1) ∧ decode cX13_badBeans 61 = .ok (.istore_n 2, 1) ∧ decode cX13_badBeans 62 = .ok (.aload_n 0, 1) ∧ decode cX13_badBeans 63 = .ok (.getfield 126, 3) ∧ decode cX13_badBeans 66 = .ok (.iload_n 1, 1) ∧ decode cX13_badBeans 67 = .ok (.iaload, 1) ∧ decode cX13_badBeans 68 = .ok (.iconst 3, 1) ∧ decode cX13_badBeans 69 = .ok (.if_icmp .ne 45, 3) ∧ decode cX13_badBeans 72 = .ok (.aload_n 0, 1) ∧ decode cX13_badBeans 73 = .ok (.iload_n 1, 1) ∧ decode cX13_badBeans 74 = .ok (.ldc2_w 388, 3) ∧ decode cX13_badBeans 77 = .ok (.invokevirtual 355, 3) ∧ decode cX13_badBeans 80 = .ok (.ifCond .eq 34, 3) ∧ decode cX13_badBeans 83 = .ok (.aload_n 0, 1) ∧ decode cX13_badBeans 84 = .ok (.aload_n 0, 1) ∧ decode cX13_badBeans 85 = .ok (.getfield 171, 3) := by decide +kernel
theorem dX13_badBeans_60 : decode cX13_badBeans 60 = .ok (.iconst 0, 1) := dX13_badBeans_60g.1
theorem dX13_badBeans_61 : decode cX13_badBeans 61 = .ok (.istore_n 2, 1) := dX13_badBeans_60g.2.1
theorem dX13_badBeans_62 : decode cX13_badBeans 62 = .ok (.aload_n 0, 1) := dX13_badBeans_60g.2.2.1
theorem dX13_badBeans_63 : decode cX13_badBeans 63 = .ok (.getfield 126, 3) := dX13_badBeans_60g.2.2.2.1
theorem dX13_badBeans_66 : decode cX13_badBeans 66 = .ok (.iload_n 1, 1) := dX13_badBeans_60g.2.2.2.2.1
theorem dX13_badBeans_67 : decode cX13_badBeans 67 = .ok (.iaload, 1) := dX13_badBeans_60g.2.2.2.2.2.1
theorem dX13_badBeans_68 : decode cX13_badBeans 68 = .ok (.iconst 3, 1) := dX13_badBeans_60g.2.2.2.2.2.2.1
theorem dX13_badBeans_69 : decode cX13_badBeans 69 = .ok (.if_icmp .ne 45, 3) := dX13_badBeans_60g.2.2.2.2.2.2.2.1
theorem dX13_badBeans_72 : decode cX13_badBeans 72 = .ok (.aload_n 0, 1) := dX13_badBeans_60g.2.2.2.2.2.2.2.2.1
theorem dX13_badBeans_73 : decode cX13_badBeans 73 = .ok (.iload_n 1, 1) := dX13_badBeans_60g.2.2.2.2.2.2.2.2.2.1
theorem dX13_badBeans_74 : decode cX13_badBeans 74 = .ok (.ldc2_w 388, 3) := dX13_badBeans_60g.2.2.2.2.2.2.2.2.2.2.1
theorem dX13_badBeans_77 : decode cX13_badBeans 77 = .ok (.invokevirtual 355, 3) := dX13_badBeans_60g.2.2.2.2.2.2.2.2.2.2.2.1
theorem dX13_badBeans_80 : decode cX13_badBeans 80 = .ok (.ifCond .eq 34, 3) := dX13_badBeans_60g.2.2.2.2.2.2.2.2.2.2.2.2.1
theorem dX13_badBeans_83 : decode cX13_badBeans 83 = .ok (.aload_n 0, 1) := dX13_badBeans_60g.2.2.2.2.2.2.2.2.2.2.2.2.2.1
theorem dX13_badBeans_84 : decode cX13_badBeans 84 = .ok (.aload_n 0, 1) := dX13_badBeans_60g.2.2.2.2.2.2.2.2.2.2.2.2.2.2.1
theorem dX13_badBeans_85 : decode cX13_badBeans 85 = .ok (.getfield 171, 3) := dX13_badBeans_60g.2.2.2.2.2.2.2.2.2.2.2.2.2.2.2
theorem dX13_badBeans_88g : decode cX13_badBeans 88 = .ok (.iload_n 1, 1) ∧ decode cX13_badBeans 89 = .ok (.iaload, 1) ∧ decode cX13_badBeans 90 = .ok (.invokevirtual 445, 3) ∧ decode cX13_badBeans 93 = .ok (.iconst (-1), 1) ∧ decode cX13_badBeans 94 = .ok (.if_icmp .eq 16, 3) ∧ decode cX13_badBeans 97 = .ok (.aload_n 0, 1) ∧ decode cX13_badBeans 98 = .ok (.aload_n 0, 1) ∧ decode cX13_badBeans 99 = .ok (.getfield 171, 3) ∧ decode cX13_badBeans 102 = .ok (.iload_n 1, 1) ∧ decode cX13_badBeans 103 = .ok (.iaload, 1) ∧ decode cX13_badBeans 104 = .ok (.invokevirtual 451, 3) ∧ decode cX13_badBeans 107 = .ok (.ifCond .eq 7, 3) ∧ decode cX13_badBeans 110 = .ok (.iconst 1, 1) ∧ decode cX13_badBeans 111 = .ok (.goto 4, 3) ∧ decode cX13_badBeans 114 = .ok (.iconst 0, 1) ∧ decode cX13_badBeans 115 = .ok (.istore_n 3, 1) := by decide +kernel
theorem dX13_badBeans_88 : decode cX13_badBeans 88 = .ok (.iload_n 1, 1) := dX13_badBeans_88g.1
theorem dX13_badBeans_89 : decode cX13_badBeans 89 = .ok (.iaload, 1) := dX13_badBeans_88g.2.1
theorem dX13_badBeans_90 : decode cX13_badBeans 90 = .ok (.invokevirtual 445, 3) := dX13_badBeans_88g.2.2.1
theorem dX13_badBeans_93 : decode cX13_badBeans 93 = .ok (.iconst (-1), 1) := dX13_badBeans_88g.2.2.2.1
theorem dX13_badBeans_94 : decode cX13_badBeans 94 = .ok (.if_icmp .eq 16, 3) := dX13_badBeans_88g.2.2.2.2.1
theorem dX13_badBeans_97 : decode cX13_badBeans 97 = .ok (.aload_n 0, 1) := dX13_badBeans_88g.2.2.2.2.2.1
theorem dX13_badBeans_98 : decode cX13_badBeans 98 = .ok (.aload_n 0, 1) := dX13_badBeans_88g.2.2.2.2.2.2.1
theorem dX13_badBeans_99 : decode cX13_badBeans 99 = .ok (.getfield 171, 3) := dX13_badBeans_88g.2.2.2.2.2.2.2.1
theorem dX13_badBeans_102 : decode cX13_badBeans 102 = .ok (.iload_n 1, 1) := dX13_badBeans_88g.2.2.2.2.2.2.2.2.1
theorem dX13_badBeans_103 : decode cX13_badBeans 103 = .ok (.iaload, 1) := dX13_badBeans_88g.2.2.2.2.2.2.2.2.2.1
theorem dX13_badBeans_104 : decode cX13_badBeans 104 = .ok (.invokevirtual 451, 3) := dX13_badBeans_88g.2.2.2.2.2.2.2.2.2.2.1
theorem dX13_badBeans_107 : decode cX13_badBeans 107 = .ok (.ifCond .eq 7, 3) := dX13_badBeans_88g.2.2.2.2.2.2.2.2.2.2.2.1
theorem dX13_badBeans_110 : decode cX13_badBeans 110 = .ok (.iconst 1, 1) := dX13_badBeans_88g.2.2.2.2.2.2.2.2.2.2.2.2.1
theorem dX13_badBeans_111 : decode cX13_badBeans 111 = .ok (.goto 4, 3) := dX13_badBeans_88g.2.2.2.2.2.2.2.2.2.2.2.2.2.1
theorem dX13_badBeans_114 : decode cX13_badBeans 114 = .ok (.iconst 0, 1) := dX13_badBeans_88g.2.2.2.2.2.2.2.2.2.2.2.2.2.2.1
theorem dX13_badBeans_115 : decode cX13_badBeans 115 = .ok (.istore_n 3, 1) := dX13_badBeans_88g.2.2.2.2.2.2.2.2.2.2.2.2.2.2.2
theorem dX13_badBeans_116g : decode cX13_badBeans 116 = .ok (.iload_n 2, 1) ∧ decode cX13_badBeans 117 = .ok (.ifCond .ne 7, 3) ∧ decode cX13_badBeans 120 = .ok (.iload_n 3, 1) ∧ decode cX13_badBeans 121 = .ok (.ifCond .eq 5, 3) ∧ decode cX13_badBeans 124 = .ok (.iload_n 1, 1) ∧ decode cX13_badBeans 125 = .ok (.ireturn, 1) ∧ decode cX13_badBeans 126 = .ok (.iinc 1 1, 3) ∧ decode cX13_badBeans 129 = .ok (.goto (-127), 3) ∧ decode cX13_badBeans 132 = .ok (.iconst (-1), 1) ∧ decode cX13_badBeans 133 = .ok (.ireturn, 1) := by decide +kernel
theorem dX13_badBeans_116 : decode cX13_badBeans 116 = .ok (.iload_n 2, 1) := dX13_badBeans_116g.1
theorem dX13_badBeans_117 : decode cX13_badBeans 117 = .ok (.ifCond .ne 7, 3) := dX13_badBeans_116g.2.1
theorem dX13_badBeans_120 : decode cX13_badBeans 120 = .ok (.iload_n 3, 1) := dX13_badBeans_116g.2.2.1
theorem dX13_badBeans_121 : decode cX13_badBeans 121 = .ok (.ifCond .eq 5, 3) := dX13_badBeans_116g.2.2.2.1
theorem dX13_badBeans_124 : decode cX13_badBeans 124 = .ok (.iload_n 1, 1) := dX13_badBeans_116g.2.2.2.2.1
theorem dX13_badBeans_125 : decode cX13_badBeans 125 = .ok (.ireturn, 1) := dX13_badBeans_116g.2.2.2.2.2.1
theorem dX13_badBeans_126 : decode cX13_badBeans 126 = .ok (.iinc 1 1, 3) := dX13_badBeans_116g.2.2.2.2.2.2.1
theorem dX13_badBeans_129 : decode cX13_badBeans 129 = .ok (.goto (-127), 3) := dX13_badBeans_116g.2.2.2.2.2.2.2.1
theorem dX13_badBeans_132 : decode cX13_badBeans 132 = .ok (.iconst (-1), 1) := dX13_badBeans_116g.2.2.2.2.2.2.2.2.1
theorem dX13_badBeans_133 : decode cX13_badBeans 133 = .ok (.ireturn, 1) := dX13_badBeans_116g.2.2.2.2.2.2.2.2.2
theorem dX13_tells_0g : decode cX13_tells 0 = .ok (.iload_n 1, 1) ∧ decode cX13_tells 1 = .ok (.istore 4, 2) ∧ decode cX13_tells 3 = .ok (.iload 4, 2) ∧ decode cX13_tells 5 = .ok (.iconst (-1), 1) ∧ decode cX13_tells 6 = .ok (.if_icmp .eq 37, 3) ∧ decode cX13_tells 9 = .ok (.aload_n 0, 1) ∧ decode cX13_tells 10 = .ok (.aload_n 0, 1) ∧ decode cX13_tells 11 = .ok (.getfield 168, 3) ∧ decode cX13_tells 14 = .ok (.iload 4, 2) ∧ decode cX13_tells 16 = .ok (.iaload, 1) ∧ decode cX13_tells 17 = .ok (.lload_n 2, 1) ∧ decode cX13_tells 18 = .ok (.invokevirtual 355, 3) ∧ decode cX13_tells 21 = .ok (.ifCond .eq 11, 3) ∧ decode cX13_tells 24 = .ok (.aload_n 0, 1) ∧ decode cX13_tells 25 = .ok (.getfield 168, 3) ∧ decode cX13_tells 28 = .ok (.iload 4, 2) := by decide +kernel
theorem dX13_tells_0 : decode cX13_tells 0 = .ok (.iload_n 1, 1) := dX13_tells_0g.1
theorem dX13_tells_1 : decode cX13_tells 1 = .ok (.istore 4, 2) := dX13_tells_0g.2.1
theorem dX13_tells_3 : decode cX13_tells 3 = .ok (.iload 4, 2) := dX13_tells_0g.2.2.1
theorem dX13_tells_5 : decode cX13_tells 5 = .ok (.iconst (-1), 1) := dX13_tells_0g.2.2.2.1
theorem dX13_tells_6 : decode cX13_tells 6 = .ok (.if_icmp .eq 37, 3) := dX13_tells_0g.2.2.2.2.1
theorem dX13_tells_9 : decode cX13_tells 9 = .ok (.aload_n 0, 1) := dX13_tells_0g.2.2.2.2.2.1
theorem dX13_tells_10 : decode cX13_tells 10 = .ok (.aload_n 0, 1) := dX13_tells_0g.2.2.2.2.2.2.1
theorem dX13_tells_11 : decode cX13_tells 11 = .ok (.getfield 168, 3) := dX13_tells_0g.2.2.2.2.2.2.2.1
theorem dX13_tells_14 : decode cX13_tells 14 = .ok (.iload 4, 2) := dX13_tells_0g.2.2.2.2.2.2.2.2.1
theorem dX13_tells_16 : decode cX13_tells 16 = .ok (.iaload, 1) := dX13_tells_0g.2.2.2.2.2.2.2.2.2.1
theorem dX13_tells_17 : decode cX13_tells 17 = .ok (.lload_n 2, 1) := dX13_tells_0g.2.2.2.2.2.2.2.2.2.2.1
theorem dX13_tells_18 : decode cX13_tells 18 = .ok (.invokevirtual 355, 3) := dX13_tells_0g.2.2.2.2.2.2.2.2.2.2.2.1
theorem dX13_tells_21 : decode cX13_tells 21 = .ok (.ifCond .eq 11, 3) := dX13_tells_0g.2.2.2.2.2.2.2.2.2.2.2.2.1
theorem dX13_tells_24 : decode cX13_tells 24 = .ok (.aload_n 0, 1) := dX13_tells_0g.2.2.2.2.2.2.2.2.2.2.2.2.2.1
theorem dX13_tells_25 : decode cX13_tells 25 = .ok (.getfield 168, 3) := dX13_tells_0g.2.2.2.2.2.2.2.2.2.2.2.2.2.2.1
theorem dX13_tells_28 : decode cX13_tells 28 = .ok (.iload 4, 2) := dX13_tells_0g.2.2.2.2.2.2.2.2.2.2.2.2.2.2.2
theorem dX13_tells_30g : decode cX13_tells 30 = .ok (.iaload, 1) ∧ decode cX13_tells 31 = .ok (.ireturn, 1) ∧ decode cX13_tells 32 = .ok (.aload_n 0, 1) ∧ decode cX13_tells 33 = .ok (.iload 4, 2) ∧ decode cX13_tells 35 = .ok (.invokevirtual 445, 3) ∧ decode cX13_tells 38 = .ok (.istore 4, 2) ∧ decode cX13_tells 40 = .ok (.goto (-37), 3) ∧ decode cX13_tells 43 = .ok (.iconst (-1), 1) ∧ decode cX13_tells 44 = .ok (.ireturn, 1) := by decide +kernel
theorem dX13_tells_30 : decode cX13_tells 30 = .ok (.iaload, 1) := dX13_tells_30g.1
theorem dX13_tells_31 : decode cX13_tells 31 = .ok (.ireturn, 1) := dX13_tells_30g.2.1
theorem dX13_tells_32 : decode cX13_tells 32 = .ok (.aload_n 0, 1) := dX13_tells_30g.2.2.1
theorem dX13_tells_33 : decode cX13_tells 33 = .ok (.iload 4, 2) := dX13_tells_30g.2.2.2.1
theorem dX13_tells_35 : decode cX13_tells 35 = .ok (.invokevirtual 445, 3) := dX13_tells_30g.2.2.2.2.1
theorem dX13_tells_38 : decode cX13_tells 38 = .ok (.istore 4, 2) := dX13_tells_30g.2.2.2.2.2.1
theorem dX13_tells_40 : decode cX13_tells 40 = .ok (.goto (-37), 3) := dX13_tells_30g.2.2.2.2.2.2.1
theorem dX13_tells_43 : decode cX13_tells 43 = .ok (.iconst (-1), 1) := dX13_tells_30g.2.2.2.2.2.2.2.1
theorem dX13_tells_44 : decode cX13_tells 44 = .ok (.ireturn, 1) := dX13_tells_30g.2.2.2.2.2.2.2.2
theorem dX13_letter_0g : decode cX13_letter 0 = .ok (.aload_n 0, 1) ∧ decode cX13_letter 1 = .ok (.iload_n 1, 1) ∧ decode cX13_letter 2 = .ok (.lload_n 2, 1) ∧ decode cX13_letter 3 = .ok (.invokevirtual 454, 3) ∧ decode cX13_letter 6 = .ok (.istore 4, 2) ∧ decode cX13_letter 8 = .ok (.iload 4, 2) ∧ decode cX13_letter 10 = .ok (.iconst (-1), 1) ∧ decode cX13_letter 11 = .ok (.if_icmp .ne 7, 3) ∧ decode cX13_letter 14 = .ok (.iconst (-1), 1) ∧ decode cX13_letter 15 = .ok (.goto 14, 3) ∧ decode cX13_letter 18 = .ok (.aload_n 0, 1) ∧ decode cX13_letter 19 = .ok (.iload 4, 2) ∧ decode cX13_letter 21 = .ok (.lload_n 2, 1) ∧ decode cX13_letter 22 = .ok (.invokevirtual 359, 3) ∧ decode cX13_letter 25 = .ok (.l2i, 1) ∧ decode cX13_letter 26 = .ok (.bipush 97, 2) := by decide +kernel
theorem dX13_letter_0 : decode cX13_letter 0 = .ok (.aload_n 0, 1) := dX13_letter_0g.1
theorem dX13_letter_1 : decode cX13_letter 1 = .ok (.iload_n 1, 1) := dX13_letter_0g.2.1
theorem dX13_letter_2 : decode cX13_letter 2 = .ok (.lload_n 2, 1) := dX13_letter_0g.2.2.1
theorem dX13_letter_3 : decode cX13_letter 3 = .ok (.invokevirtual 454, 3) := dX13_letter_0g.2.2.2.1
theorem dX13_letter_6 : decode cX13_letter 6 = .ok (.istore 4, 2) := dX13_letter_0g.2.2.2.2.1
theorem dX13_letter_8 : decode cX13_letter 8 = .ok (.iload 4, 2) := dX13_letter_0g.2.2.2.2.2.1
theorem dX13_letter_10 : decode cX13_letter 10 = .ok (.iconst (-1), 1) := dX13_letter_0g.2.2.2.2.2.2.1
theorem dX13_letter_11 : decode cX13_letter 11 = .ok (.if_icmp .ne 7, 3) := dX13_letter_0g.2.2.2.2.2.2.2.1
theorem dX13_letter_14 : decode cX13_letter 14 = .ok (.iconst (-1), 1) := dX13_letter_0g.2.2.2.2.2.2.2.2.1
theorem dX13_letter_15 : decode cX13_letter 15 = .ok (.goto 14, 3) := dX13_letter_0g.2.2.2.2.2.2.2.2.2.1
theorem dX13_letter_18 : decode cX13_letter 18 = .ok (.aload_n 0, 1) := dX13_letter_0g.2.2.2.2.2.2.2.2.2.2.1
theorem dX13_letter_19 : decode cX13_letter 19 = .ok (.iload 4, 2) := dX13_letter_0g.2.2.2.2.2.2.2.2.2.2.2.1
theorem dX13_letter_21 : decode cX13_letter 21 = .ok (.lload_n 2, 1) := dX13_letter_0g.2.2.2.2.2.2.2.2.2.2.2.2.1
theorem dX13_letter_22 : decode cX13_letter 22 = .ok (.invokevirtual 359, 3) := dX13_letter_0g.2.2.2.2.2.2.2.2.2.2.2.2.2.1
theorem dX13_letter_25 : decode cX13_letter 25 = .ok (.l2i, 1) := dX13_letter_0g.2.2.2.2.2.2.2.2.2.2.2.2.2.2.1
theorem dX13_letter_26 : decode cX13_letter 26 = .ok (.bipush 97, 2) := dX13_letter_0g.2.2.2.2.2.2.2.2.2.2.2.2.2.2.2
theorem dX13_letter_28 : decode cX13_letter 28 = .ok (.isub, 1) := by decide +kernel
theorem dX13_letter_29 : decode cX13_letter 29 = .ok (.ireturn, 1) := by decide +kernel
theorem dX13_classOf_0g : decode cX13_classOf 0 = .ok (.aload_n 0, 1) ∧ decode cX13_classOf 1 = .ok (.iload_n 1, 1) ∧ decode cX13_classOf 2 = .ok (.ldc2_w 386, 3) ∧ decode cX13_classOf 5 = .ok (.invokevirtual 454, 3) ∧ decode cX13_classOf 8 = .ok (.istore_n 2, 1) ∧ decode cX13_classOf 9 = .ok (.iload_n 2, 1) ∧ decode cX13_classOf 10 = .ok (.iconst (-1), 1) ∧ decode cX13_classOf 11 = .ok (.if_icmp .ne 7, 3) ∧ decode cX13_classOf 14 = .ok (.iconst (-1), 1) ∧ decode cX13_classOf 15 = .ok (.goto 14, 3) ∧ decode cX13_classOf 18 = .ok (.aload_n 0, 1) ∧ decode cX13_classOf 19 = .ok (.iload_n 2, 1) ∧ decode cX13_classOf 20 = .ok (.ldc2_w 386, 3) ∧ decode cX13_classOf 23 = .ok (.invokevirtual 359, 3) ∧ decode cX13_classOf 26 = .ok (.invokestatic 376, 3) ∧ decode cX13_classOf 29 = .ok (.ireturn, 1) := by decide +kernel
theorem dX13_classOf_0 : decode cX13_classOf 0 = .ok (.aload_n 0, 1) := dX13_classOf_0g.1
theorem dX13_classOf_1 : decode cX13_classOf 1 = .ok (.iload_n 1, 1) := dX13_classOf_0g.2.1
theorem dX13_classOf_2 : decode cX13_classOf 2 = .ok (.ldc2_w 386, 3) := dX13_classOf_0g.2.2.1
theorem dX13_classOf_5 : decode cX13_classOf 5 = .ok (.invokevirtual 454, 3) := dX13_classOf_0g.2.2.2.1
theorem dX13_classOf_8 : decode cX13_classOf 8 = .ok (.istore_n 2, 1) := dX13_classOf_0g.2.2.2.2.1
theorem dX13_classOf_9 : decode cX13_classOf 9 = .ok (.iload_n 2, 1) := dX13_classOf_0g.2.2.2.2.2.1
theorem dX13_classOf_10 : decode cX13_classOf 10 = .ok (.iconst (-1), 1) := dX13_classOf_0g.2.2.2.2.2.2.1
theorem dX13_classOf_11 : decode cX13_classOf 11 = .ok (.if_icmp .ne 7, 3) := dX13_classOf_0g.2.2.2.2.2.2.2.1
theorem dX13_classOf_14 : decode cX13_classOf 14 = .ok (.iconst (-1), 1) := dX13_classOf_0g.2.2.2.2.2.2.2.2.1
theorem dX13_classOf_15 : decode cX13_classOf 15 = .ok (.goto 14, 3) := dX13_classOf_0g.2.2.2.2.2.2.2.2.2.1
theorem dX13_classOf_18 : decode cX13_classOf 18 = .ok (.aload_n 0, 1) := dX13_classOf_0g.2.2.2.2.2.2.2.2.2.2.1
theorem dX13_classOf_19 : decode cX13_classOf 19 = .ok (.iload_n 2, 1) := dX13_classOf_0g.2.2.2.2.2.2.2.2.2.2.2.1
theorem dX13_classOf_20 : decode cX13_classOf 20 = .ok (.ldc2_w 386, 3) := dX13_classOf_0g.2.2.2.2.2.2.2.2.2.2.2.2.1
theorem dX13_classOf_23 : decode cX13_classOf 23 = .ok (.invokevirtual 359, 3) := dX13_classOf_0g.2.2.2.2.2.2.2.2.2.2.2.2.2.1
theorem dX13_classOf_26 : decode cX13_classOf 26 = .ok (.invokestatic 376, 3) := dX13_classOf_0g.2.2.2.2.2.2.2.2.2.2.2.2.2.2.1
theorem dX13_classOf_29 : decode cX13_classOf 29 = .ok (.ireturn, 1) := dX13_classOf_0g.2.2.2.2.2.2.2.2.2.2.2.2.2.2.2
theorem dX13_inner_0g : decode cX13_inner 0 = .ok (.iload_n 3, 1) ∧ decode cX13_inner 1 = .ok (.iconst 1, 1) ∧ decode cX13_inner 2 = .ok (.iadd, 1) ∧ decode cX13_inner 3 = .ok (.istore 4, 2) ∧ decode cX13_inner 5 = .ok (.iload 4, 2) ∧ decode cX13_inner 7 = .ok (.aload_n 0, 1) ∧ decode cX13_inner 8 = .ok (.getfield 329, 3) ∧ decode cX13_inner 11 = .ok (.if_icmp .ge 38, 3) ∧ decode cX13_inner 14 = .ok (.aload_n 0, 1) ∧ decode cX13_inner 15 = .ok (.getfield 132, 3) ∧ decode cX13_inner 18 = .ok (.iload 4, 2) ∧ decode cX13_inner 20 = .ok (.iaload, 1) ∧ decode cX13_inner 21 = .ok (.iload_n 1, 1) ∧ decode cX13_inner 22 = .ok (.if_icmp .ne 21, 3) ∧ decode cX13_inner 25 = .ok (.iload_n 2, 1) ∧ decode cX13_inner 26 = .ok (.ifCond .eq 14, 3) := by decide +kernel
theorem dX13_inner_0 : decode cX13_inner 0 = .ok (.iload_n 3, 1) := dX13_inner_0g.1
theorem dX13_inner_1 : decode cX13_inner 1 = .ok (.iconst 1, 1) := dX13_inner_0g.2.1
theorem dX13_inner_2 : decode cX13_inner 2 = .ok (.iadd, 1) := dX13_inner_0g.2.2.1
theorem dX13_inner_3 : decode cX13_inner 3 = .ok (.istore 4, 2) := dX13_inner_0g.2.2.2.1
theorem dX13_inner_5 : decode cX13_inner 5 = .ok (.iload 4, 2) := dX13_inner_0g.2.2.2.2.1
theorem dX13_inner_7 : decode cX13_inner 7 = .ok (.aload_n 0, 1) := dX13_inner_0g.2.2.2.2.2.1
theorem dX13_inner_8 : decode cX13_inner 8 = .ok (.getfield 329, 3) := dX13_inner_0g.2.2.2.2.2.2.1
theorem dX13_inner_11 : decode cX13_inner 11 = .ok (.if_icmp .ge 38, 3) := dX13_inner_0g.2.2.2.2.2.2.2.1
theorem dX13_inner_14 : decode cX13_inner 14 = .ok (.aload_n 0, 1) := dX13_inner_0g.2.2.2.2.2.2.2.2.1
theorem dX13_inner_15 : decode cX13_inner 15 = .ok (.getfield 132, 3) := dX13_inner_0g.2.2.2.2.2.2.2.2.2.1
theorem dX13_inner_18 : decode cX13_inner 18 = .ok (.iload 4, 2) := dX13_inner_0g.2.2.2.2.2.2.2.2.2.2.1
theorem dX13_inner_20 : decode cX13_inner 20 = .ok (.iaload, 1) := dX13_inner_0g.2.2.2.2.2.2.2.2.2.2.2.1
theorem dX13_inner_21 : decode cX13_inner 21 = .ok (.iload_n 1, 1) := dX13_inner_0g.2.2.2.2.2.2.2.2.2.2.2.2.1
theorem dX13_inner_22 : decode cX13_inner 22 = .ok (.if_icmp .ne 21, 3) := dX13_inner_0g.2.2.2.2.2.2.2.2.2.2.2.2.2.1
theorem dX13_inner_25 : decode cX13_inner 25 = .ok (.iload_n 2, 1) := dX13_inner_0g.2.2.2.2.2.2.2.2.2.2.2.2.2.2.1
theorem dX13_inner_26 : decode cX13_inner 26 = .ok (.ifCond .eq 14, 3) := dX13_inner_0g.2.2.2.2.2.2.2.2.2.2.2.2.2.2.2
theorem dX13_inner_29g : decode cX13_inner 29 = .ok (.aload_n 0, 1) ∧ decode cX13_inner 30 = .ok (.getfield 126, 3) ∧ decode cX13_inner 33 = .ok (.iload 4, 2) ∧ decode cX13_inner 35 = .ok (.iaload, 1) ∧ decode cX13_inner 36 = .ok (.iload_n 2, 1) ∧ decode cX13_inner 37 = .ok (.if_icmp .ne 6, 3) ∧ decode cX13_inner 40 = .ok (.iload 4, 2) ∧ decode cX13_inner 42 = .ok (.ireturn, 1) ∧ decode cX13_inner 43 = .ok (.iinc 4 1, 3) ∧ decode cX13_inner 46 = .ok (.goto (-41), 3) ∧ decode cX13_inner 49 = .ok (.iconst (-1), 1) ∧ decode cX13_inner 50 = .ok (.ireturn, 1) := by decide +kernel
theorem dX13_inner_29 : decode cX13_inner 29 = .ok (.aload_n 0, 1) := dX13_inner_29g.1
theorem dX13_inner_30 : decode cX13_inner 30 = .ok (.getfield 126, 3) := dX13_inner_29g.2.1
theorem dX13_inner_33 : decode cX13_inner 33 = .ok (.iload 4, 2) := dX13_inner_29g.2.2.1
theorem dX13_inner_35 : decode cX13_inner 35 = .ok (.iaload, 1) := dX13_inner_29g.2.2.2.1
theorem dX13_inner_36 : decode cX13_inner 36 = .ok (.iload_n 2, 1) := dX13_inner_29g.2.2.2.2.1
theorem dX13_inner_37 : decode cX13_inner 37 = .ok (.if_icmp .ne 6, 3) := dX13_inner_29g.2.2.2.2.2.1
theorem dX13_inner_40 : decode cX13_inner 40 = .ok (.iload 4, 2) := dX13_inner_29g.2.2.2.2.2.2.1
theorem dX13_inner_42 : decode cX13_inner 42 = .ok (.ireturn, 1) := dX13_inner_29g.2.2.2.2.2.2.2.1
theorem dX13_inner_43 : decode cX13_inner 43 = .ok (.iinc 4 1, 3) := dX13_inner_29g.2.2.2.2.2.2.2.2.1
theorem dX13_inner_46 : decode cX13_inner 46 = .ok (.goto (-41), 3) := dX13_inner_29g.2.2.2.2.2.2.2.2.2.1
theorem dX13_inner_49 : decode cX13_inner 49 = .ok (.iconst (-1), 1) := dX13_inner_29g.2.2.2.2.2.2.2.2.2.2.1
theorem dX13_inner_50 : decode cX13_inner 50 = .ok (.ireturn, 1) := dX13_inner_29g.2.2.2.2.2.2.2.2.2.2.2
theorem dX13_argsOf_0g : decode cX13_argsOf 0 = .ok (.iload_n 1, 1) ∧ decode cX13_argsOf 1 = .ok (.istore_n 2, 1) ∧ decode cX13_argsOf 2 = .ok (.aload_n 0, 1) ∧ decode cX13_argsOf 3 = .ok (.aload_n 0, 1) ∧ decode cX13_argsOf 4 = .ok (.getfield 168, 3) ∧ decode cX13_argsOf 7 = .ok (.iload_n 2, 1) ∧ decode cX13_argsOf 8 = .ok (.iaload, 1) ∧ decode cX13_argsOf 9 = .ok (.iconst 4, 1) ∧ decode cX13_argsOf 10 = .ok (.iconst 0, 1) ∧ decode cX13_argsOf 11 = .ok (.invokevirtual 457, 3) ∧ decode cX13_argsOf 14 = .ok (.iconst (-1), 1) ∧ decode cX13_argsOf 15 = .ok (.if_icmp .ne 21, 3) ∧ decode cX13_argsOf 18 = .ok (.aload_n 0, 1) ∧ decode cX13_argsOf 19 = .ok (.iload_n 2, 1) ∧ decode cX13_argsOf 20 = .ok (.invokevirtual 445, 3) ∧ decode cX13_argsOf 23 = .ok (.iconst (-1), 1) := by decide +kernel
theorem dX13_argsOf_0 : decode cX13_argsOf 0 = .ok (.iload_n 1, 1) := dX13_argsOf_0g.1
theorem dX13_argsOf_1 : decode cX13_argsOf 1 = .ok (.istore_n 2, 1) := dX13_argsOf_0g.2.1
theorem dX13_argsOf_2 : decode cX13_argsOf 2 = .ok (.aload_n 0, 1) := dX13_argsOf_0g.2.2.1
theorem dX13_argsOf_3 : decode cX13_argsOf 3 = .ok (.aload_n 0, 1) := dX13_argsOf_0g.2.2.2.1
theorem dX13_argsOf_4 : decode cX13_argsOf 4 = .ok (.getfield 168, 3) := dX13_argsOf_0g.2.2.2.2.1
theorem dX13_argsOf_7 : decode cX13_argsOf 7 = .ok (.iload_n 2, 1) := dX13_argsOf_0g.2.2.2.2.2.1
theorem dX13_argsOf_8 : decode cX13_argsOf 8 = .ok (.iaload, 1) := dX13_argsOf_0g.2.2.2.2.2.2.1
theorem dX13_argsOf_9 : decode cX13_argsOf 9 = .ok (.iconst 4, 1) := dX13_argsOf_0g.2.2.2.2.2.2.2.1
theorem dX13_argsOf_10 : decode cX13_argsOf 10 = .ok (.iconst 0, 1) := dX13_argsOf_0g.2.2.2.2.2.2.2.2.1
theorem dX13_argsOf_11 : decode cX13_argsOf 11 = .ok (.invokevirtual 457, 3) := dX13_argsOf_0g.2.2.2.2.2.2.2.2.2.1
theorem dX13_argsOf_14 : decode cX13_argsOf 14 = .ok (.iconst (-1), 1) := dX13_argsOf_0g.2.2.2.2.2.2.2.2.2.2.1
theorem dX13_argsOf_15 : decode cX13_argsOf 15 = .ok (.if_icmp .ne 21, 3) := dX13_argsOf_0g.2.2.2.2.2.2.2.2.2.2.2.1
theorem dX13_argsOf_18 : decode cX13_argsOf 18 = .ok (.aload_n 0, 1) := dX13_argsOf_0g.2.2.2.2.2.2.2.2.2.2.2.2.1
theorem dX13_argsOf_19 : decode cX13_argsOf 19 = .ok (.iload_n 2, 1) := dX13_argsOf_0g.2.2.2.2.2.2.2.2.2.2.2.2.2.1
theorem dX13_argsOf_20 : decode cX13_argsOf 20 = .ok (.invokevirtual 445, 3) := dX13_argsOf_0g.2.2.2.2.2.2.2.2.2.2.2.2.2.2.1
theorem dX13_argsOf_23 : decode cX13_argsOf 23 = .ok (.iconst (-1), 1) := dX13_argsOf_0g.2.2.2.2.2.2.2.2.2.2.2.2.2.2.2
theorem dX13_argsOf_24g : decode cX13_argsOf 24 = .ok (.if_icmp .eq 12, 3) ∧ decode cX13_argsOf 27 = .ok (.aload_n 0, 1) ∧ decode cX13_argsOf 28 = .ok (.iload_n 2, 1) ∧ decode cX13_argsOf 29 = .ok (.invokevirtual 445, 3) ∧ decode cX13_argsOf 32 = .ok (.istore_n 2, 1) ∧ decode cX13_argsOf 33 = .ok (.goto (-31), 3) ∧ decode cX13_argsOf 36 = .ok (.iload_n 2, 1) ∧ decode cX13_argsOf 37 = .ok (.ireturn, 1) := by decide +kernel
theorem dX13_argsOf_24 : decode cX13_argsOf 24 = .ok (.if_icmp .eq 12, 3) := dX13_argsOf_24g.1
theorem dX13_argsOf_27 : decode cX13_argsOf 27 = .ok (.aload_n 0, 1) := dX13_argsOf_24g.2.1
theorem dX13_argsOf_28 : decode cX13_argsOf 28 = .ok (.iload_n 2, 1) := dX13_argsOf_24g.2.2.1
theorem dX13_argsOf_29 : decode cX13_argsOf 29 = .ok (.invokevirtual 445, 3) := dX13_argsOf_24g.2.2.2.1
theorem dX13_argsOf_32 : decode cX13_argsOf 32 = .ok (.istore_n 2, 1) := dX13_argsOf_24g.2.2.2.2.1
theorem dX13_argsOf_33 : decode cX13_argsOf 33 = .ok (.goto (-31), 3) := dX13_argsOf_24g.2.2.2.2.2.1
theorem dX13_argsOf_36 : decode cX13_argsOf 36 = .ok (.iload_n 2, 1) := dX13_argsOf_24g.2.2.2.2.2.2.1
theorem dX13_argsOf_37 : decode cX13_argsOf 37 = .ok (.ireturn, 1) := dX13_argsOf_24g.2.2.2.2.2.2.2
theorem dX13_arg_0g : decode cX13_arg 0 = .ok (.aload_n 0, 1) ∧ decode cX13_arg 1 = .ok (.getfield 168, 3) ∧ decode cX13_arg 4 = .ok (.aload_n 0, 1) ∧ decode cX13_arg 5 = .ok (.iload_n 1, 1) ∧ decode cX13_arg 6 = .ok (.invokevirtual 461, 3) ∧ decode cX13_arg 9 = .ok (.iaload, 1) ∧ decode cX13_arg 10 = .ok (.istore_n 3, 1) ∧ decode cX13_arg 11 = .ok (.aload_n 0, 1) ∧ decode cX13_arg 12 = .ok (.iload_n 3, 1) ∧ decode cX13_arg 13 = .ok (.iconst 4, 1) ∧ decode cX13_arg 14 = .ok (.iconst 0, 1) ∧ decode cX13_arg 15 = .ok (.invokevirtual 457, 3) ∧ decode cX13_arg 18 = .ok (.istore 4, 2) ∧ decode cX13_arg 20 = .ok (.iconst 0, 1) ∧ decode cX13_arg 21 = .ok (.istore 5, 2) ∧ decode cX13_arg 23 = .ok (.iload 5, 2) := by decide +kernel
theorem dX13_arg_0 : decode cX13_arg 0 = .ok (.aload_n 0, 1) := dX13_arg_0g.1
theorem dX13_arg_1 : decode cX13_arg 1 = .ok (.getfield 168, 3) := dX13_arg_0g.2.1
theorem dX13_arg_4 : decode cX13_arg 4 = .ok (.aload_n 0, 1) := dX13_arg_0g.2.2.1
theorem dX13_arg_5 : decode cX13_arg 5 = .ok (.iload_n 1, 1) := dX13_arg_0g.2.2.2.1
theorem dX13_arg_6 : decode cX13_arg 6 = .ok (.invokevirtual 461, 3) := dX13_arg_0g.2.2.2.2.1
theorem dX13_arg_9 : decode cX13_arg 9 = .ok (.iaload, 1) := dX13_arg_0g.2.2.2.2.2.1
theorem dX13_arg_10 : decode cX13_arg 10 = .ok (.istore_n 3, 1) := dX13_arg_0g.2.2.2.2.2.2.1
theorem dX13_arg_11 : decode cX13_arg 11 = .ok (.aload_n 0, 1) := dX13_arg_0g.2.2.2.2.2.2.2.1
theorem dX13_arg_12 : decode cX13_arg 12 = .ok (.iload_n 3, 1) := dX13_arg_0g.2.2.2.2.2.2.2.2.1
theorem dX13_arg_13 : decode cX13_arg 13 = .ok (.iconst 4, 1) := dX13_arg_0g.2.2.2.2.2.2.2.2.2.1
theorem dX13_arg_14 : decode cX13_arg 14 = .ok (.iconst 0, 1) := dX13_arg_0g.2.2.2.2.2.2.2.2.2.2.1
theorem dX13_arg_15 : decode cX13_arg 15 = .ok (.invokevirtual 457, 3) := dX13_arg_0g.2.2.2.2.2.2.2.2.2.2.2.1
theorem dX13_arg_18 : decode cX13_arg 18 = .ok (.istore 4, 2) := dX13_arg_0g.2.2.2.2.2.2.2.2.2.2.2.2.1
theorem dX13_arg_20 : decode cX13_arg 20 = .ok (.iconst 0, 1) := dX13_arg_0g.2.2.2.2.2.2.2.2.2.2.2.2.2.1
theorem dX13_arg_21 : decode cX13_arg 21 = .ok (.istore 5, 2) := dX13_arg_0g.2.2.2.2.2.2.2.2.2.2.2.2.2.2.1
theorem dX13_arg_23 : decode cX13_arg 23 = .ok (.iload 5, 2) := dX13_arg_0g.2.2.2.2.2.2.2.2.2.2.2.2.2.2.2
theorem dX13_arg_25g : decode cX13_arg 25 = .ok (.iload_n 2, 1) ∧ decode cX13_arg 26 = .ok (.if_icmp .ge 25, 3) ∧ decode cX13_arg 29 = .ok (.iload 4, 2) ∧ decode cX13_arg 31 = .ok (.iconst (-1), 1) ∧ decode cX13_arg 32 = .ok (.if_icmp .eq 19, 3) ∧ decode cX13_arg 35 = .ok (.aload_n 0, 1) ∧ decode cX13_arg 36 = .ok (.iload_n 3, 1) ∧ decode cX13_arg 37 = .ok (.iconst 4, 1) ∧ decode cX13_arg 38 = .ok (.iload 4, 2) ∧ decode cX13_arg 40 = .ok (.invokevirtual 457, 3) ∧ decode cX13_arg 43 = .ok (.istore 4, 2) ∧ decode cX13_arg 45 = .ok (.iinc 5 1, 3) ∧ decode cX13_arg 48 = .ok (.goto (-25), 3) ∧ decode cX13_arg 51 = .ok (.iload 4, 2) ∧ decode cX13_arg 53 = .ok (.ireturn, 1) := by decide +kernel
theorem dX13_arg_25 : decode cX13_arg 25 = .ok (.iload_n 2, 1) := dX13_arg_25g.1
theorem dX13_arg_26 : decode cX13_arg 26 = .ok (.if_icmp .ge 25, 3) := dX13_arg_25g.2.1
theorem dX13_arg_29 : decode cX13_arg 29 = .ok (.iload 4, 2) := dX13_arg_25g.2.2.1
theorem dX13_arg_31 : decode cX13_arg 31 = .ok (.iconst (-1), 1) := dX13_arg_25g.2.2.2.1
theorem dX13_arg_32 : decode cX13_arg 32 = .ok (.if_icmp .eq 19, 3) := dX13_arg_25g.2.2.2.2.1
theorem dX13_arg_35 : decode cX13_arg 35 = .ok (.aload_n 0, 1) := dX13_arg_25g.2.2.2.2.2.1
theorem dX13_arg_36 : decode cX13_arg 36 = .ok (.iload_n 3, 1) := dX13_arg_25g.2.2.2.2.2.2.1
theorem dX13_arg_37 : decode cX13_arg 37 = .ok (.iconst 4, 1) := dX13_arg_25g.2.2.2.2.2.2.2.1
theorem dX13_arg_38 : decode cX13_arg 38 = .ok (.iload 4, 2) := dX13_arg_25g.2.2.2.2.2.2.2.2.1
theorem dX13_arg_40 : decode cX13_arg 40 = .ok (.invokevirtual 457, 3) := dX13_arg_25g.2.2.2.2.2.2.2.2.2.1
theorem dX13_arg_43 : decode cX13_arg 43 = .ok (.istore 4, 2) := dX13_arg_25g.2.2.2.2.2.2.2.2.2.2.1
theorem dX13_arg_45 : decode cX13_arg 45 = .ok (.iinc 5 1, 3) := dX13_arg_25g.2.2.2.2.2.2.2.2.2.2.2.1
theorem dX13_arg_48 : decode cX13_arg 48 = .ok (.goto (-25), 3) := dX13_arg_25g.2.2.2.2.2.2.2.2.2.2.2.2.1
theorem dX13_arg_51 : decode cX13_arg 51 = .ok (.iload 4, 2) := dX13_arg_25g.2.2.2.2.2.2.2.2.2.2.2.2.2.1
theorem dX13_arg_53 : decode cX13_arg 53 = .ok (.ireturn, 1) := dX13_arg_25g.2.2.2.2.2.2.2.2.2.2.2.2.2.2
theorem dX13_args_0g : decode cX13_args 0 = .ok (.iconst 0, 1) ∧ decode cX13_args 1 = .ok (.istore_n 2, 1) ∧ decode cX13_args 2 = .ok (.aload_n 0, 1) ∧ decode cX13_args 3 = .ok (.iload_n 1, 1) ∧ decode cX13_args 4 = .ok (.iload_n 2, 1) ∧ decode cX13_args 5 = .ok (.invokevirtual 464, 3) ∧ decode cX13_args 8 = .ok (.iconst (-1), 1) ∧ decode cX13_args 9 = .ok (.if_icmp .eq 9, 3) ∧ decode cX13_args 12 = .ok (.iinc 2 1, 3) ∧ decode cX13_args 15 = .ok (.goto (-13), 3) ∧ decode cX13_args 18 = .ok (.iload_n 2, 1) ∧ decode cX13_args 19 = .ok (.ireturn, 1) := by decide +kernel
theorem dX13_args_0 : decode cX13_args 0 = .ok (.iconst 0, 1) := dX13_args_0g.1
theorem dX13_args_1 : decode cX13_args 1 = .ok (.istore_n 2, 1) := dX13_args_0g.2.1
theorem dX13_args_2 : decode cX13_args 2 = .ok (.aload_n 0, 1) := dX13_args_0g.2.2.1
theorem dX13_args_3 : decode cX13_args 3 = .ok (.iload_n 1, 1) := dX13_args_0g.2.2.2.1
theorem dX13_args_4 : decode cX13_args 4 = .ok (.iload_n 2, 1) := dX13_args_0g.2.2.2.2.1
theorem dX13_args_5 : decode cX13_args 5 = .ok (.invokevirtual 464, 3) := dX13_args_0g.2.2.2.2.2.1
theorem dX13_args_8 : decode cX13_args 8 = .ok (.iconst (-1), 1) := dX13_args_0g.2.2.2.2.2.2.1
theorem dX13_args_9 : decode cX13_args 9 = .ok (.if_icmp .eq 9, 3) := dX13_args_0g.2.2.2.2.2.2.2.1
theorem dX13_args_12 : decode cX13_args 12 = .ok (.iinc 2 1, 3) := dX13_args_0g.2.2.2.2.2.2.2.2.1
theorem dX13_args_15 : decode cX13_args 15 = .ok (.goto (-13), 3) := dX13_args_0g.2.2.2.2.2.2.2.2.2.1
theorem dX13_args_18 : decode cX13_args 18 = .ok (.iload_n 2, 1) := dX13_args_0g.2.2.2.2.2.2.2.2.2.2.1
theorem dX13_args_19 : decode cX13_args 19 = .ok (.ireturn, 1) := dX13_args_0g.2.2.2.2.2.2.2.2.2.2.2
theorem dX13_merge_0g : decode cX13_merge 0 = .ok (.iconst 0, 1) ∧ decode cX13_merge 1 = .ok (.istore 5, 2) ∧ decode cX13_merge 3 = .ok (.iload 5, 2) ∧ decode cX13_merge 5 = .ok (.iload_n 3, 1) ∧ decode cX13_merge 6 = .ok (.if_icmp .ge 48, 3) ∧ decode cX13_merge 9 = .ok (.aload_n 0, 1) ∧ decode cX13_merge 10 = .ok (.aload_n 1, 1) ∧ decode cX13_merge 11 = .ok (.iload_n 2, 1) ∧ decode cX13_merge 12 = .ok (.iload 5, 2) ∧ decode cX13_merge 14 = .ok (.iadd, 1) ∧ decode cX13_merge 15 = .ok (.iaload, 1) ∧ decode cX13_merge 16 = .ok (.ldc2_w 380, 3) ∧ decode cX13_merge 19 = .ok (.invokevirtual 359, 3) ∧ decode cX13_merge 22 = .ok (.aload_n 0, 1) ∧ decode cX13_merge 23 = .ok (.iload 4, 2) ∧ decode cX13_merge 25 = .ok (.ldc2_w 380, 3) := by decide +kernel
theorem dX13_merge_0 : decode cX13_merge 0 = .ok (.iconst 0, 1) := dX13_merge_0g.1
theorem dX13_merge_1 : decode cX13_merge 1 = .ok (.istore 5, 2) := dX13_merge_0g.2.1
theorem dX13_merge_3 : decode cX13_merge 3 = .ok (.iload 5, 2) := dX13_merge_0g.2.2.1
theorem dX13_merge_5 : decode cX13_merge 5 = .ok (.iload_n 3, 1) := dX13_merge_0g.2.2.2.1
theorem dX13_merge_6 : decode cX13_merge 6 = .ok (.if_icmp .ge 48, 3) := dX13_merge_0g.2.2.2.2.1
theorem dX13_merge_9 : decode cX13_merge 9 = .ok (.aload_n 0, 1) := dX13_merge_0g.2.2.2.2.2.1
theorem dX13_merge_10 : decode cX13_merge 10 = .ok (.aload_n 1, 1) := dX13_merge_0g.2.2.2.2.2.2.1
theorem dX13_merge_11 : decode cX13_merge 11 = .ok (.iload_n 2, 1) := dX13_merge_0g.2.2.2.2.2.2.2.1
theorem dX13_merge_12 : decode cX13_merge 12 = .ok (.iload 5, 2) := dX13_merge_0g.2.2.2.2.2.2.2.2.1
theorem dX13_merge_14 : decode cX13_merge 14 = .ok (.iadd, 1) := dX13_merge_0g.2.2.2.2.2.2.2.2.2.1
theorem dX13_merge_15 : decode cX13_merge 15 = .ok (.iaload, 1) := dX13_merge_0g.2.2.2.2.2.2.2.2.2.2.1
theorem dX13_merge_16 : decode cX13_merge 16 = .ok (.ldc2_w 380, 3) := dX13_merge_0g.2.2.2.2.2.2.2.2.2.2.2.1
theorem dX13_merge_19 : decode cX13_merge 19 = .ok (.invokevirtual 359, 3) := dX13_merge_0g.2.2.2.2.2.2.2.2.2.2.2.2.1
theorem dX13_merge_22 : decode cX13_merge 22 = .ok (.aload_n 0, 1) := dX13_merge_0g.2.2.2.2.2.2.2.2.2.2.2.2.2.1
theorem dX13_merge_23 : decode cX13_merge 23 = .ok (.iload 4, 2) := dX13_merge_0g.2.2.2.2.2.2.2.2.2.2.2.2.2.2.1
theorem dX13_merge_25 : decode cX13_merge 25 = .ok (.ldc2_w 380, 3) := dX13_merge_0g.2.2.2.2.2.2.2.2.2.2.2.2.2.2.2
theorem dX13_merge_28g : decode cX13_merge 28 = .ok (.invokevirtual 359, 3) ∧ decode cX13_merge 31 = .ok (.lcmp, 1) ∧ decode cX13_merge 32 = .ok (.ifCond .eq 6, 3) ∧ decode cX13_merge 35 = .ok (.goto 13, 3) ∧ decode cX13_merge 38 = .ok (.aload_n 1, 1) ∧ decode cX13_merge 39 = .ok (.iload_n 2, 1) ∧ decode cX13_merge 40 = .ok (.iload 5, 2) ∧ decode cX13_merge 42 = .ok (.iadd, 1) ∧ decode cX13_merge 43 = .ok (.iload 4, 2) ∧ decode cX13_merge 45 = .ok (.iastore, 1) ∧ decode cX13_merge 46 = .ok (.iload_n 3, 1) ∧ decode cX13_merge 47 = .ok (.ireturn, 1) ∧ decode cX13_merge 48 = .ok (.iinc 5 1, 3) ∧ decode cX13_merge 51 = .ok (.goto (-48), 3) ∧ decode cX13_merge 54 = .ok (.aload_n 1, 1) ∧ decode cX13_merge 55 = .ok (.iload_n 2, 1) := by decide +kernel
theorem dX13_merge_28 : decode cX13_merge 28 = .ok (.invokevirtual 359, 3) := dX13_merge_28g.1
theorem dX13_merge_31 : decode cX13_merge 31 = .ok (.lcmp, 1) := dX13_merge_28g.2.1
theorem dX13_merge_32 : decode cX13_merge 32 = .ok (.ifCond .eq 6, 3) := dX13_merge_28g.2.2.1
theorem dX13_merge_35 : decode cX13_merge 35 = .ok (.goto 13, 3) := dX13_merge_28g.2.2.2.1
theorem dX13_merge_38 : decode cX13_merge 38 = .ok (.aload_n 1, 1) := dX13_merge_28g.2.2.2.2.1
theorem dX13_merge_39 : decode cX13_merge 39 = .ok (.iload_n 2, 1) := dX13_merge_28g.2.2.2.2.2.1
theorem dX13_merge_40 : decode cX13_merge 40 = .ok (.iload 5, 2) := dX13_merge_28g.2.2.2.2.2.2.1
theorem dX13_merge_42 : decode cX13_merge 42 = .ok (.iadd, 1) := dX13_merge_28g.2.2.2.2.2.2.2.1
theorem dX13_merge_43 : decode cX13_merge 43 = .ok (.iload 4, 2) := dX13_merge_28g.2.2.2.2.2.2.2.2.1
theorem dX13_merge_45 : decode cX13_merge 45 = .ok (.iastore, 1) := dX13_merge_28g.2.2.2.2.2.2.2.2.2.1
theorem dX13_merge_46 : decode cX13_merge 46 = .ok (.iload_n 3, 1) := dX13_merge_28g.2.2.2.2.2.2.2.2.2.2.1
theorem dX13_merge_47 : decode cX13_merge 47 = .ok (.ireturn, 1) := dX13_merge_28g.2.2.2.2.2.2.2.2.2.2.2.1
theorem dX13_merge_48 : decode cX13_merge 48 = .ok (.iinc 5 1, 3) := dX13_merge_28g.2.2.2.2.2.2.2.2.2.2.2.2.1
theorem dX13_merge_51 : decode cX13_merge 51 = .ok (.goto (-48), 3) := dX13_merge_28g.2.2.2.2.2.2.2.2.2.2.2.2.2.1
theorem dX13_merge_54 : decode cX13_merge 54 = .ok (.aload_n 1, 1) := dX13_merge_28g.2.2.2.2.2.2.2.2.2.2.2.2.2.2.1
theorem dX13_merge_55 : decode cX13_merge 55 = .ok (.iload_n 2, 1) := dX13_merge_28g.2.2.2.2.2.2.2.2.2.2.2.2.2.2.2
theorem dX13_merge_56g : decode cX13_merge 56 = .ok (.iload_n 3, 1) ∧ decode cX13_merge 57 = .ok (.iadd, 1) ∧ decode cX13_merge 58 = .ok (.iload 4, 2) ∧ decode cX13_merge 60 = .ok (.iastore, 1) ∧ decode cX13_merge 61 = .ok (.iload_n 3, 1) ∧ decode cX13_merge 62 = .ok (.iconst 1, 1) ∧ decode cX13_merge 63 = .ok (.iadd, 1) ∧ decode cX13_merge 64 = .ok (.ireturn, 1) := by decide +kernel
theorem dX13_merge_56 : decode cX13_merge 56 = .ok (.iload_n 3, 1) := dX13_merge_56g.1
theorem dX13_merge_57 : decode cX13_merge 57 = .ok (.iadd, 1) := dX13_merge_56g.2.1
theorem dX13_merge_58 : decode cX13_merge 58 = .ok (.iload 4, 2) := dX13_merge_56g.2.2.1
theorem dX13_merge_60 : decode cX13_merge 60 = .ok (.iastore, 1) := dX13_merge_56g.2.2.2.1
theorem dX13_merge_61 : decode cX13_merge 61 = .ok (.iload_n 3, 1) := dX13_merge_56g.2.2.2.2.1
theorem dX13_merge_62 : decode cX13_merge 62 = .ok (.iconst 1, 1) := dX13_merge_56g.2.2.2.2.2.1
theorem dX13_merge_63 : decode cX13_merge 63 = .ok (.iadd, 1) := dX13_merge_56g.2.2.2.2.2.2.1
theorem dX13_merge_64 : decode cX13_merge 64 = .ok (.ireturn, 1) := dX13_merge_56g.2.2.2.2.2.2.2
theorem dX13_mergeBean_0g : decode cX13_mergeBean 0 = .ok (.aload_n 0, 1) ∧ decode cX13_mergeBean 1 = .ok (.getfield 174, 3) ∧ decode cX13_mergeBean 4 = .ok (.iload_n 1, 1) ∧ decode cX13_mergeBean 5 = .ok (.iconst 0, 1) ∧ decode cX13_mergeBean 6 = .ok (.iastore, 1) ∧ decode cX13_mergeBean 7 = .ok (.aload_n 0, 1) ∧ decode cX13_mergeBean 8 = .ok (.getfield 180, 3) ∧ decode cX13_mergeBean 11 = .ok (.iload_n 1, 1) ∧ decode cX13_mergeBean 12 = .ok (.iconst 0, 1) ∧ decode cX13_mergeBean 13 = .ok (.iastore, 1) ∧ decode cX13_mergeBean 14 = .ok (.iconst 0, 1) ∧ decode cX13_mergeBean 15 = .ok (.istore_n 2, 1) ∧ decode cX13_mergeBean 16 = .ok (.iload_n 1, 1) ∧ decode cX13_mergeBean 17 = .ok (.istore_n 3, 1) ∧ decode cX13_mergeBean 18 = .ok (.iload_n 3, 1) ∧ decode cX13_mergeBean 19 = .ok (.iconst (-1), 1) := by decide +kernel
theorem dX13_mergeBean_0 : decode cX13_mergeBean 0 = .ok (.aload_n 0, 1) := dX13_mergeBean_0g.1
theorem dX13_mergeBean_1 : decode cX13_mergeBean 1 = .ok (.getfield 174, 3) := dX13_mergeBean_0g.2.1
theorem dX13_mergeBean_4 : decode cX13_mergeBean 4 = .ok (.iload_n 1, 1) := dX13_mergeBean_0g.2.2.1
theorem dX13_mergeBean_5 : decode cX13_mergeBean 5 = .ok (.iconst 0, 1) := dX13_mergeBean_0g.2.2.2.1
theorem dX13_mergeBean_6 : decode cX13_mergeBean 6 = .ok (.iastore, 1) := dX13_mergeBean_0g.2.2.2.2.1
theorem dX13_mergeBean_7 : decode cX13_mergeBean 7 = .ok (.aload_n 0, 1) := dX13_mergeBean_0g.2.2.2.2.2.1
theorem dX13_mergeBean_8 : decode cX13_mergeBean 8 = .ok (.getfield 180, 3) := dX13_mergeBean_0g.2.2.2.2.2.2.1
theorem dX13_mergeBean_11 : decode cX13_mergeBean 11 = .ok (.iload_n 1, 1) := dX13_mergeBean_0g.2.2.2.2.2.2.2.1
theorem dX13_mergeBean_12 : decode cX13_mergeBean 12 = .ok (.iconst 0, 1) := dX13_mergeBean_0g.2.2.2.2.2.2.2.2.1
theorem dX13_mergeBean_13 : decode cX13_mergeBean 13 = .ok (.iastore, 1) := dX13_mergeBean_0g.2.2.2.2.2.2.2.2.2.1
theorem dX13_mergeBean_14 : decode cX13_mergeBean 14 = .ok (.iconst 0, 1) := dX13_mergeBean_0g.2.2.2.2.2.2.2.2.2.2.1
theorem dX13_mergeBean_15 : decode cX13_mergeBean 15 = .ok (.istore_n 2, 1) := dX13_mergeBean_0g.2.2.2.2.2.2.2.2.2.2.2.1
theorem dX13_mergeBean_16 : decode cX13_mergeBean 16 = .ok (.iload_n 1, 1) := dX13_mergeBean_0g.2.2.2.2.2.2.2.2.2.2.2.2.1
theorem dX13_mergeBean_17 : decode cX13_mergeBean 17 = .ok (.istore_n 3, 1) := dX13_mergeBean_0g.2.2.2.2.2.2.2.2.2.2.2.2.2.1
theorem dX13_mergeBean_18 : decode cX13_mergeBean 18 = .ok (.iload_n 3, 1) := dX13_mergeBean_0g.2.2.2.2.2.2.2.2.2.2.2.2.2.2.1
theorem dX13_mergeBean_19 : decode cX13_mergeBean 19 = .ok (.iconst (-1), 1) := dX13_mergeBean_0g.2.2.2.2.2.2.2.2.2.2.2.2.2.2.2
theorem dX13_mergeBean_20g : decode cX13_mergeBean 20 = .ok (.if_icmp .eq 15, 3) ∧ decode cX13_mergeBean 23 = .ok (.iinc 2 1, 3) ∧ decode cX13_mergeBean 26 = .ok (.aload_n 0, 1) ∧ decode cX13_mergeBean 27 = .ok (.iload_n 3, 1) ∧ decode cX13_mergeBean 28 = .ok (.invokevirtual 445, 3) ∧ decode cX13_mergeBean 31 = .ok (.istore_n 3, 1) ∧ decode cX13_mergeBean 32 = .ok (.goto (-14), 3) ∧ decode cX13_mergeBean 35 = .ok (.iload_n 2, 1) ∧ decode cX13_mergeBean 36 = .ok (.iconst 1, 1) ∧ decode cX13_mergeBean 37 = .ok (.isub, 1) ∧ decode cX13_mergeBean 38 = .ok (.istore_n 3, 1) ∧ decode cX13_mergeBean 39 = .ok (.iload_n 3, 1) ∧ decode cX13_mergeBean 40 = .ok (.ifCond .lt 169, 3) ∧ decode cX13_mergeBean 43 = .ok (.iload_n 1, 1) ∧ decode cX13_mergeBean 44 = .ok (.istore 4, 2) ∧ decode cX13_mergeBean 46 = .ok (.iconst 0, 1) := by decide +kernel
theorem dX13_mergeBean_20 : decode cX13_mergeBean 20 = .ok (.if_icmp .eq 15, 3) := dX13_mergeBean_20g.1
theorem dX13_mergeBean_23 : decode cX13_mergeBean 23 = .ok (.iinc 2 1, 3) := dX13_mergeBean_20g.2.1
theorem dX13_mergeBean_26 : decode cX13_mergeBean 26 = .ok (.aload_n 0, 1) := dX13_mergeBean_20g.2.2.1
theorem dX13_mergeBean_27 : decode cX13_mergeBean 27 = .ok (.iload_n 3, 1) := dX13_mergeBean_20g.2.2.2.1
theorem dX13_mergeBean_28 : decode cX13_mergeBean 28 = .ok (.invokevirtual 445, 3) := dX13_mergeBean_20g.2.2.2.2.1
theorem dX13_mergeBean_31 : decode cX13_mergeBean 31 = .ok (.istore_n 3, 1) := dX13_mergeBean_20g.2.2.2.2.2.1
theorem dX13_mergeBean_32 : decode cX13_mergeBean 32 = .ok (.goto (-14), 3) := dX13_mergeBean_20g.2.2.2.2.2.2.1
theorem dX13_mergeBean_35 : decode cX13_mergeBean 35 = .ok (.iload_n 2, 1) := dX13_mergeBean_20g.2.2.2.2.2.2.2.1
theorem dX13_mergeBean_36 : decode cX13_mergeBean 36 = .ok (.iconst 1, 1) := dX13_mergeBean_20g.2.2.2.2.2.2.2.2.1
theorem dX13_mergeBean_37 : decode cX13_mergeBean 37 = .ok (.isub, 1) := dX13_mergeBean_20g.2.2.2.2.2.2.2.2.2.1
theorem dX13_mergeBean_38 : decode cX13_mergeBean 38 = .ok (.istore_n 3, 1) := dX13_mergeBean_20g.2.2.2.2.2.2.2.2.2.2.1
theorem dX13_mergeBean_39 : decode cX13_mergeBean 39 = .ok (.iload_n 3, 1) := dX13_mergeBean_20g.2.2.2.2.2.2.2.2.2.2.2.1
theorem dX13_mergeBean_40 : decode cX13_mergeBean 40 = .ok (.ifCond .lt 169, 3) := dX13_mergeBean_20g.2.2.2.2.2.2.2.2.2.2.2.2.1
theorem dX13_mergeBean_43 : decode cX13_mergeBean 43 = .ok (.iload_n 1, 1) := dX13_mergeBean_20g.2.2.2.2.2.2.2.2.2.2.2.2.2.1
theorem dX13_mergeBean_44 : decode cX13_mergeBean 44 = .ok (.istore 4, 2) := dX13_mergeBean_20g.2.2.2.2.2.2.2.2.2.2.2.2.2.2.1
theorem dX13_mergeBean_46 : decode cX13_mergeBean 46 = .ok (.iconst 0, 1) := dX13_mergeBean_20g.2.2.2.2.2.2.2.2.2.2.2.2.2.2.2
theorem dX13_mergeBean_47g : decode cX13_mergeBean 47 = .ok (.istore 5, 2) ∧ decode cX13_mergeBean 49 = .ok (.iload 5, 2) ∧ decode cX13_mergeBean 51 = .ok (.iload_n 3, 1) ∧ decode cX13_mergeBean 52 = .ok (.if_icmp .ge 17, 3) ∧ decode cX13_mergeBean 55 = .ok (.aload_n 0, 1) ∧ decode cX13_mergeBean 56 = .ok (.iload 4, 2) ∧ decode cX13_mergeBean 58 = .ok (.invokevirtual 445, 3) ∧ decode cX13_mergeBean 61 = .ok (.istore 4, 2) ∧ decode cX13_mergeBean 63 = .ok (.iinc 5 1, 3) ∧ decode cX13_mergeBean 66 = .ok (.goto (-17), 3) ∧ decode cX13_mergeBean 69 = .ok (.aload_n 0, 1) ∧ decode cX13_mergeBean 70 = .ok (.aload_n 0, 1) ∧ decode cX13_mergeBean 71 = .ok (.getfield 168, 3) ∧ decode cX13_mergeBean 74 = .ok (.iload 4, 2) ∧ decode cX13_mergeBean 76 = .ok (.iaload, 1) ∧ decode cX13_mergeBean 77 = .ok (.iconst 5, 1) := by decide +kernel
theorem dX13_mergeBean_47 : decode cX13_mergeBean 47 = .ok (.istore 5, 2) := dX13_mergeBean_47g.1
theorem dX13_mergeBean_49 : decode cX13_mergeBean 49 = .ok (.iload 5, 2) := dX13_mergeBean_47g.2.1
theorem dX13_mergeBean_51 : decode cX13_mergeBean 51 = .ok (.iload_n 3, 1) := dX13_mergeBean_47g.2.2.1
theorem dX13_mergeBean_52 : decode cX13_mergeBean 52 = .ok (.if_icmp .ge 17, 3) := dX13_mergeBean_47g.2.2.2.1
theorem dX13_mergeBean_55 : decode cX13_mergeBean 55 = .ok (.aload_n 0, 1) := dX13_mergeBean_47g.2.2.2.2.1
theorem dX13_mergeBean_56 : decode cX13_mergeBean 56 = .ok (.iload 4, 2) := dX13_mergeBean_47g.2.2.2.2.2.1
theorem dX13_mergeBean_58 : decode cX13_mergeBean 58 = .ok (.invokevirtual 445, 3) := dX13_mergeBean_47g.2.2.2.2.2.2.1
theorem dX13_mergeBean_61 : decode cX13_mergeBean 61 = .ok (.istore 4, 2) := dX13_mergeBean_47g.2.2.2.2.2.2.2.1
theorem dX13_mergeBean_63 : decode cX13_mergeBean 63 = .ok (.iinc 5 1, 3) := dX13_mergeBean_47g.2.2.2.2.2.2.2.2.1
theorem dX13_mergeBean_66 : decode cX13_mergeBean 66 = .ok (.goto (-17), 3) := dX13_mergeBean_47g.2.2.2.2.2.2.2.2.2.1
theorem dX13_mergeBean_69 : decode cX13_mergeBean 69 = .ok (.aload_n 0, 1) := dX13_mergeBean_47g.2.2.2.2.2.2.2.2.2.2.1
theorem dX13_mergeBean_70 : decode cX13_mergeBean 70 = .ok (.aload_n 0, 1) := dX13_mergeBean_47g.2.2.2.2.2.2.2.2.2.2.2.1
theorem dX13_mergeBean_71 : decode cX13_mergeBean 71 = .ok (.getfield 168, 3) := dX13_mergeBean_47g.2.2.2.2.2.2.2.2.2.2.2.2.1
theorem dX13_mergeBean_74 : decode cX13_mergeBean 74 = .ok (.iload 4, 2) := dX13_mergeBean_47g.2.2.2.2.2.2.2.2.2.2.2.2.2.1
theorem dX13_mergeBean_76 : decode cX13_mergeBean 76 = .ok (.iaload, 1) := dX13_mergeBean_47g.2.2.2.2.2.2.2.2.2.2.2.2.2.2.1
theorem dX13_mergeBean_77 : decode cX13_mergeBean 77 = .ok (.iconst 5, 1) := dX13_mergeBean_47g.2.2.2.2.2.2.2.2.2.2.2.2.2.2.2
theorem dX13_mergeBean_78g : decode cX13_mergeBean 78 = .ok (.iconst 0, 1) ∧ decode cX13_mergeBean 79 = .ok (.invokevirtual 457, 3) ∧ decode cX13_mergeBean 82 = .ok (.istore 5, 2) ∧ decode cX13_mergeBean 84 = .ok (.iload 5, 2) ∧ decode cX13_mergeBean 86 = .ok (.iconst (-1), 1) ∧ decode cX13_mergeBean 87 = .ok (.if_icmp .eq 48, 3) ∧ decode cX13_mergeBean 90 = .ok (.aload_n 0, 1) ∧ decode cX13_mergeBean 91 = .ok (.getfield 174, 3) ∧ decode cX13_mergeBean 94 = .ok (.iload_n 1, 1) ∧ decode cX13_mergeBean 95 = .ok (.aload_n 0, 1) ∧ decode cX13_mergeBean 96 = .ok (.aload_n 0, 1) ∧ decode cX13_mergeBean 97 = .ok (.getfield 177, 3) ∧ decode cX13_mergeBean 100 = .ok (.bipush 26, 2) ∧ decode cX13_mergeBean 102 = .ok (.iload_n 1, 1) ∧ decode cX13_mergeBean 103 = .ok (.imul, 1) ∧ decode cX13_mergeBean 104 = .ok (.aload_n 0, 1) := by decide +kernel
theorem dX13_mergeBean_78 : decode cX13_mergeBean 78 = .ok (.iconst 0, 1) := dX13_mergeBean_78g.1
theorem dX13_mergeBean_79 : decode cX13_mergeBean 79 = .ok (.invokevirtual 457, 3) := dX13_mergeBean_78g.2.1
theorem dX13_mergeBean_82 : decode cX13_mergeBean 82 = .ok (.istore 5, 2) := dX13_mergeBean_78g.2.2.1
theorem dX13_mergeBean_84 : decode cX13_mergeBean 84 = .ok (.iload 5, 2) := dX13_mergeBean_78g.2.2.2.1
theorem dX13_mergeBean_86 : decode cX13_mergeBean 86 = .ok (.iconst (-1), 1) := dX13_mergeBean_78g.2.2.2.2.1
theorem dX13_mergeBean_87 : decode cX13_mergeBean 87 = .ok (.if_icmp .eq 48, 3) := dX13_mergeBean_78g.2.2.2.2.2.1
theorem dX13_mergeBean_90 : decode cX13_mergeBean 90 = .ok (.aload_n 0, 1) := dX13_mergeBean_78g.2.2.2.2.2.2.1
theorem dX13_mergeBean_91 : decode cX13_mergeBean 91 = .ok (.getfield 174, 3) := dX13_mergeBean_78g.2.2.2.2.2.2.2.1
theorem dX13_mergeBean_94 : decode cX13_mergeBean 94 = .ok (.iload_n 1, 1) := dX13_mergeBean_78g.2.2.2.2.2.2.2.2.1
theorem dX13_mergeBean_95 : decode cX13_mergeBean 95 = .ok (.aload_n 0, 1) := dX13_mergeBean_78g.2.2.2.2.2.2.2.2.2.1
theorem dX13_mergeBean_96 : decode cX13_mergeBean 96 = .ok (.aload_n 0, 1) := dX13_mergeBean_78g.2.2.2.2.2.2.2.2.2.2.1
theorem dX13_mergeBean_97 : decode cX13_mergeBean 97 = .ok (.getfield 177, 3) := dX13_mergeBean_78g.2.2.2.2.2.2.2.2.2.2.2.1
theorem dX13_mergeBean_100 : decode cX13_mergeBean 100 = .ok (.bipush 26, 2) := dX13_mergeBean_78g.2.2.2.2.2.2.2.2.2.2.2.2.1
theorem dX13_mergeBean_102 : decode cX13_mergeBean 102 = .ok (.iload_n 1, 1) := dX13_mergeBean_78g.2.2.2.2.2.2.2.2.2.2.2.2.2.1
theorem dX13_mergeBean_103 : decode cX13_mergeBean 103 = .ok (.imul, 1) := dX13_mergeBean_78g.2.2.2.2.2.2.2.2.2.2.2.2.2.2.1
theorem dX13_mergeBean_104 : decode cX13_mergeBean 104 = .ok (.aload_n 0, 1) := dX13_mergeBean_78g.2.2.2.2.2.2.2.2.2.2.2.2.2.2.2
theorem dX13_mergeBean_105g : decode cX13_mergeBean 105 = .ok (.getfield 174, 3) ∧ decode cX13_mergeBean 108 = .ok (.iload_n 1, 1) ∧ decode cX13_mergeBean 109 = .ok (.iaload, 1) ∧ decode cX13_mergeBean 110 = .ok (.iload 5, 2) ∧ decode cX13_mergeBean 112 = .ok (.invokevirtual 467, 3) ∧ decode cX13_mergeBean 115 = .ok (.iastore, 1) ∧ decode cX13_mergeBean 116 = .ok (.aload_n 0, 1) ∧ decode cX13_mergeBean 117 = .ok (.aload_n 0, 1) ∧ decode cX13_mergeBean 118 = .ok (.getfield 168, 3) ∧ decode cX13_mergeBean 121 = .ok (.iload 4, 2) ∧ decode cX13_mergeBean 123 = .ok (.iaload, 1) ∧ decode cX13_mergeBean 124 = .ok (.iconst 5, 1) ∧ decode cX13_mergeBean 125 = .ok (.iload 5, 2) ∧ decode cX13_mergeBean 127 = .ok (.invokevirtual 457, 3) ∧ decode cX13_mergeBean 130 = .ok (.istore 5, 2) ∧ decode cX13_mergeBean 132 = .ok (.goto (-48), 3) := by decide +kernel
theorem dX13_mergeBean_105 : decode cX13_mergeBean 105 = .ok (.getfield 174, 3) := dX13_mergeBean_105g.1
theorem dX13_mergeBean_108 : decode cX13_mergeBean 108 = .ok (.iload_n 1, 1) := dX13_mergeBean_105g.2.1
theorem dX13_mergeBean_109 : decode cX13_mergeBean 109 = .ok (.iaload, 1) := dX13_mergeBean_105g.2.2.1
theorem dX13_mergeBean_110 : decode cX13_mergeBean 110 = .ok (.iload 5, 2) := dX13_mergeBean_105g.2.2.2.1
theorem dX13_mergeBean_112 : decode cX13_mergeBean 112 = .ok (.invokevirtual 467, 3) := dX13_mergeBean_105g.2.2.2.2.1
theorem dX13_mergeBean_115 : decode cX13_mergeBean 115 = .ok (.iastore, 1) := dX13_mergeBean_105g.2.2.2.2.2.1
theorem dX13_mergeBean_116 : decode cX13_mergeBean 116 = .ok (.aload_n 0, 1) := dX13_mergeBean_105g.2.2.2.2.2.2.1
theorem dX13_mergeBean_117 : decode cX13_mergeBean 117 = .ok (.aload_n 0, 1) := dX13_mergeBean_105g.2.2.2.2.2.2.2.1
theorem dX13_mergeBean_118 : decode cX13_mergeBean 118 = .ok (.getfield 168, 3) := dX13_mergeBean_105g.2.2.2.2.2.2.2.2.1
theorem dX13_mergeBean_121 : decode cX13_mergeBean 121 = .ok (.iload 4, 2) := dX13_mergeBean_105g.2.2.2.2.2.2.2.2.2.1
theorem dX13_mergeBean_123 : decode cX13_mergeBean 123 = .ok (.iaload, 1) := dX13_mergeBean_105g.2.2.2.2.2.2.2.2.2.2.1
theorem dX13_mergeBean_124 : decode cX13_mergeBean 124 = .ok (.iconst 5, 1) := dX13_mergeBean_105g.2.2.2.2.2.2.2.2.2.2.2.1
theorem dX13_mergeBean_125 : decode cX13_mergeBean 125 = .ok (.iload 5, 2) := dX13_mergeBean_105g.2.2.2.2.2.2.2.2.2.2.2.2.1
theorem dX13_mergeBean_127 : decode cX13_mergeBean 127 = .ok (.invokevirtual 457, 3) := dX13_mergeBean_105g.2.2.2.2.2.2.2.2.2.2.2.2.2.1
theorem dX13_mergeBean_130 : decode cX13_mergeBean 130 = .ok (.istore 5, 2) := dX13_mergeBean_105g.2.2.2.2.2.2.2.2.2.2.2.2.2.2.1
theorem dX13_mergeBean_132 : decode cX13_mergeBean 132 = .ok (.goto (-48), 3) := dX13_mergeBean_105g.2.2.2.2.2.2.2.2.2.2.2.2.2.2.2
theorem dX13_mergeBean_135g : decode cX13_mergeBean 135 = .ok (.aload_n 0, 1) ∧ decode cX13_mergeBean 136 = .ok (.aload_n 0, 1) ∧ decode cX13_mergeBean 137 = .ok (.getfield 168, 3) ∧ decode cX13_mergeBean 140 = .ok (.iload 4, 2) ∧ decode cX13_mergeBean 142 = .ok (.iaload, 1) ∧ decode cX13_mergeBean 143 = .ok (.bipush 10, 2) ∧ decode cX13_mergeBean 145 = .ok (.iconst 0, 1) ∧ decode cX13_mergeBean 146 = .ok (.invokevirtual 457, 3) ∧ decode cX13_mergeBean 149 = .ok (.istore 5, 2) ∧ decode cX13_mergeBean 151 = .ok (.iload 5, 2) ∧ decode cX13_mergeBean 153 = .ok (.iconst (-1), 1) ∧ decode cX13_mergeBean 154 = .ok (.if_icmp .eq 49, 3) ∧ decode cX13_mergeBean 157 = .ok (.aload_n 0, 1) ∧ decode cX13_mergeBean 158 = .ok (.getfield 180, 3) ∧ decode cX13_mergeBean 161 = .ok (.iload_n 1, 1) ∧ decode cX13_mergeBean 162 = .ok (.aload_n 0, 1) := by decide +kernel
theorem dX13_mergeBean_135 : decode cX13_mergeBean 135 = .ok (.aload_n 0, 1) := dX13_mergeBean_135g.1
theorem dX13_mergeBean_136 : decode cX13_mergeBean 136 = .ok (.aload_n 0, 1) := dX13_mergeBean_135g.2.1
theorem dX13_mergeBean_137 : decode cX13_mergeBean 137 = .ok (.getfield 168, 3) := dX13_mergeBean_135g.2.2.1
theorem dX13_mergeBean_140 : decode cX13_mergeBean 140 = .ok (.iload 4, 2) := dX13_mergeBean_135g.2.2.2.1
theorem dX13_mergeBean_142 : decode cX13_mergeBean 142 = .ok (.iaload, 1) := dX13_mergeBean_135g.2.2.2.2.1
theorem dX13_mergeBean_143 : decode cX13_mergeBean 143 = .ok (.bipush 10, 2) := dX13_mergeBean_135g.2.2.2.2.2.1
theorem dX13_mergeBean_145 : decode cX13_mergeBean 145 = .ok (.iconst 0, 1) := dX13_mergeBean_135g.2.2.2.2.2.2.1
theorem dX13_mergeBean_146 : decode cX13_mergeBean 146 = .ok (.invokevirtual 457, 3) := dX13_mergeBean_135g.2.2.2.2.2.2.2.1
theorem dX13_mergeBean_149 : decode cX13_mergeBean 149 = .ok (.istore 5, 2) := dX13_mergeBean_135g.2.2.2.2.2.2.2.2.1
theorem dX13_mergeBean_151 : decode cX13_mergeBean 151 = .ok (.iload 5, 2) := dX13_mergeBean_135g.2.2.2.2.2.2.2.2.2.1
theorem dX13_mergeBean_153 : decode cX13_mergeBean 153 = .ok (.iconst (-1), 1) := dX13_mergeBean_135g.2.2.2.2.2.2.2.2.2.2.1
theorem dX13_mergeBean_154 : decode cX13_mergeBean 154 = .ok (.if_icmp .eq 49, 3) := dX13_mergeBean_135g.2.2.2.2.2.2.2.2.2.2.2.1
theorem dX13_mergeBean_157 : decode cX13_mergeBean 157 = .ok (.aload_n 0, 1) := dX13_mergeBean_135g.2.2.2.2.2.2.2.2.2.2.2.2.1
theorem dX13_mergeBean_158 : decode cX13_mergeBean 158 = .ok (.getfield 180, 3) := dX13_mergeBean_135g.2.2.2.2.2.2.2.2.2.2.2.2.2.1
theorem dX13_mergeBean_161 : decode cX13_mergeBean 161 = .ok (.iload_n 1, 1) := dX13_mergeBean_135g.2.2.2.2.2.2.2.2.2.2.2.2.2.2.1
theorem dX13_mergeBean_162 : decode cX13_mergeBean 162 = .ok (.aload_n 0, 1) := dX13_mergeBean_135g.2.2.2.2.2.2.2.2.2.2.2.2.2.2.2
theorem dX13_mergeBean_163g : decode cX13_mergeBean 163 = .ok (.aload_n 0, 1) ∧ decode cX13_mergeBean 164 = .ok (.getfield 183, 3) ∧ decode cX13_mergeBean 167 = .ok (.bipush 26, 2) ∧ decode cX13_mergeBean 169 = .ok (.iload_n 1, 1) ∧ decode cX13_mergeBean 170 = .ok (.imul, 1) ∧ decode cX13_mergeBean 171 = .ok (.aload_n 0, 1) ∧ decode cX13_mergeBean 172 = .ok (.getfield 180, 3) ∧ decode cX13_mergeBean 175 = .ok (.iload_n 1, 1) ∧ decode cX13_mergeBean 176 = .ok (.iaload, 1) ∧ decode cX13_mergeBean 177 = .ok (.iload 5, 2) ∧ decode cX13_mergeBean 179 = .ok (.invokevirtual 467, 3) ∧ decode cX13_mergeBean 182 = .ok (.iastore, 1) ∧ decode cX13_mergeBean 183 = .ok (.aload_n 0, 1) ∧ decode cX13_mergeBean 184 = .ok (.aload_n 0, 1) ∧ decode cX13_mergeBean 185 = .ok (.getfield 168, 3) ∧ decode cX13_mergeBean 188 = .ok (.iload 4, 2) := by decide +kernel
theorem dX13_mergeBean_163 : decode cX13_mergeBean 163 = .ok (.aload_n 0, 1) := dX13_mergeBean_163g.1
theorem dX13_mergeBean_164 : decode cX13_mergeBean 164 = .ok (.getfield 183, 3) := dX13_mergeBean_163g.2.1
theorem dX13_mergeBean_167 : decode cX13_mergeBean 167 = .ok (.bipush 26, 2) := dX13_mergeBean_163g.2.2.1
theorem dX13_mergeBean_169 : decode cX13_mergeBean 169 = .ok (.iload_n 1, 1) := dX13_mergeBean_163g.2.2.2.1
theorem dX13_mergeBean_170 : decode cX13_mergeBean 170 = .ok (.imul, 1) := dX13_mergeBean_163g.2.2.2.2.1
theorem dX13_mergeBean_171 : decode cX13_mergeBean 171 = .ok (.aload_n 0, 1) := dX13_mergeBean_163g.2.2.2.2.2.1
theorem dX13_mergeBean_172 : decode cX13_mergeBean 172 = .ok (.getfield 180, 3) := dX13_mergeBean_163g.2.2.2.2.2.2.1
theorem dX13_mergeBean_175 : decode cX13_mergeBean 175 = .ok (.iload_n 1, 1) := dX13_mergeBean_163g.2.2.2.2.2.2.2.1
theorem dX13_mergeBean_176 : decode cX13_mergeBean 176 = .ok (.iaload, 1) := dX13_mergeBean_163g.2.2.2.2.2.2.2.2.1
theorem dX13_mergeBean_177 : decode cX13_mergeBean 177 = .ok (.iload 5, 2) := dX13_mergeBean_163g.2.2.2.2.2.2.2.2.2.1
theorem dX13_mergeBean_179 : decode cX13_mergeBean 179 = .ok (.invokevirtual 467, 3) := dX13_mergeBean_163g.2.2.2.2.2.2.2.2.2.2.1
theorem dX13_mergeBean_182 : decode cX13_mergeBean 182 = .ok (.iastore, 1) := dX13_mergeBean_163g.2.2.2.2.2.2.2.2.2.2.2.1
theorem dX13_mergeBean_183 : decode cX13_mergeBean 183 = .ok (.aload_n 0, 1) := dX13_mergeBean_163g.2.2.2.2.2.2.2.2.2.2.2.2.1
theorem dX13_mergeBean_184 : decode cX13_mergeBean 184 = .ok (.aload_n 0, 1) := dX13_mergeBean_163g.2.2.2.2.2.2.2.2.2.2.2.2.2.1
theorem dX13_mergeBean_185 : decode cX13_mergeBean 185 = .ok (.getfield 168, 3) := dX13_mergeBean_163g.2.2.2.2.2.2.2.2.2.2.2.2.2.2.1
theorem dX13_mergeBean_188 : decode cX13_mergeBean 188 = .ok (.iload 4, 2) := dX13_mergeBean_163g.2.2.2.2.2.2.2.2.2.2.2.2.2.2.2
theorem dX13_mergeBean_190g : decode cX13_mergeBean 190 = .ok (.iaload, 1) ∧ decode cX13_mergeBean 191 = .ok (.bipush 10, 2) ∧ decode cX13_mergeBean 193 = .ok (.iload 5, 2) ∧ decode cX13_mergeBean 195 = .ok (.invokevirtual 457, 3) ∧ decode cX13_mergeBean 198 = .ok (.istore 5, 2) ∧ decode cX13_mergeBean 200 = .ok (.goto (-49), 3) ∧ decode cX13_mergeBean 203 = .ok (.iinc 3 (-1), 3) ∧ decode cX13_mergeBean 206 = .ok (.goto (-167), 3) ∧ decode cX13_mergeBean 209 = .ok (.return_, 1) := by decide +kernel
theorem dX13_mergeBean_190 : decode cX13_mergeBean 190 = .ok (.iaload, 1) := dX13_mergeBean_190g.1
theorem dX13_mergeBean_191 : decode cX13_mergeBean 191 = .ok (.bipush 10, 2) := dX13_mergeBean_190g.2.1
theorem dX13_mergeBean_193 : decode cX13_mergeBean 193 = .ok (.iload 5, 2) := dX13_mergeBean_190g.2.2.1
theorem dX13_mergeBean_195 : decode cX13_mergeBean 195 = .ok (.invokevirtual 457, 3) := dX13_mergeBean_190g.2.2.2.1
theorem dX13_mergeBean_198 : decode cX13_mergeBean 198 = .ok (.istore 5, 2) := dX13_mergeBean_190g.2.2.2.2.1
theorem dX13_mergeBean_200 : decode cX13_mergeBean 200 = .ok (.goto (-49), 3) := dX13_mergeBean_190g.2.2.2.2.2.1
theorem dX13_mergeBean_203 : decode cX13_mergeBean 203 = .ok (.iinc 3 (-1), 3) := dX13_mergeBean_190g.2.2.2.2.2.2.1
theorem dX13_mergeBean_206 : decode cX13_mergeBean 206 = .ok (.goto (-167), 3) := dX13_mergeBean_190g.2.2.2.2.2.2.2.1
theorem dX13_mergeBean_209 : decode cX13_mergeBean 209 = .ok (.return_, 1) := dX13_mergeBean_190g.2.2.2.2.2.2.2.2
theorem dX13_clear_0g : decode cX13_clear 0 = .ok (.aload_n 0, 1) ∧ decode cX13_clear 1 = .ok (.iconst 0, 1) ∧ decode cX13_clear 2 = .ok (.putfield 471, 3) ∧ decode cX13_clear 5 = .ok (.aload_n 0, 1) ∧ decode cX13_clear 6 = .ok (.iconst 0, 1) ∧ decode cX13_clear 7 = .ok (.putfield 474, 3) ∧ decode cX13_clear 10 = .ok (.iconst 0, 1) ∧ decode cX13_clear 11 = .ok (.istore_n 1, 1) ∧ decode cX13_clear 12 = .ok (.iload_n 1, 1) ∧ decode cX13_clear 13 = .ok (.bipush 80, 2) ∧ decode cX13_clear 15 = .ok (.if_icmp .ge 30, 3) ∧ decode cX13_clear 18 = .ok (.aload_n 0, 1) ∧ decode cX13_clear 19 = .ok (.getfield 213, 3) ∧ decode cX13_clear 22 = .ok (.iload_n 1, 1) ∧ decode cX13_clear 23 = .ok (.iconst 0, 1) ∧ decode cX13_clear 24 = .ok (.bastore, 1) := by decide +kernel
theorem dX13_clear_0 : decode cX13_clear 0 = .ok (.aload_n 0, 1) := dX13_clear_0g.1
theorem dX13_clear_1 : decode cX13_clear 1 = .ok (.iconst 0, 1) := dX13_clear_0g.2.1
theorem dX13_clear_2 : decode cX13_clear 2 = .ok (.putfield 471, 3) := dX13_clear_0g.2.2.1
theorem dX13_clear_5 : decode cX13_clear 5 = .ok (.aload_n 0, 1) := dX13_clear_0g.2.2.2.1
theorem dX13_clear_6 : decode cX13_clear 6 = .ok (.iconst 0, 1) := dX13_clear_0g.2.2.2.2.1
theorem dX13_clear_7 : decode cX13_clear 7 = .ok (.putfield 474, 3) := dX13_clear_0g.2.2.2.2.2.1
theorem dX13_clear_10 : decode cX13_clear 10 = .ok (.iconst 0, 1) := dX13_clear_0g.2.2.2.2.2.2.1
theorem dX13_clear_11 : decode cX13_clear 11 = .ok (.istore_n 1, 1) := dX13_clear_0g.2.2.2.2.2.2.2.1
theorem dX13_clear_12 : decode cX13_clear 12 = .ok (.iload_n 1, 1) := dX13_clear_0g.2.2.2.2.2.2.2.2.1
theorem dX13_clear_13 : decode cX13_clear 13 = .ok (.bipush 80, 2) := dX13_clear_0g.2.2.2.2.2.2.2.2.2.1
theorem dX13_clear_15 : decode cX13_clear 15 = .ok (.if_icmp .ge 30, 3) := dX13_clear_0g.2.2.2.2.2.2.2.2.2.2.1
theorem dX13_clear_18 : decode cX13_clear 18 = .ok (.aload_n 0, 1) := dX13_clear_0g.2.2.2.2.2.2.2.2.2.2.2.1
theorem dX13_clear_19 : decode cX13_clear 19 = .ok (.getfield 213, 3) := dX13_clear_0g.2.2.2.2.2.2.2.2.2.2.2.2.1
theorem dX13_clear_22 : decode cX13_clear 22 = .ok (.iload_n 1, 1) := dX13_clear_0g.2.2.2.2.2.2.2.2.2.2.2.2.2.1
theorem dX13_clear_23 : decode cX13_clear 23 = .ok (.iconst 0, 1) := dX13_clear_0g.2.2.2.2.2.2.2.2.2.2.2.2.2.2.1
theorem dX13_clear_24 : decode cX13_clear 24 = .ok (.bastore, 1) := dX13_clear_0g.2.2.2.2.2.2.2.2.2.2.2.2.2.2.2
theorem dX13_clear_25g : decode cX13_clear 25 = .ok (.aload_n 0, 1) ∧ decode cX13_clear 26 = .ok (.getfield 216, 3) ∧ decode cX13_clear 29 = .ok (.iload_n 1, 1) ∧ decode cX13_clear 30 = .ok (.iconst 0, 1) ∧ decode cX13_clear 31 = .ok (.bastore, 1) ∧ decode cX13_clear 32 = .ok (.aload_n 0, 1) ∧ decode cX13_clear 33 = .ok (.getfield 210, 3) ∧ decode cX13_clear 36 = .ok (.iload_n 1, 1) ∧ decode cX13_clear 37 = .ok (.iconst (-1), 1) ∧ decode cX13_clear 38 = .ok (.iastore, 1) ∧ decode cX13_clear 39 = .ok (.iinc 1 1, 3) ∧ decode cX13_clear 42 = .ok (.goto (-30), 3) ∧ decode cX13_clear 45 = .ok (.return_, 1) := by decide +kernel
theorem dX13_clear_25 : decode cX13_clear 25 = .ok (.aload_n 0, 1) := dX13_clear_25g.1
theorem dX13_clear_26 : decode cX13_clear 26 = .ok (.getfield 216, 3) := dX13_clear_25g.2.1
theorem dX13_clear_29 : decode cX13_clear 29 = .ok (.iload_n 1, 1) := dX13_clear_25g.2.2.1
theorem dX13_clear_30 : decode cX13_clear 30 = .ok (.iconst 0, 1) := dX13_clear_25g.2.2.2.1
theorem dX13_clear_31 : decode cX13_clear 31 = .ok (.bastore, 1) := dX13_clear_25g.2.2.2.2.1
theorem dX13_clear_32 : decode cX13_clear 32 = .ok (.aload_n 0, 1) := dX13_clear_25g.2.2.2.2.2.1
theorem dX13_clear_33 : decode cX13_clear 33 = .ok (.getfield 210, 3) := dX13_clear_25g.2.2.2.2.2.2.1
theorem dX13_clear_36 : decode cX13_clear 36 = .ok (.iload_n 1, 1) := dX13_clear_25g.2.2.2.2.2.2.2.1
theorem dX13_clear_37 : decode cX13_clear 37 = .ok (.iconst (-1), 1) := dX13_clear_25g.2.2.2.2.2.2.2.2.1
theorem dX13_clear_38 : decode cX13_clear 38 = .ok (.iastore, 1) := dX13_clear_25g.2.2.2.2.2.2.2.2.2.1
theorem dX13_clear_39 : decode cX13_clear 39 = .ok (.iinc 1 1, 3) := dX13_clear_25g.2.2.2.2.2.2.2.2.2.2.1
theorem dX13_clear_42 : decode cX13_clear 42 = .ok (.goto (-30), 3) := dX13_clear_25g.2.2.2.2.2.2.2.2.2.2.2.1
theorem dX13_clear_45 : decode cX13_clear 45 = .ok (.return_, 1) := dX13_clear_25g.2.2.2.2.2.2.2.2.2.2.2.2
