theorem dX13_read_0g : decode cX13_read 0 = .ok (.aload_n 0, 1) ∧ decode cX13_read 1 = .ok (.iconst 0, 1) ∧ decode cX13_read 2 = .ok (.putfield 276, 3) ∧ decode cX13_read 5 = .ok (.aload_n 0, 1) ∧ decode cX13_read 6 = .ok (.iconst (-1), 1) ∧ decode cX13_read 7 = .ok (.putfield 122, 3) ∧ decode cX13_read 10 = .ok (.aload_n 0, 1) ∧ decode cX13_read 11 = .ok (.iconst 0, 1) ∧ decode cX13_read 12 = .ok (.putfield 279, 3) ∧ decode cX13_read 15 = .ok (.aload_n 0, 1) ∧ decode cX13_read 16 = .ok (.iconst 0, 1) ∧ decode cX13_read 17 = .ok (.putfield 329, 3) ∧ decode cX13_read 20 = .ok (.aload_n 0, 1) ∧ decode cX13_read 21 = .ok (.iconst 0, 1) ∧ decode cX13_read 22 = .ok (.putfield 323, 3) ∧ decode cX13_read 25 = .ok (.aload_n 0, 1) := by decide +kernel
theorem dX13_read_0 : decode cX13_read 0 = .ok (.aload_n 0, 1) := dX13_read_0g.1
theorem dX13_read_1 : decode cX13_read 1 = .ok (.iconst 0, 1) := dX13_read_0g.2.1
theorem dX13_read_2 : decode cX13_read 2 = .ok (.putfield 276, 3) := dX13_read_0g.2.2.1
theorem dX13_read_5 : decode cX13_read 5 = .ok (.aload_n 0, 1) := dX13_read_0g.2.2.2.1
theorem dX13_read_6 : decode cX13_read 6 = .ok (.iconst (-1), 1) := dX13_read_0g.2.2.2.2.1
theorem dX13_read_7 : decode cX13_read 7 = .ok (.putfield 122, 3) := dX13_read_0g.2.2.2.2.2.1
theorem dX13_read_10 : decode cX13_read 10 = .ok (.aload_n 0, 1) := dX13_read_0g.2.2.2.2.2.2.1
theorem dX13_read_11 : decode cX13_read 11 = .ok (.iconst 0, 1) := dX13_read_0g.2.2.2.2.2.2.2.1
theorem dX13_read_12 : decode cX13_read 12 = .ok (.putfield 279, 3) := dX13_read_0g.2.2.2.2.2.2.2.2.1
theorem dX13_read_15 : decode cX13_read 15 = .ok (.aload_n 0, 1) := dX13_read_0g.2.2.2.2.2.2.2.2.2.1
theorem dX13_read_16 : decode cX13_read 16 = .ok (.iconst 0, 1) := dX13_read_0g.2.2.2.2.2.2.2.2.2.2.1
theorem dX13_read_17 : decode cX13_read 17 = .ok (.putfield 329, 3) := dX13_read_0g.2.2.2.2.2.2.2.2.2.2.2.1
theorem dX13_read_20 : decode cX13_read 20 = .ok (.aload_n 0, 1) := dX13_read_0g.2.2.2.2.2.2.2.2.2.2.2.2.1
theorem dX13_read_21 : decode cX13_read 21 = .ok (.iconst 0, 1) := dX13_read_0g.2.2.2.2.2.2.2.2.2.2.2.2.2.1
theorem dX13_read_22 : decode cX13_read 22 = .ok (.putfield 323, 3) := dX13_read_0g.2.2.2.2.2.2.2.2.2.2.2.2.2.2.1
theorem dX13_read_25 : decode cX13_read 25 = .ok (.aload_n 0, 1) := dX13_read_0g.2.2.2.2.2.2.2.2.2.2.2.2.2.2.2
theorem dX13_read_26g : decode cX13_read 26 = .ok (.iconst 0, 1) ∧ decode cX13_read 27 = .ok (.putfield 439, 3) ∧ decode cX13_read 30 = .ok (.aload_n 0, 1) ∧ decode cX13_read 31 = .ok (.iconst 0, 1) ∧ decode cX13_read 32 = .ok (.putfield 477, 3) ∧ decode cX13_read 35 = .ok (.aload_n 0, 1) ∧ decode cX13_read 36 = .ok (.iconst 0, 1) ∧ decode cX13_read 37 = .ok (.putfield 480, 3) ∧ decode cX13_read 40 = .ok (.aload_n 0, 1) ∧ decode cX13_read 41 = .ok (.invokevirtual 483, 3) ∧ decode cX13_read 44 = .ok (.aload_n 0, 1) ∧ decode cX13_read 45 = .ok (.invokevirtual 486, 3) ∧ decode cX13_read 48 = .ok (.aload_n 0, 1) ∧ decode cX13_read 49 = .ok (.getfield 276, 3) ∧ decode cX13_read 52 = .ok (.ifCond .ne 10, 3) ∧ decode cX13_read 55 = .ok (.aload_n 0, 1) := by decide +kernel
theorem dX13_read_26 : decode cX13_read 26 = .ok (.iconst 0, 1) := dX13_read_26g.1
theorem dX13_read_27 : decode cX13_read 27 = .ok (.putfield 439, 3) := dX13_read_26g.2.1
theorem dX13_read_30 : decode cX13_read 30 = .ok (.aload_n 0, 1) := dX13_read_26g.2.2.1
theorem dX13_read_31 : decode cX13_read 31 = .ok (.iconst 0, 1) := dX13_read_26g.2.2.2.1
theorem dX13_read_32 : decode cX13_read 32 = .ok (.putfield 477, 3) := dX13_read_26g.2.2.2.2.1
theorem dX13_read_35 : decode cX13_read 35 = .ok (.aload_n 0, 1) := dX13_read_26g.2.2.2.2.2.1
theorem dX13_read_36 : decode cX13_read 36 = .ok (.iconst 0, 1) := dX13_read_26g.2.2.2.2.2.2.1
theorem dX13_read_37 : decode cX13_read 37 = .ok (.putfield 480, 3) := dX13_read_26g.2.2.2.2.2.2.2.1
theorem dX13_read_40 : decode cX13_read 40 = .ok (.aload_n 0, 1) := dX13_read_26g.2.2.2.2.2.2.2.2.1
theorem dX13_read_41 : decode cX13_read 41 = .ok (.invokevirtual 483, 3) := dX13_read_26g.2.2.2.2.2.2.2.2.2.1
theorem dX13_read_44 : decode cX13_read 44 = .ok (.aload_n 0, 1) := dX13_read_26g.2.2.2.2.2.2.2.2.2.2.1
theorem dX13_read_45 : decode cX13_read 45 = .ok (.invokevirtual 486, 3) := dX13_read_26g.2.2.2.2.2.2.2.2.2.2.2.1
theorem dX13_read_48 : decode cX13_read 48 = .ok (.aload_n 0, 1) := dX13_read_26g.2.2.2.2.2.2.2.2.2.2.2.2.1
theorem dX13_read_49 : decode cX13_read 49 = .ok (.getfield 276, 3) := dX13_read_26g.2.2.2.2.2.2.2.2.2.2.2.2.2.1
theorem dX13_read_52 : decode cX13_read 52 = .ok (.ifCond .ne 10, 3) := dX13_read_26g.2.2.2.2.2.2.2.2.2.2.2.2.2.2.1
theorem dX13_read_55 : decode cX13_read 55 = .ok (.aload_n 0, 1) := dX13_read_26g.2.2.2.2.2.2.2.2.2.2.2.2.2.2.2
theorem dX13_read_56g : decode cX13_read 56 = .ok (.invokevirtual 489, 3) ∧ decode cX13_read 59 = .ok (.goto 4, 3) ∧ decode cX13_read 62 = .ok (.iconst (-1), 1) ∧ decode cX13_read 63 = .ok (.istore_n 1, 1) ∧ decode cX13_read 64 = .ok (.iconst 2, 1) ∧ decode cX13_read 65 = .ok (.istore_n 2, 1) ∧ decode cX13_read 66 = .ok (.aload_n 0, 1) ∧ decode cX13_read 67 = .ok (.getfield 276, 3) ∧ decode cX13_read 70 = .ok (.ifCond .ne 74, 3) ∧ decode cX13_read 73 = .ok (.iload_n 1, 1) ∧ decode cX13_read 74 = .ok (.iconst (-1), 1) ∧ decode cX13_read 75 = .ok (.if_icmp .ne 69, 3) ∧ decode cX13_read 78 = .ok (.iconst 0, 1) ∧ decode cX13_read 79 = .ok (.istore_n 3, 1) ∧ decode cX13_read 80 = .ok (.iload_n 3, 1) ∧ decode cX13_read 81 = .ok (.aload_n 0, 1) := by decide +kernel
theorem dX13_read_56 : decode cX13_read 56 = .ok (.invokevirtual 489, 3) := dX13_read_56g.1
theorem dX13_read_59 : decode cX13_read 59 = .ok (.goto 4, 3) := dX13_read_56g.2.1
theorem dX13_read_62 : decode cX13_read 62 = .ok (.iconst (-1), 1) := dX13_read_56g.2.2.1
theorem dX13_read_63 : decode cX13_read 63 = .ok (.istore_n 1, 1) := dX13_read_56g.2.2.2.1
theorem dX13_read_64 : decode cX13_read 64 = .ok (.iconst 2, 1) := dX13_read_56g.2.2.2.2.1
theorem dX13_read_65 : decode cX13_read 65 = .ok (.istore_n 2, 1) := dX13_read_56g.2.2.2.2.2.1
theorem dX13_read_66 : decode cX13_read 66 = .ok (.aload_n 0, 1) := dX13_read_56g.2.2.2.2.2.2.1
theorem dX13_read_67 : decode cX13_read 67 = .ok (.getfield 276, 3) := dX13_read_56g.2.2.2.2.2.2.2.1
theorem dX13_read_70 : decode cX13_read 70 = .ok (.ifCond .ne 74, 3) := dX13_read_56g.2.2.2.2.2.2.2.2.1
theorem dX13_read_73 : decode cX13_read 73 = .ok (.iload_n 1, 1) := dX13_read_56g.2.2.2.2.2.2.2.2.2.1
theorem dX13_read_74 : decode cX13_read 74 = .ok (.iconst (-1), 1) := dX13_read_56g.2.2.2.2.2.2.2.2.2.2.1
theorem dX13_read_75 : decode cX13_read 75 = .ok (.if_icmp .ne 69, 3) := dX13_read_56g.2.2.2.2.2.2.2.2.2.2.2.1
theorem dX13_read_78 : decode cX13_read 78 = .ok (.iconst 0, 1) := dX13_read_56g.2.2.2.2.2.2.2.2.2.2.2.2.1
theorem dX13_read_79 : decode cX13_read 79 = .ok (.istore_n 3, 1) := dX13_read_56g.2.2.2.2.2.2.2.2.2.2.2.2.2.1
theorem dX13_read_80 : decode cX13_read 80 = .ok (.iload_n 3, 1) := dX13_read_56g.2.2.2.2.2.2.2.2.2.2.2.2.2.2.1
theorem dX13_read_81 : decode cX13_read 81 = .ok (.aload_n 0, 1) := dX13_read_56g.2.2.2.2.2.2.2.2.2.2.2.2.2.2.2
theorem dX13_read_82g : decode cX13_read 82 = .ok (.getfield 329, 3) ∧ decode cX13_read 85 = .ok (.if_icmp .ge 52, 3) ∧ decode cX13_read 88 = .ok (.aload_n 0, 1) ∧ decode cX13_read 89 = .ok (.getfield 126, 3) ∧ decode cX13_read 92 = .ok (.iload_n 3, 1) ∧ decode cX13_read 93 = .ok (.iaload, 1) ∧ decode cX13_read 94 = .ok (.iconst 3, 1) ∧ decode cX13_read 95 = .ok (.if_icmp .eq 6, 3) ∧ decode cX13_read 98 = .ok (.goto 33, 3) ∧ decode cX13_read 101 = .ok (.aload_n 0, 1) ∧ decode cX13_read 102 = .ok (.getfield 171, 3) ∧ decode cX13_read 105 = .ok (.iload_n 3, 1) ∧ decode cX13_read 106 = .ok (.aload_n 0, 1) ∧ decode cX13_read 107 = .ok (.getfield 439, 3) ∧ decode cX13_read 110 = .ok (.iastore, 1) ∧ decode cX13_read 111 = .ok (.aload_n 0, 1) := by decide +kernel
theorem dX13_read_82 : decode cX13_read 82 = .ok (.getfield 329, 3) := dX13_read_82g.1
theorem dX13_read_85 : decode cX13_read 85 = .ok (.if_icmp .ge 52, 3) := dX13_read_82g.2.1
theorem dX13_read_88 : decode cX13_read 88 = .ok (.aload_n 0, 1) := dX13_read_82g.2.2.1
theorem dX13_read_89 : decode cX13_read 89 = .ok (.getfield 126, 3) := dX13_read_82g.2.2.2.1
theorem dX13_read_92 : decode cX13_read 92 = .ok (.iload_n 3, 1) := dX13_read_82g.2.2.2.2.1
theorem dX13_read_93 : decode cX13_read 93 = .ok (.iaload, 1) := dX13_read_82g.2.2.2.2.2.1
theorem dX13_read_94 : decode cX13_read 94 = .ok (.iconst 3, 1) := dX13_read_82g.2.2.2.2.2.2.1
theorem dX13_read_95 : decode cX13_read 95 = .ok (.if_icmp .eq 6, 3) := dX13_read_82g.2.2.2.2.2.2.2.1
theorem dX13_read_98 : decode cX13_read 98 = .ok (.goto 33, 3) := dX13_read_82g.2.2.2.2.2.2.2.2.1
theorem dX13_read_101 : decode cX13_read 101 = .ok (.aload_n 0, 1) := dX13_read_82g.2.2.2.2.2.2.2.2.2.1
theorem dX13_read_102 : decode cX13_read 102 = .ok (.getfield 171, 3) := dX13_read_82g.2.2.2.2.2.2.2.2.2.2.1
theorem dX13_read_105 : decode cX13_read 105 = .ok (.iload_n 3, 1) := dX13_read_82g.2.2.2.2.2.2.2.2.2.2.2.1
theorem dX13_read_106 : decode cX13_read 106 = .ok (.aload_n 0, 1) := dX13_read_82g.2.2.2.2.2.2.2.2.2.2.2.2.1
theorem dX13_read_107 : decode cX13_read 107 = .ok (.getfield 439, 3) := dX13_read_82g.2.2.2.2.2.2.2.2.2.2.2.2.2.1
theorem dX13_read_110 : decode cX13_read 110 = .ok (.iastore, 1) := dX13_read_82g.2.2.2.2.2.2.2.2.2.2.2.2.2.2.1
theorem dX13_read_111 : decode cX13_read 111 = .ok (.aload_n 0, 1) := dX13_read_82g.2.2.2.2.2.2.2.2.2.2.2.2.2.2.2
theorem dX13_read_112g : decode cX13_read 112 = .ok (.getfield 168, 3) ∧ decode cX13_read 115 = .ok (.aload_n 0, 1) ∧ decode cX13_read 116 = .ok (.getfield 439, 3) ∧ decode cX13_read 119 = .ok (.iload_n 3, 1) ∧ decode cX13_read 120 = .ok (.iastore, 1) ∧ decode cX13_read 121 = .ok (.aload_n 0, 1) ∧ decode cX13_read 122 = .ok (.dup, 1) ∧ decode cX13_read 123 = .ok (.getfield 439, 3) ∧ decode cX13_read 126 = .ok (.iconst 1, 1) ∧ decode cX13_read 127 = .ok (.iadd, 1) ∧ decode cX13_read 128 = .ok (.putfield 439, 3) ∧ decode cX13_read 131 = .ok (.iinc 3 1, 3) ∧ decode cX13_read 134 = .ok (.goto (-54), 3) ∧ decode cX13_read 137 = .ok (.aload_n 0, 1) ∧ decode cX13_read 138 = .ok (.invokevirtual 492, 3) ∧ decode cX13_read 141 = .ok (.istore_n 1, 1) := by decide +kernel
theorem dX13_read_112 : decode cX13_read 112 = .ok (.getfield 168, 3) := dX13_read_112g.1
theorem dX13_read_115 : decode cX13_read 115 = .ok (.aload_n 0, 1) := dX13_read_112g.2.1
theorem dX13_read_116 : decode cX13_read 116 = .ok (.getfield 439, 3) := dX13_read_112g.2.2.1
theorem dX13_read_119 : decode cX13_read 119 = .ok (.iload_n 3, 1) := dX13_read_112g.2.2.2.1
theorem dX13_read_120 : decode cX13_read 120 = .ok (.iastore, 1) := dX13_read_112g.2.2.2.2.1
theorem dX13_read_121 : decode cX13_read 121 = .ok (.aload_n 0, 1) := dX13_read_112g.2.2.2.2.2.1
theorem dX13_read_122 : decode cX13_read 122 = .ok (.dup, 1) := dX13_read_112g.2.2.2.2.2.2.1
theorem dX13_read_123 : decode cX13_read 123 = .ok (.getfield 439, 3) := dX13_read_112g.2.2.2.2.2.2.2.1
theorem dX13_read_126 : decode cX13_read 126 = .ok (.iconst 1, 1) := dX13_read_112g.2.2.2.2.2.2.2.2.1
theorem dX13_read_127 : decode cX13_read 127 = .ok (.iadd, 1) := dX13_read_112g.2.2.2.2.2.2.2.2.2.1
theorem dX13_read_128 : decode cX13_read 128 = .ok (.putfield 439, 3) := dX13_read_112g.2.2.2.2.2.2.2.2.2.2.1
theorem dX13_read_131 : decode cX13_read 131 = .ok (.iinc 3 1, 3) := dX13_read_112g.2.2.2.2.2.2.2.2.2.2.2.1
theorem dX13_read_134 : decode cX13_read 134 = .ok (.goto (-54), 3) := dX13_read_112g.2.2.2.2.2.2.2.2.2.2.2.2.1
theorem dX13_read_137 : decode cX13_read 137 = .ok (.aload_n 0, 1) := dX13_read_112g.2.2.2.2.2.2.2.2.2.2.2.2.2.1
theorem dX13_read_138 : decode cX13_read 138 = .ok (.invokevirtual 492, 3) := dX13_read_112g.2.2.2.2.2.2.2.2.2.2.2.2.2.2.1
theorem dX13_read_141 : decode cX13_read 141 = .ok (.istore_n 1, 1) := dX13_read_112g.2.2.2.2.2.2.2.2.2.2.2.2.2.2.2
theorem dX13_read_142g : decode cX13_read 142 = .ok (.iconst 3, 1) ∧ decode cX13_read 143 = .ok (.istore_n 2, 1) ∧ decode cX13_read 144 = .ok (.aload_n 0, 1) ∧ decode cX13_read 145 = .ok (.iconst 0, 1) ∧ decode cX13_read 146 = .ok (.putfield 273, 3) ∧ decode cX13_read 149 = .ok (.iload_n 1, 1) ∧ decode cX13_read 150 = .ok (.iconst (-1), 1) ∧ decode cX13_read 151 = .ok (.if_icmp .eq 18, 3) ∧ decode cX13_read 154 = .ok (.aload_n 0, 1) ∧ decode cX13_read 155 = .ok (.iload_n 2, 1) ∧ decode cX13_read 156 = .ok (.putfield 276, 3) ∧ decode cX13_read 159 = .ok (.aload_n 0, 1) ∧ decode cX13_read 160 = .ok (.aload_n 0, 1) ∧ decode cX13_read 161 = .ok (.getfield 129, 3) ∧ decode cX13_read 164 = .ok (.iload_n 1, 1) ∧ decode cX13_read 165 = .ok (.iaload, 1) := by decide +kernel
theorem dX13_read_142 : decode cX13_read 142 = .ok (.iconst 3, 1) := dX13_read_142g.1
theorem dX13_read_143 : decode cX13_read 143 = .ok (.istore_n 2, 1) := dX13_read_142g.2.1
theorem dX13_read_144 : decode cX13_read 144 = .ok (.aload_n 0, 1) := dX13_read_142g.2.2.1
theorem dX13_read_145 : decode cX13_read 145 = .ok (.iconst 0, 1) := dX13_read_142g.2.2.2.1
theorem dX13_read_146 : decode cX13_read 146 = .ok (.putfield 273, 3) := dX13_read_142g.2.2.2.2.1
theorem dX13_read_149 : decode cX13_read 149 = .ok (.iload_n 1, 1) := dX13_read_142g.2.2.2.2.2.1
theorem dX13_read_150 : decode cX13_read 150 = .ok (.iconst (-1), 1) := dX13_read_142g.2.2.2.2.2.2.1
theorem dX13_read_151 : decode cX13_read 151 = .ok (.if_icmp .eq 18, 3) := dX13_read_142g.2.2.2.2.2.2.2.1
theorem dX13_read_154 : decode cX13_read 154 = .ok (.aload_n 0, 1) := dX13_read_142g.2.2.2.2.2.2.2.2.1
theorem dX13_read_155 : decode cX13_read 155 = .ok (.iload_n 2, 1) := dX13_read_142g.2.2.2.2.2.2.2.2.2.1
theorem dX13_read_156 : decode cX13_read 156 = .ok (.putfield 276, 3) := dX13_read_142g.2.2.2.2.2.2.2.2.2.2.1
theorem dX13_read_159 : decode cX13_read 159 = .ok (.aload_n 0, 1) := dX13_read_142g.2.2.2.2.2.2.2.2.2.2.2.1
theorem dX13_read_160 : decode cX13_read 160 = .ok (.aload_n 0, 1) := dX13_read_142g.2.2.2.2.2.2.2.2.2.2.2.2.1
theorem dX13_read_161 : decode cX13_read 161 = .ok (.getfield 129, 3) := dX13_read_142g.2.2.2.2.2.2.2.2.2.2.2.2.2.1
theorem dX13_read_164 : decode cX13_read 164 = .ok (.iload_n 1, 1) := dX13_read_142g.2.2.2.2.2.2.2.2.2.2.2.2.2.2.1
theorem dX13_read_165 : decode cX13_read 165 = .ok (.iaload, 1) := dX13_read_142g.2.2.2.2.2.2.2.2.2.2.2.2.2.2.2
theorem dX13_read_166g : decode cX13_read 166 = .ok (.putfield 122, 3) ∧ decode cX13_read 169 = .ok (.aload_n 0, 1) ∧ decode cX13_read 170 = .ok (.aload_n 0, 1) ∧ decode cX13_read 171 = .ok (.getfield 276, 3) ∧ decode cX13_read 174 = .ok (.ifCond .le 7, 3) ∧ decode cX13_read 177 = .ok (.iconst 1, 1) ∧ decode cX13_read 178 = .ok (.goto 4, 3) ∧ decode cX13_read 181 = .ok (.iconst 0, 1) ∧ decode cX13_read 182 = .ok (.putfield 252, 3) ∧ decode cX13_read 185 = .ok (.aload_n 0, 1) ∧ decode cX13_read 186 = .ok (.getfield 276, 3) ∧ decode cX13_read 189 = .ok (.ifCond .le 5, 3) ∧ decode cX13_read 192 = .ok (.iconst 0, 1) ∧ decode cX13_read 193 = .ok (.ireturn, 1) ∧ decode cX13_read 194 = .ok (.iconst 0, 1) ∧ decode cX13_read 195 = .ok (.istore_n 3, 1) := by decide +kernel
theorem dX13_read_166 : decode cX13_read 166 = .ok (.putfield 122, 3) := dX13_read_166g.1
theorem dX13_read_169 : decode cX13_read 169 = .ok (.aload_n 0, 1) := dX13_read_166g.2.1
theorem dX13_read_170 : decode cX13_read 170 = .ok (.aload_n 0, 1) := dX13_read_166g.2.2.1
theorem dX13_read_171 : decode cX13_read 171 = .ok (.getfield 276, 3) := dX13_read_166g.2.2.2.1
theorem dX13_read_174 : decode cX13_read 174 = .ok (.ifCond .le 7, 3) := dX13_read_166g.2.2.2.2.1
theorem dX13_read_177 : decode cX13_read 177 = .ok (.iconst 1, 1) := dX13_read_166g.2.2.2.2.2.1
theorem dX13_read_178 : decode cX13_read 178 = .ok (.goto 4, 3) := dX13_read_166g.2.2.2.2.2.2.1
theorem dX13_read_181 : decode cX13_read 181 = .ok (.iconst 0, 1) := dX13_read_166g.2.2.2.2.2.2.2.1
theorem dX13_read_182 : decode cX13_read 182 = .ok (.putfield 252, 3) := dX13_read_166g.2.2.2.2.2.2.2.2.1
theorem dX13_read_185 : decode cX13_read 185 = .ok (.aload_n 0, 1) := dX13_read_166g.2.2.2.2.2.2.2.2.2.1
theorem dX13_read_186 : decode cX13_read 186 = .ok (.getfield 276, 3) := dX13_read_166g.2.2.2.2.2.2.2.2.2.2.1
theorem dX13_read_189 : decode cX13_read 189 = .ok (.ifCond .le 5, 3) := dX13_read_166g.2.2.2.2.2.2.2.2.2.2.2.1
theorem dX13_read_192 : decode cX13_read 192 = .ok (.iconst 0, 1) := dX13_read_166g.2.2.2.2.2.2.2.2.2.2.2.2.1
theorem dX13_read_193 : decode cX13_read 193 = .ok (.ireturn, 1) := dX13_read_166g.2.2.2.2.2.2.2.2.2.2.2.2.2.1
theorem dX13_read_194 : decode cX13_read 194 = .ok (.iconst 0, 1) := dX13_read_166g.2.2.2.2.2.2.2.2.2.2.2.2.2.2.1
theorem dX13_read_195 : decode cX13_read 195 = .ok (.istore_n 3, 1) := dX13_read_166g.2.2.2.2.2.2.2.2.2.2.2.2.2.2.2
theorem dX13_read_196g : decode cX13_read 196 = .ok (.iload_n 3, 1) ∧ decode cX13_read 197 = .ok (.aload_n 0, 1) ∧ decode cX13_read 198 = .ok (.getfield 439, 3) ∧ decode cX13_read 201 = .ok (.if_icmp .ge 14, 3) ∧ decode cX13_read 204 = .ok (.aload_n 0, 1) ∧ decode cX13_read 205 = .ok (.iload_n 3, 1) ∧ decode cX13_read 206 = .ok (.invokevirtual 495, 3) ∧ decode cX13_read 209 = .ok (.iinc 3 1, 3) ∧ decode cX13_read 212 = .ok (.goto (-16), 3) ∧ decode cX13_read 215 = .ok (.aload_n 0, 1) ∧ decode cX13_read 216 = .ok (.iconst 1, 1) ∧ decode cX13_read 217 = .ok (.putfield 477, 3) ∧ decode cX13_read 220 = .ok (.aload_n 0, 1) ∧ decode cX13_read 221 = .ok (.getfield 439, 3) ∧ decode cX13_read 224 = .ok (.ireturn, 1) := by decide +kernel
theorem dX13_read_196 : decode cX13_read 196 = .ok (.iload_n 3, 1) := dX13_read_196g.1
theorem dX13_read_197 : decode cX13_read 197 = .ok (.aload_n 0, 1) := dX13_read_196g.2.1
theorem dX13_read_198 : decode cX13_read 198 = .ok (.getfield 439, 3) := dX13_read_196g.2.2.1
theorem dX13_read_201 : decode cX13_read 201 = .ok (.if_icmp .ge 14, 3) := dX13_read_196g.2.2.2.1
theorem dX13_read_204 : decode cX13_read 204 = .ok (.aload_n 0, 1) := dX13_read_196g.2.2.2.2.1
theorem dX13_read_205 : decode cX13_read 205 = .ok (.iload_n 3, 1) := dX13_read_196g.2.2.2.2.2.1
theorem dX13_read_206 : decode cX13_read 206 = .ok (.invokevirtual 495, 3) := dX13_read_196g.2.2.2.2.2.2.1
theorem dX13_read_209 : decode cX13_read 209 = .ok (.iinc 3 1, 3) := dX13_read_196g.2.2.2.2.2.2.2.1
theorem dX13_read_212 : decode cX13_read 212 = .ok (.goto (-16), 3) := dX13_read_196g.2.2.2.2.2.2.2.2.1
theorem dX13_read_215 : decode cX13_read 215 = .ok (.aload_n 0, 1) := dX13_read_196g.2.2.2.2.2.2.2.2.2.1
theorem dX13_read_216 : decode cX13_read 216 = .ok (.iconst 1, 1) := dX13_read_196g.2.2.2.2.2.2.2.2.2.2.1
theorem dX13_read_217 : decode cX13_read 217 = .ok (.putfield 477, 3) := dX13_read_196g.2.2.2.2.2.2.2.2.2.2.2.1
theorem dX13_read_220 : decode cX13_read 220 = .ok (.aload_n 0, 1) := dX13_read_196g.2.2.2.2.2.2.2.2.2.2.2.2.1
theorem dX13_read_221 : decode cX13_read 221 = .ok (.getfield 439, 3) := dX13_read_196g.2.2.2.2.2.2.2.2.2.2.2.2.2.1
theorem dX13_read_224 : decode cX13_read 224 = .ok (.ireturn, 1) := dX13_read_196g.2.2.2.2.2.2.2.2.2.2.2.2.2.2
theorem dX13_fault_0g : decode cX13_fault 0 = .ok (.aload_n 0, 1) ∧ decode cX13_fault 1 = .ok (.iconst 0, 1) ∧ decode cX13_fault 2 = .ok (.putfield 252, 3) ∧ decode cX13_fault 5 = .ok (.iload_n 1, 1) ∧ decode cX13_fault 6 = .ok (.tableswitch 50 0 3 #[30, 35, 40, 45], 30) ∧ decode cX13_fault 36 = .ok (.aload_n 0, 1) ∧ decode cX13_fault 37 = .ok (.getfield 276, 3) ∧ decode cX13_fault 40 = .ok (.ireturn, 1) ∧ decode cX13_fault 41 = .ok (.aload_n 0, 1) ∧ decode cX13_fault 42 = .ok (.getfield 122, 3) ∧ decode cX13_fault 45 = .ok (.ireturn, 1) ∧ decode cX13_fault 46 = .ok (.aload_n 0, 1) ∧ decode cX13_fault 47 = .ok (.getfield 498, 3) ∧ decode cX13_fault 50 = .ok (.ireturn, 1) ∧ decode cX13_fault 51 = .ok (.aload_n 0, 1) ∧ decode cX13_fault 52 = .ok (.getfield 186, 3) := by decide +kernel
theorem dX13_fault_0 : decode cX13_fault 0 = .ok (.aload_n 0, 1) := dX13_fault_0g.1
theorem dX13_fault_1 : decode cX13_fault 1 = .ok (.iconst 0, 1) := dX13_fault_0g.2.1
theorem dX13_fault_2 : decode cX13_fault 2 = .ok (.putfield 252, 3) := dX13_fault_0g.2.2.1
theorem dX13_fault_5 : decode cX13_fault 5 = .ok (.iload_n 1, 1) := dX13_fault_0g.2.2.2.1
theorem dX13_fault_6 : decode cX13_fault 6 = .ok (.tableswitch 50 0 3 #[30, 35, 40, 45], 30) := dX13_fault_0g.2.2.2.2.1
theorem dX13_fault_36 : decode cX13_fault 36 = .ok (.aload_n 0, 1) := dX13_fault_0g.2.2.2.2.2.1
theorem dX13_fault_37 : decode cX13_fault 37 = .ok (.getfield 276, 3) := dX13_fault_0g.2.2.2.2.2.2.1
theorem dX13_fault_40 : decode cX13_fault 40 = .ok (.ireturn, 1) := dX13_fault_0g.2.2.2.2.2.2.2.1
theorem dX13_fault_41 : decode cX13_fault 41 = .ok (.aload_n 0, 1) := dX13_fault_0g.2.2.2.2.2.2.2.2.1
theorem dX13_fault_42 : decode cX13_fault 42 = .ok (.getfield 122, 3) := dX13_fault_0g.2.2.2.2.2.2.2.2.2.1
theorem dX13_fault_45 : decode cX13_fault 45 = .ok (.ireturn, 1) := dX13_fault_0g.2.2.2.2.2.2.2.2.2.2.1
theorem dX13_fault_46 : decode cX13_fault 46 = .ok (.aload_n 0, 1) := dX13_fault_0g.2.2.2.2.2.2.2.2.2.2.2.1
theorem dX13_fault_47 : decode cX13_fault 47 = .ok (.getfield 498, 3) := dX13_fault_0g.2.2.2.2.2.2.2.2.2.2.2.2.1
theorem dX13_fault_50 : decode cX13_fault 50 = .ok (.ireturn, 1) := dX13_fault_0g.2.2.2.2.2.2.2.2.2.2.2.2.2.1
theorem dX13_fault_51 : decode cX13_fault 51 = .ok (.aload_n 0, 1) := dX13_fault_0g.2.2.2.2.2.2.2.2.2.2.2.2.2.2.1
theorem dX13_fault_52 : decode cX13_fault 52 = .ok (.getfield 186, 3) := dX13_fault_0g.2.2.2.2.2.2.2.2.2.2.2.2.2.2.2
theorem dX13_fault_55g : decode cX13_fault 55 = .ok (.ireturn, 1) ∧ decode cX13_fault 56 = .ok (.iconst (-1), 1) ∧ decode cX13_fault 57 = .ok (.ireturn, 1) := by decide +kernel
theorem dX13_fault_55 : decode cX13_fault 55 = .ok (.ireturn, 1) := dX13_fault_55g.1
theorem dX13_fault_56 : decode cX13_fault 56 = .ok (.iconst (-1), 1) := dX13_fault_55g.2.1
theorem dX13_fault_57 : decode cX13_fault 57 = .ok (.ireturn, 1) := dX13_fault_55g.2.2
theorem dX13_happens_0g : decode cX13_happens 0 = .ok (.aload_n 0, 1) ∧ decode cX13_happens 1 = .ok (.getfield 471, 3) ∧ decode cX13_happens 4 = .ok (.sipush 400, 3) ∧ decode cX13_happens 7 = .ok (.if_icmp .ne 4, 3) ∧ decode cX13_happens 10 = .ok (.return_, 1) ∧ decode cX13_happens 11 = .ok (.aload_n 0, 1) ∧ decode cX13_happens 12 = .ok (.getfield 195, 3) ∧ decode cX13_happens 15 = .ok (.aload_n 0, 1) ∧ decode cX13_happens 16 = .ok (.getfield 471, 3) ∧ decode cX13_happens 19 = .ok (.iload_n 1, 1) ∧ decode cX13_happens 20 = .ok (.iastore, 1) ∧ decode cX13_happens 21 = .ok (.aload_n 0, 1) ∧ decode cX13_happens 22 = .ok (.getfield 198, 3) ∧ decode cX13_happens 25 = .ok (.aload_n 0, 1) ∧ decode cX13_happens 26 = .ok (.getfield 471, 3) ∧ decode cX13_happens 29 = .ok (.iload_n 2, 1) := by decide +kernel
theorem dX13_happens_0 : decode cX13_happens 0 = .ok (.aload_n 0, 1) := dX13_happens_0g.1
theorem dX13_happens_1 : decode cX13_happens 1 = .ok (.getfield 471, 3) := dX13_happens_0g.2.1
theorem dX13_happens_4 : decode cX13_happens 4 = .ok (.sipush 400, 3) := dX13_happens_0g.2.2.1
theorem dX13_happens_7 : decode cX13_happens 7 = .ok (.if_icmp .ne 4, 3) := dX13_happens_0g.2.2.2.1
theorem dX13_happens_10 : decode cX13_happens 10 = .ok (.return_, 1) := dX13_happens_0g.2.2.2.2.1
theorem dX13_happens_11 : decode cX13_happens 11 = .ok (.aload_n 0, 1) := dX13_happens_0g.2.2.2.2.2.1
theorem dX13_happens_12 : decode cX13_happens 12 = .ok (.getfield 195, 3) := dX13_happens_0g.2.2.2.2.2.2.1
theorem dX13_happens_15 : decode cX13_happens 15 = .ok (.aload_n 0, 1) := dX13_happens_0g.2.2.2.2.2.2.2.1
theorem dX13_happens_16 : decode cX13_happens 16 = .ok (.getfield 471, 3) := dX13_happens_0g.2.2.2.2.2.2.2.2.1
theorem dX13_happens_19 : decode cX13_happens 19 = .ok (.iload_n 1, 1) := dX13_happens_0g.2.2.2.2.2.2.2.2.2.1
theorem dX13_happens_20 : decode cX13_happens 20 = .ok (.iastore, 1) := dX13_happens_0g.2.2.2.2.2.2.2.2.2.2.1
theorem dX13_happens_21 : decode cX13_happens 21 = .ok (.aload_n 0, 1) := dX13_happens_0g.2.2.2.2.2.2.2.2.2.2.2.1
theorem dX13_happens_22 : decode cX13_happens 22 = .ok (.getfield 198, 3) := dX13_happens_0g.2.2.2.2.2.2.2.2.2.2.2.2.1
theorem dX13_happens_25 : decode cX13_happens 25 = .ok (.aload_n 0, 1) := dX13_happens_0g.2.2.2.2.2.2.2.2.2.2.2.2.2.1
theorem dX13_happens_26 : decode cX13_happens 26 = .ok (.getfield 471, 3) := dX13_happens_0g.2.2.2.2.2.2.2.2.2.2.2.2.2.2.1
theorem dX13_happens_29 : decode cX13_happens 29 = .ok (.iload_n 2, 1) := dX13_happens_0g.2.2.2.2.2.2.2.2.2.2.2.2.2.2.2
theorem dX13_happens_30g : decode cX13_happens 30 = .ok (.iastore, 1) ∧ decode cX13_happens 31 = .ok (.aload_n 0, 1) ∧ decode cX13_happens 32 = .ok (.getfield 201, 3) ∧ decode cX13_happens 35 = .ok (.aload_n 0, 1) ∧ decode cX13_happens 36 = .ok (.getfield 471, 3) ∧ decode cX13_happens 39 = .ok (.iload_n 3, 1) ∧ decode cX13_happens 40 = .ok (.iastore, 1) ∧ decode cX13_happens 41 = .ok (.aload_n 0, 1) ∧ decode cX13_happens 42 = .ok (.getfield 204, 3) ∧ decode cX13_happens 45 = .ok (.aload_n 0, 1) ∧ decode cX13_happens 46 = .ok (.getfield 471, 3) ∧ decode cX13_happens 49 = .ok (.iload 4, 2) ∧ decode cX13_happens 51 = .ok (.iastore, 1) ∧ decode cX13_happens 52 = .ok (.aload_n 0, 1) ∧ decode cX13_happens 53 = .ok (.dup, 1) ∧ decode cX13_happens 54 = .ok (.getfield 471, 3) := by decide +kernel
theorem dX13_happens_30 : decode cX13_happens 30 = .ok (.iastore, 1) := dX13_happens_30g.1
theorem dX13_happens_31 : decode cX13_happens 31 = .ok (.aload_n 0, 1) := dX13_happens_30g.2.1
theorem dX13_happens_32 : decode cX13_happens 32 = .ok (.getfield 201, 3) := dX13_happens_30g.2.2.1
theorem dX13_happens_35 : decode cX13_happens 35 = .ok (.aload_n 0, 1) := dX13_happens_30g.2.2.2.1
theorem dX13_happens_36 : decode cX13_happens 36 = .ok (.getfield 471, 3) := dX13_happens_30g.2.2.2.2.1
theorem dX13_happens_39 : decode cX13_happens 39 = .ok (.iload_n 3, 1) := dX13_happens_30g.2.2.2.2.2.1
theorem dX13_happens_40 : decode cX13_happens 40 = .ok (.iastore, 1) := dX13_happens_30g.2.2.2.2.2.2.1
theorem dX13_happens_41 : decode cX13_happens 41 = .ok (.aload_n 0, 1) := dX13_happens_30g.2.2.2.2.2.2.2.1
theorem dX13_happens_42 : decode cX13_happens 42 = .ok (.getfield 204, 3) := dX13_happens_30g.2.2.2.2.2.2.2.2.1
theorem dX13_happens_45 : decode cX13_happens 45 = .ok (.aload_n 0, 1) := dX13_happens_30g.2.2.2.2.2.2.2.2.2.1
theorem dX13_happens_46 : decode cX13_happens 46 = .ok (.getfield 471, 3) := dX13_happens_30g.2.2.2.2.2.2.2.2.2.2.1
theorem dX13_happens_49 : decode cX13_happens 49 = .ok (.iload 4, 2) := dX13_happens_30g.2.2.2.2.2.2.2.2.2.2.2.1
theorem dX13_happens_51 : decode cX13_happens 51 = .ok (.iastore, 1) := dX13_happens_30g.2.2.2.2.2.2.2.2.2.2.2.2.1
theorem dX13_happens_52 : decode cX13_happens 52 = .ok (.aload_n 0, 1) := dX13_happens_30g.2.2.2.2.2.2.2.2.2.2.2.2.2.1
theorem dX13_happens_53 : decode cX13_happens 53 = .ok (.dup, 1) := dX13_happens_30g.2.2.2.2.2.2.2.2.2.2.2.2.2.2.1
theorem dX13_happens_54 : decode cX13_happens 54 = .ok (.getfield 471, 3) := dX13_happens_30g.2.2.2.2.2.2.2.2.2.2.2.2.2.2.2
theorem dX13_happens_57g : decode cX13_happens 57 = .ok (.iconst 1, 1) ∧ decode cX13_happens 58 = .ok (.iadd, 1) ∧ decode cX13_happens 59 = .ok (.putfield 471, 3) ∧ decode cX13_happens 62 = .ok (.return_, 1) := by decide +kernel
theorem dX13_happens_57 : decode cX13_happens 57 = .ok (.iconst 1, 1) := dX13_happens_57g.1
theorem dX13_happens_58 : decode cX13_happens 58 = .ok (.iadd, 1) := dX13_happens_57g.2.1
theorem dX13_happens_59 : decode cX13_happens 59 = .ok (.putfield 471, 3) := dX13_happens_57g.2.2.1
theorem dX13_happens_62 : decode cX13_happens 62 = .ok (.return_, 1) := dX13_happens_57g.2.2.2
theorem dX13_fails_0g : decode cX13_fails 0 = .ok (.aload_n 0, 1) ∧ decode cX13_fails 1 = .ok (.getfield 498, 3) ∧ decode cX13_fails 4 = .ok (.ifCond .eq 4, 3) ∧ decode cX13_fails 7 = .ok (.return_, 1) ∧ decode cX13_fails 8 = .ok (.aload_n 0, 1) ∧ decode cX13_fails 9 = .ok (.iload_n 1, 1) ∧ decode cX13_fails 10 = .ok (.putfield 498, 3) ∧ decode cX13_fails 13 = .ok (.aload_n 0, 1) ∧ decode cX13_fails 14 = .ok (.aload_n 0, 1) ∧ decode cX13_fails 15 = .ok (.getfield 501, 3) ∧ decode cX13_fails 18 = .ok (.ifCond .ne 7, 3) ∧ decode cX13_fails 21 = .ok (.iconst (-1), 1) ∧ decode cX13_fails 22 = .ok (.goto 14, 3) ∧ decode cX13_fails 25 = .ok (.aload_n 0, 1) ∧ decode cX13_fails 26 = .ok (.getfield 219, 3) ∧ decode cX13_fails 29 = .ok (.aload_n 0, 1) := by decide +kernel
theorem dX13_fails_0 : decode cX13_fails 0 = .ok (.aload_n 0, 1) := dX13_fails_0g.1
theorem dX13_fails_1 : decode cX13_fails 1 = .ok (.getfield 498, 3) := dX13_fails_0g.2.1
theorem dX13_fails_4 : decode cX13_fails 4 = .ok (.ifCond .eq 4, 3) := dX13_fails_0g.2.2.1
theorem dX13_fails_7 : decode cX13_fails 7 = .ok (.return_, 1) := dX13_fails_0g.2.2.2.1
theorem dX13_fails_8 : decode cX13_fails 8 = .ok (.aload_n 0, 1) := dX13_fails_0g.2.2.2.2.1
theorem dX13_fails_9 : decode cX13_fails 9 = .ok (.iload_n 1, 1) := dX13_fails_0g.2.2.2.2.2.1
theorem dX13_fails_10 : decode cX13_fails 10 = .ok (.putfield 498, 3) := dX13_fails_0g.2.2.2.2.2.2.1
theorem dX13_fails_13 : decode cX13_fails 13 = .ok (.aload_n 0, 1) := dX13_fails_0g.2.2.2.2.2.2.2.1
theorem dX13_fails_14 : decode cX13_fails 14 = .ok (.aload_n 0, 1) := dX13_fails_0g.2.2.2.2.2.2.2.2.1
theorem dX13_fails_15 : decode cX13_fails 15 = .ok (.getfield 501, 3) := dX13_fails_0g.2.2.2.2.2.2.2.2.2.1
theorem dX13_fails_18 : decode cX13_fails 18 = .ok (.ifCond .ne 7, 3) := dX13_fails_0g.2.2.2.2.2.2.2.2.2.2.1
theorem dX13_fails_21 : decode cX13_fails 21 = .ok (.iconst (-1), 1) := dX13_fails_0g.2.2.2.2.2.2.2.2.2.2.2.1
theorem dX13_fails_22 : decode cX13_fails 22 = .ok (.goto 14, 3) := dX13_fails_0g.2.2.2.2.2.2.2.2.2.2.2.2.1
theorem dX13_fails_25 : decode cX13_fails 25 = .ok (.aload_n 0, 1) := dX13_fails_0g.2.2.2.2.2.2.2.2.2.2.2.2.2.1
theorem dX13_fails_26 : decode cX13_fails 26 = .ok (.getfield 219, 3) := dX13_fails_0g.2.2.2.2.2.2.2.2.2.2.2.2.2.2.1
theorem dX13_fails_29 : decode cX13_fails 29 = .ok (.aload_n 0, 1) := dX13_fails_0g.2.2.2.2.2.2.2.2.2.2.2.2.2.2.2
theorem dX13_fails_30g : decode cX13_fails 30 = .ok (.getfield 501, 3) ∧ decode cX13_fails 33 = .ok (.iconst 1, 1) ∧ decode cX13_fails 34 = .ok (.isub, 1) ∧ decode cX13_fails 35 = .ok (.iaload, 1) ∧ decode cX13_fails 36 = .ok (.putfield 186, 3) ∧ decode cX13_fails 39 = .ok (.return_, 1) := by decide +kernel
theorem dX13_fails_30 : decode cX13_fails 30 = .ok (.getfield 501, 3) := dX13_fails_30g.1
theorem dX13_fails_33 : decode cX13_fails 33 = .ok (.iconst 1, 1) := dX13_fails_30g.2.1
theorem dX13_fails_34 : decode cX13_fails 34 = .ok (.isub, 1) := dX13_fails_30g.2.2.1
theorem dX13_fails_35 : decode cX13_fails 35 = .ok (.iaload, 1) := dX13_fails_30g.2.2.2.1
theorem dX13_fails_36 : decode cX13_fails 36 = .ok (.putfield 186, 3) := dX13_fails_30g.2.2.2.2.1
theorem dX13_fails_39 : decode cX13_fails 39 = .ok (.return_, 1) := dX13_fails_30g.2.2.2.2.2
theorem dX13_isMany_0g : decode cX13_isMany 0 = .ok (.aload_n 0, 1) ∧ decode cX13_isMany 1 = .ok (.getfield 132, 3) ∧ decode cX13_isMany 4 = .ok (.aload_n 0, 1) ∧ decode cX13_isMany 5 = .ok (.getfield 168, 3) ∧ decode cX13_isMany 8 = .ok (.iload_n 1, 1) ∧ decode cX13_isMany 9 = .ok (.iaload, 1) ∧ decode cX13_isMany 10 = .ok (.iaload, 1) ∧ decode cX13_isMany 11 = .ok (.ifCond .ne 26, 3) ∧ decode cX13_isMany 14 = .ok (.aload_n 0, 1) ∧ decode cX13_isMany 15 = .ok (.aload_n 0, 1) ∧ decode cX13_isMany 16 = .ok (.getfield 168, 3) ∧ decode cX13_isMany 19 = .ok (.iload_n 1, 1) ∧ decode cX13_isMany 20 = .ok (.iaload, 1) ∧ decode cX13_isMany 21 = .ok (.ldc2_w 392, 3) ∧ decode cX13_isMany 24 = .ok (.invokevirtual 359, 3) ∧ decode cX13_isMany 27 = .ok (.aload_n 0, 1) := by decide +kernel
theorem dX13_isMany_0 : decode cX13_isMany 0 = .ok (.aload_n 0, 1) := dX13_isMany_0g.1
theorem dX13_isMany_1 : decode cX13_isMany 1 = .ok (.getfield 132, 3) := dX13_isMany_0g.2.1
theorem dX13_isMany_4 : decode cX13_isMany 4 = .ok (.aload_n 0, 1) := dX13_isMany_0g.2.2.1
theorem dX13_isMany_5 : decode cX13_isMany 5 = .ok (.getfield 168, 3) := dX13_isMany_0g.2.2.2.1
theorem dX13_isMany_8 : decode cX13_isMany 8 = .ok (.iload_n 1, 1) := dX13_isMany_0g.2.2.2.2.1
theorem dX13_isMany_9 : decode cX13_isMany 9 = .ok (.iaload, 1) := dX13_isMany_0g.2.2.2.2.2.1
theorem dX13_isMany_10 : decode cX13_isMany 10 = .ok (.iaload, 1) := dX13_isMany_0g.2.2.2.2.2.2.1
theorem dX13_isMany_11 : decode cX13_isMany 11 = .ok (.ifCond .ne 26, 3) := dX13_isMany_0g.2.2.2.2.2.2.2.1
theorem dX13_isMany_14 : decode cX13_isMany 14 = .ok (.aload_n 0, 1) := dX13_isMany_0g.2.2.2.2.2.2.2.2.1
theorem dX13_isMany_15 : decode cX13_isMany 15 = .ok (.aload_n 0, 1) := dX13_isMany_0g.2.2.2.2.2.2.2.2.2.1
theorem dX13_isMany_16 : decode cX13_isMany 16 = .ok (.getfield 168, 3) := dX13_isMany_0g.2.2.2.2.2.2.2.2.2.2.1
theorem dX13_isMany_19 : decode cX13_isMany 19 = .ok (.iload_n 1, 1) := dX13_isMany_0g.2.2.2.2.2.2.2.2.2.2.2.1
theorem dX13_isMany_20 : decode cX13_isMany 20 = .ok (.iaload, 1) := dX13_isMany_0g.2.2.2.2.2.2.2.2.2.2.2.2.1
theorem dX13_isMany_21 : decode cX13_isMany 21 = .ok (.ldc2_w 392, 3) := dX13_isMany_0g.2.2.2.2.2.2.2.2.2.2.2.2.2.1
theorem dX13_isMany_24 : decode cX13_isMany 24 = .ok (.invokevirtual 359, 3) := dX13_isMany_0g.2.2.2.2.2.2.2.2.2.2.2.2.2.2.1
theorem dX13_isMany_27 : decode cX13_isMany 27 = .ok (.aload_n 0, 1) := dX13_isMany_0g.2.2.2.2.2.2.2.2.2.2.2.2.2.2.2
theorem dX13_isMany_28g : decode cX13_isMany 28 = .ok (.getfield 55, 3) ∧ decode cX13_isMany 31 = .ok (.iconst 3, 1) ∧ decode cX13_isMany 32 = .ok (.laload, 1) ∧ decode cX13_isMany 33 = .ok (.lcmp, 1) ∧ decode cX13_isMany 34 = .ok (.ifCond .ne 7, 3) ∧ decode cX13_isMany 37 = .ok (.iconst 1, 1) ∧ decode cX13_isMany 38 = .ok (.goto 4, 3) ∧ decode cX13_isMany 41 = .ok (.iconst 0, 1) ∧ decode cX13_isMany 42 = .ok (.ireturn, 1) := by decide +kernel
theorem dX13_isMany_28 : decode cX13_isMany 28 = .ok (.getfield 55, 3) := dX13_isMany_28g.1
theorem dX13_isMany_31 : decode cX13_isMany 31 = .ok (.iconst 3, 1) := dX13_isMany_28g.2.1
theorem dX13_isMany_32 : decode cX13_isMany 32 = .ok (.laload, 1) := dX13_isMany_28g.2.2.1
theorem dX13_isMany_33 : decode cX13_isMany 33 = .ok (.lcmp, 1) := dX13_isMany_28g.2.2.2.1
theorem dX13_isMany_34 : decode cX13_isMany 34 = .ok (.ifCond .ne 7, 3) := dX13_isMany_28g.2.2.2.2.1
theorem dX13_isMany_37 : decode cX13_isMany 37 = .ok (.iconst 1, 1) := dX13_isMany_28g.2.2.2.2.2.1
theorem dX13_isMany_38 : decode cX13_isMany 38 = .ok (.goto 4, 3) := dX13_isMany_28g.2.2.2.2.2.2.1
theorem dX13_isMany_41 : decode cX13_isMany 41 = .ok (.iconst 0, 1) := dX13_isMany_28g.2.2.2.2.2.2.2.1
theorem dX13_isMany_42 : decode cX13_isMany 42 = .ok (.ireturn, 1) := dX13_isMany_28g.2.2.2.2.2.2.2.2
theorem dX13_isAbstract_0g : decode cX13_isAbstract 0 = .ok (.aload_n 0, 1) ∧ decode cX13_isAbstract 1 = .ok (.aload_n 0, 1) ∧ decode cX13_isAbstract 2 = .ok (.getfield 168, 3) ∧ decode cX13_isAbstract 5 = .ok (.iload_n 1, 1) ∧ decode cX13_isAbstract 6 = .ok (.iaload, 1) ∧ decode cX13_isAbstract 7 = .ok (.ldc2_w 390, 3) ∧ decode cX13_isAbstract 10 = .ok (.invokevirtual 359, 3) ∧ decode cX13_isAbstract 13 = .ok (.aload_n 0, 1) ∧ decode cX13_isAbstract 14 = .ok (.getfield 55, 3) ∧ decode cX13_isAbstract 17 = .ok (.iconst 0, 1) ∧ decode cX13_isAbstract 18 = .ok (.laload, 1) ∧ decode cX13_isAbstract 19 = .ok (.lcmp, 1) ∧ decode cX13_isAbstract 20 = .ok (.ifCond .ne 7, 3) ∧ decode cX13_isAbstract 23 = .ok (.iconst 1, 1) ∧ decode cX13_isAbstract 24 = .ok (.goto 4, 3) ∧ decode cX13_isAbstract 27 = .ok (.iconst 0, 1) := by decide +kernel
theorem dX13_isAbstract_0 : decode cX13_isAbstract 0 = .ok (.aload_n 0, 1) := dX13_isAbstract_0g.1
theorem dX13_isAbstract_1 : decode cX13_isAbstract 1 = .ok (.aload_n 0, 1) := dX13_isAbstract_0g.2.1
theorem dX13_isAbstract_2 : decode cX13_isAbstract 2 = .ok (.getfield 168, 3) := dX13_isAbstract_0g.2.2.1
theorem dX13_isAbstract_5 : decode cX13_isAbstract 5 = .ok (.iload_n 1, 1) := dX13_isAbstract_0g.2.2.2.1
theorem dX13_isAbstract_6 : decode cX13_isAbstract 6 = .ok (.iaload, 1) := dX13_isAbstract_0g.2.2.2.2.1
theorem dX13_isAbstract_7 : decode cX13_isAbstract 7 = .ok (.ldc2_w 390, 3) := dX13_isAbstract_0g.2.2.2.2.2.1
theorem dX13_isAbstract_10 : decode cX13_isAbstract 10 = .ok (.invokevirtual 359, 3) := dX13_isAbstract_0g.2.2.2.2.2.2.1
theorem dX13_isAbstract_13 : decode cX13_isAbstract 13 = .ok (.aload_n 0, 1) := dX13_isAbstract_0g.2.2.2.2.2.2.2.1
theorem dX13_isAbstract_14 : decode cX13_isAbstract 14 = .ok (.getfield 55, 3) := dX13_isAbstract_0g.2.2.2.2.2.2.2.2.1
theorem dX13_isAbstract_17 : decode cX13_isAbstract 17 = .ok (.iconst 0, 1) := dX13_isAbstract_0g.2.2.2.2.2.2.2.2.2.1
theorem dX13_isAbstract_18 : decode cX13_isAbstract 18 = .ok (.laload, 1) := dX13_isAbstract_0g.2.2.2.2.2.2.2.2.2.2.1
theorem dX13_isAbstract_19 : decode cX13_isAbstract 19 = .ok (.lcmp, 1) := dX13_isAbstract_0g.2.2.2.2.2.2.2.2.2.2.2.1
theorem dX13_isAbstract_20 : decode cX13_isAbstract 20 = .ok (.ifCond .ne 7, 3) := dX13_isAbstract_0g.2.2.2.2.2.2.2.2.2.2.2.2.1
theorem dX13_isAbstract_23 : decode cX13_isAbstract 23 = .ok (.iconst 1, 1) := dX13_isAbstract_0g.2.2.2.2.2.2.2.2.2.2.2.2.2.1
theorem dX13_isAbstract_24 : decode cX13_isAbstract 24 = .ok (.goto 4, 3) := dX13_isAbstract_0g.2.2.2.2.2.2.2.2.2.2.2.2.2.2.1
theorem dX13_isAbstract_27 : decode cX13_isAbstract 27 = .ok (.iconst 0, 1) := dX13_isAbstract_0g.2.2.2.2.2.2.2.2.2.2.2.2.2.2.2
theorem dX13_isAbstract_28 : decode cX13_isAbstract 28 = .ok (.ireturn, 1) := by decide +kernel
theorem dX13_called_0g : decode cX13_called 0 = .ok (.lload_n 1, 1) ∧ decode cX13_called 1 = .ok (.lstore_n 3, 1) ∧ decode cX13_called 2 = .ok (.iconst 0, 1) ∧ decode cX13_called 3 = .ok (.istore 5, 2) ∧ decode cX13_called 5 = .ok (.iload 5, 2) ∧ decode cX13_called 7 = .ok (.bipush 21, 2) ∧ decode cX13_called 9 = .ok (.if_icmp .ge 101, 3) ∧ decode cX13_called 12 = .ok (.aload_n 0, 1) ∧ decode cX13_called 13 = .ok (.lload_n 3, 1) ∧ decode cX13_called 14 = .ok (.invokevirtual 442, 3) ∧ decode cX13_called 17 = .ok (.istore 6, 2) ∧ decode cX13_called 19 = .ok (.iload 6, 2) ∧ decode cX13_called 21 = .ok (.iconst (-1), 1) ∧ decode cX13_called 22 = .ok (.if_icmp .eq 6, 3) ∧ decode cX13_called 25 = .ok (.iload 6, 2) ∧ decode cX13_called 27 = .ok (.ireturn, 1) := by decide +kernel
theorem dX13_called_0 : decode cX13_called 0 = .ok (.lload_n 1, 1) := dX13_called_0g.1
theorem dX13_called_1 : decode cX13_called 1 = .ok (.lstore_n 3, 1) := dX13_called_0g.2.1
theorem dX13_called_2 : decode cX13_called 2 = .ok (.iconst 0, 1) := dX13_called_0g.2.2.1
theorem dX13_called_3 : decode cX13_called 3 = .ok (.istore 5, 2) := dX13_called_0g.2.2.2.1
theorem dX13_called_5 : decode cX13_called 5 = .ok (.iload 5, 2) := dX13_called_0g.2.2.2.2.1
theorem dX13_called_7 : decode cX13_called 7 = .ok (.bipush 21, 2) := dX13_called_0g.2.2.2.2.2.1
theorem dX13_called_9 : decode cX13_called 9 = .ok (.if_icmp .ge 101, 3) := dX13_called_0g.2.2.2.2.2.2.1
theorem dX13_called_12 : decode cX13_called 12 = .ok (.aload_n 0, 1) := dX13_called_0g.2.2.2.2.2.2.2.1
theorem dX13_called_13 : decode cX13_called 13 = .ok (.lload_n 3, 1) := dX13_called_0g.2.2.2.2.2.2.2.2.1
theorem dX13_called_14 : decode cX13_called 14 = .ok (.invokevirtual 442, 3) := dX13_called_0g.2.2.2.2.2.2.2.2.2.1
theorem dX13_called_17 : decode cX13_called 17 = .ok (.istore 6, 2) := dX13_called_0g.2.2.2.2.2.2.2.2.2.2.1
theorem dX13_called_19 : decode cX13_called 19 = .ok (.iload 6, 2) := dX13_called_0g.2.2.2.2.2.2.2.2.2.2.2.1
theorem dX13_called_21 : decode cX13_called 21 = .ok (.iconst (-1), 1) := dX13_called_0g.2.2.2.2.2.2.2.2.2.2.2.2.1
theorem dX13_called_22 : decode cX13_called 22 = .ok (.if_icmp .eq 6, 3) := dX13_called_0g.2.2.2.2.2.2.2.2.2.2.2.2.2.1
theorem dX13_called_25 : decode cX13_called 25 = .ok (.iload 6, 2) := dX13_called_0g.2.2.2.2.2.2.2.2.2.2.2.2.2.2.1
theorem dX13_called_27 : decode cX13_called 27 = .ok (.ireturn, 1) := dX13_called_0g.2.2.2.2.2.2.2.2.2.2.2.2.2.2.2
theorem dX13_called_28g : decode cX13_called 28 = .ok (.ldc2_w 353, 3) ∧ decode cX13_called 31 = .ok (.lstore 7, 2) ∧ decode cX13_called 33 = .ok (.iconst 1, 1) ∧ decode cX13_called 34 = .ok (.istore 9, 2) ∧ decode cX13_called 36 = .ok (.iload 9, 2) ∧ decode cX13_called 38 = .ok (.aload_n 0, 1) ∧ decode cX13_called 39 = .ok (.getfield 329, 3) ∧ decode cX13_called 42 = .ok (.if_icmp .ge 50, 3) ∧ decode cX13_called 45 = .ok (.aload_n 0, 1) ∧ decode cX13_called 46 = .ok (.getfield 126, 3) ∧ decode cX13_called 49 = .ok (.iload 9, 2) ∧ decode cX13_called 51 = .ok (.iaload, 1) ∧ decode cX13_called 52 = .ok (.iconst 2, 1) ∧ decode cX13_called 53 = .ok (.if_icmp .ne 29, 3) ∧ decode cX13_called 56 = .ok (.aload_n 0, 1) ∧ decode cX13_called 57 = .ok (.iload 9, 2) := by decide +kernel
theorem dX13_called_28 : decode cX13_called 28 = .ok (.ldc2_w 353, 3) := dX13_called_28g.1
theorem dX13_called_31 : decode cX13_called 31 = .ok (.lstore 7, 2) := dX13_called_28g.2.1
theorem dX13_called_33 : decode cX13_called 33 = .ok (.iconst 1, 1) := dX13_called_28g.2.2.1
theorem dX13_called_34 : decode cX13_called 34 = .ok (.istore 9, 2) := dX13_called_28g.2.2.2.1
theorem dX13_called_36 : decode cX13_called 36 = .ok (.iload 9, 2) := dX13_called_28g.2.2.2.2.1
theorem dX13_called_38 : decode cX13_called 38 = .ok (.aload_n 0, 1) := dX13_called_28g.2.2.2.2.2.1
theorem dX13_called_39 : decode cX13_called 39 = .ok (.getfield 329, 3) := dX13_called_28g.2.2.2.2.2.2.1
theorem dX13_called_42 : decode cX13_called 42 = .ok (.if_icmp .ge 50, 3) := dX13_called_28g.2.2.2.2.2.2.2.1
theorem dX13_called_45 : decode cX13_called 45 = .ok (.aload_n 0, 1) := dX13_called_28g.2.2.2.2.2.2.2.2.1
theorem dX13_called_46 : decode cX13_called 46 = .ok (.getfield 126, 3) := dX13_called_28g.2.2.2.2.2.2.2.2.2.1
theorem dX13_called_49 : decode cX13_called 49 = .ok (.iload 9, 2) := dX13_called_28g.2.2.2.2.2.2.2.2.2.2.1
theorem dX13_called_51 : decode cX13_called 51 = .ok (.iaload, 1) := dX13_called_28g.2.2.2.2.2.2.2.2.2.2.2.1
theorem dX13_called_52 : decode cX13_called 52 = .ok (.iconst 2, 1) := dX13_called_28g.2.2.2.2.2.2.2.2.2.2.2.2.1
theorem dX13_called_53 : decode cX13_called 53 = .ok (.if_icmp .ne 29, 3) := dX13_called_28g.2.2.2.2.2.2.2.2.2.2.2.2.2.1
theorem dX13_called_56 : decode cX13_called 56 = .ok (.aload_n 0, 1) := dX13_called_28g.2.2.2.2.2.2.2.2.2.2.2.2.2.2.1
theorem dX13_called_57 : decode cX13_called 57 = .ok (.iload 9, 2) := dX13_called_28g.2.2.2.2.2.2.2.2.2.2.2.2.2.2.2
theorem dX13_called_59g : decode cX13_called 59 = .ok (.ldc2_w 382, 3) ∧ decode cX13_called 62 = .ok (.invokevirtual 359, 3) ∧ decode cX13_called 65 = .ok (.lload_n 3, 1) ∧ decode cX13_called 66 = .ok (.lcmp, 1) ∧ decode cX13_called 67 = .ok (.ifCond .ne 15, 3) ∧ decode cX13_called 70 = .ok (.aload_n 0, 1) ∧ decode cX13_called 71 = .ok (.iload 9, 2) ∧ decode cX13_called 73 = .ok (.ldc2_w 380, 3) ∧ decode cX13_called 76 = .ok (.invokevirtual 359, 3) ∧ decode cX13_called 79 = .ok (.goto 5, 3) ∧ decode cX13_called 82 = .ok (.lload 7, 2) ∧ decode cX13_called 84 = .ok (.lstore 7, 2) ∧ decode cX13_called 86 = .ok (.iinc 9 1, 3) ∧ decode cX13_called 89 = .ok (.goto (-53), 3) ∧ decode cX13_called 92 = .ok (.lload 7, 2) ∧ decode cX13_called 94 = .ok (.lconst 0, 1) := by decide +kernel
theorem dX13_called_59 : decode cX13_called 59 = .ok (.ldc2_w 382, 3) := dX13_called_59g.1
theorem dX13_called_62 : decode cX13_called 62 = .ok (.invokevirtual 359, 3) := dX13_called_59g.2.1
theorem dX13_called_65 : decode cX13_called 65 = .ok (.lload_n 3, 1) := dX13_called_59g.2.2.1
theorem dX13_called_66 : decode cX13_called 66 = .ok (.lcmp, 1) := dX13_called_59g.2.2.2.1
theorem dX13_called_67 : decode cX13_called 67 = .ok (.ifCond .ne 15, 3) := dX13_called_59g.2.2.2.2.1
theorem dX13_called_70 : decode cX13_called 70 = .ok (.aload_n 0, 1) := dX13_called_59g.2.2.2.2.2.1
theorem dX13_called_71 : decode cX13_called 71 = .ok (.iload 9, 2) := dX13_called_59g.2.2.2.2.2.2.1
theorem dX13_called_73 : decode cX13_called 73 = .ok (.ldc2_w 380, 3) := dX13_called_59g.2.2.2.2.2.2.2.1
theorem dX13_called_76 : decode cX13_called 76 = .ok (.invokevirtual 359, 3) := dX13_called_59g.2.2.2.2.2.2.2.2.1
theorem dX13_called_79 : decode cX13_called 79 = .ok (.goto 5, 3) := dX13_called_59g.2.2.2.2.2.2.2.2.2.1
theorem dX13_called_82 : decode cX13_called 82 = .ok (.lload 7, 2) := dX13_called_59g.2.2.2.2.2.2.2.2.2.2.1
theorem dX13_called_84 : decode cX13_called 84 = .ok (.lstore 7, 2) := dX13_called_59g.2.2.2.2.2.2.2.2.2.2.2.1
theorem dX13_called_86 : decode cX13_called 86 = .ok (.iinc 9 1, 3) := dX13_called_59g.2.2.2.2.2.2.2.2.2.2.2.2.1
theorem dX13_called_89 : decode cX13_called 89 = .ok (.goto (-53), 3) := dX13_called_59g.2.2.2.2.2.2.2.2.2.2.2.2.2.1
theorem dX13_called_92 : decode cX13_called 92 = .ok (.lload 7, 2) := dX13_called_59g.2.2.2.2.2.2.2.2.2.2.2.2.2.2.1
theorem dX13_called_94 : decode cX13_called 94 = .ok (.lconst 0, 1) := dX13_called_59g.2.2.2.2.2.2.2.2.2.2.2.2.2.2.2
theorem dX13_called_95g : decode cX13_called 95 = .ok (.lcmp, 1) ∧ decode cX13_called 96 = .ok (.ifCond .ge 5, 3) ∧ decode cX13_called 99 = .ok (.iconst (-1), 1) ∧ decode cX13_called 100 = .ok (.ireturn, 1) ∧ decode cX13_called 101 = .ok (.lload 7, 2) ∧ decode cX13_called 103 = .ok (.lstore_n 3, 1) ∧ decode cX13_called 104 = .ok (.iinc 5 1, 3) ∧ decode cX13_called 107 = .ok (.goto (-102), 3) ∧ decode cX13_called 110 = .ok (.iconst (-1), 1) ∧ decode cX13_called 111 = .ok (.ireturn, 1) := by decide +kernel
theorem dX13_called_95 : decode cX13_called 95 = .ok (.lcmp, 1) := dX13_called_95g.1
theorem dX13_called_96 : decode cX13_called 96 = .ok (.ifCond .ge 5, 3) := dX13_called_95g.2.1
theorem dX13_called_99 : decode cX13_called 99 = .ok (.iconst (-1), 1) := dX13_called_95g.2.2.1
theorem dX13_called_100 : decode cX13_called 100 = .ok (.ireturn, 1) := dX13_called_95g.2.2.2.1
theorem dX13_called_101 : decode cX13_called 101 = .ok (.lload 7, 2) := dX13_called_95g.2.2.2.2.1
theorem dX13_called_103 : decode cX13_called 103 = .ok (.lstore_n 3, 1) := dX13_called_95g.2.2.2.2.2.1
theorem dX13_called_104 : decode cX13_called 104 = .ok (.iinc 5 1, 3) := dX13_called_95g.2.2.2.2.2.2.1
theorem dX13_called_107 : decode cX13_called 107 = .ok (.goto (-102), 3) := dX13_called_95g.2.2.2.2.2.2.2.1
theorem dX13_called_110 : decode cX13_called 110 = .ok (.iconst (-1), 1) := dX13_called_95g.2.2.2.2.2.2.2.2.1
theorem dX13_called_111 : decode cX13_called 111 = .ok (.ireturn, 1) := dX13_called_95g.2.2.2.2.2.2.2.2.2
theorem dX13_gets_0g : decode cX13_gets 0 = .ok (.iload_n 1, 1) ∧ decode cX13_gets 1 = .ok (.iconst (-1), 1) ∧ decode cX13_gets 2 = .ok (.if_icmp .ne 11, 3) ∧ decode cX13_gets 5 = .ok (.aload_n 0, 1) ∧ decode cX13_gets 6 = .ok (.iconst 1, 1) ∧ decode cX13_gets 7 = .ok (.invokevirtual 504, 3) ∧ decode cX13_gets 10 = .ok (.goto 16, 3) ∧ decode cX13_gets 13 = .ok (.aload_n 0, 1) ∧ decode cX13_gets 14 = .ok (.iload_n 1, 1) ∧ decode cX13_gets 15 = .ok (.invokevirtual 507, 3) ∧ decode cX13_gets 18 = .ok (.ifCond .eq 8, 3) ∧ decode cX13_gets 21 = .ok (.aload_n 0, 1) ∧ decode cX13_gets 22 = .ok (.iconst 2, 1) ∧ decode cX13_gets 23 = .ok (.invokevirtual 504, 3) ∧ decode cX13_gets 26 = .ok (.aload_n 0, 1) ∧ decode cX13_gets 27 = .ok (.getfield 498, 3) := by decide +kernel
theorem dX13_gets_0 : decode cX13_gets 0 = .ok (.iload_n 1, 1) := dX13_gets_0g.1
theorem dX13_gets_1 : decode cX13_gets 1 = .ok (.iconst (-1), 1) := dX13_gets_0g.2.1
theorem dX13_gets_2 : decode cX13_gets 2 = .ok (.if_icmp .ne 11, 3) := dX13_gets_0g.2.2.1
theorem dX13_gets_5 : decode cX13_gets 5 = .ok (.aload_n 0, 1) := dX13_gets_0g.2.2.2.1
theorem dX13_gets_6 : decode cX13_gets 6 = .ok (.iconst 1, 1) := dX13_gets_0g.2.2.2.2.1
theorem dX13_gets_7 : decode cX13_gets 7 = .ok (.invokevirtual 504, 3) := dX13_gets_0g.2.2.2.2.2.1
theorem dX13_gets_10 : decode cX13_gets 10 = .ok (.goto 16, 3) := dX13_gets_0g.2.2.2.2.2.2.1
theorem dX13_gets_13 : decode cX13_gets 13 = .ok (.aload_n 0, 1) := dX13_gets_0g.2.2.2.2.2.2.2.1
theorem dX13_gets_14 : decode cX13_gets 14 = .ok (.iload_n 1, 1) := dX13_gets_0g.2.2.2.2.2.2.2.2.1
theorem dX13_gets_15 : decode cX13_gets 15 = .ok (.invokevirtual 507, 3) := dX13_gets_0g.2.2.2.2.2.2.2.2.2.1
theorem dX13_gets_18 : decode cX13_gets 18 = .ok (.ifCond .eq 8, 3) := dX13_gets_0g.2.2.2.2.2.2.2.2.2.2.1
theorem dX13_gets_21 : decode cX13_gets 21 = .ok (.aload_n 0, 1) := dX13_gets_0g.2.2.2.2.2.2.2.2.2.2.2.1
theorem dX13_gets_22 : decode cX13_gets 22 = .ok (.iconst 2, 1) := dX13_gets_0g.2.2.2.2.2.2.2.2.2.2.2.2.1
theorem dX13_gets_23 : decode cX13_gets 23 = .ok (.invokevirtual 504, 3) := dX13_gets_0g.2.2.2.2.2.2.2.2.2.2.2.2.2.1
theorem dX13_gets_26 : decode cX13_gets 26 = .ok (.aload_n 0, 1) := dX13_gets_0g.2.2.2.2.2.2.2.2.2.2.2.2.2.2.1
theorem dX13_gets_27 : decode cX13_gets 27 = .ok (.getfield 498, 3) := dX13_gets_0g.2.2.2.2.2.2.2.2.2.2.2.2.2.2.2
theorem dX13_gets_30g : decode cX13_gets 30 = .ok (.ifCond .eq 5, 3) ∧ decode cX13_gets 33 = .ok (.iconst 0, 1) ∧ decode cX13_gets 34 = .ok (.ireturn, 1) ∧ decode cX13_gets 35 = .ok (.aload_n 0, 1) ∧ decode cX13_gets 36 = .ok (.iload_n 1, 1) ∧ decode cX13_gets 37 = .ok (.invokevirtual 510, 3) ∧ decode cX13_gets 40 = .ok (.ifCond .ne 43, 3) ∧ decode cX13_gets 43 = .ok (.aload_n 0, 1) ∧ decode cX13_gets 44 = .ok (.getfield 213, 3) ∧ decode cX13_gets 47 = .ok (.iload_n 1, 1) ∧ decode cX13_gets 48 = .ok (.baload, 1) ∧ decode cX13_gets 49 = .ok (.ifCond .ne 22, 3) ∧ decode cX13_gets 52 = .ok (.aload_n 0, 1) ∧ decode cX13_gets 53 = .ok (.getfield 216, 3) ∧ decode cX13_gets 56 = .ok (.iload_n 1, 1) ∧ decode cX13_gets 57 = .ok (.baload, 1) := by decide +kernel
theorem dX13_gets_30 : decode cX13_gets 30 = .ok (.ifCond .eq 5, 3) := dX13_gets_30g.1
theorem dX13_gets_33 : decode cX13_gets 33 = .ok (.iconst 0, 1) := dX13_gets_30g.2.1
theorem dX13_gets_34 : decode cX13_gets 34 = .ok (.ireturn, 1) := dX13_gets_30g.2.2.1
theorem dX13_gets_35 : decode cX13_gets 35 = .ok (.aload_n 0, 1) := dX13_gets_30g.2.2.2.1
theorem dX13_gets_36 : decode cX13_gets 36 = .ok (.iload_n 1, 1) := dX13_gets_30g.2.2.2.2.1
theorem dX13_gets_37 : decode cX13_gets 37 = .ok (.invokevirtual 510, 3) := dX13_gets_30g.2.2.2.2.2.1
theorem dX13_gets_40 : decode cX13_gets 40 = .ok (.ifCond .ne 43, 3) := dX13_gets_30g.2.2.2.2.2.2.1
theorem dX13_gets_43 : decode cX13_gets 43 = .ok (.aload_n 0, 1) := dX13_gets_30g.2.2.2.2.2.2.2.1
theorem dX13_gets_44 : decode cX13_gets 44 = .ok (.getfield 213, 3) := dX13_gets_30g.2.2.2.2.2.2.2.2.1
theorem dX13_gets_47 : decode cX13_gets 47 = .ok (.iload_n 1, 1) := dX13_gets_30g.2.2.2.2.2.2.2.2.2.1
theorem dX13_gets_48 : decode cX13_gets 48 = .ok (.baload, 1) := dX13_gets_30g.2.2.2.2.2.2.2.2.2.2.1
theorem dX13_gets_49 : decode cX13_gets 49 = .ok (.ifCond .ne 22, 3) := dX13_gets_30g.2.2.2.2.2.2.2.2.2.2.2.1
theorem dX13_gets_52 : decode cX13_gets 52 = .ok (.aload_n 0, 1) := dX13_gets_30g.2.2.2.2.2.2.2.2.2.2.2.2.1
theorem dX13_gets_53 : decode cX13_gets 53 = .ok (.getfield 216, 3) := dX13_gets_30g.2.2.2.2.2.2.2.2.2.2.2.2.2.1
theorem dX13_gets_56 : decode cX13_gets 56 = .ok (.iload_n 1, 1) := dX13_gets_30g.2.2.2.2.2.2.2.2.2.2.2.2.2.2.1
theorem dX13_gets_57 : decode cX13_gets 57 = .ok (.baload, 1) := dX13_gets_30g.2.2.2.2.2.2.2.2.2.2.2.2.2.2.2
theorem dX13_gets_58g : decode cX13_gets 58 = .ok (.ifCond .eq 25, 3) ∧ decode cX13_gets 61 = .ok (.aload_n 0, 1) ∧ decode cX13_gets 62 = .ok (.getfield 210, 3) ∧ decode cX13_gets 65 = .ok (.iload_n 1, 1) ∧ decode cX13_gets 66 = .ok (.iaload, 1) ∧ decode cX13_gets 67 = .ok (.iconst (-1), 1) ∧ decode cX13_gets 68 = .ok (.if_icmp .eq 15, 3) ∧ decode cX13_gets 71 = .ok (.aload_n 0, 1) ∧ decode cX13_gets 72 = .ok (.aload_n 0, 1) ∧ decode cX13_gets 73 = .ok (.getfield 210, 3) ∧ decode cX13_gets 76 = .ok (.iload_n 1, 1) ∧ decode cX13_gets 77 = .ok (.iaload, 1) ∧ decode cX13_gets 78 = .ok (.putfield 513, 3) ∧ decode cX13_gets 81 = .ok (.iconst 1, 1) ∧ decode cX13_gets 82 = .ok (.ireturn, 1) ∧ decode cX13_gets 83 = .ok (.aload_n 0, 1) := by decide +kernel
theorem dX13_gets_58 : decode cX13_gets 58 = .ok (.ifCond .eq 25, 3) := dX13_gets_58g.1
theorem dX13_gets_61 : decode cX13_gets 61 = .ok (.aload_n 0, 1) := dX13_gets_58g.2.1
theorem dX13_gets_62 : decode cX13_gets 62 = .ok (.getfield 210, 3) := dX13_gets_58g.2.2.1
theorem dX13_gets_65 : decode cX13_gets 65 = .ok (.iload_n 1, 1) := dX13_gets_58g.2.2.2.1
theorem dX13_gets_66 : decode cX13_gets 66 = .ok (.iaload, 1) := dX13_gets_58g.2.2.2.2.1
theorem dX13_gets_67 : decode cX13_gets 67 = .ok (.iconst (-1), 1) := dX13_gets_58g.2.2.2.2.2.1
theorem dX13_gets_68 : decode cX13_gets 68 = .ok (.if_icmp .eq 15, 3) := dX13_gets_58g.2.2.2.2.2.2.1
theorem dX13_gets_71 : decode cX13_gets 71 = .ok (.aload_n 0, 1) := dX13_gets_58g.2.2.2.2.2.2.2.1
theorem dX13_gets_72 : decode cX13_gets 72 = .ok (.aload_n 0, 1) := dX13_gets_58g.2.2.2.2.2.2.2.2.1
theorem dX13_gets_73 : decode cX13_gets 73 = .ok (.getfield 210, 3) := dX13_gets_58g.2.2.2.2.2.2.2.2.2.1
theorem dX13_gets_76 : decode cX13_gets 76 = .ok (.iload_n 1, 1) := dX13_gets_58g.2.2.2.2.2.2.2.2.2.2.1
theorem dX13_gets_77 : decode cX13_gets 77 = .ok (.iaload, 1) := dX13_gets_58g.2.2.2.2.2.2.2.2.2.2.2.1
theorem dX13_gets_78 : decode cX13_gets 78 = .ok (.putfield 513, 3) := dX13_gets_58g.2.2.2.2.2.2.2.2.2.2.2.2.1
theorem dX13_gets_81 : decode cX13_gets 81 = .ok (.iconst 1, 1) := dX13_gets_58g.2.2.2.2.2.2.2.2.2.2.2.2.2.1
theorem dX13_gets_82 : decode cX13_gets 82 = .ok (.ireturn, 1) := dX13_gets_58g.2.2.2.2.2.2.2.2.2.2.2.2.2.2.1
theorem dX13_gets_83 : decode cX13_gets 83 = .ok (.aload_n 0, 1) := dX13_gets_58g.2.2.2.2.2.2.2.2.2.2.2.2.2.2.2
theorem dX13_gets_84g : decode cX13_gets 84 = .ok (.getfield 216, 3) ∧ decode cX13_gets 87 = .ok (.iload_n 1, 1) ∧ decode cX13_gets 88 = .ok (.baload, 1) ∧ decode cX13_gets 89 = .ok (.ifCond .eq 8, 3) ∧ decode cX13_gets 92 = .ok (.aload_n 0, 1) ∧ decode cX13_gets 93 = .ok (.iconst 3, 1) ∧ decode cX13_gets 94 = .ok (.invokevirtual 504, 3) ∧ decode cX13_gets 97 = .ok (.aload_n 0, 1) ∧ decode cX13_gets 98 = .ok (.getfield 498, 3) ∧ decode cX13_gets 101 = .ok (.ifCond .eq 5, 3) ∧ decode cX13_gets 104 = .ok (.iconst 0, 1) ∧ decode cX13_gets 105 = .ok (.ireturn, 1) ∧ decode cX13_gets 106 = .ok (.aload_n 0, 1) ∧ decode cX13_gets 107 = .ok (.getfield 216, 3) ∧ decode cX13_gets 110 = .ok (.iload_n 1, 1) ∧ decode cX13_gets 111 = .ok (.iconst 1, 1) := by decide +kernel
theorem dX13_gets_84 : decode cX13_gets 84 = .ok (.getfield 216, 3) := dX13_gets_84g.1
theorem dX13_gets_87 : decode cX13_gets 87 = .ok (.iload_n 1, 1) := dX13_gets_84g.2.1
theorem dX13_gets_88 : decode cX13_gets 88 = .ok (.baload, 1) := dX13_gets_84g.2.2.1
theorem dX13_gets_89 : decode cX13_gets 89 = .ok (.ifCond .eq 8, 3) := dX13_gets_84g.2.2.2.1
theorem dX13_gets_92 : decode cX13_gets 92 = .ok (.aload_n 0, 1) := dX13_gets_84g.2.2.2.2.1
theorem dX13_gets_93 : decode cX13_gets 93 = .ok (.iconst 3, 1) := dX13_gets_84g.2.2.2.2.2.1
theorem dX13_gets_94 : decode cX13_gets 94 = .ok (.invokevirtual 504, 3) := dX13_gets_84g.2.2.2.2.2.2.1
theorem dX13_gets_97 : decode cX13_gets 97 = .ok (.aload_n 0, 1) := dX13_gets_84g.2.2.2.2.2.2.2.1
theorem dX13_gets_98 : decode cX13_gets 98 = .ok (.getfield 498, 3) := dX13_gets_84g.2.2.2.2.2.2.2.2.1
theorem dX13_gets_101 : decode cX13_gets 101 = .ok (.ifCond .eq 5, 3) := dX13_gets_84g.2.2.2.2.2.2.2.2.2.1
theorem dX13_gets_104 : decode cX13_gets 104 = .ok (.iconst 0, 1) := dX13_gets_84g.2.2.2.2.2.2.2.2.2.2.1
theorem dX13_gets_105 : decode cX13_gets 105 = .ok (.ireturn, 1) := dX13_gets_84g.2.2.2.2.2.2.2.2.2.2.2.1
theorem dX13_gets_106 : decode cX13_gets 106 = .ok (.aload_n 0, 1) := dX13_gets_84g.2.2.2.2.2.2.2.2.2.2.2.2.1
theorem dX13_gets_107 : decode cX13_gets 107 = .ok (.getfield 216, 3) := dX13_gets_84g.2.2.2.2.2.2.2.2.2.2.2.2.2.1
theorem dX13_gets_110 : decode cX13_gets 110 = .ok (.iload_n 1, 1) := dX13_gets_84g.2.2.2.2.2.2.2.2.2.2.2.2.2.2.1
theorem dX13_gets_111 : decode cX13_gets 111 = .ok (.iconst 1, 1) := dX13_gets_84g.2.2.2.2.2.2.2.2.2.2.2.2.2.2.2
theorem dX13_gets_112g : decode cX13_gets 112 = .ok (.bastore, 1) ∧ decode cX13_gets 113 = .ok (.aload_n 0, 1) ∧ decode cX13_gets 114 = .ok (.getfield 219, 3) ∧ decode cX13_gets 117 = .ok (.aload_n 0, 1) ∧ decode cX13_gets 118 = .ok (.getfield 501, 3) ∧ decode cX13_gets 121 = .ok (.iload_n 1, 1) ∧ decode cX13_gets 122 = .ok (.iastore, 1) ∧ decode cX13_gets 123 = .ok (.aload_n 0, 1) ∧ decode cX13_gets 124 = .ok (.getfield 222, 3) ∧ decode cX13_gets 127 = .ok (.aload_n 0, 1) ∧ decode cX13_gets 128 = .ok (.getfield 501, 3) ∧ decode cX13_gets 131 = .ok (.iconst 0, 1) ∧ decode cX13_gets 132 = .ok (.iastore, 1) ∧ decode cX13_gets 133 = .ok (.aload_n 0, 1) ∧ decode cX13_gets 134 = .ok (.getfield 225, 3) ∧ decode cX13_gets 137 = .ok (.aload_n 0, 1) := by decide +kernel
theorem dX13_gets_112 : decode cX13_gets 112 = .ok (.bastore, 1) := dX13_gets_112g.1
theorem dX13_gets_113 : decode cX13_gets 113 = .ok (.aload_n 0, 1) := dX13_gets_112g.2.1
theorem dX13_gets_114 : decode cX13_gets 114 = .ok (.getfield 219, 3) := dX13_gets_112g.2.2.1
theorem dX13_gets_117 : decode cX13_gets 117 = .ok (.aload_n 0, 1) := dX13_gets_112g.2.2.2.1
theorem dX13_gets_118 : decode cX13_gets 118 = .ok (.getfield 501, 3) := dX13_gets_112g.2.2.2.2.1
theorem dX13_gets_121 : decode cX13_gets 121 = .ok (.iload_n 1, 1) := dX13_gets_112g.2.2.2.2.2.1
theorem dX13_gets_122 : decode cX13_gets 122 = .ok (.iastore, 1) := dX13_gets_112g.2.2.2.2.2.2.1
theorem dX13_gets_123 : decode cX13_gets 123 = .ok (.aload_n 0, 1) := dX13_gets_112g.2.2.2.2.2.2.2.1
theorem dX13_gets_124 : decode cX13_gets 124 = .ok (.getfield 222, 3) := dX13_gets_112g.2.2.2.2.2.2.2.2.1
theorem dX13_gets_127 : decode cX13_gets 127 = .ok (.aload_n 0, 1) := dX13_gets_112g.2.2.2.2.2.2.2.2.2.1
theorem dX13_gets_128 : decode cX13_gets 128 = .ok (.getfield 501, 3) := dX13_gets_112g.2.2.2.2.2.2.2.2.2.2.1
theorem dX13_gets_131 : decode cX13_gets 131 = .ok (.iconst 0, 1) := dX13_gets_112g.2.2.2.2.2.2.2.2.2.2.2.1
theorem dX13_gets_132 : decode cX13_gets 132 = .ok (.iastore, 1) := dX13_gets_112g.2.2.2.2.2.2.2.2.2.2.2.2.1
theorem dX13_gets_133 : decode cX13_gets 133 = .ok (.aload_n 0, 1) := dX13_gets_112g.2.2.2.2.2.2.2.2.2.2.2.2.2.1
theorem dX13_gets_134 : decode cX13_gets 134 = .ok (.getfield 225, 3) := dX13_gets_112g.2.2.2.2.2.2.2.2.2.2.2.2.2.2.1
theorem dX13_gets_137 : decode cX13_gets 137 = .ok (.aload_n 0, 1) := dX13_gets_112g.2.2.2.2.2.2.2.2.2.2.2.2.2.2.2
theorem dX13_gets_138g : decode cX13_gets 138 = .ok (.getfield 501, 3) ∧ decode cX13_gets 141 = .ok (.iconst 0, 1) ∧ decode cX13_gets 142 = .ok (.iastore, 1) ∧ decode cX13_gets 143 = .ok (.aload_n 0, 1) ∧ decode cX13_gets 144 = .ok (.getfield 228, 3) ∧ decode cX13_gets 147 = .ok (.aload_n 0, 1) ∧ decode cX13_gets 148 = .ok (.getfield 501, 3) ∧ decode cX13_gets 151 = .ok (.iconst 0, 1) ∧ decode cX13_gets 152 = .ok (.iastore, 1) ∧ decode cX13_gets 153 = .ok (.aload_n 0, 1) ∧ decode cX13_gets 154 = .ok (.getfield 231, 3) ∧ decode cX13_gets 157 = .ok (.aload_n 0, 1) ∧ decode cX13_gets 158 = .ok (.getfield 501, 3) ∧ decode cX13_gets 161 = .ok (.iconst (-1), 1) ∧ decode cX13_gets 162 = .ok (.iastore, 1) ∧ decode cX13_gets 163 = .ok (.aload_n 0, 1) := by decide +kernel
theorem dX13_gets_138 : decode cX13_gets 138 = .ok (.getfield 501, 3) := dX13_gets_138g.1
theorem dX13_gets_141 : decode cX13_gets 141 = .ok (.iconst 0, 1) := dX13_gets_138g.2.1
theorem dX13_gets_142 : decode cX13_gets 142 = .ok (.iastore, 1) := dX13_gets_138g.2.2.1
theorem dX13_gets_143 : decode cX13_gets 143 = .ok (.aload_n 0, 1) := dX13_gets_138g.2.2.2.1
theorem dX13_gets_144 : decode cX13_gets 144 = .ok (.getfield 228, 3) := dX13_gets_138g.2.2.2.2.1
theorem dX13_gets_147 : decode cX13_gets 147 = .ok (.aload_n 0, 1) := dX13_gets_138g.2.2.2.2.2.1
theorem dX13_gets_148 : decode cX13_gets 148 = .ok (.getfield 501, 3) := dX13_gets_138g.2.2.2.2.2.2.1
theorem dX13_gets_151 : decode cX13_gets 151 = .ok (.iconst 0, 1) := dX13_gets_138g.2.2.2.2.2.2.2.1
theorem dX13_gets_152 : decode cX13_gets 152 = .ok (.iastore, 1) := dX13_gets_138g.2.2.2.2.2.2.2.2.1
theorem dX13_gets_153 : decode cX13_gets 153 = .ok (.aload_n 0, 1) := dX13_gets_138g.2.2.2.2.2.2.2.2.2.1
theorem dX13_gets_154 : decode cX13_gets 154 = .ok (.getfield 231, 3) := dX13_gets_138g.2.2.2.2.2.2.2.2.2.2.1
theorem dX13_gets_157 : decode cX13_gets 157 = .ok (.aload_n 0, 1) := dX13_gets_138g.2.2.2.2.2.2.2.2.2.2.2.1
theorem dX13_gets_158 : decode cX13_gets 158 = .ok (.getfield 501, 3) := dX13_gets_138g.2.2.2.2.2.2.2.2.2.2.2.2.1
theorem dX13_gets_161 : decode cX13_gets 161 = .ok (.iconst (-1), 1) := dX13_gets_138g.2.2.2.2.2.2.2.2.2.2.2.2.2.1
theorem dX13_gets_162 : decode cX13_gets 162 = .ok (.iastore, 1) := dX13_gets_138g.2.2.2.2.2.2.2.2.2.2.2.2.2.2.1
theorem dX13_gets_163 : decode cX13_gets 163 = .ok (.aload_n 0, 1) := dX13_gets_138g.2.2.2.2.2.2.2.2.2.2.2.2.2.2.2
theorem dX13_gets_164g : decode cX13_gets 164 = .ok (.getfield 234, 3) ∧ decode cX13_gets 167 = .ok (.aload_n 0, 1) ∧ decode cX13_gets 168 = .ok (.getfield 501, 3) ∧ decode cX13_gets 171 = .ok (.iconst (-1), 1) ∧ decode cX13_gets 172 = .ok (.iastore, 1) ∧ decode cX13_gets 173 = .ok (.aload_n 0, 1) ∧ decode cX13_gets 174 = .ok (.dup, 1) ∧ decode cX13_gets 175 = .ok (.getfield 501, 3) ∧ decode cX13_gets 178 = .ok (.iconst 1, 1) ∧ decode cX13_gets 179 = .ok (.iadd, 1) ∧ decode cX13_gets 180 = .ok (.putfield 501, 3) ∧ decode cX13_gets 183 = .ok (.iconst 0, 1) ∧ decode cX13_gets 184 = .ok (.ireturn, 1) := by decide +kernel
theorem dX13_gets_164 : decode cX13_gets 164 = .ok (.getfield 234, 3) := dX13_gets_164g.1
theorem dX13_gets_167 : decode cX13_gets 167 = .ok (.aload_n 0, 1) := dX13_gets_164g.2.1
theorem dX13_gets_168 : decode cX13_gets 168 = .ok (.getfield 501, 3) := dX13_gets_164g.2.2.1
theorem dX13_gets_171 : decode cX13_gets 171 = .ok (.iconst (-1), 1) := dX13_gets_164g.2.2.2.1
theorem dX13_gets_172 : decode cX13_gets 172 = .ok (.iastore, 1) := dX13_gets_164g.2.2.2.2.1
theorem dX13_gets_173 : decode cX13_gets 173 = .ok (.aload_n 0, 1) := dX13_gets_164g.2.2.2.2.2.1
theorem dX13_gets_174 : decode cX13_gets 174 = .ok (.dup, 1) := dX13_gets_164g.2.2.2.2.2.2.1
theorem dX13_gets_175 : decode cX13_gets 175 = .ok (.getfield 501, 3) := dX13_gets_164g.2.2.2.2.2.2.2.1
theorem dX13_gets_178 : decode cX13_gets 178 = .ok (.iconst 1, 1) := dX13_gets_164g.2.2.2.2.2.2.2.2.1
theorem dX13_gets_179 : decode cX13_gets 179 = .ok (.iadd, 1) := dX13_gets_164g.2.2.2.2.2.2.2.2.2.1
theorem dX13_gets_180 : decode cX13_gets 180 = .ok (.putfield 501, 3) := dX13_gets_164g.2.2.2.2.2.2.2.2.2.2.1
theorem dX13_gets_183 : decode cX13_gets 183 = .ok (.iconst 0, 1) := dX13_gets_164g.2.2.2.2.2.2.2.2.2.2.2.1
theorem dX13_gets_184 : decode cX13_gets 184 = .ok (.ireturn, 1) := dX13_gets_164g.2.2.2.2.2.2.2.2.2.2.2.2
theorem dX13_keep_0g : decode cX13_keep 0 = .ok (.iload_n 2, 1) ∧ decode cX13_keep 1 = .ok (.ifCond .ge 21, 3) ∧ decode cX13_keep 4 = .ok (.aload_n 0, 1) ∧ decode cX13_keep 5 = .ok (.getfield 237, 3) ∧ decode cX13_keep 8 = .ok (.iload_n 1, 1) ∧ decode cX13_keep 9 = .ok (.iload_n 3, 1) ∧ decode cX13_keep 10 = .ok (.iastore, 1) ∧ decode cX13_keep 11 = .ok (.aload_n 0, 1) ∧ decode cX13_keep 12 = .ok (.getfield 240, 3) ∧ decode cX13_keep 15 = .ok (.iload_n 1, 1) ∧ decode cX13_keep 16 = .ok (.iload 4, 2) ∧ decode cX13_keep 18 = .ok (.iastore, 1) ∧ decode cX13_keep 19 = .ok (.goto 28, 3) ∧ decode cX13_keep 22 = .ok (.aload_n 0, 1) ∧ decode cX13_keep 23 = .ok (.getfield 243, 3) ∧ decode cX13_keep 26 = .ok (.bipush 6, 2) := by decide +kernel
theorem dX13_keep_0 : decode cX13_keep 0 = .ok (.iload_n 2, 1) := dX13_keep_0g.1
theorem dX13_keep_1 : decode cX13_keep 1 = .ok (.ifCond .ge 21, 3) := dX13_keep_0g.2.1
theorem dX13_keep_4 : decode cX13_keep 4 = .ok (.aload_n 0, 1) := dX13_keep_0g.2.2.1
theorem dX13_keep_5 : decode cX13_keep 5 = .ok (.getfield 237, 3) := dX13_keep_0g.2.2.2.1
theorem dX13_keep_8 : decode cX13_keep 8 = .ok (.iload_n 1, 1) := dX13_keep_0g.2.2.2.2.1
theorem dX13_keep_9 : decode cX13_keep 9 = .ok (.iload_n 3, 1) := dX13_keep_0g.2.2.2.2.2.1
theorem dX13_keep_10 : decode cX13_keep 10 = .ok (.iastore, 1) := dX13_keep_0g.2.2.2.2.2.2.1
theorem dX13_keep_11 : decode cX13_keep 11 = .ok (.aload_n 0, 1) := dX13_keep_0g.2.2.2.2.2.2.2.1
theorem dX13_keep_12 : decode cX13_keep 12 = .ok (.getfield 240, 3) := dX13_keep_0g.2.2.2.2.2.2.2.2.1
theorem dX13_keep_15 : decode cX13_keep 15 = .ok (.iload_n 1, 1) := dX13_keep_0g.2.2.2.2.2.2.2.2.2.1
theorem dX13_keep_16 : decode cX13_keep 16 = .ok (.iload 4, 2) := dX13_keep_0g.2.2.2.2.2.2.2.2.2.2.1
theorem dX13_keep_18 : decode cX13_keep 18 = .ok (.iastore, 1) := dX13_keep_0g.2.2.2.2.2.2.2.2.2.2.2.1
theorem dX13_keep_19 : decode cX13_keep 19 = .ok (.goto 28, 3) := dX13_keep_0g.2.2.2.2.2.2.2.2.2.2.2.2.1
theorem dX13_keep_22 : decode cX13_keep 22 = .ok (.aload_n 0, 1) := dX13_keep_0g.2.2.2.2.2.2.2.2.2.2.2.2.2.1
theorem dX13_keep_23 : decode cX13_keep 23 = .ok (.getfield 243, 3) := dX13_keep_0g.2.2.2.2.2.2.2.2.2.2.2.2.2.2.1
theorem dX13_keep_26 : decode cX13_keep 26 = .ok (.bipush 6, 2) := dX13_keep_0g.2.2.2.2.2.2.2.2.2.2.2.2.2.2.2
theorem dX13_keep_28g : decode cX13_keep 28 = .ok (.iload_n 1, 1) ∧ decode cX13_keep 29 = .ok (.imul, 1) ∧ decode cX13_keep 30 = .ok (.iload_n 2, 1) ∧ decode cX13_keep 31 = .ok (.iadd, 1) ∧ decode cX13_keep 32 = .ok (.iload_n 3, 1) ∧ decode cX13_keep 33 = .ok (.iastore, 1) ∧ decode cX13_keep 34 = .ok (.aload_n 0, 1) ∧ decode cX13_keep 35 = .ok (.getfield 246, 3) ∧ decode cX13_keep 38 = .ok (.bipush 6, 2) ∧ decode cX13_keep 40 = .ok (.iload_n 1, 1) ∧ decode cX13_keep 41 = .ok (.imul, 1) ∧ decode cX13_keep 42 = .ok (.iload_n 2, 1) ∧ decode cX13_keep 43 = .ok (.iadd, 1) ∧ decode cX13_keep 44 = .ok (.iload 4, 2) ∧ decode cX13_keep 46 = .ok (.iastore, 1) ∧ decode cX13_keep 47 = .ok (.return_, 1) := by decide +kernel
theorem dX13_keep_28 : decode cX13_keep 28 = .ok (.iload_n 1, 1) := dX13_keep_28g.1
theorem dX13_keep_29 : decode cX13_keep 29 = .ok (.imul, 1) := dX13_keep_28g.2.1
theorem dX13_keep_30 : decode cX13_keep 30 = .ok (.iload_n 2, 1) := dX13_keep_28g.2.2.1
theorem dX13_keep_31 : decode cX13_keep 31 = .ok (.iadd, 1) := dX13_keep_28g.2.2.2.1
theorem dX13_keep_32 : decode cX13_keep 32 = .ok (.iload_n 3, 1) := dX13_keep_28g.2.2.2.2.1
theorem dX13_keep_33 : decode cX13_keep 33 = .ok (.iastore, 1) := dX13_keep_28g.2.2.2.2.2.1
theorem dX13_keep_34 : decode cX13_keep 34 = .ok (.aload_n 0, 1) := dX13_keep_28g.2.2.2.2.2.2.1
theorem dX13_keep_35 : decode cX13_keep 35 = .ok (.getfield 246, 3) := dX13_keep_28g.2.2.2.2.2.2.2.1
theorem dX13_keep_38 : decode cX13_keep 38 = .ok (.bipush 6, 2) := dX13_keep_28g.2.2.2.2.2.2.2.2.1
theorem dX13_keep_40 : decode cX13_keep 40 = .ok (.iload_n 1, 1) := dX13_keep_28g.2.2.2.2.2.2.2.2.2.1
theorem dX13_keep_41 : decode cX13_keep 41 = .ok (.imul, 1) := dX13_keep_28g.2.2.2.2.2.2.2.2.2.2.1
theorem dX13_keep_42 : decode cX13_keep 42 = .ok (.iload_n 2, 1) := dX13_keep_28g.2.2.2.2.2.2.2.2.2.2.2.1
theorem dX13_keep_43 : decode cX13_keep 43 = .ok (.iadd, 1) := dX13_keep_28g.2.2.2.2.2.2.2.2.2.2.2.2.1
theorem dX13_keep_44 : decode cX13_keep 44 = .ok (.iload 4, 2) := dX13_keep_28g.2.2.2.2.2.2.2.2.2.2.2.2.2.1
theorem dX13_keep_46 : decode cX13_keep 46 = .ok (.iastore, 1) := dX13_keep_28g.2.2.2.2.2.2.2.2.2.2.2.2.2.2.1
theorem dX13_keep_47 : decode cX13_keep 47 = .ok (.return_, 1) := dX13_keep_28g.2.2.2.2.2.2.2.2.2.2.2.2.2.2.2
theorem dX13_worked_0g : decode cX13_worked 0 = .ok (.aload_n 0, 1) ∧ decode cX13_worked 1 = .ok (.getfield 126, 3) ∧ decode cX13_worked 4 = .ok (.iload_n 1, 1) ∧ decode cX13_worked 5 = .ok (.iaload, 1) ∧ decode cX13_worked 6 = .ok (.iconst 4, 1) ∧ decode cX13_worked 7 = .ok (.if_icmp .eq 13, 3) ∧ decode cX13_worked 10 = .ok (.aload_n 0, 1) ∧ decode cX13_worked 11 = .ok (.getfield 126, 3) ∧ decode cX13_worked 14 = .ok (.iload_n 1, 1) ∧ decode cX13_worked 15 = .ok (.iaload, 1) ∧ decode cX13_worked 16 = .ok (.iconst 5, 1) ∧ decode cX13_worked 17 = .ok (.if_icmp .ne 7, 3) ∧ decode cX13_worked 20 = .ok (.iconst 1, 1) ∧ decode cX13_worked 21 = .ok (.goto 4, 3) ∧ decode cX13_worked 24 = .ok (.iconst 0, 1) ∧ decode cX13_worked 25 = .ok (.istore 4, 2) := by decide +kernel
theorem dX13_worked_0 : decode cX13_worked 0 = .ok (.aload_n 0, 1) := dX13_worked_0g.1
theorem dX13_worked_1 : decode cX13_worked 1 = .ok (.getfield 126, 3) := dX13_worked_0g.2.1
theorem dX13_worked_4 : decode cX13_worked 4 = .ok (.iload_n 1, 1) := dX13_worked_0g.2.2.1
theorem dX13_worked_5 : decode cX13_worked 5 = .ok (.iaload, 1) := dX13_worked_0g.2.2.2.1
theorem dX13_worked_6 : decode cX13_worked 6 = .ok (.iconst 4, 1) := dX13_worked_0g.2.2.2.2.1
theorem dX13_worked_7 : decode cX13_worked 7 = .ok (.if_icmp .eq 13, 3) := dX13_worked_0g.2.2.2.2.2.1
theorem dX13_worked_10 : decode cX13_worked 10 = .ok (.aload_n 0, 1) := dX13_worked_0g.2.2.2.2.2.2.1
theorem dX13_worked_11 : decode cX13_worked 11 = .ok (.getfield 126, 3) := dX13_worked_0g.2.2.2.2.2.2.2.1
theorem dX13_worked_14 : decode cX13_worked 14 = .ok (.iload_n 1, 1) := dX13_worked_0g.2.2.2.2.2.2.2.2.1
theorem dX13_worked_15 : decode cX13_worked 15 = .ok (.iaload, 1) := dX13_worked_0g.2.2.2.2.2.2.2.2.2.1
theorem dX13_worked_16 : decode cX13_worked 16 = .ok (.iconst 5, 1) := dX13_worked_0g.2.2.2.2.2.2.2.2.2.2.1
theorem dX13_worked_17 : decode cX13_worked 17 = .ok (.if_icmp .ne 7, 3) := dX13_worked_0g.2.2.2.2.2.2.2.2.2.2.2.1
theorem dX13_worked_20 : decode cX13_worked 20 = .ok (.iconst 1, 1) := dX13_worked_0g.2.2.2.2.2.2.2.2.2.2.2.2.1
theorem dX13_worked_21 : decode cX13_worked 21 = .ok (.goto 4, 3) := dX13_worked_0g.2.2.2.2.2.2.2.2.2.2.2.2.2.1
theorem dX13_worked_24 : decode cX13_worked 24 = .ok (.iconst 0, 1) := dX13_worked_0g.2.2.2.2.2.2.2.2.2.2.2.2.2.2.1
theorem dX13_worked_25 : decode cX13_worked 25 = .ok (.istore 4, 2) := dX13_worked_0g.2.2.2.2.2.2.2.2.2.2.2.2.2.2.2
theorem dX13_worked_27g : decode cX13_worked 27 = .ok (.iload 4, 2) ∧ decode cX13_worked 29 = .ok (.ifCond .eq 32, 3) ∧ decode cX13_worked 32 = .ok (.aload_n 0, 1) ∧ decode cX13_worked 33 = .ok (.iload_n 1, 1) ∧ decode cX13_worked 34 = .ok (.ldc2_w 19, 3) ∧ decode cX13_worked 37 = .ok (.invokevirtual 355, 3) ∧ decode cX13_worked 40 = .ok (.ifCond .eq 21, 3) ∧ decode cX13_worked 43 = .ok (.aload_n 0, 1) ∧ decode cX13_worked 44 = .ok (.iload_n 2, 1) ∧ decode cX13_worked 45 = .ok (.iload_n 3, 1) ∧ decode cX13_worked 46 = .ok (.iconst 0, 1) ∧ decode cX13_worked 47 = .ok (.aload_n 0, 1) ∧ decode cX13_worked 48 = .ok (.iload_n 1, 1) ∧ decode cX13_worked 49 = .ok (.ldc2_w 19, 3) ∧ decode cX13_worked 52 = .ok (.invokevirtual 319, 3) ∧ decode cX13_worked 55 = .ok (.invokevirtual 516, 3) := by decide +kernel
theorem dX13_worked_27 : decode cX13_worked 27 = .ok (.iload 4, 2) := dX13_worked_27g.1
theorem dX13_worked_29 : decode cX13_worked 29 = .ok (.ifCond .eq 32, 3) := dX13_worked_27g.2.1
theorem dX13_worked_32 : decode cX13_worked 32 = .ok (.aload_n 0, 1) := dX13_worked_27g.2.2.1
theorem dX13_worked_33 : decode cX13_worked 33 = .ok (.iload_n 1, 1) := dX13_worked_27g.2.2.2.1
theorem dX13_worked_34 : decode cX13_worked 34 = .ok (.ldc2_w 19, 3) := dX13_worked_27g.2.2.2.2.1
theorem dX13_worked_37 : decode cX13_worked 37 = .ok (.invokevirtual 355, 3) := dX13_worked_27g.2.2.2.2.2.1
theorem dX13_worked_40 : decode cX13_worked 40 = .ok (.ifCond .eq 21, 3) := dX13_worked_27g.2.2.2.2.2.2.1
theorem dX13_worked_43 : decode cX13_worked 43 = .ok (.aload_n 0, 1) := dX13_worked_27g.2.2.2.2.2.2.2.1
theorem dX13_worked_44 : decode cX13_worked 44 = .ok (.iload_n 2, 1) := dX13_worked_27g.2.2.2.2.2.2.2.2.1
theorem dX13_worked_45 : decode cX13_worked 45 = .ok (.iload_n 3, 1) := dX13_worked_27g.2.2.2.2.2.2.2.2.2.1
theorem dX13_worked_46 : decode cX13_worked 46 = .ok (.iconst 0, 1) := dX13_worked_27g.2.2.2.2.2.2.2.2.2.2.1
theorem dX13_worked_47 : decode cX13_worked 47 = .ok (.aload_n 0, 1) := dX13_worked_27g.2.2.2.2.2.2.2.2.2.2.2.1
theorem dX13_worked_48 : decode cX13_worked 48 = .ok (.iload_n 1, 1) := dX13_worked_27g.2.2.2.2.2.2.2.2.2.2.2.2.1
theorem dX13_worked_49 : decode cX13_worked 49 = .ok (.ldc2_w 19, 3) := dX13_worked_27g.2.2.2.2.2.2.2.2.2.2.2.2.2.1
theorem dX13_worked_52 : decode cX13_worked 52 = .ok (.invokevirtual 319, 3) := dX13_worked_27g.2.2.2.2.2.2.2.2.2.2.2.2.2.2.1
theorem dX13_worked_55 : decode cX13_worked 55 = .ok (.invokevirtual 516, 3) := dX13_worked_27g.2.2.2.2.2.2.2.2.2.2.2.2.2.2.2
theorem dX13_worked_58g : decode cX13_worked 58 = .ok (.goto 117, 3) ∧ decode cX13_worked 61 = .ok (.aload_n 0, 1) ∧ decode cX13_worked 62 = .ok (.getfield 126, 3) ∧ decode cX13_worked 65 = .ok (.iload_n 1, 1) ∧ decode cX13_worked 66 = .ok (.iaload, 1) ∧ decode cX13_worked 67 = .ok (.bipush 7, 2) ∧ decode cX13_worked 69 = .ok (.if_icmp .ne 18, 3) ∧ decode cX13_worked 72 = .ok (.aload_n 0, 1) ∧ decode cX13_worked 73 = .ok (.iload_n 2, 1) ∧ decode cX13_worked 74 = .ok (.iload_n 3, 1) ∧ decode cX13_worked 75 = .ok (.iconst 0, 1) ∧ decode cX13_worked 76 = .ok (.sipush 1000, 3) ∧ decode cX13_worked 79 = .ok (.iload_n 1, 1) ∧ decode cX13_worked 80 = .ok (.iadd, 1) ∧ decode cX13_worked 81 = .ok (.invokevirtual 516, 3) ∧ decode cX13_worked 84 = .ok (.goto 91, 3) := by decide +kernel
theorem dX13_worked_58 : decode cX13_worked 58 = .ok (.goto 117, 3) := dX13_worked_58g.1
theorem dX13_worked_61 : decode cX13_worked 61 = .ok (.aload_n 0, 1) := dX13_worked_58g.2.1
theorem dX13_worked_62 : decode cX13_worked 62 = .ok (.getfield 126, 3) := dX13_worked_58g.2.2.1
theorem dX13_worked_65 : decode cX13_worked 65 = .ok (.iload_n 1, 1) := dX13_worked_58g.2.2.2.1
theorem dX13_worked_66 : decode cX13_worked 66 = .ok (.iaload, 1) := dX13_worked_58g.2.2.2.2.1
theorem dX13_worked_67 : decode cX13_worked 67 = .ok (.bipush 7, 2) := dX13_worked_58g.2.2.2.2.2.1
theorem dX13_worked_69 : decode cX13_worked 69 = .ok (.if_icmp .ne 18, 3) := dX13_worked_58g.2.2.2.2.2.2.1
theorem dX13_worked_72 : decode cX13_worked 72 = .ok (.aload_n 0, 1) := dX13_worked_58g.2.2.2.2.2.2.2.1
theorem dX13_worked_73 : decode cX13_worked 73 = .ok (.iload_n 2, 1) := dX13_worked_58g.2.2.2.2.2.2.2.2.1
theorem dX13_worked_74 : decode cX13_worked 74 = .ok (.iload_n 3, 1) := dX13_worked_58g.2.2.2.2.2.2.2.2.2.1
theorem dX13_worked_75 : decode cX13_worked 75 = .ok (.iconst 0, 1) := dX13_worked_58g.2.2.2.2.2.2.2.2.2.2.1
theorem dX13_worked_76 : decode cX13_worked 76 = .ok (.sipush 1000, 3) := dX13_worked_58g.2.2.2.2.2.2.2.2.2.2.2.1
theorem dX13_worked_79 : decode cX13_worked 79 = .ok (.iload_n 1, 1) := dX13_worked_58g.2.2.2.2.2.2.2.2.2.2.2.2.1
theorem dX13_worked_80 : decode cX13_worked 80 = .ok (.iadd, 1) := dX13_worked_58g.2.2.2.2.2.2.2.2.2.2.2.2.2.1
theorem dX13_worked_81 : decode cX13_worked 81 = .ok (.invokevirtual 516, 3) := dX13_worked_58g.2.2.2.2.2.2.2.2.2.2.2.2.2.2.1
theorem dX13_worked_84 : decode cX13_worked 84 = .ok (.goto 91, 3) := dX13_worked_58g.2.2.2.2.2.2.2.2.2.2.2.2.2.2.2
theorem dX13_worked_87g : decode cX13_worked 87 = .ok (.aload_n 0, 1) ∧ decode cX13_worked 88 = .ok (.getfield 126, 3) ∧ decode cX13_worked 91 = .ok (.iload_n 1, 1) ∧ decode cX13_worked 92 = .ok (.iaload, 1) ∧ decode cX13_worked 93 = .ok (.bipush 9, 2) ∧ decode cX13_worked 95 = .ok (.if_icmp .ne 14, 3) ∧ decode cX13_worked 98 = .ok (.aload_n 0, 1) ∧ decode cX13_worked 99 = .ok (.iload_n 2, 1) ∧ decode cX13_worked 100 = .ok (.iload_n 3, 1) ∧ decode cX13_worked 101 = .ok (.iconst 2, 1) ∧ decode cX13_worked 102 = .ok (.iconst 0, 1) ∧ decode cX13_worked 103 = .ok (.invokevirtual 516, 3) ∧ decode cX13_worked 106 = .ok (.goto 69, 3) ∧ decode cX13_worked 109 = .ok (.aload_n 0, 1) ∧ decode cX13_worked 110 = .ok (.getfield 126, 3) ∧ decode cX13_worked 113 = .ok (.iload_n 1, 1) := by decide +kernel
theorem dX13_worked_87 : decode cX13_worked 87 = .ok (.aload_n 0, 1) := dX13_worked_87g.1
theorem dX13_worked_88 : decode cX13_worked 88 = .ok (.getfield 126, 3) := dX13_worked_87g.2.1
theorem dX13_worked_91 : decode cX13_worked 91 = .ok (.iload_n 1, 1) := dX13_worked_87g.2.2.1
theorem dX13_worked_92 : decode cX13_worked 92 = .ok (.iaload, 1) := dX13_worked_87g.2.2.2.1
theorem dX13_worked_93 : decode cX13_worked 93 = .ok (.bipush 9, 2) := dX13_worked_87g.2.2.2.2.1
theorem dX13_worked_95 : decode cX13_worked 95 = .ok (.if_icmp .ne 14, 3) := dX13_worked_87g.2.2.2.2.2.1
theorem dX13_worked_98 : decode cX13_worked 98 = .ok (.aload_n 0, 1) := dX13_worked_87g.2.2.2.2.2.2.1
theorem dX13_worked_99 : decode cX13_worked 99 = .ok (.iload_n 2, 1) := dX13_worked_87g.2.2.2.2.2.2.2.1
theorem dX13_worked_100 : decode cX13_worked 100 = .ok (.iload_n 3, 1) := dX13_worked_87g.2.2.2.2.2.2.2.2.1
theorem dX13_worked_101 : decode cX13_worked 101 = .ok (.iconst 2, 1) := dX13_worked_87g.2.2.2.2.2.2.2.2.2.1
theorem dX13_worked_102 : decode cX13_worked 102 = .ok (.iconst 0, 1) := dX13_worked_87g.2.2.2.2.2.2.2.2.2.2.1
theorem dX13_worked_103 : decode cX13_worked 103 = .ok (.invokevirtual 516, 3) := dX13_worked_87g.2.2.2.2.2.2.2.2.2.2.2.1
theorem dX13_worked_106 : decode cX13_worked 106 = .ok (.goto 69, 3) := dX13_worked_87g.2.2.2.2.2.2.2.2.2.2.2.2.1
theorem dX13_worked_109 : decode cX13_worked 109 = .ok (.aload_n 0, 1) := dX13_worked_87g.2.2.2.2.2.2.2.2.2.2.2.2.2.1
theorem dX13_worked_110 : decode cX13_worked 110 = .ok (.getfield 126, 3) := dX13_worked_87g.2.2.2.2.2.2.2.2.2.2.2.2.2.2.1
theorem dX13_worked_113 : decode cX13_worked 113 = .ok (.iload_n 1, 1) := dX13_worked_87g.2.2.2.2.2.2.2.2.2.2.2.2.2.2.2
theorem dX13_worked_114g : decode cX13_worked 114 = .ok (.iaload, 1) ∧ decode cX13_worked 115 = .ok (.iconst 3, 1) ∧ decode cX13_worked 116 = .ok (.if_icmp .ne 12, 3) ∧ decode cX13_worked 119 = .ok (.aload_n 0, 1) ∧ decode cX13_worked 120 = .ok (.getfield 171, 3) ∧ decode cX13_worked 123 = .ok (.iload_n 1, 1) ∧ decode cX13_worked 124 = .ok (.iaload, 1) ∧ decode cX13_worked 125 = .ok (.goto 26, 3) ∧ decode cX13_worked 128 = .ok (.aload_n 0, 1) ∧ decode cX13_worked 129 = .ok (.aload_n 0, 1) ∧ decode cX13_worked 130 = .ok (.iload_n 1, 1) ∧ decode cX13_worked 131 = .ok (.iload 4, 2) ∧ decode cX13_worked 133 = .ok (.ifCond .eq 9, 3) ∧ decode cX13_worked 136 = .ok (.ldc2_w 21, 3) ∧ decode cX13_worked 139 = .ok (.goto 6, 3) ∧ decode cX13_worked 142 = .ok (.ldc2_w 11, 3) := by decide +kernel
theorem dX13_worked_114 : decode cX13_worked 114 = .ok (.iaload, 1) := dX13_worked_114g.1
theorem dX13_worked_115 : decode cX13_worked 115 = .ok (.iconst 3, 1) := dX13_worked_114g.2.1
theorem dX13_worked_116 : decode cX13_worked 116 = .ok (.if_icmp .ne 12, 3) := dX13_worked_114g.2.2.1
theorem dX13_worked_119 : decode cX13_worked 119 = .ok (.aload_n 0, 1) := dX13_worked_114g.2.2.2.1
theorem dX13_worked_120 : decode cX13_worked 120 = .ok (.getfield 171, 3) := dX13_worked_114g.2.2.2.2.1
theorem dX13_worked_123 : decode cX13_worked 123 = .ok (.iload_n 1, 1) := dX13_worked_114g.2.2.2.2.2.1
theorem dX13_worked_124 : decode cX13_worked 124 = .ok (.iaload, 1) := dX13_worked_114g.2.2.2.2.2.2.1
theorem dX13_worked_125 : decode cX13_worked 125 = .ok (.goto 26, 3) := dX13_worked_114g.2.2.2.2.2.2.2.1
theorem dX13_worked_128 : decode cX13_worked 128 = .ok (.aload_n 0, 1) := dX13_worked_114g.2.2.2.2.2.2.2.2.1
theorem dX13_worked_129 : decode cX13_worked 129 = .ok (.aload_n 0, 1) := dX13_worked_114g.2.2.2.2.2.2.2.2.2.1
theorem dX13_worked_130 : decode cX13_worked 130 = .ok (.iload_n 1, 1) := dX13_worked_114g.2.2.2.2.2.2.2.2.2.2.1
theorem dX13_worked_131 : decode cX13_worked 131 = .ok (.iload 4, 2) := dX13_worked_114g.2.2.2.2.2.2.2.2.2.2.2.1
theorem dX13_worked_133 : decode cX13_worked 133 = .ok (.ifCond .eq 9, 3) := dX13_worked_114g.2.2.2.2.2.2.2.2.2.2.2.2.1
theorem dX13_worked_136 : decode cX13_worked 136 = .ok (.ldc2_w 21, 3) := dX13_worked_114g.2.2.2.2.2.2.2.2.2.2.2.2.2.1
theorem dX13_worked_139 : decode cX13_worked 139 = .ok (.goto 6, 3) := dX13_worked_114g.2.2.2.2.2.2.2.2.2.2.2.2.2.2.1
theorem dX13_worked_142 : decode cX13_worked 142 = .ok (.ldc2_w 11, 3) := dX13_worked_114g.2.2.2.2.2.2.2.2.2.2.2.2.2.2.2
theorem dX13_worked_145g : decode cX13_worked 145 = .ok (.invokevirtual 359, 3) ∧ decode cX13_worked 148 = .ok (.invokevirtual 520, 3) ∧ decode cX13_worked 151 = .ok (.istore 5, 2) ∧ decode cX13_worked 153 = .ok (.aload_n 0, 1) ∧ decode cX13_worked 154 = .ok (.iload 5, 2) ∧ decode cX13_worked 156 = .ok (.invokevirtual 523, 3) ∧ decode cX13_worked 159 = .ok (.ifCond .ne 5, 3) ∧ decode cX13_worked 162 = .ok (.iconst 0, 1) ∧ decode cX13_worked 163 = .ok (.ireturn, 1) ∧ decode cX13_worked 164 = .ok (.aload_n 0, 1) ∧ decode cX13_worked 165 = .ok (.iload_n 2, 1) ∧ decode cX13_worked 166 = .ok (.iload_n 3, 1) ∧ decode cX13_worked 167 = .ok (.iconst 1, 1) ∧ decode cX13_worked 168 = .ok (.aload_n 0, 1) ∧ decode cX13_worked 169 = .ok (.getfield 513, 3) ∧ decode cX13_worked 172 = .ok (.invokevirtual 516, 3) := by decide +kernel
theorem dX13_worked_145 : decode cX13_worked 145 = .ok (.invokevirtual 359, 3) := dX13_worked_145g.1
theorem dX13_worked_148 : decode cX13_worked 148 = .ok (.invokevirtual 520, 3) := dX13_worked_145g.2.1
theorem dX13_worked_151 : decode cX13_worked 151 = .ok (.istore 5, 2) := dX13_worked_145g.2.2.1
theorem dX13_worked_153 : decode cX13_worked 153 = .ok (.aload_n 0, 1) := dX13_worked_145g.2.2.2.1
theorem dX13_worked_154 : decode cX13_worked 154 = .ok (.iload 5, 2) := dX13_worked_145g.2.2.2.2.1
theorem dX13_worked_156 : decode cX13_worked 156 = .ok (.invokevirtual 523, 3) := dX13_worked_145g.2.2.2.2.2.1
theorem dX13_worked_159 : decode cX13_worked 159 = .ok (.ifCond .ne 5, 3) := dX13_worked_145g.2.2.2.2.2.2.1
theorem dX13_worked_162 : decode cX13_worked 162 = .ok (.iconst 0, 1) := dX13_worked_145g.2.2.2.2.2.2.2.1
theorem dX13_worked_163 : decode cX13_worked 163 = .ok (.ireturn, 1) := dX13_worked_145g.2.2.2.2.2.2.2.2.1
theorem dX13_worked_164 : decode cX13_worked 164 = .ok (.aload_n 0, 1) := dX13_worked_145g.2.2.2.2.2.2.2.2.2.1
theorem dX13_worked_165 : decode cX13_worked 165 = .ok (.iload_n 2, 1) := dX13_worked_145g.2.2.2.2.2.2.2.2.2.2.1
theorem dX13_worked_166 : decode cX13_worked 166 = .ok (.iload_n 3, 1) := dX13_worked_145g.2.2.2.2.2.2.2.2.2.2.2.1
theorem dX13_worked_167 : decode cX13_worked 167 = .ok (.iconst 1, 1) := dX13_worked_145g.2.2.2.2.2.2.2.2.2.2.2.2.1
theorem dX13_worked_168 : decode cX13_worked 168 = .ok (.aload_n 0, 1) := dX13_worked_145g.2.2.2.2.2.2.2.2.2.2.2.2.2.1
theorem dX13_worked_169 : decode cX13_worked 169 = .ok (.getfield 513, 3) := dX13_worked_145g.2.2.2.2.2.2.2.2.2.2.2.2.2.2.1
theorem dX13_worked_172 : decode cX13_worked 172 = .ok (.invokevirtual 516, 3) := dX13_worked_145g.2.2.2.2.2.2.2.2.2.2.2.2.2.2.2
theorem dX13_worked_175 : decode cX13_worked 175 = .ok (.iconst 1, 1) := by decide +kernel
theorem dX13_worked_176 : decode cX13_worked 176 = .ok (.ireturn, 1) := by decide +kernel
theorem dX13_workedOut_0g : decode cX13_workedOut 0 = .ok (.aload_n 0, 1) ∧ decode cX13_workedOut 1 = .ok (.getfield 501, 3) ∧ decode cX13_workedOut 4 = .ok (.iconst 1, 1) ∧ decode cX13_workedOut 5 = .ok (.isub, 1) ∧ decode cX13_workedOut 6 = .ok (.istore_n 3, 1) ∧ decode cX13_workedOut 7 = .ok (.aload_n 0, 1) ∧ decode cX13_workedOut 8 = .ok (.iload_n 1, 1) ∧ decode cX13_workedOut 9 = .ok (.ldc2_w 19, 3) ∧ decode cX13_workedOut 12 = .ok (.invokevirtual 355, 3) ∧ decode cX13_workedOut 15 = .ok (.ifCond .ne 14, 3) ∧ decode cX13_workedOut 18 = .ok (.aload_n 0, 1) ∧ decode cX13_workedOut 19 = .ok (.iload_n 1, 1) ∧ decode cX13_workedOut 20 = .ok (.ldc2_w 21, 3) ∧ decode cX13_workedOut 23 = .ok (.invokevirtual 355, 3) ∧ decode cX13_workedOut 26 = .ok (.ifCond .eq 7, 3) ∧ decode cX13_workedOut 29 = .ok (.iload_n 1, 1) := by decide +kernel
theorem dX13_workedOut_0 : decode cX13_workedOut 0 = .ok (.aload_n 0, 1) := dX13_workedOut_0g.1
theorem dX13_workedOut_1 : decode cX13_workedOut 1 = .ok (.getfield 501, 3) := dX13_workedOut_0g.2.1
theorem dX13_workedOut_4 : decode cX13_workedOut 4 = .ok (.iconst 1, 1) := dX13_workedOut_0g.2.2.1
theorem dX13_workedOut_5 : decode cX13_workedOut 5 = .ok (.isub, 1) := dX13_workedOut_0g.2.2.2.1
theorem dX13_workedOut_6 : decode cX13_workedOut 6 = .ok (.istore_n 3, 1) := dX13_workedOut_0g.2.2.2.2.1
theorem dX13_workedOut_7 : decode cX13_workedOut 7 = .ok (.aload_n 0, 1) := dX13_workedOut_0g.2.2.2.2.2.1
theorem dX13_workedOut_8 : decode cX13_workedOut 8 = .ok (.iload_n 1, 1) := dX13_workedOut_0g.2.2.2.2.2.2.1
theorem dX13_workedOut_9 : decode cX13_workedOut 9 = .ok (.ldc2_w 19, 3) := dX13_workedOut_0g.2.2.2.2.2.2.2.1
theorem dX13_workedOut_12 : decode cX13_workedOut 12 = .ok (.invokevirtual 355, 3) := dX13_workedOut_0g.2.2.2.2.2.2.2.2.1
theorem dX13_workedOut_15 : decode cX13_workedOut 15 = .ok (.ifCond .ne 14, 3) := dX13_workedOut_0g.2.2.2.2.2.2.2.2.2.1
theorem dX13_workedOut_18 : decode cX13_workedOut 18 = .ok (.aload_n 0, 1) := dX13_workedOut_0g.2.2.2.2.2.2.2.2.2.2.1
theorem dX13_workedOut_19 : decode cX13_workedOut 19 = .ok (.iload_n 1, 1) := dX13_workedOut_0g.2.2.2.2.2.2.2.2.2.2.2.1
theorem dX13_workedOut_20 : decode cX13_workedOut 20 = .ok (.ldc2_w 21, 3) := dX13_workedOut_0g.2.2.2.2.2.2.2.2.2.2.2.2.1
theorem dX13_workedOut_23 : decode cX13_workedOut 23 = .ok (.invokevirtual 355, 3) := dX13_workedOut_0g.2.2.2.2.2.2.2.2.2.2.2.2.2.1
theorem dX13_workedOut_26 : decode cX13_workedOut 26 = .ok (.ifCond .eq 7, 3) := dX13_workedOut_0g.2.2.2.2.2.2.2.2.2.2.2.2.2.2.1
theorem dX13_workedOut_29 : decode cX13_workedOut 29 = .ok (.iload_n 1, 1) := dX13_workedOut_0g.2.2.2.2.2.2.2.2.2.2.2.2.2.2.2
theorem dX13_workedOut_30g : decode cX13_workedOut 30 = .ok (.goto 10, 3) ∧ decode cX13_workedOut 33 = .ok (.aload_n 0, 1) ∧ decode cX13_workedOut 34 = .ok (.iload_n 1, 1) ∧ decode cX13_workedOut 35 = .ok (.iconst 0, 1) ∧ decode cX13_workedOut 36 = .ok (.iload_n 1, 1) ∧ decode cX13_workedOut 37 = .ok (.invokevirtual 457, 3) ∧ decode cX13_workedOut 40 = .ok (.istore 4, 2) ∧ decode cX13_workedOut 42 = .ok (.aload_n 0, 1) ∧ decode cX13_workedOut 43 = .ok (.getfield 126, 3) ∧ decode cX13_workedOut 46 = .ok (.iload 4, 2) ∧ decode cX13_workedOut 48 = .ok (.iaload, 1) ∧ decode cX13_workedOut 49 = .ok (.bipush 6, 2) ∧ decode cX13_workedOut 51 = .ok (.if_icmp .eq 29, 3) ∧ decode cX13_workedOut 54 = .ok (.aload_n 0, 1) ∧ decode cX13_workedOut 55 = .ok (.getfield 228, 3) ∧ decode cX13_workedOut 58 = .ok (.iload_n 3, 1) := by decide +kernel
theorem dX13_workedOut_30 : decode cX13_workedOut 30 = .ok (.goto 10, 3) := dX13_workedOut_30g.1
theorem dX13_workedOut_33 : decode cX13_workedOut 33 = .ok (.aload_n 0, 1) := dX13_workedOut_30g.2.1
theorem dX13_workedOut_34 : decode cX13_workedOut 34 = .ok (.iload_n 1, 1) := dX13_workedOut_30g.2.2.1
theorem dX13_workedOut_35 : decode cX13_workedOut 35 = .ok (.iconst 0, 1) := dX13_workedOut_30g.2.2.2.1
theorem dX13_workedOut_36 : decode cX13_workedOut 36 = .ok (.iload_n 1, 1) := dX13_workedOut_30g.2.2.2.2.1
theorem dX13_workedOut_37 : decode cX13_workedOut 37 = .ok (.invokevirtual 457, 3) := dX13_workedOut_30g.2.2.2.2.2.1
theorem dX13_workedOut_40 : decode cX13_workedOut 40 = .ok (.istore 4, 2) := dX13_workedOut_30g.2.2.2.2.2.2.1
theorem dX13_workedOut_42 : decode cX13_workedOut 42 = .ok (.aload_n 0, 1) := dX13_workedOut_30g.2.2.2.2.2.2.2.1
theorem dX13_workedOut_43 : decode cX13_workedOut 43 = .ok (.getfield 126, 3) := dX13_workedOut_30g.2.2.2.2.2.2.2.2.1
theorem dX13_workedOut_46 : decode cX13_workedOut 46 = .ok (.iload 4, 2) := dX13_workedOut_30g.2.2.2.2.2.2.2.2.2.1
theorem dX13_workedOut_48 : decode cX13_workedOut 48 = .ok (.iaload, 1) := dX13_workedOut_30g.2.2.2.2.2.2.2.2.2.2.1
theorem dX13_workedOut_49 : decode cX13_workedOut 49 = .ok (.bipush 6, 2) := dX13_workedOut_30g.2.2.2.2.2.2.2.2.2.2.2.1
theorem dX13_workedOut_51 : decode cX13_workedOut 51 = .ok (.if_icmp .eq 29, 3) := dX13_workedOut_30g.2.2.2.2.2.2.2.2.2.2.2.2.1
theorem dX13_workedOut_54 : decode cX13_workedOut 54 = .ok (.aload_n 0, 1) := dX13_workedOut_30g.2.2.2.2.2.2.2.2.2.2.2.2.2.1
theorem dX13_workedOut_55 : decode cX13_workedOut 55 = .ok (.getfield 228, 3) := dX13_workedOut_30g.2.2.2.2.2.2.2.2.2.2.2.2.2.2.1
theorem dX13_workedOut_58 : decode cX13_workedOut 58 = .ok (.iload_n 3, 1) := dX13_workedOut_30g.2.2.2.2.2.2.2.2.2.2.2.2.2.2.2
theorem dX13_workedOut_59g : decode cX13_workedOut 59 = .ok (.iaload, 1) ∧ decode cX13_workedOut 60 = .ok (.ifCond .gt 14, 3) ∧ decode cX13_workedOut 63 = .ok (.aload_n 0, 1) ∧ decode cX13_workedOut 64 = .ok (.iload 4, 2) ∧ decode cX13_workedOut 66 = .ok (.iload_n 2, 1) ∧ decode cX13_workedOut 67 = .ok (.iconst (-1), 1) ∧ decode cX13_workedOut 68 = .ok (.invokevirtual 526, 3) ∧ decode cX13_workedOut 71 = .ok (.ifCond .eq 7, 3) ∧ decode cX13_workedOut 74 = .ok (.iconst 1, 1) ∧ decode cX13_workedOut 75 = .ok (.goto 4, 3) ∧ decode cX13_workedOut 78 = .ok (.iconst 0, 1) ∧ decode cX13_workedOut 79 = .ok (.ireturn, 1) ∧ decode cX13_workedOut 80 = .ok (.aload_n 0, 1) ∧ decode cX13_workedOut 81 = .ok (.getfield 228, 3) ∧ decode cX13_workedOut 84 = .ok (.iload_n 3, 1) ∧ decode cX13_workedOut 85 = .ok (.iaload, 1) := by decide +kernel
theorem dX13_workedOut_59 : decode cX13_workedOut 59 = .ok (.iaload, 1) := dX13_workedOut_59g.1
theorem dX13_workedOut_60 : decode cX13_workedOut 60 = .ok (.ifCond .gt 14, 3) := dX13_workedOut_59g.2.1
theorem dX13_workedOut_63 : decode cX13_workedOut 63 = .ok (.aload_n 0, 1) := dX13_workedOut_59g.2.2.1
theorem dX13_workedOut_64 : decode cX13_workedOut 64 = .ok (.iload 4, 2) := dX13_workedOut_59g.2.2.2.1
theorem dX13_workedOut_66 : decode cX13_workedOut 66 = .ok (.iload_n 2, 1) := dX13_workedOut_59g.2.2.2.2.1
theorem dX13_workedOut_67 : decode cX13_workedOut 67 = .ok (.iconst (-1), 1) := dX13_workedOut_59g.2.2.2.2.2.1
theorem dX13_workedOut_68 : decode cX13_workedOut 68 = .ok (.invokevirtual 526, 3) := dX13_workedOut_59g.2.2.2.2.2.2.1
theorem dX13_workedOut_71 : decode cX13_workedOut 71 = .ok (.ifCond .eq 7, 3) := dX13_workedOut_59g.2.2.2.2.2.2.2.1
theorem dX13_workedOut_74 : decode cX13_workedOut 74 = .ok (.iconst 1, 1) := dX13_workedOut_59g.2.2.2.2.2.2.2.2.1
theorem dX13_workedOut_75 : decode cX13_workedOut 75 = .ok (.goto 4, 3) := dX13_workedOut_59g.2.2.2.2.2.2.2.2.2.1
theorem dX13_workedOut_78 : decode cX13_workedOut 78 = .ok (.iconst 0, 1) := dX13_workedOut_59g.2.2.2.2.2.2.2.2.2.2.1
theorem dX13_workedOut_79 : decode cX13_workedOut 79 = .ok (.ireturn, 1) := dX13_workedOut_59g.2.2.2.2.2.2.2.2.2.2.2.1
theorem dX13_workedOut_80 : decode cX13_workedOut 80 = .ok (.aload_n 0, 1) := dX13_workedOut_59g.2.2.2.2.2.2.2.2.2.2.2.2.1
theorem dX13_workedOut_81 : decode cX13_workedOut 81 = .ok (.getfield 228, 3) := dX13_workedOut_59g.2.2.2.2.2.2.2.2.2.2.2.2.2.1
theorem dX13_workedOut_84 : decode cX13_workedOut 84 = .ok (.iload_n 3, 1) := dX13_workedOut_59g.2.2.2.2.2.2.2.2.2.2.2.2.2.2.1
theorem dX13_workedOut_85 : decode cX13_workedOut 85 = .ok (.iaload, 1) := dX13_workedOut_59g.2.2.2.2.2.2.2.2.2.2.2.2.2.2.2
theorem dX13_workedOut_86g : decode cX13_workedOut 86 = .ok (.istore 5, 2) ∧ decode cX13_workedOut 88 = .ok (.aload_n 0, 1) ∧ decode cX13_workedOut 89 = .ok (.iload 4, 2) ∧ decode cX13_workedOut 91 = .ok (.iconst 0, 1) ∧ decode cX13_workedOut 92 = .ok (.iload 4, 2) ∧ decode cX13_workedOut 94 = .ok (.invokevirtual 457, 3) ∧ decode cX13_workedOut 97 = .ok (.istore 6, 2) ∧ decode cX13_workedOut 99 = .ok (.iconst 0, 1) ∧ decode cX13_workedOut 100 = .ok (.istore 7, 2) ∧ decode cX13_workedOut 102 = .ok (.iload 7, 2) ∧ decode cX13_workedOut 104 = .ok (.iload 5, 2) ∧ decode cX13_workedOut 106 = .ok (.if_icmp .ge 20, 3) ∧ decode cX13_workedOut 109 = .ok (.aload_n 0, 1) ∧ decode cX13_workedOut 110 = .ok (.iload 4, 2) ∧ decode cX13_workedOut 112 = .ok (.iconst 0, 1) ∧ decode cX13_workedOut 113 = .ok (.iload 6, 2) := by decide +kernel
theorem dX13_workedOut_86 : decode cX13_workedOut 86 = .ok (.istore 5, 2) := dX13_workedOut_86g.1
theorem dX13_workedOut_88 : decode cX13_workedOut 88 = .ok (.aload_n 0, 1) := dX13_workedOut_86g.2.1
theorem dX13_workedOut_89 : decode cX13_workedOut 89 = .ok (.iload 4, 2) := dX13_workedOut_86g.2.2.1
theorem dX13_workedOut_91 : decode cX13_workedOut 91 = .ok (.iconst 0, 1) := dX13_workedOut_86g.2.2.2.1
theorem dX13_workedOut_92 : decode cX13_workedOut 92 = .ok (.iload 4, 2) := dX13_workedOut_86g.2.2.2.2.1
theorem dX13_workedOut_94 : decode cX13_workedOut 94 = .ok (.invokevirtual 457, 3) := dX13_workedOut_86g.2.2.2.2.2.1
theorem dX13_workedOut_97 : decode cX13_workedOut 97 = .ok (.istore 6, 2) := dX13_workedOut_86g.2.2.2.2.2.2.1
theorem dX13_workedOut_99 : decode cX13_workedOut 99 = .ok (.iconst 0, 1) := dX13_workedOut_86g.2.2.2.2.2.2.2.1
theorem dX13_workedOut_100 : decode cX13_workedOut 100 = .ok (.istore 7, 2) := dX13_workedOut_86g.2.2.2.2.2.2.2.2.1
theorem dX13_workedOut_102 : decode cX13_workedOut 102 = .ok (.iload 7, 2) := dX13_workedOut_86g.2.2.2.2.2.2.2.2.2.1
theorem dX13_workedOut_104 : decode cX13_workedOut 104 = .ok (.iload 5, 2) := dX13_workedOut_86g.2.2.2.2.2.2.2.2.2.2.1
theorem dX13_workedOut_106 : decode cX13_workedOut 106 = .ok (.if_icmp .ge 20, 3) := dX13_workedOut_86g.2.2.2.2.2.2.2.2.2.2.2.1
theorem dX13_workedOut_109 : decode cX13_workedOut 109 = .ok (.aload_n 0, 1) := dX13_workedOut_86g.2.2.2.2.2.2.2.2.2.2.2.2.1
theorem dX13_workedOut_110 : decode cX13_workedOut 110 = .ok (.iload 4, 2) := dX13_workedOut_86g.2.2.2.2.2.2.2.2.2.2.2.2.2.1
theorem dX13_workedOut_112 : decode cX13_workedOut 112 = .ok (.iconst 0, 1) := dX13_workedOut_86g.2.2.2.2.2.2.2.2.2.2.2.2.2.2.1
theorem dX13_workedOut_113 : decode cX13_workedOut 113 = .ok (.iload 6, 2) := dX13_workedOut_86g.2.2.2.2.2.2.2.2.2.2.2.2.2.2.2
theorem dX13_workedOut_115g : decode cX13_workedOut 115 = .ok (.invokevirtual 457, 3) ∧ decode cX13_workedOut 118 = .ok (.istore 6, 2) ∧ decode cX13_workedOut 120 = .ok (.iinc 7 1, 3) ∧ decode cX13_workedOut 123 = .ok (.goto (-21), 3) ∧ decode cX13_workedOut 126 = .ok (.iload 6, 2) ∧ decode cX13_workedOut 128 = .ok (.iconst (-1), 1) ∧ decode cX13_workedOut 129 = .ok (.if_icmp .eq 42, 3) ∧ decode cX13_workedOut 132 = .ok (.aload_n 0, 1) ∧ decode cX13_workedOut 133 = .ok (.iload 6, 2) ∧ decode cX13_workedOut 135 = .ok (.iload_n 2, 1) ∧ decode cX13_workedOut 136 = .ok (.iload 5, 2) ∧ decode cX13_workedOut 138 = .ok (.invokevirtual 526, 3) ∧ decode cX13_workedOut 141 = .ok (.ifCond .ne 5, 3) ∧ decode cX13_workedOut 144 = .ok (.iconst 0, 1) ∧ decode cX13_workedOut 145 = .ok (.ireturn, 1) ∧ decode cX13_workedOut 146 = .ok (.iinc 5 1, 3) := by decide +kernel
theorem dX13_workedOut_115 : decode cX13_workedOut 115 = .ok (.invokevirtual 457, 3) := dX13_workedOut_115g.1
theorem dX13_workedOut_118 : decode cX13_workedOut 118 = .ok (.istore 6, 2) := dX13_workedOut_115g.2.1
theorem dX13_workedOut_120 : decode cX13_workedOut 120 = .ok (.iinc 7 1, 3) := dX13_workedOut_115g.2.2.1
theorem dX13_workedOut_123 : decode cX13_workedOut 123 = .ok (.goto (-21), 3) := dX13_workedOut_115g.2.2.2.1
theorem dX13_workedOut_126 : decode cX13_workedOut 126 = .ok (.iload 6, 2) := dX13_workedOut_115g.2.2.2.2.1
theorem dX13_workedOut_128 : decode cX13_workedOut 128 = .ok (.iconst (-1), 1) := dX13_workedOut_115g.2.2.2.2.2.1
theorem dX13_workedOut_129 : decode cX13_workedOut 129 = .ok (.if_icmp .eq 42, 3) := dX13_workedOut_115g.2.2.2.2.2.2.1
theorem dX13_workedOut_132 : decode cX13_workedOut 132 = .ok (.aload_n 0, 1) := dX13_workedOut_115g.2.2.2.2.2.2.2.1
theorem dX13_workedOut_133 : decode cX13_workedOut 133 = .ok (.iload 6, 2) := dX13_workedOut_115g.2.2.2.2.2.2.2.2.1
theorem dX13_workedOut_135 : decode cX13_workedOut 135 = .ok (.iload_n 2, 1) := dX13_workedOut_115g.2.2.2.2.2.2.2.2.2.1
theorem dX13_workedOut_136 : decode cX13_workedOut 136 = .ok (.iload 5, 2) := dX13_workedOut_115g.2.2.2.2.2.2.2.2.2.2.1
theorem dX13_workedOut_138 : decode cX13_workedOut 138 = .ok (.invokevirtual 526, 3) := dX13_workedOut_115g.2.2.2.2.2.2.2.2.2.2.2.1
theorem dX13_workedOut_141 : decode cX13_workedOut 141 = .ok (.ifCond .ne 5, 3) := dX13_workedOut_115g.2.2.2.2.2.2.2.2.2.2.2.2.1
theorem dX13_workedOut_144 : decode cX13_workedOut 144 = .ok (.iconst 0, 1) := dX13_workedOut_115g.2.2.2.2.2.2.2.2.2.2.2.2.2.1
theorem dX13_workedOut_145 : decode cX13_workedOut 145 = .ok (.ireturn, 1) := dX13_workedOut_115g.2.2.2.2.2.2.2.2.2.2.2.2.2.2.1
theorem dX13_workedOut_146 : decode cX13_workedOut 146 = .ok (.iinc 5 1, 3) := dX13_workedOut_115g.2.2.2.2.2.2.2.2.2.2.2.2.2.2.2
theorem dX13_workedOut_149g : decode cX13_workedOut 149 = .ok (.aload_n 0, 1) ∧ decode cX13_workedOut 150 = .ok (.getfield 228, 3) ∧ decode cX13_workedOut 153 = .ok (.iload_n 3, 1) ∧ decode cX13_workedOut 154 = .ok (.iload 5, 2) ∧ decode cX13_workedOut 156 = .ok (.iastore, 1) ∧ decode cX13_workedOut 157 = .ok (.aload_n 0, 1) ∧ decode cX13_workedOut 158 = .ok (.iload 4, 2) ∧ decode cX13_workedOut 160 = .ok (.iconst 0, 1) ∧ decode cX13_workedOut 161 = .ok (.iload 6, 2) ∧ decode cX13_workedOut 163 = .ok (.invokevirtual 457, 3) ∧ decode cX13_workedOut 166 = .ok (.istore 6, 2) ∧ decode cX13_workedOut 168 = .ok (.goto (-42), 3) ∧ decode cX13_workedOut 171 = .ok (.aload_n 0, 1) ∧ decode cX13_workedOut 172 = .ok (.getfield 237, 3) ∧ decode cX13_workedOut 175 = .ok (.iload_n 2, 1) ∧ decode cX13_workedOut 176 = .ok (.iconst 3, 1) := by decide +kernel
theorem dX13_workedOut_149 : decode cX13_workedOut 149 = .ok (.aload_n 0, 1) := dX13_workedOut_149g.1
theorem dX13_workedOut_150 : decode cX13_workedOut 150 = .ok (.getfield 228, 3) := dX13_workedOut_149g.2.1
theorem dX13_workedOut_153 : decode cX13_workedOut 153 = .ok (.iload_n 3, 1) := dX13_workedOut_149g.2.2.1
theorem dX13_workedOut_154 : decode cX13_workedOut 154 = .ok (.iload 5, 2) := dX13_workedOut_149g.2.2.2.1
theorem dX13_workedOut_156 : decode cX13_workedOut 156 = .ok (.iastore, 1) := dX13_workedOut_149g.2.2.2.2.1
theorem dX13_workedOut_157 : decode cX13_workedOut 157 = .ok (.aload_n 0, 1) := dX13_workedOut_149g.2.2.2.2.2.1
theorem dX13_workedOut_158 : decode cX13_workedOut 158 = .ok (.iload 4, 2) := dX13_workedOut_149g.2.2.2.2.2.2.1
theorem dX13_workedOut_160 : decode cX13_workedOut 160 = .ok (.iconst 0, 1) := dX13_workedOut_149g.2.2.2.2.2.2.2.1
theorem dX13_workedOut_161 : decode cX13_workedOut 161 = .ok (.iload 6, 2) := dX13_workedOut_149g.2.2.2.2.2.2.2.2.1
theorem dX13_workedOut_163 : decode cX13_workedOut 163 = .ok (.invokevirtual 457, 3) := dX13_workedOut_149g.2.2.2.2.2.2.2.2.2.1
theorem dX13_workedOut_166 : decode cX13_workedOut 166 = .ok (.istore 6, 2) := dX13_workedOut_149g.2.2.2.2.2.2.2.2.2.2.1
theorem dX13_workedOut_168 : decode cX13_workedOut 168 = .ok (.goto (-42), 3) := dX13_workedOut_149g.2.2.2.2.2.2.2.2.2.2.2.1
theorem dX13_workedOut_171 : decode cX13_workedOut 171 = .ok (.aload_n 0, 1) := dX13_workedOut_149g.2.2.2.2.2.2.2.2.2.2.2.2.1
theorem dX13_workedOut_172 : decode cX13_workedOut 172 = .ok (.getfield 237, 3) := dX13_workedOut_149g.2.2.2.2.2.2.2.2.2.2.2.2.2.1
theorem dX13_workedOut_175 : decode cX13_workedOut 175 = .ok (.iload_n 2, 1) := dX13_workedOut_149g.2.2.2.2.2.2.2.2.2.2.2.2.2.2.1
theorem dX13_workedOut_176 : decode cX13_workedOut 176 = .ok (.iconst 3, 1) := dX13_workedOut_149g.2.2.2.2.2.2.2.2.2.2.2.2.2.2.2
theorem dX13_workedOut_177g : decode cX13_workedOut 177 = .ok (.iastore, 1) ∧ decode cX13_workedOut 178 = .ok (.aload_n 0, 1) ∧ decode cX13_workedOut 179 = .ok (.getfield 240, 3) ∧ decode cX13_workedOut 182 = .ok (.iload_n 2, 1) ∧ decode cX13_workedOut 183 = .ok (.aload_n 0, 1) ∧ decode cX13_workedOut 184 = .ok (.getfield 135, 3) ∧ decode cX13_workedOut 187 = .ok (.iload 4, 2) ∧ decode cX13_workedOut 189 = .ok (.iaload, 1) ∧ decode cX13_workedOut 190 = .ok (.iastore, 1) ∧ decode cX13_workedOut 191 = .ok (.iconst 1, 1) ∧ decode cX13_workedOut 192 = .ok (.ireturn, 1) := by decide +kernel
theorem dX13_workedOut_177 : decode cX13_workedOut 177 = .ok (.iastore, 1) := dX13_workedOut_177g.1
theorem dX13_workedOut_178 : decode cX13_workedOut 178 = .ok (.aload_n 0, 1) := dX13_workedOut_177g.2.1
theorem dX13_workedOut_179 : decode cX13_workedOut 179 = .ok (.getfield 240, 3) := dX13_workedOut_177g.2.2.1
theorem dX13_workedOut_182 : decode cX13_workedOut 182 = .ok (.iload_n 2, 1) := dX13_workedOut_177g.2.2.2.1
theorem dX13_workedOut_183 : decode cX13_workedOut 183 = .ok (.aload_n 0, 1) := dX13_workedOut_177g.2.2.2.2.1
theorem dX13_workedOut_184 : decode cX13_workedOut 184 = .ok (.getfield 135, 3) := dX13_workedOut_177g.2.2.2.2.2.1
theorem dX13_workedOut_187 : decode cX13_workedOut 187 = .ok (.iload 4, 2) := dX13_workedOut_177g.2.2.2.2.2.2.1
theorem dX13_workedOut_189 : decode cX13_workedOut 189 = .ok (.iaload, 1) := dX13_workedOut_177g.2.2.2.2.2.2.2.1
theorem dX13_workedOut_190 : decode cX13_workedOut 190 = .ok (.iastore, 1) := dX13_workedOut_177g.2.2.2.2.2.2.2.2.1
theorem dX13_workedOut_191 : decode cX13_workedOut 191 = .ok (.iconst 1, 1) := dX13_workedOut_177g.2.2.2.2.2.2.2.2.2.1
theorem dX13_workedOut_192 : decode cX13_workedOut 192 = .ok (.ireturn, 1) := dX13_workedOut_177g.2.2.2.2.2.2.2.2.2.2
theorem dX13_deliver_0g : decode cX13_deliver 0 = .ok (.aload_n 0, 1) ∧ decode cX13_deliver 1 = .ok (.getfield 501, 3) ∧ decode cX13_deliver 4 = .ok (.iconst 1, 1) ∧ decode cX13_deliver 5 = .ok (.isub, 1) ∧ decode cX13_deliver 6 = .ok (.istore_n 1, 1) ∧ decode cX13_deliver 7 = .ok (.aload_n 0, 1) ∧ decode cX13_deliver 8 = .ok (.getfield 222, 3) ∧ decode cX13_deliver 11 = .ok (.iload_n 1, 1) ∧ decode cX13_deliver 12 = .ok (.iaload, 1) ∧ decode cX13_deliver 13 = .ok (.lookupswitch 43 #[(1, 27), (2, 30)], 27) ∧ decode cX13_deliver 40 = .ok (.goto 160, 3) ∧ decode cX13_deliver 43 = .ok (.aload_n 0, 1) ∧ decode cX13_deliver 44 = .ok (.getfield 231, 3) ∧ decode cX13_deliver 47 = .ok (.iload_n 1, 1) ∧ decode cX13_deliver 48 = .ok (.aload_n 0, 1) ∧ decode cX13_deliver 49 = .ok (.getfield 513, 3) := by decide +kernel
theorem dX13_deliver_0 : decode cX13_deliver 0 = .ok (.aload_n 0, 1) := dX13_deliver_0g.1
theorem dX13_deliver_1 : decode cX13_deliver 1 = .ok (.getfield 501, 3) := dX13_deliver_0g.2.1
theorem dX13_deliver_4 : decode cX13_deliver 4 = .ok (.iconst 1, 1) := dX13_deliver_0g.2.2.1
theorem dX13_deliver_5 : decode cX13_deliver 5 = .ok (.isub, 1) := dX13_deliver_0g.2.2.2.1
theorem dX13_deliver_6 : decode cX13_deliver 6 = .ok (.istore_n 1, 1) := dX13_deliver_0g.2.2.2.2.1
theorem dX13_deliver_7 : decode cX13_deliver 7 = .ok (.aload_n 0, 1) := dX13_deliver_0g.2.2.2.2.2.1
theorem dX13_deliver_8 : decode cX13_deliver 8 = .ok (.getfield 222, 3) := dX13_deliver_0g.2.2.2.2.2.2.1
theorem dX13_deliver_11 : decode cX13_deliver 11 = .ok (.iload_n 1, 1) := dX13_deliver_0g.2.2.2.2.2.2.2.1
theorem dX13_deliver_12 : decode cX13_deliver 12 = .ok (.iaload, 1) := dX13_deliver_0g.2.2.2.2.2.2.2.2.1
theorem dX13_deliver_13 : decode cX13_deliver 13 = .ok (.lookupswitch 43 #[(1, 27), (2, 30)], 27) := dX13_deliver_0g.2.2.2.2.2.2.2.2.2.1
theorem dX13_deliver_40 : decode cX13_deliver 40 = .ok (.goto 160, 3) := dX13_deliver_0g.2.2.2.2.2.2.2.2.2.2.1
theorem dX13_deliver_43 : decode cX13_deliver 43 = .ok (.aload_n 0, 1) := dX13_deliver_0g.2.2.2.2.2.2.2.2.2.2.2.1
theorem dX13_deliver_44 : decode cX13_deliver 44 = .ok (.getfield 231, 3) := dX13_deliver_0g.2.2.2.2.2.2.2.2.2.2.2.2.1
theorem dX13_deliver_47 : decode cX13_deliver 47 = .ok (.iload_n 1, 1) := dX13_deliver_0g.2.2.2.2.2.2.2.2.2.2.2.2.2.1
theorem dX13_deliver_48 : decode cX13_deliver 48 = .ok (.aload_n 0, 1) := dX13_deliver_0g.2.2.2.2.2.2.2.2.2.2.2.2.2.2.1
theorem dX13_deliver_49 : decode cX13_deliver 49 = .ok (.getfield 513, 3) := dX13_deliver_0g.2.2.2.2.2.2.2.2.2.2.2.2.2.2.2
theorem dX13_deliver_52g : decode cX13_deliver 52 = .ok (.iastore, 1) ∧ decode cX13_deliver 53 = .ok (.goto 147, 3) ∧ decode cX13_deliver 56 = .ok (.aload_n 0, 1) ∧ decode cX13_deliver 57 = .ok (.getfield 222, 3) ∧ decode cX13_deliver 60 = .ok (.iload_n 1, 1) ∧ decode cX13_deliver 61 = .ok (.iaload, 1) ∧ decode cX13_deliver 62 = .ok (.iconst 3, 1) ∧ decode cX13_deliver 63 = .ok (.if_icmp .ne 22, 3) ∧ decode cX13_deliver 66 = .ok (.aload_n 0, 1) ∧ decode cX13_deliver 67 = .ok (.aload_n 0, 1) ∧ decode cX13_deliver 68 = .ok (.getfield 219, 3) ∧ decode cX13_deliver 71 = .ok (.iload_n 1, 1) ∧ decode cX13_deliver 72 = .ok (.iaload, 1) ∧ decode cX13_deliver 73 = .ok (.aload_n 0, 1) ∧ decode cX13_deliver 74 = .ok (.getfield 225, 3) ∧ decode cX13_deliver 77 = .ok (.iload_n 1, 1) := by decide +kernel
theorem dX13_deliver_52 : decode cX13_deliver 52 = .ok (.iastore, 1) := dX13_deliver_52g.1
theorem dX13_deliver_53 : decode cX13_deliver 53 = .ok (.goto 147, 3) := dX13_deliver_52g.2.1
theorem dX13_deliver_56 : decode cX13_deliver 56 = .ok (.aload_n 0, 1) := dX13_deliver_52g.2.2.1
theorem dX13_deliver_57 : decode cX13_deliver 57 = .ok (.getfield 222, 3) := dX13_deliver_52g.2.2.2.1
theorem dX13_deliver_60 : decode cX13_deliver 60 = .ok (.iload_n 1, 1) := dX13_deliver_52g.2.2.2.2.1
theorem dX13_deliver_61 : decode cX13_deliver 61 = .ok (.iaload, 1) := dX13_deliver_52g.2.2.2.2.2.1
theorem dX13_deliver_62 : decode cX13_deliver 62 = .ok (.iconst 3, 1) := dX13_deliver_52g.2.2.2.2.2.2.1
theorem dX13_deliver_63 : decode cX13_deliver 63 = .ok (.if_icmp .ne 22, 3) := dX13_deliver_52g.2.2.2.2.2.2.2.1
theorem dX13_deliver_66 : decode cX13_deliver 66 = .ok (.aload_n 0, 1) := dX13_deliver_52g.2.2.2.2.2.2.2.2.1
theorem dX13_deliver_67 : decode cX13_deliver 67 = .ok (.aload_n 0, 1) := dX13_deliver_52g.2.2.2.2.2.2.2.2.2.1
theorem dX13_deliver_68 : decode cX13_deliver 68 = .ok (.getfield 219, 3) := dX13_deliver_52g.2.2.2.2.2.2.2.2.2.2.1
theorem dX13_deliver_71 : decode cX13_deliver 71 = .ok (.iload_n 1, 1) := dX13_deliver_52g.2.2.2.2.2.2.2.2.2.2.2.1
theorem dX13_deliver_72 : decode cX13_deliver 72 = .ok (.iaload, 1) := dX13_deliver_52g.2.2.2.2.2.2.2.2.2.2.2.2.1
theorem dX13_deliver_73 : decode cX13_deliver 73 = .ok (.aload_n 0, 1) := dX13_deliver_52g.2.2.2.2.2.2.2.2.2.2.2.2.2.1
theorem dX13_deliver_74 : decode cX13_deliver 74 = .ok (.getfield 225, 3) := dX13_deliver_52g.2.2.2.2.2.2.2.2.2.2.2.2.2.2.1
theorem dX13_deliver_77 : decode cX13_deliver 77 = .ok (.iload_n 1, 1) := dX13_deliver_52g.2.2.2.2.2.2.2.2.2.2.2.2.2.2.2
theorem dX13_deliver_78g : decode cX13_deliver 78 = .ok (.iaload, 1) ∧ decode cX13_deliver 79 = .ok (.invokevirtual 464, 3) ∧ decode cX13_deliver 82 = .ok (.goto 24, 3) ∧ decode cX13_deliver 85 = .ok (.aload_n 0, 1) ∧ decode cX13_deliver 86 = .ok (.getfield 177, 3) ∧ decode cX13_deliver 89 = .ok (.bipush 26, 2) ∧ decode cX13_deliver 91 = .ok (.aload_n 0, 1) ∧ decode cX13_deliver 92 = .ok (.getfield 219, 3) ∧ decode cX13_deliver 95 = .ok (.iload_n 1, 1) ∧ decode cX13_deliver 96 = .ok (.iaload, 1) ∧ decode cX13_deliver 97 = .ok (.imul, 1) ∧ decode cX13_deliver 98 = .ok (.aload_n 0, 1) ∧ decode cX13_deliver 99 = .ok (.getfield 225, 3) ∧ decode cX13_deliver 102 = .ok (.iload_n 1, 1) ∧ decode cX13_deliver 103 = .ok (.iaload, 1) ∧ decode cX13_deliver 104 = .ok (.iadd, 1) := by decide +kernel
theorem dX13_deliver_78 : decode cX13_deliver 78 = .ok (.iaload, 1) := dX13_deliver_78g.1
theorem dX13_deliver_79 : decode cX13_deliver 79 = .ok (.invokevirtual 464, 3) := dX13_deliver_78g.2.1
theorem dX13_deliver_82 : decode cX13_deliver 82 = .ok (.goto 24, 3) := dX13_deliver_78g.2.2.1
theorem dX13_deliver_85 : decode cX13_deliver 85 = .ok (.aload_n 0, 1) := dX13_deliver_78g.2.2.2.1
theorem dX13_deliver_86 : decode cX13_deliver 86 = .ok (.getfield 177, 3) := dX13_deliver_78g.2.2.2.2.1
theorem dX13_deliver_89 : decode cX13_deliver 89 = .ok (.bipush 26, 2) := dX13_deliver_78g.2.2.2.2.2.1
theorem dX13_deliver_91 : decode cX13_deliver 91 = .ok (.aload_n 0, 1) := dX13_deliver_78g.2.2.2.2.2.2.1
theorem dX13_deliver_92 : decode cX13_deliver 92 = .ok (.getfield 219, 3) := dX13_deliver_78g.2.2.2.2.2.2.2.1
theorem dX13_deliver_95 : decode cX13_deliver 95 = .ok (.iload_n 1, 1) := dX13_deliver_78g.2.2.2.2.2.2.2.2.1
theorem dX13_deliver_96 : decode cX13_deliver 96 = .ok (.iaload, 1) := dX13_deliver_78g.2.2.2.2.2.2.2.2.2.1
theorem dX13_deliver_97 : decode cX13_deliver 97 = .ok (.imul, 1) := dX13_deliver_78g.2.2.2.2.2.2.2.2.2.2.1
theorem dX13_deliver_98 : decode cX13_deliver 98 = .ok (.aload_n 0, 1) := dX13_deliver_78g.2.2.2.2.2.2.2.2.2.2.2.1
theorem dX13_deliver_99 : decode cX13_deliver 99 = .ok (.getfield 225, 3) := dX13_deliver_78g.2.2.2.2.2.2.2.2.2.2.2.2.1
theorem dX13_deliver_102 : decode cX13_deliver 102 = .ok (.iload_n 1, 1) := dX13_deliver_78g.2.2.2.2.2.2.2.2.2.2.2.2.2.1
theorem dX13_deliver_103 : decode cX13_deliver 103 = .ok (.iaload, 1) := dX13_deliver_78g.2.2.2.2.2.2.2.2.2.2.2.2.2.2.1
theorem dX13_deliver_104 : decode cX13_deliver 104 = .ok (.iadd, 1) := dX13_deliver_78g.2.2.2.2.2.2.2.2.2.2.2.2.2.2.2
theorem dX13_deliver_105g : decode cX13_deliver 105 = .ok (.iaload, 1) ∧ decode cX13_deliver 106 = .ok (.istore_n 2, 1) ∧ decode cX13_deliver 107 = .ok (.iconst 5, 1) ∧ decode cX13_deliver 108 = .ok (.iload_n 1, 1) ∧ decode cX13_deliver 109 = .ok (.imul, 1) ∧ decode cX13_deliver 110 = .ok (.aload_n 0, 1) ∧ decode cX13_deliver 111 = .ok (.getfield 222, 3) ∧ decode cX13_deliver 114 = .ok (.iload_n 1, 1) ∧ decode cX13_deliver 115 = .ok (.iaload, 1) ∧ decode cX13_deliver 116 = .ok (.iconst 3, 1) ∧ decode cX13_deliver 117 = .ok (.if_icmp .ne 12, 3) ∧ decode cX13_deliver 120 = .ok (.aload_n 0, 1) ∧ decode cX13_deliver 121 = .ok (.getfield 225, 3) ∧ decode cX13_deliver 124 = .ok (.iload_n 1, 1) ∧ decode cX13_deliver 125 = .ok (.iaload, 1) ∧ decode cX13_deliver 126 = .ok (.goto 4, 3) := by decide +kernel
theorem dX13_deliver_105 : decode cX13_deliver 105 = .ok (.iaload, 1) := dX13_deliver_105g.1
theorem dX13_deliver_106 : decode cX13_deliver 106 = .ok (.istore_n 2, 1) := dX13_deliver_105g.2.1
theorem dX13_deliver_107 : decode cX13_deliver 107 = .ok (.iconst 5, 1) := dX13_deliver_105g.2.2.1
theorem dX13_deliver_108 : decode cX13_deliver 108 = .ok (.iload_n 1, 1) := dX13_deliver_105g.2.2.2.1
theorem dX13_deliver_109 : decode cX13_deliver 109 = .ok (.imul, 1) := dX13_deliver_105g.2.2.2.2.1
theorem dX13_deliver_110 : decode cX13_deliver 110 = .ok (.aload_n 0, 1) := dX13_deliver_105g.2.2.2.2.2.1
theorem dX13_deliver_111 : decode cX13_deliver 111 = .ok (.getfield 222, 3) := dX13_deliver_105g.2.2.2.2.2.2.1
theorem dX13_deliver_114 : decode cX13_deliver 114 = .ok (.iload_n 1, 1) := dX13_deliver_105g.2.2.2.2.2.2.2.1
theorem dX13_deliver_115 : decode cX13_deliver 115 = .ok (.iaload, 1) := dX13_deliver_105g.2.2.2.2.2.2.2.2.1
theorem dX13_deliver_116 : decode cX13_deliver 116 = .ok (.iconst 3, 1) := dX13_deliver_105g.2.2.2.2.2.2.2.2.2.1
theorem dX13_deliver_117 : decode cX13_deliver 117 = .ok (.if_icmp .ne 12, 3) := dX13_deliver_105g.2.2.2.2.2.2.2.2.2.2.1
theorem dX13_deliver_120 : decode cX13_deliver 120 = .ok (.aload_n 0, 1) := dX13_deliver_105g.2.2.2.2.2.2.2.2.2.2.2.1
theorem dX13_deliver_121 : decode cX13_deliver 121 = .ok (.getfield 225, 3) := dX13_deliver_105g.2.2.2.2.2.2.2.2.2.2.2.2.1
theorem dX13_deliver_124 : decode cX13_deliver 124 = .ok (.iload_n 1, 1) := dX13_deliver_105g.2.2.2.2.2.2.2.2.2.2.2.2.2.1
theorem dX13_deliver_125 : decode cX13_deliver 125 = .ok (.iaload, 1) := dX13_deliver_105g.2.2.2.2.2.2.2.2.2.2.2.2.2.2.1
theorem dX13_deliver_126 : decode cX13_deliver 126 = .ok (.goto 4, 3) := dX13_deliver_105g.2.2.2.2.2.2.2.2.2.2.2.2.2.2.2
theorem dX13_deliver_129g : decode cX13_deliver 129 = .ok (.iconst 4, 1) ∧ decode cX13_deliver 130 = .ok (.iadd, 1) ∧ decode cX13_deliver 131 = .ok (.istore_n 3, 1) ∧ decode cX13_deliver 132 = .ok (.aload_n 0, 1) ∧ decode cX13_deliver 133 = .ok (.getfield 135, 3) ∧ decode cX13_deliver 136 = .ok (.iload_n 2, 1) ∧ decode cX13_deliver 137 = .ok (.iaload, 1) ∧ decode cX13_deliver 138 = .ok (.ifCond .le 24, 3) ∧ decode cX13_deliver 141 = .ok (.aload_n 0, 1) ∧ decode cX13_deliver 142 = .ok (.getfield 126, 3) ∧ decode cX13_deliver 145 = .ok (.aload_n 0, 1) ∧ decode cX13_deliver 146 = .ok (.iload_n 2, 1) ∧ decode cX13_deliver 147 = .ok (.iconst 0, 1) ∧ decode cX13_deliver 148 = .ok (.iload_n 2, 1) ∧ decode cX13_deliver 149 = .ok (.invokevirtual 457, 3) ∧ decode cX13_deliver 152 = .ok (.iaload, 1) := by decide +kernel
theorem dX13_deliver_129 : decode cX13_deliver 129 = .ok (.iconst 4, 1) := dX13_deliver_129g.1
theorem dX13_deliver_130 : decode cX13_deliver 130 = .ok (.iadd, 1) := dX13_deliver_129g.2.1
theorem dX13_deliver_131 : decode cX13_deliver 131 = .ok (.istore_n 3, 1) := dX13_deliver_129g.2.2.1
theorem dX13_deliver_132 : decode cX13_deliver 132 = .ok (.aload_n 0, 1) := dX13_deliver_129g.2.2.2.1
theorem dX13_deliver_133 : decode cX13_deliver 133 = .ok (.getfield 135, 3) := dX13_deliver_129g.2.2.2.2.1
theorem dX13_deliver_136 : decode cX13_deliver 136 = .ok (.iload_n 2, 1) := dX13_deliver_129g.2.2.2.2.2.1
theorem dX13_deliver_137 : decode cX13_deliver 137 = .ok (.iaload, 1) := dX13_deliver_129g.2.2.2.2.2.2.1
theorem dX13_deliver_138 : decode cX13_deliver 138 = .ok (.ifCond .le 24, 3) := dX13_deliver_129g.2.2.2.2.2.2.2.1
theorem dX13_deliver_141 : decode cX13_deliver 141 = .ok (.aload_n 0, 1) := dX13_deliver_129g.2.2.2.2.2.2.2.2.1
theorem dX13_deliver_142 : decode cX13_deliver 142 = .ok (.getfield 126, 3) := dX13_deliver_129g.2.2.2.2.2.2.2.2.2.1
theorem dX13_deliver_145 : decode cX13_deliver 145 = .ok (.aload_n 0, 1) := dX13_deliver_129g.2.2.2.2.2.2.2.2.2.2.1
theorem dX13_deliver_146 : decode cX13_deliver 146 = .ok (.iload_n 2, 1) := dX13_deliver_129g.2.2.2.2.2.2.2.2.2.2.2.1
theorem dX13_deliver_147 : decode cX13_deliver 147 = .ok (.iconst 0, 1) := dX13_deliver_129g.2.2.2.2.2.2.2.2.2.2.2.2.1
theorem dX13_deliver_148 : decode cX13_deliver 148 = .ok (.iload_n 2, 1) := dX13_deliver_129g.2.2.2.2.2.2.2.2.2.2.2.2.2.1
theorem dX13_deliver_149 : decode cX13_deliver 149 = .ok (.invokevirtual 457, 3) := dX13_deliver_129g.2.2.2.2.2.2.2.2.2.2.2.2.2.2.1
theorem dX13_deliver_152 : decode cX13_deliver 152 = .ok (.iaload, 1) := dX13_deliver_129g.2.2.2.2.2.2.2.2.2.2.2.2.2.2.2
theorem dX13_deliver_153g : decode cX13_deliver 153 = .ok (.bipush 6, 2) ∧ decode cX13_deliver 155 = .ok (.if_icmp .ne 7, 3) ∧ decode cX13_deliver 158 = .ok (.iconst 1, 1) ∧ decode cX13_deliver 159 = .ok (.goto 4, 3) ∧ decode cX13_deliver 162 = .ok (.iconst 0, 1) ∧ decode cX13_deliver 163 = .ok (.istore 4, 2) ∧ decode cX13_deliver 165 = .ok (.aload_n 0, 1) ∧ decode cX13_deliver 166 = .ok (.iload_n 3, 1) ∧ decode cX13_deliver 167 = .ok (.iload 4, 2) ∧ decode cX13_deliver 169 = .ok (.ifCond .eq 12, 3) ∧ decode cX13_deliver 172 = .ok (.aload_n 0, 1) ∧ decode cX13_deliver 173 = .ok (.getfield 228, 3) ∧ decode cX13_deliver 176 = .ok (.iload_n 1, 1) ∧ decode cX13_deliver 177 = .ok (.iaload, 1) ∧ decode cX13_deliver 178 = .ok (.goto 4, 3) ∧ decode cX13_deliver 181 = .ok (.iconst (-1), 1) := by decide +kernel
theorem dX13_deliver_153 : decode cX13_deliver 153 = .ok (.bipush 6, 2) := dX13_deliver_153g.1
theorem dX13_deliver_155 : decode cX13_deliver 155 = .ok (.if_icmp .ne 7, 3) := dX13_deliver_153g.2.1
theorem dX13_deliver_158 : decode cX13_deliver 158 = .ok (.iconst 1, 1) := dX13_deliver_153g.2.2.1
theorem dX13_deliver_159 : decode cX13_deliver 159 = .ok (.goto 4, 3) := dX13_deliver_153g.2.2.2.1
theorem dX13_deliver_162 : decode cX13_deliver 162 = .ok (.iconst 0, 1) := dX13_deliver_153g.2.2.2.2.1
theorem dX13_deliver_163 : decode cX13_deliver 163 = .ok (.istore 4, 2) := dX13_deliver_153g.2.2.2.2.2.1
theorem dX13_deliver_165 : decode cX13_deliver 165 = .ok (.aload_n 0, 1) := dX13_deliver_153g.2.2.2.2.2.2.1
theorem dX13_deliver_166 : decode cX13_deliver 166 = .ok (.iload_n 3, 1) := dX13_deliver_153g.2.2.2.2.2.2.2.1
theorem dX13_deliver_167 : decode cX13_deliver 167 = .ok (.iload 4, 2) := dX13_deliver_153g.2.2.2.2.2.2.2.2.1
theorem dX13_deliver_169 : decode cX13_deliver 169 = .ok (.ifCond .eq 12, 3) := dX13_deliver_153g.2.2.2.2.2.2.2.2.2.1
theorem dX13_deliver_172 : decode cX13_deliver 172 = .ok (.aload_n 0, 1) := dX13_deliver_153g.2.2.2.2.2.2.2.2.2.2.1
theorem dX13_deliver_173 : decode cX13_deliver 173 = .ok (.getfield 228, 3) := dX13_deliver_153g.2.2.2.2.2.2.2.2.2.2.2.1
theorem dX13_deliver_176 : decode cX13_deliver 176 = .ok (.iload_n 1, 1) := dX13_deliver_153g.2.2.2.2.2.2.2.2.2.2.2.2.1
theorem dX13_deliver_177 : decode cX13_deliver 177 = .ok (.iaload, 1) := dX13_deliver_153g.2.2.2.2.2.2.2.2.2.2.2.2.2.1
theorem dX13_deliver_178 : decode cX13_deliver 178 = .ok (.goto 4, 3) := dX13_deliver_153g.2.2.2.2.2.2.2.2.2.2.2.2.2.2.1
theorem dX13_deliver_181 : decode cX13_deliver 181 = .ok (.iconst (-1), 1) := dX13_deliver_153g.2.2.2.2.2.2.2.2.2.2.2.2.2.2.2
theorem dX13_deliver_182g : decode cX13_deliver 182 = .ok (.iconst 1, 1) ∧ decode cX13_deliver 183 = .ok (.aload_n 0, 1) ∧ decode cX13_deliver 184 = .ok (.getfield 513, 3) ∧ decode cX13_deliver 187 = .ok (.invokevirtual 516, 3) ∧ decode cX13_deliver 190 = .ok (.aload_n 0, 1) ∧ decode cX13_deliver 191 = .ok (.getfield 228, 3) ∧ decode cX13_deliver 194 = .ok (.iload_n 1, 1) ∧ decode cX13_deliver 195 = .ok (.dup2, 1) ∧ decode cX13_deliver 196 = .ok (.iaload, 1) ∧ decode cX13_deliver 197 = .ok (.iconst 1, 1) ∧ decode cX13_deliver 198 = .ok (.iadd, 1) ∧ decode cX13_deliver 199 = .ok (.iastore, 1) ∧ decode cX13_deliver 200 = .ok (.return_, 1) := by decide +kernel
theorem dX13_deliver_182 : decode cX13_deliver 182 = .ok (.iconst 1, 1) := dX13_deliver_182g.1
theorem dX13_deliver_183 : decode cX13_deliver 183 = .ok (.aload_n 0, 1) := dX13_deliver_182g.2.1
theorem dX13_deliver_184 : decode cX13_deliver 184 = .ok (.getfield 513, 3) := dX13_deliver_182g.2.2.1
theorem dX13_deliver_187 : decode cX13_deliver 187 = .ok (.invokevirtual 516, 3) := dX13_deliver_182g.2.2.2.1
theorem dX13_deliver_190 : decode cX13_deliver 190 = .ok (.aload_n 0, 1) := dX13_deliver_182g.2.2.2.2.1
theorem dX13_deliver_191 : decode cX13_deliver 191 = .ok (.getfield 228, 3) := dX13_deliver_182g.2.2.2.2.2.1
theorem dX13_deliver_194 : decode cX13_deliver 194 = .ok (.iload_n 1, 1) := dX13_deliver_182g.2.2.2.2.2.2.1
theorem dX13_deliver_195 : decode cX13_deliver 195 = .ok (.dup2, 1) := dX13_deliver_182g.2.2.2.2.2.2.2.1
theorem dX13_deliver_196 : decode cX13_deliver 196 = .ok (.iaload, 1) := dX13_deliver_182g.2.2.2.2.2.2.2.2.1
theorem dX13_deliver_197 : decode cX13_deliver 197 = .ok (.iconst 1, 1) := dX13_deliver_182g.2.2.2.2.2.2.2.2.2.1
theorem dX13_deliver_198 : decode cX13_deliver 198 = .ok (.iadd, 1) := dX13_deliver_182g.2.2.2.2.2.2.2.2.2.2.1
theorem dX13_deliver_199 : decode cX13_deliver 199 = .ok (.iastore, 1) := dX13_deliver_182g.2.2.2.2.2.2.2.2.2.2.2.1
theorem dX13_deliver_200 : decode cX13_deliver 200 = .ok (.return_, 1) := dX13_deliver_182g.2.2.2.2.2.2.2.2.2.2.2.2
theorem dX13_length_0g : decode cX13_length 0 = .ok (.iload_n 1, 1) ∧ decode cX13_length 1 = .ok (.sipush 1000, 3) ∧ decode cX13_length 4 = .ok (.if_icmp .ge 12, 3) ∧ decode cX13_length 7 = .ok (.aload_n 0, 1) ∧ decode cX13_length 8 = .ok (.getfield 159, 3) ∧ decode cX13_length 11 = .ok (.iload_n 1, 1) ∧ decode cX13_length 12 = .ok (.iaload, 1) ∧ decode cX13_length 13 = .ok (.goto 13, 3) ∧ decode cX13_length 16 = .ok (.aload_n 0, 1) ∧ decode cX13_length 17 = .ok (.getfield 141, 3) ∧ decode cX13_length 20 = .ok (.iload_n 1, 1) ∧ decode cX13_length 21 = .ok (.sipush 1000, 3) ∧ decode cX13_length 24 = .ok (.isub, 1) ∧ decode cX13_length 25 = .ok (.iaload, 1) ∧ decode cX13_length 26 = .ok (.ireturn, 1) := by decide +kernel
theorem dX13_length_0 : decode cX13_length 0 = .ok (.iload_n 1, 1) := dX13_length_0g.1
theorem dX13_length_1 : decode cX13_length 1 = .ok (.sipush 1000, 3) := dX13_length_0g.2.1
theorem dX13_length_4 : decode cX13_length 4 = .ok (.if_icmp .ge 12, 3) := dX13_length_0g.2.2.1
theorem dX13_length_7 : decode cX13_length 7 = .ok (.aload_n 0, 1) := dX13_length_0g.2.2.2.1
theorem dX13_length_8 : decode cX13_length 8 = .ok (.getfield 159, 3) := dX13_length_0g.2.2.2.2.1
theorem dX13_length_11 : decode cX13_length 11 = .ok (.iload_n 1, 1) := dX13_length_0g.2.2.2.2.2.1
theorem dX13_length_12 : decode cX13_length 12 = .ok (.iaload, 1) := dX13_length_0g.2.2.2.2.2.2.1
theorem dX13_length_13 : decode cX13_length 13 = .ok (.goto 13, 3) := dX13_length_0g.2.2.2.2.2.2.2.1
theorem dX13_length_16 : decode cX13_length 16 = .ok (.aload_n 0, 1) := dX13_length_0g.2.2.2.2.2.2.2.2.1
theorem dX13_length_17 : decode cX13_length 17 = .ok (.getfield 141, 3) := dX13_length_0g.2.2.2.2.2.2.2.2.2.1
theorem dX13_length_20 : decode cX13_length 20 = .ok (.iload_n 1, 1) := dX13_length_0g.2.2.2.2.2.2.2.2.2.2.1
theorem dX13_length_21 : decode cX13_length 21 = .ok (.sipush 1000, 3) := dX13_length_0g.2.2.2.2.2.2.2.2.2.2.2.1
theorem dX13_length_24 : decode cX13_length 24 = .ok (.isub, 1) := dX13_length_0g.2.2.2.2.2.2.2.2.2.2.2.2.1
theorem dX13_length_25 : decode cX13_length 25 = .ok (.iaload, 1) := dX13_length_0g.2.2.2.2.2.2.2.2.2.2.2.2.2.1
theorem dX13_length_26 : decode cX13_length 26 = .ok (.ireturn, 1) := dX13_length_0g.2.2.2.2.2.2.2.2.2.2.2.2.2.2
theorem dX13_sign_0g : decode cX13_sign 0 = .ok (.iload_n 1, 1) ∧ decode cX13_sign 1 = .ok (.sipush 1000, 3) ∧ decode cX13_sign 4 = .ok (.if_icmp .ge 19, 3) ∧ decode cX13_sign 7 = .ok (.aload_n 0, 1) ∧ decode cX13_sign 8 = .ok (.getfield 162, 3) ∧ decode cX13_sign 11 = .ok (.aload_n 0, 1) ∧ decode cX13_sign 12 = .ok (.getfield 156, 3) ∧ decode cX13_sign 15 = .ok (.iload_n 1, 1) ∧ decode cX13_sign 16 = .ok (.iaload, 1) ∧ decode cX13_sign 17 = .ok (.iload_n 2, 1) ∧ decode cX13_sign 18 = .ok (.iadd, 1) ∧ decode cX13_sign 19 = .ok (.baload, 1) ∧ decode cX13_sign 20 = .ok (.goto 18, 3) ∧ decode cX13_sign 23 = .ok (.aload_n 0, 1) ∧ decode cX13_sign 24 = .ok (.getfield 165, 3) ∧ decode cX13_sign 27 = .ok (.bipush 24, 2) := by decide +kernel
theorem dX13_sign_0 : decode cX13_sign 0 = .ok (.iload_n 1, 1) := dX13_sign_0g.1
theorem dX13_sign_1 : decode cX13_sign 1 = .ok (.sipush 1000, 3) := dX13_sign_0g.2.1
theorem dX13_sign_4 : decode cX13_sign 4 = .ok (.if_icmp .ge 19, 3) := dX13_sign_0g.2.2.1
theorem dX13_sign_7 : decode cX13_sign 7 = .ok (.aload_n 0, 1) := dX13_sign_0g.2.2.2.1
theorem dX13_sign_8 : decode cX13_sign 8 = .ok (.getfield 162, 3) := dX13_sign_0g.2.2.2.2.1
theorem dX13_sign_11 : decode cX13_sign 11 = .ok (.aload_n 0, 1) := dX13_sign_0g.2.2.2.2.2.1
theorem dX13_sign_12 : decode cX13_sign 12 = .ok (.getfield 156, 3) := dX13_sign_0g.2.2.2.2.2.2.1
theorem dX13_sign_15 : decode cX13_sign 15 = .ok (.iload_n 1, 1) := dX13_sign_0g.2.2.2.2.2.2.2.1
theorem dX13_sign_16 : decode cX13_sign 16 = .ok (.iaload, 1) := dX13_sign_0g.2.2.2.2.2.2.2.2.1
theorem dX13_sign_17 : decode cX13_sign 17 = .ok (.iload_n 2, 1) := dX13_sign_0g.2.2.2.2.2.2.2.2.2.1
theorem dX13_sign_18 : decode cX13_sign 18 = .ok (.iadd, 1) := dX13_sign_0g.2.2.2.2.2.2.2.2.2.2.1
theorem dX13_sign_19 : decode cX13_sign 19 = .ok (.baload, 1) := dX13_sign_0g.2.2.2.2.2.2.2.2.2.2.2.1
theorem dX13_sign_20 : decode cX13_sign 20 = .ok (.goto 18, 3) := dX13_sign_0g.2.2.2.2.2.2.2.2.2.2.2.2.1
theorem dX13_sign_23 : decode cX13_sign 23 = .ok (.aload_n 0, 1) := dX13_sign_0g.2.2.2.2.2.2.2.2.2.2.2.2.2.1
theorem dX13_sign_24 : decode cX13_sign 24 = .ok (.getfield 165, 3) := dX13_sign_0g.2.2.2.2.2.2.2.2.2.2.2.2.2.2.1
theorem dX13_sign_27 : decode cX13_sign 27 = .ok (.bipush 24, 2) := dX13_sign_0g.2.2.2.2.2.2.2.2.2.2.2.2.2.2.2
theorem dX13_sign_29g : decode cX13_sign 29 = .ok (.iload_n 1, 1) ∧ decode cX13_sign 30 = .ok (.sipush 1000, 3) ∧ decode cX13_sign 33 = .ok (.isub, 1) ∧ decode cX13_sign 34 = .ok (.imul, 1) ∧ decode cX13_sign 35 = .ok (.iload_n 2, 1) ∧ decode cX13_sign 36 = .ok (.iadd, 1) ∧ decode cX13_sign 37 = .ok (.baload, 1) ∧ decode cX13_sign 38 = .ok (.ireturn, 1) := by decide +kernel
theorem dX13_sign_29 : decode cX13_sign 29 = .ok (.iload_n 1, 1) := dX13_sign_29g.1
theorem dX13_sign_30 : decode cX13_sign 30 = .ok (.sipush 1000, 3) := dX13_sign_29g.2.1
theorem dX13_sign_33 : decode cX13_sign 33 = .ok (.isub, 1) := dX13_sign_29g.2.2.1
theorem dX13_sign_34 : decode cX13_sign 34 = .ok (.imul, 1) := dX13_sign_29g.2.2.2.1
theorem dX13_sign_35 : decode cX13_sign 35 = .ok (.iload_n 2, 1) := dX13_sign_29g.2.2.2.2.1
theorem dX13_sign_36 : decode cX13_sign 36 = .ok (.iadd, 1) := dX13_sign_29g.2.2.2.2.2.1
theorem dX13_sign_37 : decode cX13_sign 37 = .ok (.baload, 1) := dX13_sign_29g.2.2.2.2.2.2.1
theorem dX13_sign_38 : decode cX13_sign 38 = .ok (.ireturn, 1) := dX13_sign_29g.2.2.2.2.2.2.2
theorem dX13_numberIn_0g : decode cX13_numberIn 0 = .ok (.aload_n 0, 1) ∧ decode cX13_numberIn 1 = .ok (.iload_n 1, 1) ∧ decode cX13_numberIn 2 = .ok (.invokevirtual 530, 3) ∧ decode cX13_numberIn 5 = .ok (.istore_n 2, 1) ∧ decode cX13_numberIn 6 = .ok (.iload_n 2, 1) ∧ decode cX13_numberIn 7 = .ok (.ifCond .le 18, 3) ∧ decode cX13_numberIn 10 = .ok (.aload_n 0, 1) ∧ decode cX13_numberIn 11 = .ok (.iload_n 1, 1) ∧ decode cX13_numberIn 12 = .ok (.iconst 0, 1) ∧ decode cX13_numberIn 13 = .ok (.invokevirtual 533, 3) ∧ decode cX13_numberIn 16 = .ok (.bipush 45, 2) ∧ decode cX13_numberIn 18 = .ok (.if_icmp .ne 7, 3) ∧ decode cX13_numberIn 21 = .ok (.iconst 1, 1) ∧ decode cX13_numberIn 22 = .ok (.goto 4, 3) ∧ decode cX13_numberIn 25 = .ok (.iconst 0, 1) ∧ decode cX13_numberIn 26 = .ok (.istore_n 3, 1) := by decide +kernel
theorem dX13_numberIn_0 : decode cX13_numberIn 0 = .ok (.aload_n 0, 1) := dX13_numberIn_0g.1
theorem dX13_numberIn_1 : decode cX13_numberIn 1 = .ok (.iload_n 1, 1) := dX13_numberIn_0g.2.1
theorem dX13_numberIn_2 : decode cX13_numberIn 2 = .ok (.invokevirtual 530, 3) := dX13_numberIn_0g.2.2.1
theorem dX13_numberIn_5 : decode cX13_numberIn 5 = .ok (.istore_n 2, 1) := dX13_numberIn_0g.2.2.2.1
theorem dX13_numberIn_6 : decode cX13_numberIn 6 = .ok (.iload_n 2, 1) := dX13_numberIn_0g.2.2.2.2.1
theorem dX13_numberIn_7 : decode cX13_numberIn 7 = .ok (.ifCond .le 18, 3) := dX13_numberIn_0g.2.2.2.2.2.1
theorem dX13_numberIn_10 : decode cX13_numberIn 10 = .ok (.aload_n 0, 1) := dX13_numberIn_0g.2.2.2.2.2.2.1
theorem dX13_numberIn_11 : decode cX13_numberIn 11 = .ok (.iload_n 1, 1) := dX13_numberIn_0g.2.2.2.2.2.2.2.1
theorem dX13_numberIn_12 : decode cX13_numberIn 12 = .ok (.iconst 0, 1) := dX13_numberIn_0g.2.2.2.2.2.2.2.2.1
theorem dX13_numberIn_13 : decode cX13_numberIn 13 = .ok (.invokevirtual 533, 3) := dX13_numberIn_0g.2.2.2.2.2.2.2.2.2.1
theorem dX13_numberIn_16 : decode cX13_numberIn 16 = .ok (.bipush 45, 2) := dX13_numberIn_0g.2.2.2.2.2.2.2.2.2.2.1
theorem dX13_numberIn_18 : decode cX13_numberIn 18 = .ok (.if_icmp .ne 7, 3) := dX13_numberIn_0g.2.2.2.2.2.2.2.2.2.2.2.1
theorem dX13_numberIn_21 : decode cX13_numberIn 21 = .ok (.iconst 1, 1) := dX13_numberIn_0g.2.2.2.2.2.2.2.2.2.2.2.2.1
theorem dX13_numberIn_22 : decode cX13_numberIn 22 = .ok (.goto 4, 3) := dX13_numberIn_0g.2.2.2.2.2.2.2.2.2.2.2.2.2.1
theorem dX13_numberIn_25 : decode cX13_numberIn 25 = .ok (.iconst 0, 1) := dX13_numberIn_0g.2.2.2.2.2.2.2.2.2.2.2.2.2.2.1
theorem dX13_numberIn_26 : decode cX13_numberIn 26 = .ok (.istore_n 3, 1) := dX13_numberIn_0g.2.2.2.2.2.2.2.2.2.2.2.2.2.2.2
theorem dX13_numberIn_27g : decode cX13_numberIn 27 = .ok (.iload_n 2, 1) ∧ decode cX13_numberIn 28 = .ok (.iload_n 3, 1) ∧ decode cX13_numberIn 29 = .ok (.isub, 1) ∧ decode cX13_numberIn 30 = .ok (.ifCond .le 15, 3) ∧ decode cX13_numberIn 33 = .ok (.iload_n 2, 1) ∧ decode cX13_numberIn 34 = .ok (.iload_n 3, 1) ∧ decode cX13_numberIn 35 = .ok (.isub, 1) ∧ decode cX13_numberIn 36 = .ok (.bipush 11, 2) ∧ decode cX13_numberIn 38 = .ok (.if_icmp .ge 7, 3) ∧ decode cX13_numberIn 41 = .ok (.iconst 1, 1) ∧ decode cX13_numberIn 42 = .ok (.goto 4, 3) ∧ decode cX13_numberIn 45 = .ok (.iconst 0, 1) ∧ decode cX13_numberIn 46 = .ok (.istore 4, 2) ∧ decode cX13_numberIn 48 = .ok (.lconst 0, 1) ∧ decode cX13_numberIn 49 = .ok (.lstore 5, 2) ∧ decode cX13_numberIn 51 = .ok (.iload_n 3, 1) := by decide +kernel
theorem dX13_numberIn_27 : decode cX13_numberIn 27 = .ok (.iload_n 2, 1) := dX13_numberIn_27g.1
theorem dX13_numberIn_28 : decode cX13_numberIn 28 = .ok (.iload_n 3, 1) := dX13_numberIn_27g.2.1
theorem dX13_numberIn_29 : decode cX13_numberIn 29 = .ok (.isub, 1) := dX13_numberIn_27g.2.2.1
theorem dX13_numberIn_30 : decode cX13_numberIn 30 = .ok (.ifCond .le 15, 3) := dX13_numberIn_27g.2.2.2.1
theorem dX13_numberIn_33 : decode cX13_numberIn 33 = .ok (.iload_n 2, 1) := dX13_numberIn_27g.2.2.2.2.1
theorem dX13_numberIn_34 : decode cX13_numberIn 34 = .ok (.iload_n 3, 1) := dX13_numberIn_27g.2.2.2.2.2.1
theorem dX13_numberIn_35 : decode cX13_numberIn 35 = .ok (.isub, 1) := dX13_numberIn_27g.2.2.2.2.2.2.1
theorem dX13_numberIn_36 : decode cX13_numberIn 36 = .ok (.bipush 11, 2) := dX13_numberIn_27g.2.2.2.2.2.2.2.1
theorem dX13_numberIn_38 : decode cX13_numberIn 38 = .ok (.if_icmp .ge 7, 3) := dX13_numberIn_27g.2.2.2.2.2.2.2.2.1
theorem dX13_numberIn_41 : decode cX13_numberIn 41 = .ok (.iconst 1, 1) := dX13_numberIn_27g.2.2.2.2.2.2.2.2.2.1
theorem dX13_numberIn_42 : decode cX13_numberIn 42 = .ok (.goto 4, 3) := dX13_numberIn_27g.2.2.2.2.2.2.2.2.2.2.1
theorem dX13_numberIn_45 : decode cX13_numberIn 45 = .ok (.iconst 0, 1) := dX13_numberIn_27g.2.2.2.2.2.2.2.2.2.2.2.1
theorem dX13_numberIn_46 : decode cX13_numberIn 46 = .ok (.istore 4, 2) := dX13_numberIn_27g.2.2.2.2.2.2.2.2.2.2.2.2.1
theorem dX13_numberIn_48 : decode cX13_numberIn 48 = .ok (.lconst 0, 1) := dX13_numberIn_27g.2.2.2.2.2.2.2.2.2.2.2.2.2.1
theorem dX13_numberIn_49 : decode cX13_numberIn 49 = .ok (.lstore 5, 2) := dX13_numberIn_27g.2.2.2.2.2.2.2.2.2.2.2.2.2.2.1
theorem dX13_numberIn_51 : decode cX13_numberIn 51 = .ok (.iload_n 3, 1) := dX13_numberIn_27g.2.2.2.2.2.2.2.2.2.2.2.2.2.2.2
theorem dX13_numberIn_52g : decode cX13_numberIn 52 = .ok (.istore 7, 2) ∧ decode cX13_numberIn 54 = .ok (.iload 7, 2) ∧ decode cX13_numberIn 56 = .ok (.iload_n 2, 1) ∧ decode cX13_numberIn 57 = .ok (.if_icmp .ge 66, 3) ∧ decode cX13_numberIn 60 = .ok (.iload 4, 2) ∧ decode cX13_numberIn 62 = .ok (.ifCond .eq 61, 3) ∧ decode cX13_numberIn 65 = .ok (.aload_n 0, 1) ∧ decode cX13_numberIn 66 = .ok (.iload_n 1, 1) ∧ decode cX13_numberIn 67 = .ok (.iload 7, 2) ∧ decode cX13_numberIn 69 = .ok (.invokevirtual 533, 3) ∧ decode cX13_numberIn 72 = .ok (.bipush 48, 2) ∧ decode cX13_numberIn 74 = .ok (.if_icmp .lt 19, 3) ∧ decode cX13_numberIn 77 = .ok (.aload_n 0, 1) ∧ decode cX13_numberIn 78 = .ok (.iload_n 1, 1) ∧ decode cX13_numberIn 79 = .ok (.iload 7, 2) ∧ decode cX13_numberIn 81 = .ok (.invokevirtual 533, 3) := by decide +kernel
theorem dX13_numberIn_52 : decode cX13_numberIn 52 = .ok (.istore 7, 2) := dX13_numberIn_52g.1
theorem dX13_numberIn_54 : decode cX13_numberIn 54 = .ok (.iload 7, 2) := dX13_numberIn_52g.2.1
theorem dX13_numberIn_56 : decode cX13_numberIn 56 = .ok (.iload_n 2, 1) := dX13_numberIn_52g.2.2.1
theorem dX13_numberIn_57 : decode cX13_numberIn 57 = .ok (.if_icmp .ge 66, 3) := dX13_numberIn_52g.2.2.2.1
theorem dX13_numberIn_60 : decode cX13_numberIn 60 = .ok (.iload 4, 2) := dX13_numberIn_52g.2.2.2.2.1
theorem dX13_numberIn_62 : decode cX13_numberIn 62 = .ok (.ifCond .eq 61, 3) := dX13_numberIn_52g.2.2.2.2.2.1
theorem dX13_numberIn_65 : decode cX13_numberIn 65 = .ok (.aload_n 0, 1) := dX13_numberIn_52g.2.2.2.2.2.2.1
theorem dX13_numberIn_66 : decode cX13_numberIn 66 = .ok (.iload_n 1, 1) := dX13_numberIn_52g.2.2.2.2.2.2.2.1
theorem dX13_numberIn_67 : decode cX13_numberIn 67 = .ok (.iload 7, 2) := dX13_numberIn_52g.2.2.2.2.2.2.2.2.1
theorem dX13_numberIn_69 : decode cX13_numberIn 69 = .ok (.invokevirtual 533, 3) := dX13_numberIn_52g.2.2.2.2.2.2.2.2.2.1
theorem dX13_numberIn_72 : decode cX13_numberIn 72 = .ok (.bipush 48, 2) := dX13_numberIn_52g.2.2.2.2.2.2.2.2.2.2.1
theorem dX13_numberIn_74 : decode cX13_numberIn 74 = .ok (.if_icmp .lt 19, 3) := dX13_numberIn_52g.2.2.2.2.2.2.2.2.2.2.2.1
theorem dX13_numberIn_77 : decode cX13_numberIn 77 = .ok (.aload_n 0, 1) := dX13_numberIn_52g.2.2.2.2.2.2.2.2.2.2.2.2.1
theorem dX13_numberIn_78 : decode cX13_numberIn 78 = .ok (.iload_n 1, 1) := dX13_numberIn_52g.2.2.2.2.2.2.2.2.2.2.2.2.2.1
theorem dX13_numberIn_79 : decode cX13_numberIn 79 = .ok (.iload 7, 2) := dX13_numberIn_52g.2.2.2.2.2.2.2.2.2.2.2.2.2.2.1
theorem dX13_numberIn_81 : decode cX13_numberIn 81 = .ok (.invokevirtual 533, 3) := dX13_numberIn_52g.2.2.2.2.2.2.2.2.2.2.2.2.2.2.2
theorem dX13_numberIn_84g : decode cX13_numberIn 84 = .ok (.bipush 57, 2) ∧ decode cX13_numberIn 86 = .ok (.if_icmp .gt 7, 3) ∧ decode cX13_numberIn 89 = .ok (.iconst 1, 1) ∧ decode cX13_numberIn 90 = .ok (.goto 4, 3) ∧ decode cX13_numberIn 93 = .ok (.iconst 0, 1) ∧ decode cX13_numberIn 94 = .ok (.istore 4, 2) ∧ decode cX13_numberIn 96 = .ok (.ldc2_w 536, 3) ∧ decode cX13_numberIn 99 = .ok (.lload 5, 2) ∧ decode cX13_numberIn 101 = .ok (.lmul, 1) ∧ decode cX13_numberIn 102 = .ok (.aload_n 0, 1) ∧ decode cX13_numberIn 103 = .ok (.iload_n 1, 1) ∧ decode cX13_numberIn 104 = .ok (.iload 7, 2) ∧ decode cX13_numberIn 106 = .ok (.invokevirtual 533, 3) ∧ decode cX13_numberIn 109 = .ok (.i2l, 1) ∧ decode cX13_numberIn 110 = .ok (.ladd, 1) ∧ decode cX13_numberIn 111 = .ok (.ldc2_w 365, 3) := by decide +kernel
theorem dX13_numberIn_84 : decode cX13_numberIn 84 = .ok (.bipush 57, 2) := dX13_numberIn_84g.1
theorem dX13_numberIn_86 : decode cX13_numberIn 86 = .ok (.if_icmp .gt 7, 3) := dX13_numberIn_84g.2.1
theorem dX13_numberIn_89 : decode cX13_numberIn 89 = .ok (.iconst 1, 1) := dX13_numberIn_84g.2.2.1
theorem dX13_numberIn_90 : decode cX13_numberIn 90 = .ok (.goto 4, 3) := dX13_numberIn_84g.2.2.2.1
theorem dX13_numberIn_93 : decode cX13_numberIn 93 = .ok (.iconst 0, 1) := dX13_numberIn_84g.2.2.2.2.1
theorem dX13_numberIn_94 : decode cX13_numberIn 94 = .ok (.istore 4, 2) := dX13_numberIn_84g.2.2.2.2.2.1
theorem dX13_numberIn_96 : decode cX13_numberIn 96 = .ok (.ldc2_w 536, 3) := dX13_numberIn_84g.2.2.2.2.2.2.1
theorem dX13_numberIn_99 : decode cX13_numberIn 99 = .ok (.lload 5, 2) := dX13_numberIn_84g.2.2.2.2.2.2.2.1
theorem dX13_numberIn_101 : decode cX13_numberIn 101 = .ok (.lmul, 1) := dX13_numberIn_84g.2.2.2.2.2.2.2.2.1
theorem dX13_numberIn_102 : decode cX13_numberIn 102 = .ok (.aload_n 0, 1) := dX13_numberIn_84g.2.2.2.2.2.2.2.2.2.1
theorem dX13_numberIn_103 : decode cX13_numberIn 103 = .ok (.iload_n 1, 1) := dX13_numberIn_84g.2.2.2.2.2.2.2.2.2.2.1
theorem dX13_numberIn_104 : decode cX13_numberIn 104 = .ok (.iload 7, 2) := dX13_numberIn_84g.2.2.2.2.2.2.2.2.2.2.2.1
theorem dX13_numberIn_106 : decode cX13_numberIn 106 = .ok (.invokevirtual 533, 3) := dX13_numberIn_84g.2.2.2.2.2.2.2.2.2.2.2.2.1
theorem dX13_numberIn_109 : decode cX13_numberIn 109 = .ok (.i2l, 1) := dX13_numberIn_84g.2.2.2.2.2.2.2.2.2.2.2.2.2.1
theorem dX13_numberIn_110 : decode cX13_numberIn 110 = .ok (.ladd, 1) := dX13_numberIn_84g.2.2.2.2.2.2.2.2.2.2.2.2.2.2.1
theorem dX13_numberIn_111 : decode cX13_numberIn 111 = .ok (.ldc2_w 365, 3) := dX13_numberIn_84g.2.2.2.2.2.2.2.2.2.2.2.2.2.2.2
theorem dX13_numberIn_114g : decode cX13_numberIn 114 = .ok (.lsub, 1) ∧ decode cX13_numberIn 115 = .ok (.lstore 5, 2) ∧ decode cX13_numberIn 117 = .ok (.iinc 7 1, 3) ∧ decode cX13_numberIn 120 = .ok (.goto (-66), 3) ∧ decode cX13_numberIn 123 = .ok (.iload_n 3, 1) ∧ decode cX13_numberIn 124 = .ok (.iconst 1, 1) ∧ decode cX13_numberIn 125 = .ok (.if_icmp .ne 9, 3) ∧ decode cX13_numberIn 128 = .ok (.lload 5, 2) ∧ decode cX13_numberIn 130 = .ok (.lneg, 1) ∧ decode cX13_numberIn 131 = .ok (.goto 5, 3) ∧ decode cX13_numberIn 134 = .ok (.lload 5, 2) ∧ decode cX13_numberIn 136 = .ok (.lstore 5, 2) ∧ decode cX13_numberIn 138 = .ok (.iload 4, 2) ∧ decode cX13_numberIn 140 = .ok (.ifCond .eq 26, 3) ∧ decode cX13_numberIn 143 = .ok (.lload 5, 2) ∧ decode cX13_numberIn 145 = .ok (.ldc2_w 538, 3) := by decide +kernel
theorem dX13_numberIn_114 : decode cX13_numberIn 114 = .ok (.lsub, 1) := dX13_numberIn_114g.1
theorem dX13_numberIn_115 : decode cX13_numberIn 115 = .ok (.lstore 5, 2) := dX13_numberIn_114g.2.1
theorem dX13_numberIn_117 : decode cX13_numberIn 117 = .ok (.iinc 7 1, 3) := dX13_numberIn_114g.2.2.1
theorem dX13_numberIn_120 : decode cX13_numberIn 120 = .ok (.goto (-66), 3) := dX13_numberIn_114g.2.2.2.1
theorem dX13_numberIn_123 : decode cX13_numberIn 123 = .ok (.iload_n 3, 1) := dX13_numberIn_114g.2.2.2.2.1
theorem dX13_numberIn_124 : decode cX13_numberIn 124 = .ok (.iconst 1, 1) := dX13_numberIn_114g.2.2.2.2.2.1
theorem dX13_numberIn_125 : decode cX13_numberIn 125 = .ok (.if_icmp .ne 9, 3) := dX13_numberIn_114g.2.2.2.2.2.2.1
theorem dX13_numberIn_128 : decode cX13_numberIn 128 = .ok (.lload 5, 2) := dX13_numberIn_114g.2.2.2.2.2.2.2.1
theorem dX13_numberIn_130 : decode cX13_numberIn 130 = .ok (.lneg, 1) := dX13_numberIn_114g.2.2.2.2.2.2.2.2.1
theorem dX13_numberIn_131 : decode cX13_numberIn 131 = .ok (.goto 5, 3) := dX13_numberIn_114g.2.2.2.2.2.2.2.2.2.1
theorem dX13_numberIn_134 : decode cX13_numberIn 134 = .ok (.lload 5, 2) := dX13_numberIn_114g.2.2.2.2.2.2.2.2.2.2.1
theorem dX13_numberIn_136 : decode cX13_numberIn 136 = .ok (.lstore 5, 2) := dX13_numberIn_114g.2.2.2.2.2.2.2.2.2.2.2.1
theorem dX13_numberIn_138 : decode cX13_numberIn 138 = .ok (.iload 4, 2) := dX13_numberIn_114g.2.2.2.2.2.2.2.2.2.2.2.2.1
theorem dX13_numberIn_140 : decode cX13_numberIn 140 = .ok (.ifCond .eq 26, 3) := dX13_numberIn_114g.2.2.2.2.2.2.2.2.2.2.2.2.2.1
theorem dX13_numberIn_143 : decode cX13_numberIn 143 = .ok (.lload 5, 2) := dX13_numberIn_114g.2.2.2.2.2.2.2.2.2.2.2.2.2.2.1
theorem dX13_numberIn_145 : decode cX13_numberIn 145 = .ok (.ldc2_w 538, 3) := dX13_numberIn_114g.2.2.2.2.2.2.2.2.2.2.2.2.2.2.2
theorem dX13_numberIn_148g : decode cX13_numberIn 148 = .ok (.lcmp, 1) ∧ decode cX13_numberIn 149 = .ok (.ifCond .lt 17, 3) ∧ decode cX13_numberIn 152 = .ok (.lload 5, 2) ∧ decode cX13_numberIn 154 = .ok (.ldc2_w 540, 3) ∧ decode cX13_numberIn 157 = .ok (.lcmp, 1) ∧ decode cX13_numberIn 158 = .ok (.ifCond .gt 8, 3) ∧ decode cX13_numberIn 161 = .ok (.lload 5, 2) ∧ decode cX13_numberIn 163 = .ok (.goto 6, 3) ∧ decode cX13_numberIn 166 = .ok (.ldc2_w 542, 3) ∧ decode cX13_numberIn 169 = .ok (.lreturn, 1) := by decide +kernel
theorem dX13_numberIn_148 : decode cX13_numberIn 148 = .ok (.lcmp, 1) := dX13_numberIn_148g.1
theorem dX13_numberIn_149 : decode cX13_numberIn 149 = .ok (.ifCond .lt 17, 3) := dX13_numberIn_148g.2.1
theorem dX13_numberIn_152 : decode cX13_numberIn 152 = .ok (.lload 5, 2) := dX13_numberIn_148g.2.2.1
theorem dX13_numberIn_154 : decode cX13_numberIn 154 = .ok (.ldc2_w 540, 3) := dX13_numberIn_148g.2.2.2.1
theorem dX13_numberIn_157 : decode cX13_numberIn 157 = .ok (.lcmp, 1) := dX13_numberIn_148g.2.2.2.2.1
theorem dX13_numberIn_158 : decode cX13_numberIn 158 = .ok (.ifCond .gt 8, 3) := dX13_numberIn_148g.2.2.2.2.2.1
theorem dX13_numberIn_161 : decode cX13_numberIn 161 = .ok (.lload 5, 2) := dX13_numberIn_148g.2.2.2.2.2.2.1
theorem dX13_numberIn_163 : decode cX13_numberIn 163 = .ok (.goto 6, 3) := dX13_numberIn_148g.2.2.2.2.2.2.2.1
theorem dX13_numberIn_166 : decode cX13_numberIn 166 = .ok (.ldc2_w 542, 3) := dX13_numberIn_148g.2.2.2.2.2.2.2.2.1
theorem dX13_numberIn_169 : decode cX13_numberIn 169 = .ok (.lreturn, 1) := dX13_numberIn_148g.2.2.2.2.2.2.2.2.2
theorem dX13_is_0g : decode cX13_is 0 = .ok (.aload_n 0, 1) ∧ decode cX13_is 1 = .ok (.iload_n 1, 1) ∧ decode cX13_is 2 = .ok (.invokevirtual 530, 3) ∧ decode cX13_is 5 = .ok (.istore_n 3, 1) ∧ decode cX13_is 6 = .ok (.lconst 0, 1) ∧ decode cX13_is 7 = .ok (.lstore 4, 2) ∧ decode cX13_is 9 = .ok (.iconst 0, 1) ∧ decode cX13_is 10 = .ok (.istore 6, 2) ∧ decode cX13_is 12 = .ok (.iload 6, 2) ∧ decode cX13_is 14 = .ok (.iload_n 3, 1) ∧ decode cX13_is 15 = .ok (.if_icmp .ge 31, 3) ∧ decode cX13_is 18 = .ok (.iload_n 3, 1) ∧ decode cX13_is 19 = .ok (.bipush 8, 2) ∧ decode cX13_is 21 = .ok (.if_icmp .ge 25, 3) ∧ decode cX13_is 24 = .ok (.lload 4, 2) ∧ decode cX13_is 26 = .ok (.bipush 8, 2) := by decide +kernel
theorem dX13_is_0 : decode cX13_is 0 = .ok (.aload_n 0, 1) := dX13_is_0g.1
theorem dX13_is_1 : decode cX13_is 1 = .ok (.iload_n 1, 1) := dX13_is_0g.2.1
theorem dX13_is_2 : decode cX13_is 2 = .ok (.invokevirtual 530, 3) := dX13_is_0g.2.2.1
theorem dX13_is_5 : decode cX13_is 5 = .ok (.istore_n 3, 1) := dX13_is_0g.2.2.2.1
theorem dX13_is_6 : decode cX13_is 6 = .ok (.lconst 0, 1) := dX13_is_0g.2.2.2.2.1
theorem dX13_is_7 : decode cX13_is 7 = .ok (.lstore 4, 2) := dX13_is_0g.2.2.2.2.2.1
theorem dX13_is_9 : decode cX13_is 9 = .ok (.iconst 0, 1) := dX13_is_0g.2.2.2.2.2.2.1
theorem dX13_is_10 : decode cX13_is 10 = .ok (.istore 6, 2) := dX13_is_0g.2.2.2.2.2.2.2.1
theorem dX13_is_12 : decode cX13_is 12 = .ok (.iload 6, 2) := dX13_is_0g.2.2.2.2.2.2.2.2.1
theorem dX13_is_14 : decode cX13_is 14 = .ok (.iload_n 3, 1) := dX13_is_0g.2.2.2.2.2.2.2.2.2.1
theorem dX13_is_15 : decode cX13_is 15 = .ok (.if_icmp .ge 31, 3) := dX13_is_0g.2.2.2.2.2.2.2.2.2.2.1
theorem dX13_is_18 : decode cX13_is 18 = .ok (.iload_n 3, 1) := dX13_is_0g.2.2.2.2.2.2.2.2.2.2.2.1
theorem dX13_is_19 : decode cX13_is 19 = .ok (.bipush 8, 2) := dX13_is_0g.2.2.2.2.2.2.2.2.2.2.2.2.1
theorem dX13_is_21 : decode cX13_is 21 = .ok (.if_icmp .ge 25, 3) := dX13_is_0g.2.2.2.2.2.2.2.2.2.2.2.2.2.1
theorem dX13_is_24 : decode cX13_is 24 = .ok (.lload 4, 2) := dX13_is_0g.2.2.2.2.2.2.2.2.2.2.2.2.2.2.1
theorem dX13_is_26 : decode cX13_is 26 = .ok (.bipush 8, 2) := dX13_is_0g.2.2.2.2.2.2.2.2.2.2.2.2.2.2.2
theorem dX13_is_28g : decode cX13_is 28 = .ok (.lshl, 1) ∧ decode cX13_is 29 = .ok (.aload_n 0, 1) ∧ decode cX13_is 30 = .ok (.iload_n 1, 1) ∧ decode cX13_is 31 = .ok (.iload 6, 2) ∧ decode cX13_is 33 = .ok (.invokevirtual 533, 3) ∧ decode cX13_is 36 = .ok (.i2l, 1) ∧ decode cX13_is 37 = .ok (.lor, 1) ∧ decode cX13_is 38 = .ok (.lstore 4, 2) ∧ decode cX13_is 40 = .ok (.iinc 6 1, 3) ∧ decode cX13_is 43 = .ok (.goto (-31), 3) ∧ decode cX13_is 46 = .ok (.iload_n 3, 1) ∧ decode cX13_is 47 = .ok (.ifCond .le 19, 3) ∧ decode cX13_is 50 = .ok (.lload 4, 2) ∧ decode cX13_is 52 = .ok (.aload_n 0, 1) ∧ decode cX13_is 53 = .ok (.getfield 55, 3) ∧ decode cX13_is 56 = .ok (.iload_n 2, 1) := by decide +kernel
theorem dX13_is_28 : decode cX13_is 28 = .ok (.lshl, 1) := dX13_is_28g.1
theorem dX13_is_29 : decode cX13_is 29 = .ok (.aload_n 0, 1) := dX13_is_28g.2.1
theorem dX13_is_30 : decode cX13_is 30 = .ok (.iload_n 1, 1) := dX13_is_28g.2.2.1
theorem dX13_is_31 : decode cX13_is 31 = .ok (.iload 6, 2) := dX13_is_28g.2.2.2.1
theorem dX13_is_33 : decode cX13_is 33 = .ok (.invokevirtual 533, 3) := dX13_is_28g.2.2.2.2.1
theorem dX13_is_36 : decode cX13_is 36 = .ok (.i2l, 1) := dX13_is_28g.2.2.2.2.2.1
theorem dX13_is_37 : decode cX13_is 37 = .ok (.lor, 1) := dX13_is_28g.2.2.2.2.2.2.1
theorem dX13_is_38 : decode cX13_is 38 = .ok (.lstore 4, 2) := dX13_is_28g.2.2.2.2.2.2.2.1
theorem dX13_is_40 : decode cX13_is 40 = .ok (.iinc 6 1, 3) := dX13_is_28g.2.2.2.2.2.2.2.2.1
theorem dX13_is_43 : decode cX13_is 43 = .ok (.goto (-31), 3) := dX13_is_28g.2.2.2.2.2.2.2.2.2.1
theorem dX13_is_46 : decode cX13_is 46 = .ok (.iload_n 3, 1) := dX13_is_28g.2.2.2.2.2.2.2.2.2.2.1
theorem dX13_is_47 : decode cX13_is 47 = .ok (.ifCond .le 19, 3) := dX13_is_28g.2.2.2.2.2.2.2.2.2.2.2.1
theorem dX13_is_50 : decode cX13_is 50 = .ok (.lload 4, 2) := dX13_is_28g.2.2.2.2.2.2.2.2.2.2.2.2.1
theorem dX13_is_52 : decode cX13_is 52 = .ok (.aload_n 0, 1) := dX13_is_28g.2.2.2.2.2.2.2.2.2.2.2.2.2.1
theorem dX13_is_53 : decode cX13_is 53 = .ok (.getfield 55, 3) := dX13_is_28g.2.2.2.2.2.2.2.2.2.2.2.2.2.2.1
theorem dX13_is_56 : decode cX13_is 56 = .ok (.iload_n 2, 1) := dX13_is_28g.2.2.2.2.2.2.2.2.2.2.2.2.2.2.2
theorem dX13_is_57g : decode cX13_is 57 = .ok (.laload, 1) ∧ decode cX13_is 58 = .ok (.lcmp, 1) ∧ decode cX13_is 59 = .ok (.ifCond .ne 7, 3) ∧ decode cX13_is 62 = .ok (.iconst 1, 1) ∧ decode cX13_is 63 = .ok (.goto 4, 3) ∧ decode cX13_is 66 = .ok (.iconst 0, 1) ∧ decode cX13_is 67 = .ok (.ireturn, 1) := by decide +kernel
theorem dX13_is_57 : decode cX13_is 57 = .ok (.laload, 1) := dX13_is_57g.1
theorem dX13_is_58 : decode cX13_is 58 = .ok (.lcmp, 1) := dX13_is_57g.2.1
theorem dX13_is_59 : decode cX13_is 59 = .ok (.ifCond .ne 7, 3) := dX13_is_57g.2.2.1
theorem dX13_is_62 : decode cX13_is 62 = .ok (.iconst 1, 1) := dX13_is_57g.2.2.2.1
theorem dX13_is_63 : decode cX13_is 63 = .ok (.goto 4, 3) := dX13_is_57g.2.2.2.2.1
theorem dX13_is_66 : decode cX13_is 66 = .ok (.iconst 0, 1) := dX13_is_57g.2.2.2.2.2.1
theorem dX13_is_67 : decode cX13_is 67 = .ok (.ireturn, 1) := dX13_is_57g.2.2.2.2.2.2
theorem dX13_weight_0g : decode cX13_weight 0 = .ok (.iload_n 1, 1) ∧ decode cX13_weight 1 = .ok (.iconst 2, 1) ∧ decode cX13_weight 2 = .ok (.if_icmp .ne 25, 3) ∧ decode cX13_weight 5 = .ok (.iload_n 3, 1) ∧ decode cX13_weight 6 = .ok (.iconst 3, 1) ∧ decode cX13_weight 7 = .ok (.if_icmp .eq 14, 3) ∧ decode cX13_weight 10 = .ok (.iload_n 3, 1) ∧ decode cX13_weight 11 = .ok (.iconst 4, 1) ∧ decode cX13_weight 12 = .ok (.if_icmp .eq 9, 3) ∧ decode cX13_weight 15 = .ok (.iload_n 3, 1) ∧ decode cX13_weight 16 = .ok (.bipush 7, 2) ∧ decode cX13_weight 18 = .ok (.if_icmp .le 7, 3) ∧ decode cX13_weight 21 = .ok (.iconst 0, 1) ∧ decode cX13_weight 22 = .ok (.goto 4, 3) ∧ decode cX13_weight 25 = .ok (.iconst (-1), 1) ∧ decode cX13_weight 26 = .ok (.ireturn, 1) := by decide +kernel
theorem dX13_weight_0 : decode cX13_weight 0 = .ok (.iload_n 1, 1) := dX13_weight_0g.1
theorem dX13_weight_1 : decode cX13_weight 1 = .ok (.iconst 2, 1) := dX13_weight_0g.2.1
theorem dX13_weight_2 : decode cX13_weight 2 = .ok (.if_icmp .ne 25, 3) := dX13_weight_0g.2.2.1
theorem dX13_weight_5 : decode cX13_weight 5 = .ok (.iload_n 3, 1) := dX13_weight_0g.2.2.2.1
theorem dX13_weight_6 : decode cX13_weight 6 = .ok (.iconst 3, 1) := dX13_weight_0g.2.2.2.2.1
theorem dX13_weight_7 : decode cX13_weight 7 = .ok (.if_icmp .eq 14, 3) := dX13_weight_0g.2.2.2.2.2.1
theorem dX13_weight_10 : decode cX13_weight 10 = .ok (.iload_n 3, 1) := dX13_weight_0g.2.2.2.2.2.2.1
theorem dX13_weight_11 : decode cX13_weight 11 = .ok (.iconst 4, 1) := dX13_weight_0g.2.2.2.2.2.2.2.1
theorem dX13_weight_12 : decode cX13_weight 12 = .ok (.if_icmp .eq 9, 3) := dX13_weight_0g.2.2.2.2.2.2.2.2.1
theorem dX13_weight_15 : decode cX13_weight 15 = .ok (.iload_n 3, 1) := dX13_weight_0g.2.2.2.2.2.2.2.2.2.1
theorem dX13_weight_16 : decode cX13_weight 16 = .ok (.bipush 7, 2) := dX13_weight_0g.2.2.2.2.2.2.2.2.2.2.1
theorem dX13_weight_18 : decode cX13_weight 18 = .ok (.if_icmp .le 7, 3) := dX13_weight_0g.2.2.2.2.2.2.2.2.2.2.2.1
theorem dX13_weight_21 : decode cX13_weight 21 = .ok (.iconst 0, 1) := dX13_weight_0g.2.2.2.2.2.2.2.2.2.2.2.2.1
theorem dX13_weight_22 : decode cX13_weight 22 = .ok (.goto 4, 3) := dX13_weight_0g.2.2.2.2.2.2.2.2.2.2.2.2.2.1
theorem dX13_weight_25 : decode cX13_weight 25 = .ok (.iconst (-1), 1) := dX13_weight_0g.2.2.2.2.2.2.2.2.2.2.2.2.2.2.1
theorem dX13_weight_26 : decode cX13_weight 26 = .ok (.ireturn, 1) := dX13_weight_0g.2.2.2.2.2.2.2.2.2.2.2.2.2.2.2
theorem dX13_weight_27g : decode cX13_weight 27 = .ok (.iload_n 1, 1) ∧ decode cX13_weight 28 = .ok (.iconst 3, 1) ∧ decode cX13_weight 29 = .ok (.if_icmp .ne 14, 3) ∧ decode cX13_weight 32 = .ok (.iload_n 3, 1) ∧ decode cX13_weight 33 = .ok (.iconst 4, 1) ∧ decode cX13_weight 34 = .ok (.if_icmp .ne 7, 3) ∧ decode cX13_weight 37 = .ok (.iconst 0, 1) ∧ decode cX13_weight 38 = .ok (.goto 4, 3) ∧ decode cX13_weight 41 = .ok (.iconst (-1), 1) ∧ decode cX13_weight 42 = .ok (.ireturn, 1) ∧ decode cX13_weight 43 = .ok (.iload_n 1, 1) ∧ decode cX13_weight 44 = .ok (.iconst 1, 1) ∧ decode cX13_weight 45 = .ok (.if_icmp .ne 51, 3) ∧ decode cX13_weight 48 = .ok (.iconst 0, 1) ∧ decode cX13_weight 49 = .ok (.istore 4, 2) ∧ decode cX13_weight 51 = .ok (.aload_n 0, 1) := by decide +kernel
theorem dX13_weight_27 : decode cX13_weight 27 = .ok (.iload_n 1, 1) := dX13_weight_27g.1
theorem dX13_weight_28 : decode cX13_weight 28 = .ok (.iconst 3, 1) := dX13_weight_27g.2.1
theorem dX13_weight_29 : decode cX13_weight 29 = .ok (.if_icmp .ne 14, 3) := dX13_weight_27g.2.2.1
theorem dX13_weight_32 : decode cX13_weight 32 = .ok (.iload_n 3, 1) := dX13_weight_27g.2.2.2.1
theorem dX13_weight_33 : decode cX13_weight 33 = .ok (.iconst 4, 1) := dX13_weight_27g.2.2.2.2.1
theorem dX13_weight_34 : decode cX13_weight 34 = .ok (.if_icmp .ne 7, 3) := dX13_weight_27g.2.2.2.2.2.1
theorem dX13_weight_37 : decode cX13_weight 37 = .ok (.iconst 0, 1) := dX13_weight_27g.2.2.2.2.2.2.1
theorem dX13_weight_38 : decode cX13_weight 38 = .ok (.goto 4, 3) := dX13_weight_27g.2.2.2.2.2.2.2.1
theorem dX13_weight_41 : decode cX13_weight 41 = .ok (.iconst (-1), 1) := dX13_weight_27g.2.2.2.2.2.2.2.2.1
theorem dX13_weight_42 : decode cX13_weight 42 = .ok (.ireturn, 1) := dX13_weight_27g.2.2.2.2.2.2.2.2.2.1
theorem dX13_weight_43 : decode cX13_weight 43 = .ok (.iload_n 1, 1) := dX13_weight_27g.2.2.2.2.2.2.2.2.2.2.1
theorem dX13_weight_44 : decode cX13_weight 44 = .ok (.iconst 1, 1) := dX13_weight_27g.2.2.2.2.2.2.2.2.2.2.2.1
theorem dX13_weight_45 : decode cX13_weight 45 = .ok (.if_icmp .ne 51, 3) := dX13_weight_27g.2.2.2.2.2.2.2.2.2.2.2.2.1
theorem dX13_weight_48 : decode cX13_weight 48 = .ok (.iconst 0, 1) := dX13_weight_27g.2.2.2.2.2.2.2.2.2.2.2.2.2.1
theorem dX13_weight_49 : decode cX13_weight 49 = .ok (.istore 4, 2) := dX13_weight_27g.2.2.2.2.2.2.2.2.2.2.2.2.2.2.1
theorem dX13_weight_51 : decode cX13_weight 51 = .ok (.aload_n 0, 1) := dX13_weight_27g.2.2.2.2.2.2.2.2.2.2.2.2.2.2.2
theorem dX13_weight_52g : decode cX13_weight 52 = .ok (.getfield 189, 3) ∧ decode cX13_weight 55 = .ok (.iload_n 2, 1) ∧ decode cX13_weight 56 = .ok (.iaload, 1) ∧ decode cX13_weight 57 = .ok (.istore 5, 2) ∧ decode cX13_weight 59 = .ok (.iload 5, 2) ∧ decode cX13_weight 61 = .ok (.iconst (-1), 1) ∧ decode cX13_weight 62 = .ok (.if_icmp .eq 32, 3) ∧ decode cX13_weight 65 = .ok (.iload_n 3, 1) ∧ decode cX13_weight 66 = .ok (.bipush 8, 2) ∧ decode cX13_weight 68 = .ok (.iload 5, 2) ∧ decode cX13_weight 70 = .ok (.iadd, 1) ∧ decode cX13_weight 71 = .ok (.if_icmp .ne 8, 3) ∧ decode cX13_weight 74 = .ok (.iconst 2, 1) ∧ decode cX13_weight 75 = .ok (.iload 4, 2) ∧ decode cX13_weight 77 = .ok (.imul, 1) ∧ decode cX13_weight 78 = .ok (.ireturn, 1) := by decide +kernel
theorem dX13_weight_52 : decode cX13_weight 52 = .ok (.getfield 189, 3) := dX13_weight_52g.1
theorem dX13_weight_55 : decode cX13_weight 55 = .ok (.iload_n 2, 1) := dX13_weight_52g.2.1
theorem dX13_weight_56 : decode cX13_weight 56 = .ok (.iaload, 1) := dX13_weight_52g.2.2.1
theorem dX13_weight_57 : decode cX13_weight 57 = .ok (.istore 5, 2) := dX13_weight_52g.2.2.2.1
theorem dX13_weight_59 : decode cX13_weight 59 = .ok (.iload 5, 2) := dX13_weight_52g.2.2.2.2.1
theorem dX13_weight_61 : decode cX13_weight 61 = .ok (.iconst (-1), 1) := dX13_weight_52g.2.2.2.2.2.1
theorem dX13_weight_62 : decode cX13_weight 62 = .ok (.if_icmp .eq 32, 3) := dX13_weight_52g.2.2.2.2.2.2.1
theorem dX13_weight_65 : decode cX13_weight 65 = .ok (.iload_n 3, 1) := dX13_weight_52g.2.2.2.2.2.2.2.1
theorem dX13_weight_66 : decode cX13_weight 66 = .ok (.bipush 8, 2) := dX13_weight_52g.2.2.2.2.2.2.2.2.1
theorem dX13_weight_68 : decode cX13_weight 68 = .ok (.iload 5, 2) := dX13_weight_52g.2.2.2.2.2.2.2.2.2.1
theorem dX13_weight_70 : decode cX13_weight 70 = .ok (.iadd, 1) := dX13_weight_52g.2.2.2.2.2.2.2.2.2.2.1
theorem dX13_weight_71 : decode cX13_weight 71 = .ok (.if_icmp .ne 8, 3) := dX13_weight_52g.2.2.2.2.2.2.2.2.2.2.2.1
theorem dX13_weight_74 : decode cX13_weight 74 = .ok (.iconst 2, 1) := dX13_weight_52g.2.2.2.2.2.2.2.2.2.2.2.2.1
theorem dX13_weight_75 : decode cX13_weight 75 = .ok (.iload 4, 2) := dX13_weight_52g.2.2.2.2.2.2.2.2.2.2.2.2.2.1
theorem dX13_weight_77 : decode cX13_weight 77 = .ok (.imul, 1) := dX13_weight_52g.2.2.2.2.2.2.2.2.2.2.2.2.2.2.1
theorem dX13_weight_78 : decode cX13_weight 78 = .ok (.ireturn, 1) := dX13_weight_52g.2.2.2.2.2.2.2.2.2.2.2.2.2.2.2
theorem dX13_weight_79g : decode cX13_weight 79 = .ok (.iinc 4 1, 3) ∧ decode cX13_weight 82 = .ok (.aload_n 0, 1) ∧ decode cX13_weight 83 = .ok (.getfield 78, 3) ∧ decode cX13_weight 86 = .ok (.iload 5, 2) ∧ decode cX13_weight 88 = .ok (.iaload, 1) ∧ decode cX13_weight 89 = .ok (.istore 5, 2) ∧ decode cX13_weight 91 = .ok (.goto (-32), 3) ∧ decode cX13_weight 94 = .ok (.iconst (-1), 1) ∧ decode cX13_weight 95 = .ok (.ireturn, 1) ∧ decode cX13_weight 96 = .ok (.iload_n 3, 1) ∧ decode cX13_weight 97 = .ok (.tableswitch 92 0 3 #[31, 49, 75, 90], 31) ∧ decode cX13_weight 128 = .ok (.aload_n 0, 1) ∧ decode cX13_weight 129 = .ok (.iload_n 2, 1) ∧ decode cX13_weight 130 = .ok (.invokevirtual 544, 3) ∧ decode cX13_weight 133 = .ok (.ldc2_w 542, 3) ∧ decode cX13_weight 136 = .ok (.lcmp, 1) := by decide +kernel
theorem dX13_weight_79 : decode cX13_weight 79 = .ok (.iinc 4 1, 3) := dX13_weight_79g.1
theorem dX13_weight_82 : decode cX13_weight 82 = .ok (.aload_n 0, 1) := dX13_weight_79g.2.1
theorem dX13_weight_83 : decode cX13_weight 83 = .ok (.getfield 78, 3) := dX13_weight_79g.2.2.1
theorem dX13_weight_86 : decode cX13_weight 86 = .ok (.iload 5, 2) := dX13_weight_79g.2.2.2.1
theorem dX13_weight_88 : decode cX13_weight 88 = .ok (.iaload, 1) := dX13_weight_79g.2.2.2.2.1
theorem dX13_weight_89 : decode cX13_weight 89 = .ok (.istore 5, 2) := dX13_weight_79g.2.2.2.2.2.1
theorem dX13_weight_91 : decode cX13_weight 91 = .ok (.goto (-32), 3) := dX13_weight_79g.2.2.2.2.2.2.1
theorem dX13_weight_94 : decode cX13_weight 94 = .ok (.iconst (-1), 1) := dX13_weight_79g.2.2.2.2.2.2.2.1
theorem dX13_weight_95 : decode cX13_weight 95 = .ok (.ireturn, 1) := dX13_weight_79g.2.2.2.2.2.2.2.2.1
theorem dX13_weight_96 : decode cX13_weight 96 = .ok (.iload_n 3, 1) := dX13_weight_79g.2.2.2.2.2.2.2.2.2.1
theorem dX13_weight_97 : decode cX13_weight 97 = .ok (.tableswitch 92 0 3 #[31, 49, 75, 90], 31) := dX13_weight_79g.2.2.2.2.2.2.2.2.2.2.1
theorem dX13_weight_128 : decode cX13_weight 128 = .ok (.aload_n 0, 1) := dX13_weight_79g.2.2.2.2.2.2.2.2.2.2.2.1
theorem dX13_weight_129 : decode cX13_weight 129 = .ok (.iload_n 2, 1) := dX13_weight_79g.2.2.2.2.2.2.2.2.2.2.2.2.1
theorem dX13_weight_130 : decode cX13_weight 130 = .ok (.invokevirtual 544, 3) := dX13_weight_79g.2.2.2.2.2.2.2.2.2.2.2.2.2.1
theorem dX13_weight_133 : decode cX13_weight 133 = .ok (.ldc2_w 542, 3) := dX13_weight_79g.2.2.2.2.2.2.2.2.2.2.2.2.2.2.1
theorem dX13_weight_136 : decode cX13_weight 136 = .ok (.lcmp, 1) := dX13_weight_79g.2.2.2.2.2.2.2.2.2.2.2.2.2.2.2
theorem dX13_weight_137g : decode cX13_weight 137 = .ok (.ifCond .ne 7, 3) ∧ decode cX13_weight 140 = .ok (.iconst (-1), 1) ∧ decode cX13_weight 141 = .ok (.goto 4, 3) ∧ decode cX13_weight 144 = .ok (.iconst 1, 1) ∧ decode cX13_weight 145 = .ok (.ireturn, 1) ∧ decode cX13_weight 146 = .ok (.aload_n 0, 1) ∧ decode cX13_weight 147 = .ok (.iload_n 2, 1) ∧ decode cX13_weight 148 = .ok (.bipush 9, 2) ∧ decode cX13_weight 150 = .ok (.invokevirtual 548, 3) ∧ decode cX13_weight 153 = .ok (.ifCond .ne 13, 3) ∧ decode cX13_weight 156 = .ok (.aload_n 0, 1) ∧ decode cX13_weight 157 = .ok (.iload_n 2, 1) ∧ decode cX13_weight 158 = .ok (.bipush 10, 2) ∧ decode cX13_weight 160 = .ok (.invokevirtual 548, 3) ∧ decode cX13_weight 163 = .ok (.ifCond .eq 7, 3) ∧ decode cX13_weight 166 = .ok (.iconst 1, 1) := by decide +kernel
theorem dX13_weight_137 : decode cX13_weight 137 = .ok (.ifCond .ne 7, 3) := dX13_weight_137g.1
theorem dX13_weight_140 : decode cX13_weight 140 = .ok (.iconst (-1), 1) := dX13_weight_137g.2.1
theorem dX13_weight_141 : decode cX13_weight 141 = .ok (.goto 4, 3) := dX13_weight_137g.2.2.1
theorem dX13_weight_144 : decode cX13_weight 144 = .ok (.iconst 1, 1) := dX13_weight_137g.2.2.2.1
theorem dX13_weight_145 : decode cX13_weight 145 = .ok (.ireturn, 1) := dX13_weight_137g.2.2.2.2.1
theorem dX13_weight_146 : decode cX13_weight 146 = .ok (.aload_n 0, 1) := dX13_weight_137g.2.2.2.2.2.1
theorem dX13_weight_147 : decode cX13_weight 147 = .ok (.iload_n 2, 1) := dX13_weight_137g.2.2.2.2.2.2.1
theorem dX13_weight_148 : decode cX13_weight 148 = .ok (.bipush 9, 2) := dX13_weight_137g.2.2.2.2.2.2.2.1
theorem dX13_weight_150 : decode cX13_weight 150 = .ok (.invokevirtual 548, 3) := dX13_weight_137g.2.2.2.2.2.2.2.2.1
theorem dX13_weight_153 : decode cX13_weight 153 = .ok (.ifCond .ne 13, 3) := dX13_weight_137g.2.2.2.2.2.2.2.2.2.1
theorem dX13_weight_156 : decode cX13_weight 156 = .ok (.aload_n 0, 1) := dX13_weight_137g.2.2.2.2.2.2.2.2.2.2.1
theorem dX13_weight_157 : decode cX13_weight 157 = .ok (.iload_n 2, 1) := dX13_weight_137g.2.2.2.2.2.2.2.2.2.2.2.1
theorem dX13_weight_158 : decode cX13_weight 158 = .ok (.bipush 10, 2) := dX13_weight_137g.2.2.2.2.2.2.2.2.2.2.2.2.1
theorem dX13_weight_160 : decode cX13_weight 160 = .ok (.invokevirtual 548, 3) := dX13_weight_137g.2.2.2.2.2.2.2.2.2.2.2.2.2.1
theorem dX13_weight_163 : decode cX13_weight 163 = .ok (.ifCond .eq 7, 3) := dX13_weight_137g.2.2.2.2.2.2.2.2.2.2.2.2.2.2.1
theorem dX13_weight_166 : decode cX13_weight 166 = .ok (.iconst 1, 1) := dX13_weight_137g.2.2.2.2.2.2.2.2.2.2.2.2.2.2.2
theorem dX13_weight_167g : decode cX13_weight 167 = .ok (.goto 4, 3) ∧ decode cX13_weight 170 = .ok (.iconst (-1), 1) ∧ decode cX13_weight 171 = .ok (.ireturn, 1) ∧ decode cX13_weight 172 = .ok (.aload_n 0, 1) ∧ decode cX13_weight 173 = .ok (.iload_n 2, 1) ∧ decode cX13_weight 174 = .ok (.invokevirtual 530, 3) ∧ decode cX13_weight 177 = .ok (.iconst 1, 1) ∧ decode cX13_weight 178 = .ok (.if_icmp .ne 7, 3) ∧ decode cX13_weight 181 = .ok (.iconst 2, 1) ∧ decode cX13_weight 182 = .ok (.goto 4, 3) ∧ decode cX13_weight 185 = .ok (.iconst (-1), 1) ∧ decode cX13_weight 186 = .ok (.ireturn, 1) ∧ decode cX13_weight 187 = .ok (.iconst 3, 1) ∧ decode cX13_weight 188 = .ok (.ireturn, 1) ∧ decode cX13_weight 189 = .ok (.iconst (-1), 1) ∧ decode cX13_weight 190 = .ok (.ireturn, 1) := by decide +kernel
theorem dX13_weight_167 : decode cX13_weight 167 = .ok (.goto 4, 3) := dX13_weight_167g.1
theorem dX13_weight_170 : decode cX13_weight 170 = .ok (.iconst (-1), 1) := dX13_weight_167g.2.1
theorem dX13_weight_171 : decode cX13_weight 171 = .ok (.ireturn, 1) := dX13_weight_167g.2.2.1
theorem dX13_weight_172 : decode cX13_weight 172 = .ok (.aload_n 0, 1) := dX13_weight_167g.2.2.2.1
theorem dX13_weight_173 : decode cX13_weight 173 = .ok (.iload_n 2, 1) := dX13_weight_167g.2.2.2.2.1
theorem dX13_weight_174 : decode cX13_weight 174 = .ok (.invokevirtual 530, 3) := dX13_weight_167g.2.2.2.2.2.1
theorem dX13_weight_177 : decode cX13_weight 177 = .ok (.iconst 1, 1) := dX13_weight_167g.2.2.2.2.2.2.1
theorem dX13_weight_178 : decode cX13_weight 178 = .ok (.if_icmp .ne 7, 3) := dX13_weight_167g.2.2.2.2.2.2.2.1
theorem dX13_weight_181 : decode cX13_weight 181 = .ok (.iconst 2, 1) := dX13_weight_167g.2.2.2.2.2.2.2.2.1
theorem dX13_weight_182 : decode cX13_weight 182 = .ok (.goto 4, 3) := dX13_weight_167g.2.2.2.2.2.2.2.2.2.1
theorem dX13_weight_185 : decode cX13_weight 185 = .ok (.iconst (-1), 1) := dX13_weight_167g.2.2.2.2.2.2.2.2.2.2.1
theorem dX13_weight_186 : decode cX13_weight 186 = .ok (.ireturn, 1) := dX13_weight_167g.2.2.2.2.2.2.2.2.2.2.2.1
theorem dX13_weight_187 : decode cX13_weight 187 = .ok (.iconst 3, 1) := dX13_weight_167g.2.2.2.2.2.2.2.2.2.2.2.2.1
theorem dX13_weight_188 : decode cX13_weight 188 = .ok (.ireturn, 1) := dX13_weight_167g.2.2.2.2.2.2.2.2.2.2.2.2.2.1
theorem dX13_weight_189 : decode cX13_weight 189 = .ok (.iconst (-1), 1) := dX13_weight_167g.2.2.2.2.2.2.2.2.2.2.2.2.2.2.1
theorem dX13_weight_190 : decode cX13_weight 190 = .ok (.ireturn, 1) := dX13_weight_167g.2.2.2.2.2.2.2.2.2.2.2.2.2.2.2
theorem dX13_told_0g : decode cX13_told 0 = .ok (.iload_n 1, 1) ∧ decode cX13_told 1 = .ok (.iconst 2, 1) ∧ decode cX13_told 2 = .ok (.if_icmp .ne 5, 3) ∧ decode cX13_told 5 = .ok (.iconst (-1), 1) ∧ decode cX13_told 6 = .ok (.ireturn, 1) ∧ decode cX13_told 7 = .ok (.iload_n 1, 1) ∧ decode cX13_told 8 = .ok (.iconst 3, 1) ∧ decode cX13_told 9 = .ok (.if_icmp .ne 9, 3) ∧ decode cX13_told 12 = .ok (.sipush 2000, 3) ∧ decode cX13_told 15 = .ok (.iload_n 2, 1) ∧ decode cX13_told 16 = .ok (.iadd, 1) ∧ decode cX13_told 17 = .ok (.ireturn, 1) ∧ decode cX13_told 18 = .ok (.iload_n 1, 1) ∧ decode cX13_told 19 = .ok (.iconst 1, 1) ∧ decode cX13_told 20 = .ok (.if_icmp .ne 9, 3) ∧ decode cX13_told 23 = .ok (.sipush 3000, 3) := by decide +kernel
theorem dX13_told_0 : decode cX13_told 0 = .ok (.iload_n 1, 1) := dX13_told_0g.1
theorem dX13_told_1 : decode cX13_told 1 = .ok (.iconst 2, 1) := dX13_told_0g.2.1
theorem dX13_told_2 : decode cX13_told 2 = .ok (.if_icmp .ne 5, 3) := dX13_told_0g.2.2.1
theorem dX13_told_5 : decode cX13_told 5 = .ok (.iconst (-1), 1) := dX13_told_0g.2.2.2.1
theorem dX13_told_6 : decode cX13_told 6 = .ok (.ireturn, 1) := dX13_told_0g.2.2.2.2.1
theorem dX13_told_7 : decode cX13_told 7 = .ok (.iload_n 1, 1) := dX13_told_0g.2.2.2.2.2.1
theorem dX13_told_8 : decode cX13_told 8 = .ok (.iconst 3, 1) := dX13_told_0g.2.2.2.2.2.2.1
theorem dX13_told_9 : decode cX13_told 9 = .ok (.if_icmp .ne 9, 3) := dX13_told_0g.2.2.2.2.2.2.2.1
theorem dX13_told_12 : decode cX13_told 12 = .ok (.sipush 2000, 3) := dX13_told_0g.2.2.2.2.2.2.2.2.1
theorem dX13_told_15 : decode cX13_told 15 = .ok (.iload_n 2, 1) := dX13_told_0g.2.2.2.2.2.2.2.2.2.1
theorem dX13_told_16 : decode cX13_told 16 = .ok (.iadd, 1) := dX13_told_0g.2.2.2.2.2.2.2.2.2.2.1
theorem dX13_told_17 : decode cX13_told 17 = .ok (.ireturn, 1) := dX13_told_0g.2.2.2.2.2.2.2.2.2.2.2.1
theorem dX13_told_18 : decode cX13_told 18 = .ok (.iload_n 1, 1) := dX13_told_0g.2.2.2.2.2.2.2.2.2.2.2.2.1
theorem dX13_told_19 : decode cX13_told 19 = .ok (.iconst 1, 1) := dX13_told_0g.2.2.2.2.2.2.2.2.2.2.2.2.2.1
theorem dX13_told_20 : decode cX13_told 20 = .ok (.if_icmp .ne 9, 3) := dX13_told_0g.2.2.2.2.2.2.2.2.2.2.2.2.2.2.1
theorem dX13_told_23 : decode cX13_told 23 = .ok (.sipush 3000, 3) := dX13_told_0g.2.2.2.2.2.2.2.2.2.2.2.2.2.2.2
theorem dX13_told_26g : decode cX13_told 26 = .ok (.iload_n 2, 1) ∧ decode cX13_told 27 = .ok (.iadd, 1) ∧ decode cX13_told 28 = .ok (.ireturn, 1) ∧ decode cX13_told 29 = .ok (.iload_n 3, 1) ∧ decode cX13_told 30 = .ok (.tableswitch 56 0 2 #[26, 33, 49], 26) ∧ decode cX13_told 56 = .ok (.aload_n 0, 1) ∧ decode cX13_told 57 = .ok (.iload_n 2, 1) ∧ decode cX13_told 58 = .ok (.invokevirtual 544, 3) ∧ decode cX13_told 61 = .ok (.l2i, 1) ∧ decode cX13_told 62 = .ok (.ireturn, 1) ∧ decode cX13_told 63 = .ok (.aload_n 0, 1) ∧ decode cX13_told 64 = .ok (.iload_n 2, 1) ∧ decode cX13_told 65 = .ok (.bipush 9, 2) ∧ decode cX13_told 67 = .ok (.invokevirtual 548, 3) ∧ decode cX13_told 70 = .ok (.ifCond .eq 7, 3) ∧ decode cX13_told 73 = .ok (.iconst 1, 1) := by decide +kernel
theorem dX13_told_26 : decode cX13_told 26 = .ok (.iload_n 2, 1) := dX13_told_26g.1
theorem dX13_told_27 : decode cX13_told 27 = .ok (.iadd, 1) := dX13_told_26g.2.1
theorem dX13_told_28 : decode cX13_told 28 = .ok (.ireturn, 1) := dX13_told_26g.2.2.1
theorem dX13_told_29 : decode cX13_told 29 = .ok (.iload_n 3, 1) := dX13_told_26g.2.2.2.1
theorem dX13_told_30 : decode cX13_told 30 = .ok (.tableswitch 56 0 2 #[26, 33, 49], 26) := dX13_told_26g.2.2.2.2.1
theorem dX13_told_56 : decode cX13_told 56 = .ok (.aload_n 0, 1) := dX13_told_26g.2.2.2.2.2.1
theorem dX13_told_57 : decode cX13_told 57 = .ok (.iload_n 2, 1) := dX13_told_26g.2.2.2.2.2.2.1
theorem dX13_told_58 : decode cX13_told 58 = .ok (.invokevirtual 544, 3) := dX13_told_26g.2.2.2.2.2.2.2.1
theorem dX13_told_61 : decode cX13_told 61 = .ok (.l2i, 1) := dX13_told_26g.2.2.2.2.2.2.2.2.1
theorem dX13_told_62 : decode cX13_told 62 = .ok (.ireturn, 1) := dX13_told_26g.2.2.2.2.2.2.2.2.2.1
theorem dX13_told_63 : decode cX13_told 63 = .ok (.aload_n 0, 1) := dX13_told_26g.2.2.2.2.2.2.2.2.2.2.1
theorem dX13_told_64 : decode cX13_told 64 = .ok (.iload_n 2, 1) := dX13_told_26g.2.2.2.2.2.2.2.2.2.2.2.1
theorem dX13_told_65 : decode cX13_told 65 = .ok (.bipush 9, 2) := dX13_told_26g.2.2.2.2.2.2.2.2.2.2.2.2.1
theorem dX13_told_67 : decode cX13_told 67 = .ok (.invokevirtual 548, 3) := dX13_told_26g.2.2.2.2.2.2.2.2.2.2.2.2.2.1
theorem dX13_told_70 : decode cX13_told 70 = .ok (.ifCond .eq 7, 3) := dX13_told_26g.2.2.2.2.2.2.2.2.2.2.2.2.2.2.1
theorem dX13_told_73 : decode cX13_told 73 = .ok (.iconst 1, 1) := dX13_told_26g.2.2.2.2.2.2.2.2.2.2.2.2.2.2.2
theorem dX13_told_74g : decode cX13_told 74 = .ok (.goto 4, 3) ∧ decode cX13_told 77 = .ok (.iconst 0, 1) ∧ decode cX13_told 78 = .ok (.ireturn, 1) ∧ decode cX13_told 79 = .ok (.aload_n 0, 1) ∧ decode cX13_told 80 = .ok (.iload_n 2, 1) ∧ decode cX13_told 81 = .ok (.iconst 0, 1) ∧ decode cX13_told 82 = .ok (.invokevirtual 533, 3) ∧ decode cX13_told 85 = .ok (.ireturn, 1) ∧ decode cX13_told 86 = .ok (.sipush 1000, 3) ∧ decode cX13_told 89 = .ok (.aload_n 0, 1) ∧ decode cX13_told 90 = .ok (.iload_n 2, 1) ∧ decode cX13_told 91 = .ok (.invokevirtual 530, 3) ∧ decode cX13_told 94 = .ok (.iadd, 1) ∧ decode cX13_told 95 = .ok (.ireturn, 1) := by decide +kernel
theorem dX13_told_74 : decode cX13_told 74 = .ok (.goto 4, 3) := dX13_told_74g.1
theorem dX13_told_77 : decode cX13_told 77 = .ok (.iconst 0, 1) := dX13_told_74g.2.1
theorem dX13_told_78 : decode cX13_told 78 = .ok (.ireturn, 1) := dX13_told_74g.2.2.1
theorem dX13_told_79 : decode cX13_told 79 = .ok (.aload_n 0, 1) := dX13_told_74g.2.2.2.1
theorem dX13_told_80 : decode cX13_told 80 = .ok (.iload_n 2, 1) := dX13_told_74g.2.2.2.2.1
theorem dX13_told_81 : decode cX13_told 81 = .ok (.iconst 0, 1) := dX13_told_74g.2.2.2.2.2.1
theorem dX13_told_82 : decode cX13_told 82 = .ok (.invokevirtual 533, 3) := dX13_told_74g.2.2.2.2.2.2.1
theorem dX13_told_85 : decode cX13_told 85 = .ok (.ireturn, 1) := dX13_told_74g.2.2.2.2.2.2.2.1
theorem dX13_told_86 : decode cX13_told 86 = .ok (.sipush 1000, 3) := dX13_told_74g.2.2.2.2.2.2.2.2.1
theorem dX13_told_89 : decode cX13_told 89 = .ok (.aload_n 0, 1) := dX13_told_74g.2.2.2.2.2.2.2.2.2.1
theorem dX13_told_90 : decode cX13_told 90 = .ok (.iload_n 2, 1) := dX13_told_74g.2.2.2.2.2.2.2.2.2.2.1
theorem dX13_told_91 : decode cX13_told 91 = .ok (.invokevirtual 530, 3) := dX13_told_74g.2.2.2.2.2.2.2.2.2.2.2.1
theorem dX13_told_94 : decode cX13_told 94 = .ok (.iadd, 1) := dX13_told_74g.2.2.2.2.2.2.2.2.2.2.2.2.1
theorem dX13_told_95 : decode cX13_told 95 = .ok (.ireturn, 1) := dX13_told_74g.2.2.2.2.2.2.2.2.2.2.2.2.2
theorem dX13_tell_0g : decode cX13_tell 0 = .ok (.aload_n 0, 1) ∧ decode cX13_tell 1 = .ok (.iload_n 1, 1) ∧ decode cX13_tell 2 = .ok (.iload_n 2, 1) ∧ decode cX13_tell 3 = .ok (.iload_n 3, 1) ∧ decode cX13_tell 4 = .ok (.aload_n 0, 1) ∧ decode cX13_tell 5 = .ok (.aload_n 0, 1) ∧ decode cX13_tell 6 = .ok (.getfield 237, 3) ∧ decode cX13_tell 9 = .ok (.iload 4, 2) ∧ decode cX13_tell 11 = .ok (.iaload, 1) ∧ decode cX13_tell 12 = .ok (.aload_n 0, 1) ∧ decode cX13_tell 13 = .ok (.getfield 240, 3) ∧ decode cX13_tell 16 = .ok (.iload 4, 2) ∧ decode cX13_tell 18 = .ok (.iaload, 1) ∧ decode cX13_tell 19 = .ok (.iload 5, 2) ∧ decode cX13_tell 21 = .ok (.invokevirtual 551, 3) ∧ decode cX13_tell 24 = .ok (.invokevirtual 554, 3) := by decide +kernel
theorem dX13_tell_0 : decode cX13_tell 0 = .ok (.aload_n 0, 1) := dX13_tell_0g.1
theorem dX13_tell_1 : decode cX13_tell 1 = .ok (.iload_n 1, 1) := dX13_tell_0g.2.1
theorem dX13_tell_2 : decode cX13_tell 2 = .ok (.iload_n 2, 1) := dX13_tell_0g.2.2.1
theorem dX13_tell_3 : decode cX13_tell 3 = .ok (.iload_n 3, 1) := dX13_tell_0g.2.2.2.1
theorem dX13_tell_4 : decode cX13_tell 4 = .ok (.aload_n 0, 1) := dX13_tell_0g.2.2.2.2.1
theorem dX13_tell_5 : decode cX13_tell 5 = .ok (.aload_n 0, 1) := dX13_tell_0g.2.2.2.2.2.1
theorem dX13_tell_6 : decode cX13_tell 6 = .ok (.getfield 237, 3) := dX13_tell_0g.2.2.2.2.2.2.1
theorem dX13_tell_9 : decode cX13_tell 9 = .ok (.iload 4, 2) := dX13_tell_0g.2.2.2.2.2.2.2.1
theorem dX13_tell_11 : decode cX13_tell 11 = .ok (.iaload, 1) := dX13_tell_0g.2.2.2.2.2.2.2.2.1
theorem dX13_tell_12 : decode cX13_tell 12 = .ok (.aload_n 0, 1) := dX13_tell_0g.2.2.2.2.2.2.2.2.2.1
theorem dX13_tell_13 : decode cX13_tell 13 = .ok (.getfield 240, 3) := dX13_tell_0g.2.2.2.2.2.2.2.2.2.2.1
theorem dX13_tell_16 : decode cX13_tell 16 = .ok (.iload 4, 2) := dX13_tell_0g.2.2.2.2.2.2.2.2.2.2.2.1
theorem dX13_tell_18 : decode cX13_tell 18 = .ok (.iaload, 1) := dX13_tell_0g.2.2.2.2.2.2.2.2.2.2.2.2.1
theorem dX13_tell_19 : decode cX13_tell 19 = .ok (.iload 5, 2) := dX13_tell_0g.2.2.2.2.2.2.2.2.2.2.2.2.2.1
theorem dX13_tell_21 : decode cX13_tell 21 = .ok (.invokevirtual 551, 3) := dX13_tell_0g.2.2.2.2.2.2.2.2.2.2.2.2.2.2.1
theorem dX13_tell_24 : decode cX13_tell 24 = .ok (.invokevirtual 554, 3) := dX13_tell_0g.2.2.2.2.2.2.2.2.2.2.2.2.2.2.2
theorem dX13_tell_27g : decode cX13_tell 27 = .ok (.iconst 0, 1) ∧ decode cX13_tell 28 = .ok (.istore 6, 2) ∧ decode cX13_tell 30 = .ok (.aload_n 0, 1) ∧ decode cX13_tell 31 = .ok (.getfield 237, 3) ∧ decode cX13_tell 34 = .ok (.iload 4, 2) ∧ decode cX13_tell 36 = .ok (.iaload, 1) ∧ decode cX13_tell 37 = .ok (.iconst 3, 1) ∧ decode cX13_tell 38 = .ok (.if_icmp .ne 61, 3) ∧ decode cX13_tell 41 = .ok (.iload 6, 2) ∧ decode cX13_tell 43 = .ok (.aload_n 0, 1) ∧ decode cX13_tell 44 = .ok (.getfield 240, 3) ∧ decode cX13_tell 47 = .ok (.iload 4, 2) ∧ decode cX13_tell 49 = .ok (.iaload, 1) ∧ decode cX13_tell 50 = .ok (.if_icmp .ge 49, 3) ∧ decode cX13_tell 53 = .ok (.aload_n 0, 1) ∧ decode cX13_tell 54 = .ok (.bipush 6, 2) := by decide +kernel
theorem dX13_tell_27 : decode cX13_tell 27 = .ok (.iconst 0, 1) := dX13_tell_27g.1
theorem dX13_tell_28 : decode cX13_tell 28 = .ok (.istore 6, 2) := dX13_tell_27g.2.1
theorem dX13_tell_30 : decode cX13_tell 30 = .ok (.aload_n 0, 1) := dX13_tell_27g.2.2.1
theorem dX13_tell_31 : decode cX13_tell 31 = .ok (.getfield 237, 3) := dX13_tell_27g.2.2.2.1
theorem dX13_tell_34 : decode cX13_tell 34 = .ok (.iload 4, 2) := dX13_tell_27g.2.2.2.2.1
theorem dX13_tell_36 : decode cX13_tell 36 = .ok (.iaload, 1) := dX13_tell_27g.2.2.2.2.2.1
theorem dX13_tell_37 : decode cX13_tell 37 = .ok (.iconst 3, 1) := dX13_tell_27g.2.2.2.2.2.2.1
theorem dX13_tell_38 : decode cX13_tell 38 = .ok (.if_icmp .ne 61, 3) := dX13_tell_27g.2.2.2.2.2.2.2.1
theorem dX13_tell_41 : decode cX13_tell 41 = .ok (.iload 6, 2) := dX13_tell_27g.2.2.2.2.2.2.2.2.1
theorem dX13_tell_43 : decode cX13_tell 43 = .ok (.aload_n 0, 1) := dX13_tell_27g.2.2.2.2.2.2.2.2.2.1
theorem dX13_tell_44 : decode cX13_tell 44 = .ok (.getfield 240, 3) := dX13_tell_27g.2.2.2.2.2.2.2.2.2.2.1
theorem dX13_tell_47 : decode cX13_tell 47 = .ok (.iload 4, 2) := dX13_tell_27g.2.2.2.2.2.2.2.2.2.2.2.1
theorem dX13_tell_49 : decode cX13_tell 49 = .ok (.iaload, 1) := dX13_tell_27g.2.2.2.2.2.2.2.2.2.2.2.2.1
theorem dX13_tell_50 : decode cX13_tell 50 = .ok (.if_icmp .ge 49, 3) := dX13_tell_27g.2.2.2.2.2.2.2.2.2.2.2.2.2.1
theorem dX13_tell_53 : decode cX13_tell 53 = .ok (.aload_n 0, 1) := dX13_tell_27g.2.2.2.2.2.2.2.2.2.2.2.2.2.2.1
theorem dX13_tell_54 : decode cX13_tell 54 = .ok (.bipush 6, 2) := dX13_tell_27g.2.2.2.2.2.2.2.2.2.2.2.2.2.2.2
theorem dX13_tell_56g : decode cX13_tell 56 = .ok (.iconst (-1), 1) ∧ decode cX13_tell 57 = .ok (.iload 6, 2) ∧ decode cX13_tell 59 = .ok (.aload_n 0, 1) ∧ decode cX13_tell 60 = .ok (.aload_n 0, 1) ∧ decode cX13_tell 61 = .ok (.getfield 243, 3) ∧ decode cX13_tell 64 = .ok (.bipush 6, 2) ∧ decode cX13_tell 66 = .ok (.iload 4, 2) ∧ decode cX13_tell 68 = .ok (.imul, 1) ∧ decode cX13_tell 69 = .ok (.iload 6, 2) ∧ decode cX13_tell 71 = .ok (.iadd, 1) ∧ decode cX13_tell 72 = .ok (.iaload, 1) ∧ decode cX13_tell 73 = .ok (.aload_n 0, 1) ∧ decode cX13_tell 74 = .ok (.getfield 246, 3) ∧ decode cX13_tell 77 = .ok (.bipush 6, 2) ∧ decode cX13_tell 79 = .ok (.iload 4, 2) ∧ decode cX13_tell 81 = .ok (.imul, 1) := by decide +kernel
theorem dX13_tell_56 : decode cX13_tell 56 = .ok (.iconst (-1), 1) := dX13_tell_56g.1
theorem dX13_tell_57 : decode cX13_tell 57 = .ok (.iload 6, 2) := dX13_tell_56g.2.1
theorem dX13_tell_59 : decode cX13_tell 59 = .ok (.aload_n 0, 1) := dX13_tell_56g.2.2.1
theorem dX13_tell_60 : decode cX13_tell 60 = .ok (.aload_n 0, 1) := dX13_tell_56g.2.2.2.1
theorem dX13_tell_61 : decode cX13_tell 61 = .ok (.getfield 243, 3) := dX13_tell_56g.2.2.2.2.1
theorem dX13_tell_64 : decode cX13_tell 64 = .ok (.bipush 6, 2) := dX13_tell_56g.2.2.2.2.2.1
theorem dX13_tell_66 : decode cX13_tell 66 = .ok (.iload 4, 2) := dX13_tell_56g.2.2.2.2.2.2.1
theorem dX13_tell_68 : decode cX13_tell 68 = .ok (.imul, 1) := dX13_tell_56g.2.2.2.2.2.2.2.1
theorem dX13_tell_69 : decode cX13_tell 69 = .ok (.iload 6, 2) := dX13_tell_56g.2.2.2.2.2.2.2.2.1
theorem dX13_tell_71 : decode cX13_tell 71 = .ok (.iadd, 1) := dX13_tell_56g.2.2.2.2.2.2.2.2.2.1
theorem dX13_tell_72 : decode cX13_tell 72 = .ok (.iaload, 1) := dX13_tell_56g.2.2.2.2.2.2.2.2.2.2.1
theorem dX13_tell_73 : decode cX13_tell 73 = .ok (.aload_n 0, 1) := dX13_tell_56g.2.2.2.2.2.2.2.2.2.2.2.1
theorem dX13_tell_74 : decode cX13_tell 74 = .ok (.getfield 246, 3) := dX13_tell_56g.2.2.2.2.2.2.2.2.2.2.2.2.1
theorem dX13_tell_77 : decode cX13_tell 77 = .ok (.bipush 6, 2) := dX13_tell_56g.2.2.2.2.2.2.2.2.2.2.2.2.2.1
theorem dX13_tell_79 : decode cX13_tell 79 = .ok (.iload 4, 2) := dX13_tell_56g.2.2.2.2.2.2.2.2.2.2.2.2.2.2.1
theorem dX13_tell_81 : decode cX13_tell 81 = .ok (.imul, 1) := dX13_tell_56g.2.2.2.2.2.2.2.2.2.2.2.2.2.2.2
theorem dX13_tell_82g : decode cX13_tell 82 = .ok (.iload 6, 2) ∧ decode cX13_tell 84 = .ok (.iadd, 1) ∧ decode cX13_tell 85 = .ok (.iaload, 1) ∧ decode cX13_tell 86 = .ok (.iconst 3, 1) ∧ decode cX13_tell 87 = .ok (.invokevirtual 551, 3) ∧ decode cX13_tell 90 = .ok (.invokevirtual 554, 3) ∧ decode cX13_tell 93 = .ok (.iinc 6 1, 3) ∧ decode cX13_tell 96 = .ok (.goto (-66), 3) ∧ decode cX13_tell 99 = .ok (.return_, 1) := by decide +kernel
theorem dX13_tell_82 : decode cX13_tell 82 = .ok (.iload 6, 2) := dX13_tell_82g.1
theorem dX13_tell_84 : decode cX13_tell 84 = .ok (.iadd, 1) := dX13_tell_82g.2.1
theorem dX13_tell_85 : decode cX13_tell 85 = .ok (.iaload, 1) := dX13_tell_82g.2.2.1
theorem dX13_tell_86 : decode cX13_tell 86 = .ok (.iconst 3, 1) := dX13_tell_82g.2.2.2.1
theorem dX13_tell_87 : decode cX13_tell 87 = .ok (.invokevirtual 551, 3) := dX13_tell_82g.2.2.2.2.1
theorem dX13_tell_90 : decode cX13_tell 90 = .ok (.invokevirtual 554, 3) := dX13_tell_82g.2.2.2.2.2.1
theorem dX13_tell_93 : decode cX13_tell 93 = .ok (.iinc 6 1, 3) := dX13_tell_82g.2.2.2.2.2.2.1
theorem dX13_tell_96 : decode cX13_tell 96 = .ok (.goto (-66), 3) := dX13_tell_82g.2.2.2.2.2.2.2.1
theorem dX13_tell_99 : decode cX13_tell 99 = .ok (.return_, 1) := dX13_tell_82g.2.2.2.2.2.2.2.2
theorem dX13_placed_0g : decode cX13_placed 0 = .ok (.iconst 0, 1) ∧ decode cX13_placed 1 = .ok (.istore_n 3, 1) ∧ decode cX13_placed 2 = .ok (.iload_n 3, 1) ∧ decode cX13_placed 3 = .ok (.iconst 4, 1) ∧ decode cX13_placed 4 = .ok (.if_icmp .ge 16, 3) ∧ decode cX13_placed 7 = .ok (.aload_n 0, 1) ∧ decode cX13_placed 8 = .ok (.getfield 249, 3) ∧ decode cX13_placed 11 = .ok (.iload_n 3, 1) ∧ decode cX13_placed 12 = .ok (.iconst (-1), 1) ∧ decode cX13_placed 13 = .ok (.iastore, 1) ∧ decode cX13_placed 14 = .ok (.iinc 3 1, 3) ∧ decode cX13_placed 17 = .ok (.goto (-15), 3) ∧ decode cX13_placed 20 = .ok (.iconst 0, 1) ∧ decode cX13_placed 21 = .ok (.istore_n 3, 1) ∧ decode cX13_placed 22 = .ok (.iload_n 3, 1) ∧ decode cX13_placed 23 = .ok (.iload_n 2, 1) := by decide +kernel
theorem dX13_placed_0 : decode cX13_placed 0 = .ok (.iconst 0, 1) := dX13_placed_0g.1
theorem dX13_placed_1 : decode cX13_placed 1 = .ok (.istore_n 3, 1) := dX13_placed_0g.2.1
theorem dX13_placed_2 : decode cX13_placed 2 = .ok (.iload_n 3, 1) := dX13_placed_0g.2.2.1
theorem dX13_placed_3 : decode cX13_placed 3 = .ok (.iconst 4, 1) := dX13_placed_0g.2.2.2.1
theorem dX13_placed_4 : decode cX13_placed 4 = .ok (.if_icmp .ge 16, 3) := dX13_placed_0g.2.2.2.2.1
theorem dX13_placed_7 : decode cX13_placed 7 = .ok (.aload_n 0, 1) := dX13_placed_0g.2.2.2.2.2.1
theorem dX13_placed_8 : decode cX13_placed 8 = .ok (.getfield 249, 3) := dX13_placed_0g.2.2.2.2.2.2.1
theorem dX13_placed_11 : decode cX13_placed 11 = .ok (.iload_n 3, 1) := dX13_placed_0g.2.2.2.2.2.2.2.1
theorem dX13_placed_12 : decode cX13_placed 12 = .ok (.iconst (-1), 1) := dX13_placed_0g.2.2.2.2.2.2.2.2.1
theorem dX13_placed_13 : decode cX13_placed 13 = .ok (.iastore, 1) := dX13_placed_0g.2.2.2.2.2.2.2.2.2.1
theorem dX13_placed_14 : decode cX13_placed 14 = .ok (.iinc 3 1, 3) := dX13_placed_0g.2.2.2.2.2.2.2.2.2.2.1
theorem dX13_placed_17 : decode cX13_placed 17 = .ok (.goto (-15), 3) := dX13_placed_0g.2.2.2.2.2.2.2.2.2.2.2.1
theorem dX13_placed_20 : decode cX13_placed 20 = .ok (.iconst 0, 1) := dX13_placed_0g.2.2.2.2.2.2.2.2.2.2.2.2.1
theorem dX13_placed_21 : decode cX13_placed 21 = .ok (.istore_n 3, 1) := dX13_placed_0g.2.2.2.2.2.2.2.2.2.2.2.2.2.1
theorem dX13_placed_22 : decode cX13_placed 22 = .ok (.iload_n 3, 1) := dX13_placed_0g.2.2.2.2.2.2.2.2.2.2.2.2.2.2.1
theorem dX13_placed_23 : decode cX13_placed 23 = .ok (.iload_n 2, 1) := dX13_placed_0g.2.2.2.2.2.2.2.2.2.2.2.2.2.2.2
theorem dX13_placed_24g : decode cX13_placed 24 = .ok (.if_icmp .ge 74, 3) ∧ decode cX13_placed 27 = .ok (.aload_n 0, 1) ∧ decode cX13_placed 28 = .ok (.iload_n 1, 1) ∧ decode cX13_placed 29 = .ok (.iload_n 3, 1) ∧ decode cX13_placed 30 = .ok (.invokevirtual 464, 3) ∧ decode cX13_placed 33 = .ok (.istore 4, 2) ∧ decode cX13_placed 35 = .ok (.aload_n 0, 1) ∧ decode cX13_placed 36 = .ok (.iload 4, 2) ∧ decode cX13_placed 38 = .ok (.ldc2_w 406, 3) ∧ decode cX13_placed 41 = .ok (.invokevirtual 355, 3) ∧ decode cX13_placed 44 = .ok (.ifCond .ne 6, 3) ∧ decode cX13_placed 47 = .ok (.goto 45, 3) ∧ decode cX13_placed 50 = .ok (.aload_n 0, 1) ∧ decode cX13_placed 51 = .ok (.iload 4, 2) ∧ decode cX13_placed 53 = .ok (.ldc2_w 406, 3) ∧ decode cX13_placed 56 = .ok (.invokevirtual 359, 3) := by decide +kernel
theorem dX13_placed_24 : decode cX13_placed 24 = .ok (.if_icmp .ge 74, 3) := dX13_placed_24g.1
theorem dX13_placed_27 : decode cX13_placed 27 = .ok (.aload_n 0, 1) := dX13_placed_24g.2.1
theorem dX13_placed_28 : decode cX13_placed 28 = .ok (.iload_n 1, 1) := dX13_placed_24g.2.2.1
theorem dX13_placed_29 : decode cX13_placed 29 = .ok (.iload_n 3, 1) := dX13_placed_24g.2.2.2.1
theorem dX13_placed_30 : decode cX13_placed 30 = .ok (.invokevirtual 464, 3) := dX13_placed_24g.2.2.2.2.1
theorem dX13_placed_33 : decode cX13_placed 33 = .ok (.istore 4, 2) := dX13_placed_24g.2.2.2.2.2.1
theorem dX13_placed_35 : decode cX13_placed 35 = .ok (.aload_n 0, 1) := dX13_placed_24g.2.2.2.2.2.2.1
theorem dX13_placed_36 : decode cX13_placed 36 = .ok (.iload 4, 2) := dX13_placed_24g.2.2.2.2.2.2.2.1
theorem dX13_placed_38 : decode cX13_placed 38 = .ok (.ldc2_w 406, 3) := dX13_placed_24g.2.2.2.2.2.2.2.2.1
theorem dX13_placed_41 : decode cX13_placed 41 = .ok (.invokevirtual 355, 3) := dX13_placed_24g.2.2.2.2.2.2.2.2.2.1
theorem dX13_placed_44 : decode cX13_placed 44 = .ok (.ifCond .ne 6, 3) := dX13_placed_24g.2.2.2.2.2.2.2.2.2.2.1
theorem dX13_placed_47 : decode cX13_placed 47 = .ok (.goto 45, 3) := dX13_placed_24g.2.2.2.2.2.2.2.2.2.2.2.1
theorem dX13_placed_50 : decode cX13_placed 50 = .ok (.aload_n 0, 1) := dX13_placed_24g.2.2.2.2.2.2.2.2.2.2.2.2.1
theorem dX13_placed_51 : decode cX13_placed 51 = .ok (.iload 4, 2) := dX13_placed_24g.2.2.2.2.2.2.2.2.2.2.2.2.2.1
theorem dX13_placed_53 : decode cX13_placed 53 = .ok (.ldc2_w 406, 3) := dX13_placed_24g.2.2.2.2.2.2.2.2.2.2.2.2.2.2.1
theorem dX13_placed_56 : decode cX13_placed 56 = .ok (.invokevirtual 359, 3) := dX13_placed_24g.2.2.2.2.2.2.2.2.2.2.2.2.2.2.2
theorem dX13_placed_59g : decode cX13_placed 59 = .ok (.l2i, 1) ∧ decode cX13_placed 60 = .ok (.bipush 48, 2) ∧ decode cX13_placed 62 = .ok (.isub, 1) ∧ decode cX13_placed 63 = .ok (.istore 5, 2) ∧ decode cX13_placed 65 = .ok (.iload 5, 2) ∧ decode cX13_placed 67 = .ok (.iload_n 2, 1) ∧ decode cX13_placed 68 = .ok (.if_icmp .ge 14, 3) ∧ decode cX13_placed 71 = .ok (.aload_n 0, 1) ∧ decode cX13_placed 72 = .ok (.getfield 249, 3) ∧ decode cX13_placed 75 = .ok (.iload 5, 2) ∧ decode cX13_placed 77 = .ok (.iaload, 1) ∧ decode cX13_placed 78 = .ok (.iconst (-1), 1) ∧ decode cX13_placed 79 = .ok (.if_icmp .eq 5, 3) ∧ decode cX13_placed 82 = .ok (.iconst 0, 1) ∧ decode cX13_placed 83 = .ok (.ireturn, 1) ∧ decode cX13_placed 84 = .ok (.aload_n 0, 1) := by decide +kernel
theorem dX13_placed_59 : decode cX13_placed 59 = .ok (.l2i, 1) := dX13_placed_59g.1
theorem dX13_placed_60 : decode cX13_placed 60 = .ok (.bipush 48, 2) := dX13_placed_59g.2.1
theorem dX13_placed_62 : decode cX13_placed 62 = .ok (.isub, 1) := dX13_placed_59g.2.2.1
theorem dX13_placed_63 : decode cX13_placed 63 = .ok (.istore 5, 2) := dX13_placed_59g.2.2.2.1
theorem dX13_placed_65 : decode cX13_placed 65 = .ok (.iload 5, 2) := dX13_placed_59g.2.2.2.2.1
theorem dX13_placed_67 : decode cX13_placed 67 = .ok (.iload_n 2, 1) := dX13_placed_59g.2.2.2.2.2.1
theorem dX13_placed_68 : decode cX13_placed 68 = .ok (.if_icmp .ge 14, 3) := dX13_placed_59g.2.2.2.2.2.2.1
theorem dX13_placed_71 : decode cX13_placed 71 = .ok (.aload_n 0, 1) := dX13_placed_59g.2.2.2.2.2.2.2.1
theorem dX13_placed_72 : decode cX13_placed 72 = .ok (.getfield 249, 3) := dX13_placed_59g.2.2.2.2.2.2.2.2.1
theorem dX13_placed_75 : decode cX13_placed 75 = .ok (.iload 5, 2) := dX13_placed_59g.2.2.2.2.2.2.2.2.2.1
theorem dX13_placed_77 : decode cX13_placed 77 = .ok (.iaload, 1) := dX13_placed_59g.2.2.2.2.2.2.2.2.2.2.1
theorem dX13_placed_78 : decode cX13_placed 78 = .ok (.iconst (-1), 1) := dX13_placed_59g.2.2.2.2.2.2.2.2.2.2.2.1
theorem dX13_placed_79 : decode cX13_placed 79 = .ok (.if_icmp .eq 5, 3) := dX13_placed_59g.2.2.2.2.2.2.2.2.2.2.2.2.1
theorem dX13_placed_82 : decode cX13_placed 82 = .ok (.iconst 0, 1) := dX13_placed_59g.2.2.2.2.2.2.2.2.2.2.2.2.2.1
theorem dX13_placed_83 : decode cX13_placed 83 = .ok (.ireturn, 1) := dX13_placed_59g.2.2.2.2.2.2.2.2.2.2.2.2.2.2.1
theorem dX13_placed_84 : decode cX13_placed 84 = .ok (.aload_n 0, 1) := dX13_placed_59g.2.2.2.2.2.2.2.2.2.2.2.2.2.2.2
theorem dX13_placed_85g : decode cX13_placed 85 = .ok (.getfield 249, 3) ∧ decode cX13_placed 88 = .ok (.iload 5, 2) ∧ decode cX13_placed 90 = .ok (.iload_n 3, 1) ∧ decode cX13_placed 91 = .ok (.iastore, 1) ∧ decode cX13_placed 92 = .ok (.iinc 3 1, 3) ∧ decode cX13_placed 95 = .ok (.goto (-73), 3) ∧ decode cX13_placed 98 = .ok (.iconst 0, 1) ∧ decode cX13_placed 99 = .ok (.istore_n 3, 1) ∧ decode cX13_placed 100 = .ok (.iconst 0, 1) ∧ decode cX13_placed 101 = .ok (.istore 4, 2) ∧ decode cX13_placed 103 = .ok (.iload 4, 2) ∧ decode cX13_placed 105 = .ok (.iload_n 2, 1) ∧ decode cX13_placed 106 = .ok (.if_icmp .ge 53, 3) ∧ decode cX13_placed 109 = .ok (.aload_n 0, 1) ∧ decode cX13_placed 110 = .ok (.aload_n 0, 1) ∧ decode cX13_placed 111 = .ok (.iload_n 1, 1) := by decide +kernel
theorem dX13_placed_85 : decode cX13_placed 85 = .ok (.getfield 249, 3) := dX13_placed_85g.1
theorem dX13_placed_88 : decode cX13_placed 88 = .ok (.iload 5, 2) := dX13_placed_85g.2.1
theorem dX13_placed_90 : decode cX13_placed 90 = .ok (.iload_n 3, 1) := dX13_placed_85g.2.2.1
theorem dX13_placed_91 : decode cX13_placed 91 = .ok (.iastore, 1) := dX13_placed_85g.2.2.2.1
theorem dX13_placed_92 : decode cX13_placed 92 = .ok (.iinc 3 1, 3) := dX13_placed_85g.2.2.2.2.1
theorem dX13_placed_95 : decode cX13_placed 95 = .ok (.goto (-73), 3) := dX13_placed_85g.2.2.2.2.2.1
theorem dX13_placed_98 : decode cX13_placed 98 = .ok (.iconst 0, 1) := dX13_placed_85g.2.2.2.2.2.2.1
theorem dX13_placed_99 : decode cX13_placed 99 = .ok (.istore_n 3, 1) := dX13_placed_85g.2.2.2.2.2.2.2.1
theorem dX13_placed_100 : decode cX13_placed 100 = .ok (.iconst 0, 1) := dX13_placed_85g.2.2.2.2.2.2.2.2.1
theorem dX13_placed_101 : decode cX13_placed 101 = .ok (.istore 4, 2) := dX13_placed_85g.2.2.2.2.2.2.2.2.2.1
theorem dX13_placed_103 : decode cX13_placed 103 = .ok (.iload 4, 2) := dX13_placed_85g.2.2.2.2.2.2.2.2.2.2.1
theorem dX13_placed_105 : decode cX13_placed 105 = .ok (.iload_n 2, 1) := dX13_placed_85g.2.2.2.2.2.2.2.2.2.2.2.1
theorem dX13_placed_106 : decode cX13_placed 106 = .ok (.if_icmp .ge 53, 3) := dX13_placed_85g.2.2.2.2.2.2.2.2.2.2.2.2.1
theorem dX13_placed_109 : decode cX13_placed 109 = .ok (.aload_n 0, 1) := dX13_placed_85g.2.2.2.2.2.2.2.2.2.2.2.2.2.1
theorem dX13_placed_110 : decode cX13_placed 110 = .ok (.aload_n 0, 1) := dX13_placed_85g.2.2.2.2.2.2.2.2.2.2.2.2.2.2.1
theorem dX13_placed_111 : decode cX13_placed 111 = .ok (.iload_n 1, 1) := dX13_placed_85g.2.2.2.2.2.2.2.2.2.2.2.2.2.2.2
theorem dX13_placed_112g : decode cX13_placed 112 = .ok (.iload 4, 2) ∧ decode cX13_placed 114 = .ok (.invokevirtual 464, 3) ∧ decode cX13_placed 117 = .ok (.ldc2_w 406, 3) ∧ decode cX13_placed 120 = .ok (.invokevirtual 355, 3) ∧ decode cX13_placed 123 = .ok (.ifCond .eq 6, 3) ∧ decode cX13_placed 126 = .ok (.goto 27, 3) ∧ decode cX13_placed 129 = .ok (.aload_n 0, 1) ∧ decode cX13_placed 130 = .ok (.getfield 249, 3) ∧ decode cX13_placed 133 = .ok (.iload_n 3, 1) ∧ decode cX13_placed 134 = .ok (.iaload, 1) ∧ decode cX13_placed 135 = .ok (.iconst (-1), 1) ∧ decode cX13_placed 136 = .ok (.if_icmp .eq 9, 3) ∧ decode cX13_placed 139 = .ok (.iinc 3 1, 3) ∧ decode cX13_placed 142 = .ok (.goto (-13), 3) ∧ decode cX13_placed 145 = .ok (.aload_n 0, 1) ∧ decode cX13_placed 146 = .ok (.getfield 249, 3) := by decide +kernel
theorem dX13_placed_112 : decode cX13_placed 112 = .ok (.iload 4, 2) := dX13_placed_112g.1
theorem dX13_placed_114 : decode cX13_placed 114 = .ok (.invokevirtual 464, 3) := dX13_placed_112g.2.1
theorem dX13_placed_117 : decode cX13_placed 117 = .ok (.ldc2_w 406, 3) := dX13_placed_112g.2.2.1
theorem dX13_placed_120 : decode cX13_placed 120 = .ok (.invokevirtual 355, 3) := dX13_placed_112g.2.2.2.1
theorem dX13_placed_123 : decode cX13_placed 123 = .ok (.ifCond .eq 6, 3) := dX13_placed_112g.2.2.2.2.1
theorem dX13_placed_126 : decode cX13_placed 126 = .ok (.goto 27, 3) := dX13_placed_112g.2.2.2.2.2.1
theorem dX13_placed_129 : decode cX13_placed 129 = .ok (.aload_n 0, 1) := dX13_placed_112g.2.2.2.2.2.2.1
theorem dX13_placed_130 : decode cX13_placed 130 = .ok (.getfield 249, 3) := dX13_placed_112g.2.2.2.2.2.2.2.1
theorem dX13_placed_133 : decode cX13_placed 133 = .ok (.iload_n 3, 1) := dX13_placed_112g.2.2.2.2.2.2.2.2.1
theorem dX13_placed_134 : decode cX13_placed 134 = .ok (.iaload, 1) := dX13_placed_112g.2.2.2.2.2.2.2.2.2.1
theorem dX13_placed_135 : decode cX13_placed 135 = .ok (.iconst (-1), 1) := dX13_placed_112g.2.2.2.2.2.2.2.2.2.2.1
theorem dX13_placed_136 : decode cX13_placed 136 = .ok (.if_icmp .eq 9, 3) := dX13_placed_112g.2.2.2.2.2.2.2.2.2.2.2.1
theorem dX13_placed_139 : decode cX13_placed 139 = .ok (.iinc 3 1, 3) := dX13_placed_112g.2.2.2.2.2.2.2.2.2.2.2.2.1
theorem dX13_placed_142 : decode cX13_placed 142 = .ok (.goto (-13), 3) := dX13_placed_112g.2.2.2.2.2.2.2.2.2.2.2.2.2.1
theorem dX13_placed_145 : decode cX13_placed 145 = .ok (.aload_n 0, 1) := dX13_placed_112g.2.2.2.2.2.2.2.2.2.2.2.2.2.2.1
theorem dX13_placed_146 : decode cX13_placed 146 = .ok (.getfield 249, 3) := dX13_placed_112g.2.2.2.2.2.2.2.2.2.2.2.2.2.2.2
theorem dX13_placed_149g : decode cX13_placed 149 = .ok (.iload_n 3, 1) ∧ decode cX13_placed 150 = .ok (.iload 4, 2) ∧ decode cX13_placed 152 = .ok (.iastore, 1) ∧ decode cX13_placed 153 = .ok (.iinc 4 1, 3) ∧ decode cX13_placed 156 = .ok (.goto (-53), 3) ∧ decode cX13_placed 159 = .ok (.iconst 1, 1) ∧ decode cX13_placed 160 = .ok (.ireturn, 1) := by decide +kernel
theorem dX13_placed_149 : decode cX13_placed 149 = .ok (.iload_n 3, 1) := dX13_placed_149g.1
theorem dX13_placed_150 : decode cX13_placed 150 = .ok (.iload 4, 2) := dX13_placed_149g.2.1
theorem dX13_placed_152 : decode cX13_placed 152 = .ok (.iastore, 1) := dX13_placed_149g.2.2.1
theorem dX13_placed_153 : decode cX13_placed 153 = .ok (.iinc 4 1, 3) := dX13_placed_149g.2.2.2.1
theorem dX13_placed_156 : decode cX13_placed 156 = .ok (.goto (-53), 3) := dX13_placed_149g.2.2.2.2.1
theorem dX13_placed_159 : decode cX13_placed 159 = .ok (.iconst 1, 1) := dX13_placed_149g.2.2.2.2.2.1
theorem dX13_placed_160 : decode cX13_placed 160 = .ok (.ireturn, 1) := dX13_placed_149g.2.2.2.2.2.2
theorem dX13_sum_0g : decode cX13_sum 0 = .ok (.aload_n 0, 1) ∧ decode cX13_sum 1 = .ok (.iload_n 1, 1) ∧ decode cX13_sum 2 = .ok (.invokevirtual 557, 3) ∧ decode cX13_sum 5 = .ok (.istore 5, 2) ∧ decode cX13_sum 7 = .ok (.iload 5, 2) ∧ decode cX13_sum 9 = .ok (.iload_n 2, 1) ∧ decode cX13_sum 10 = .ok (.if_icmp .ne 12, 3) ∧ decode cX13_sum 13 = .ok (.aload_n 0, 1) ∧ decode cX13_sum 14 = .ok (.iload_n 1, 1) ∧ decode cX13_sum 15 = .ok (.iload_n 2, 1) ∧ decode cX13_sum 16 = .ok (.invokevirtual 560, 3) ∧ decode cX13_sum 19 = .ok (.ifCond .ne 5, 3) ∧ decode cX13_sum 22 = .ok (.iconst (-1), 1) ∧ decode cX13_sum 23 = .ok (.ireturn, 1) ∧ decode cX13_sum 24 = .ok (.iconst 0, 1) ∧ decode cX13_sum 25 = .ok (.istore 6, 2) := by decide +kernel
theorem dX13_sum_0 : decode cX13_sum 0 = .ok (.aload_n 0, 1) := dX13_sum_0g.1
theorem dX13_sum_1 : decode cX13_sum 1 = .ok (.iload_n 1, 1) := dX13_sum_0g.2.1
theorem dX13_sum_2 : decode cX13_sum 2 = .ok (.invokevirtual 557, 3) := dX13_sum_0g.2.2.1
theorem dX13_sum_5 : decode cX13_sum 5 = .ok (.istore 5, 2) := dX13_sum_0g.2.2.2.1
theorem dX13_sum_7 : decode cX13_sum 7 = .ok (.iload 5, 2) := dX13_sum_0g.2.2.2.2.1
theorem dX13_sum_9 : decode cX13_sum 9 = .ok (.iload_n 2, 1) := dX13_sum_0g.2.2.2.2.2.1
theorem dX13_sum_10 : decode cX13_sum 10 = .ok (.if_icmp .ne 12, 3) := dX13_sum_0g.2.2.2.2.2.2.1
theorem dX13_sum_13 : decode cX13_sum 13 = .ok (.aload_n 0, 1) := dX13_sum_0g.2.2.2.2.2.2.2.1
theorem dX13_sum_14 : decode cX13_sum 14 = .ok (.iload_n 1, 1) := dX13_sum_0g.2.2.2.2.2.2.2.2.1
theorem dX13_sum_15 : decode cX13_sum 15 = .ok (.iload_n 2, 1) := dX13_sum_0g.2.2.2.2.2.2.2.2.2.1
theorem dX13_sum_16 : decode cX13_sum 16 = .ok (.invokevirtual 560, 3) := dX13_sum_0g.2.2.2.2.2.2.2.2.2.2.1
theorem dX13_sum_19 : decode cX13_sum 19 = .ok (.ifCond .ne 5, 3) := dX13_sum_0g.2.2.2.2.2.2.2.2.2.2.2.1
theorem dX13_sum_22 : decode cX13_sum 22 = .ok (.iconst (-1), 1) := dX13_sum_0g.2.2.2.2.2.2.2.2.2.2.2.2.1
theorem dX13_sum_23 : decode cX13_sum 23 = .ok (.ireturn, 1) := dX13_sum_0g.2.2.2.2.2.2.2.2.2.2.2.2.2.1
theorem dX13_sum_24 : decode cX13_sum 24 = .ok (.iconst 0, 1) := dX13_sum_0g.2.2.2.2.2.2.2.2.2.2.2.2.2.2.1
theorem dX13_sum_25 : decode cX13_sum 25 = .ok (.istore 6, 2) := dX13_sum_0g.2.2.2.2.2.2.2.2.2.2.2.2.2.2.2
theorem dX13_sum_27g : decode cX13_sum 27 = .ok (.iconst 0, 1) ∧ decode cX13_sum 28 = .ok (.istore 7, 2) ∧ decode cX13_sum 30 = .ok (.iload 7, 2) ∧ decode cX13_sum 32 = .ok (.iload_n 2, 1) ∧ decode cX13_sum 33 = .ok (.if_icmp .ge 109, 3) ∧ decode cX13_sum 36 = .ok (.iconst 5, 1) ∧ decode cX13_sum 37 = .ok (.aload_n 0, 1) ∧ decode cX13_sum 38 = .ok (.getfield 501, 3) ∧ decode cX13_sum 41 = .ok (.iconst 1, 1) ∧ decode cX13_sum 42 = .ok (.isub, 1) ∧ decode cX13_sum 43 = .ok (.imul, 1) ∧ decode cX13_sum 44 = .ok (.aload_n 0, 1) ∧ decode cX13_sum 45 = .ok (.getfield 249, 3) ∧ decode cX13_sum 48 = .ok (.iload 7, 2) ∧ decode cX13_sum 50 = .ok (.iaload, 1) ∧ decode cX13_sum 51 = .ok (.iadd, 1) := by decide +kernel
theorem dX13_sum_27 : decode cX13_sum 27 = .ok (.iconst 0, 1) := dX13_sum_27g.1
theorem dX13_sum_28 : decode cX13_sum 28 = .ok (.istore 7, 2) := dX13_sum_27g.2.1
theorem dX13_sum_30 : decode cX13_sum 30 = .ok (.iload 7, 2) := dX13_sum_27g.2.2.1
theorem dX13_sum_32 : decode cX13_sum 32 = .ok (.iload_n 2, 1) := dX13_sum_27g.2.2.2.1
theorem dX13_sum_33 : decode cX13_sum 33 = .ok (.if_icmp .ge 109, 3) := dX13_sum_27g.2.2.2.2.1
theorem dX13_sum_36 : decode cX13_sum 36 = .ok (.iconst 5, 1) := dX13_sum_27g.2.2.2.2.2.1
theorem dX13_sum_37 : decode cX13_sum 37 = .ok (.aload_n 0, 1) := dX13_sum_27g.2.2.2.2.2.2.1
theorem dX13_sum_38 : decode cX13_sum 38 = .ok (.getfield 501, 3) := dX13_sum_27g.2.2.2.2.2.2.2.1
theorem dX13_sum_41 : decode cX13_sum 41 = .ok (.iconst 1, 1) := dX13_sum_27g.2.2.2.2.2.2.2.2.1
theorem dX13_sum_42 : decode cX13_sum 42 = .ok (.isub, 1) := dX13_sum_27g.2.2.2.2.2.2.2.2.2.1
theorem dX13_sum_43 : decode cX13_sum 43 = .ok (.imul, 1) := dX13_sum_27g.2.2.2.2.2.2.2.2.2.2.1
theorem dX13_sum_44 : decode cX13_sum 44 = .ok (.aload_n 0, 1) := dX13_sum_27g.2.2.2.2.2.2.2.2.2.2.2.1
theorem dX13_sum_45 : decode cX13_sum 45 = .ok (.getfield 249, 3) := dX13_sum_27g.2.2.2.2.2.2.2.2.2.2.2.2.1
theorem dX13_sum_48 : decode cX13_sum 48 = .ok (.iload 7, 2) := dX13_sum_27g.2.2.2.2.2.2.2.2.2.2.2.2.2.1
theorem dX13_sum_50 : decode cX13_sum 50 = .ok (.iaload, 1) := dX13_sum_27g.2.2.2.2.2.2.2.2.2.2.2.2.2.2.1
theorem dX13_sum_51 : decode cX13_sum 51 = .ok (.iadd, 1) := dX13_sum_27g.2.2.2.2.2.2.2.2.2.2.2.2.2.2.2
theorem dX13_sum_52g : decode cX13_sum 52 = .ok (.istore 8, 2) ∧ decode cX13_sum 54 = .ok (.aload_n 0, 1) ∧ decode cX13_sum 55 = .ok (.aload_n 0, 1) ∧ decode cX13_sum 56 = .ok (.iload_n 1, 1) ∧ decode cX13_sum 57 = .ok (.aload_n 0, 1) ∧ decode cX13_sum 58 = .ok (.getfield 249, 3) ∧ decode cX13_sum 61 = .ok (.iload 7, 2) ∧ decode cX13_sum 63 = .ok (.iaload, 1) ∧ decode cX13_sum 64 = .ok (.invokevirtual 464, 3) ∧ decode cX13_sum 67 = .ok (.invokevirtual 433, 3) ∧ decode cX13_sum 70 = .ok (.istore 9, 2) ∧ decode cX13_sum 72 = .ok (.iload 9, 2) ∧ decode cX13_sum 74 = .ok (.iconst (-1), 1) ∧ decode cX13_sum 75 = .ok (.if_icmp .eq 19, 3) ∧ decode cX13_sum 78 = .ok (.iload 9, 2) ∧ decode cX13_sum 80 = .ok (.aload_n 3, 1) := by decide +kernel
theorem dX13_sum_52 : decode cX13_sum 52 = .ok (.istore 8, 2) := dX13_sum_52g.1
theorem dX13_sum_54 : decode cX13_sum 54 = .ok (.aload_n 0, 1) := dX13_sum_52g.2.1
theorem dX13_sum_55 : decode cX13_sum 55 = .ok (.aload_n 0, 1) := dX13_sum_52g.2.2.1
theorem dX13_sum_56 : decode cX13_sum 56 = .ok (.iload_n 1, 1) := dX13_sum_52g.2.2.2.1
theorem dX13_sum_57 : decode cX13_sum 57 = .ok (.aload_n 0, 1) := dX13_sum_52g.2.2.2.2.1
theorem dX13_sum_58 : decode cX13_sum 58 = .ok (.getfield 249, 3) := dX13_sum_52g.2.2.2.2.2.1
theorem dX13_sum_61 : decode cX13_sum 61 = .ok (.iload 7, 2) := dX13_sum_52g.2.2.2.2.2.2.1
theorem dX13_sum_63 : decode cX13_sum 63 = .ok (.iaload, 1) := dX13_sum_52g.2.2.2.2.2.2.2.1
theorem dX13_sum_64 : decode cX13_sum 64 = .ok (.invokevirtual 464, 3) := dX13_sum_52g.2.2.2.2.2.2.2.2.1
theorem dX13_sum_67 : decode cX13_sum 67 = .ok (.invokevirtual 433, 3) := dX13_sum_52g.2.2.2.2.2.2.2.2.2.1
theorem dX13_sum_70 : decode cX13_sum 70 = .ok (.istore 9, 2) := dX13_sum_52g.2.2.2.2.2.2.2.2.2.2.1
theorem dX13_sum_72 : decode cX13_sum 72 = .ok (.iload 9, 2) := dX13_sum_52g.2.2.2.2.2.2.2.2.2.2.2.1
theorem dX13_sum_74 : decode cX13_sum 74 = .ok (.iconst (-1), 1) := dX13_sum_52g.2.2.2.2.2.2.2.2.2.2.2.2.1
theorem dX13_sum_75 : decode cX13_sum 75 = .ok (.if_icmp .eq 19, 3) := dX13_sum_52g.2.2.2.2.2.2.2.2.2.2.2.2.2.1
theorem dX13_sum_78 : decode cX13_sum 78 = .ok (.iload 9, 2) := dX13_sum_52g.2.2.2.2.2.2.2.2.2.2.2.2.2.2.1
theorem dX13_sum_80 : decode cX13_sum 80 = .ok (.aload_n 3, 1) := dX13_sum_52g.2.2.2.2.2.2.2.2.2.2.2.2.2.2.2
theorem dX13_sum_81g : decode cX13_sum 81 = .ok (.iload 4, 2) ∧ decode cX13_sum 83 = .ok (.iload 7, 2) ∧ decode cX13_sum 85 = .ok (.iadd, 1) ∧ decode cX13_sum 86 = .ok (.iaload, 1) ∧ decode cX13_sum 87 = .ok (.if_icmp .eq 7, 3) ∧ decode cX13_sum 90 = .ok (.iconst (-1), 1) ∧ decode cX13_sum 91 = .ok (.goto 28, 3) ∧ decode cX13_sum 94 = .ok (.aload_n 0, 1) ∧ decode cX13_sum 95 = .ok (.aload_n 0, 1) ∧ decode cX13_sum 96 = .ok (.getfield 237, 3) ∧ decode cX13_sum 99 = .ok (.iload 8, 2) ∧ decode cX13_sum 101 = .ok (.iaload, 1) ∧ decode cX13_sum 102 = .ok (.aload_n 0, 1) ∧ decode cX13_sum 103 = .ok (.getfield 240, 3) ∧ decode cX13_sum 106 = .ok (.iload 8, 2) ∧ decode cX13_sum 108 = .ok (.iaload, 1) := by decide +kernel
theorem dX13_sum_81 : decode cX13_sum 81 = .ok (.iload 4, 2) := dX13_sum_81g.1
theorem dX13_sum_83 : decode cX13_sum 83 = .ok (.iload 7, 2) := dX13_sum_81g.2.1
theorem dX13_sum_85 : decode cX13_sum 85 = .ok (.iadd, 1) := dX13_sum_81g.2.2.1
theorem dX13_sum_86 : decode cX13_sum 86 = .ok (.iaload, 1) := dX13_sum_81g.2.2.2.1
theorem dX13_sum_87 : decode cX13_sum 87 = .ok (.if_icmp .eq 7, 3) := dX13_sum_81g.2.2.2.2.1
theorem dX13_sum_90 : decode cX13_sum 90 = .ok (.iconst (-1), 1) := dX13_sum_81g.2.2.2.2.2.1
theorem dX13_sum_91 : decode cX13_sum 91 = .ok (.goto 28, 3) := dX13_sum_81g.2.2.2.2.2.2.1
theorem dX13_sum_94 : decode cX13_sum 94 = .ok (.aload_n 0, 1) := dX13_sum_81g.2.2.2.2.2.2.2.1
theorem dX13_sum_95 : decode cX13_sum 95 = .ok (.aload_n 0, 1) := dX13_sum_81g.2.2.2.2.2.2.2.2.1
theorem dX13_sum_96 : decode cX13_sum 96 = .ok (.getfield 237, 3) := dX13_sum_81g.2.2.2.2.2.2.2.2.2.1
theorem dX13_sum_99 : decode cX13_sum 99 = .ok (.iload 8, 2) := dX13_sum_81g.2.2.2.2.2.2.2.2.2.2.1
theorem dX13_sum_101 : decode cX13_sum 101 = .ok (.iaload, 1) := dX13_sum_81g.2.2.2.2.2.2.2.2.2.2.2.1
theorem dX13_sum_102 : decode cX13_sum 102 = .ok (.aload_n 0, 1) := dX13_sum_81g.2.2.2.2.2.2.2.2.2.2.2.2.1
theorem dX13_sum_103 : decode cX13_sum 103 = .ok (.getfield 240, 3) := dX13_sum_81g.2.2.2.2.2.2.2.2.2.2.2.2.2.1
theorem dX13_sum_106 : decode cX13_sum 106 = .ok (.iload 8, 2) := dX13_sum_81g.2.2.2.2.2.2.2.2.2.2.2.2.2.2.1
theorem dX13_sum_108 : decode cX13_sum 108 = .ok (.iaload, 1) := dX13_sum_81g.2.2.2.2.2.2.2.2.2.2.2.2.2.2.2
theorem dX13_sum_109g : decode cX13_sum 109 = .ok (.aload_n 3, 1) ∧ decode cX13_sum 110 = .ok (.iload 4, 2) ∧ decode cX13_sum 112 = .ok (.iload 7, 2) ∧ decode cX13_sum 114 = .ok (.iadd, 1) ∧ decode cX13_sum 115 = .ok (.iaload, 1) ∧ decode cX13_sum 116 = .ok (.invokevirtual 563, 3) ∧ decode cX13_sum 119 = .ok (.istore 10, 2) ∧ decode cX13_sum 121 = .ok (.iload 10, 2) ∧ decode cX13_sum 123 = .ok (.iconst (-1), 1) ∧ decode cX13_sum 124 = .ok (.if_icmp .ne 5, 3) ∧ decode cX13_sum 127 = .ok (.iconst (-1), 1) ∧ decode cX13_sum 128 = .ok (.ireturn, 1) ∧ decode cX13_sum 129 = .ok (.iload 6, 2) ∧ decode cX13_sum 131 = .ok (.iload 10, 2) ∧ decode cX13_sum 133 = .ok (.iadd, 1) ∧ decode cX13_sum 134 = .ok (.istore 6, 2) := by decide +kernel
theorem dX13_sum_109 : decode cX13_sum 109 = .ok (.aload_n 3, 1) := dX13_sum_109g.1
theorem dX13_sum_110 : decode cX13_sum 110 = .ok (.iload 4, 2) := dX13_sum_109g.2.1
theorem dX13_sum_112 : decode cX13_sum 112 = .ok (.iload 7, 2) := dX13_sum_109g.2.2.1
theorem dX13_sum_114 : decode cX13_sum 114 = .ok (.iadd, 1) := dX13_sum_109g.2.2.2.1
theorem dX13_sum_115 : decode cX13_sum 115 = .ok (.iaload, 1) := dX13_sum_109g.2.2.2.2.1
theorem dX13_sum_116 : decode cX13_sum 116 = .ok (.invokevirtual 563, 3) := dX13_sum_109g.2.2.2.2.2.1
theorem dX13_sum_119 : decode cX13_sum 119 = .ok (.istore 10, 2) := dX13_sum_109g.2.2.2.2.2.2.1
theorem dX13_sum_121 : decode cX13_sum 121 = .ok (.iload 10, 2) := dX13_sum_109g.2.2.2.2.2.2.2.1
theorem dX13_sum_123 : decode cX13_sum 123 = .ok (.iconst (-1), 1) := dX13_sum_109g.2.2.2.2.2.2.2.2.1
theorem dX13_sum_124 : decode cX13_sum 124 = .ok (.if_icmp .ne 5, 3) := dX13_sum_109g.2.2.2.2.2.2.2.2.2.1
theorem dX13_sum_127 : decode cX13_sum 127 = .ok (.iconst (-1), 1) := dX13_sum_109g.2.2.2.2.2.2.2.2.2.2.1
theorem dX13_sum_128 : decode cX13_sum 128 = .ok (.ireturn, 1) := dX13_sum_109g.2.2.2.2.2.2.2.2.2.2.2.1
theorem dX13_sum_129 : decode cX13_sum 129 = .ok (.iload 6, 2) := dX13_sum_109g.2.2.2.2.2.2.2.2.2.2.2.2.1
theorem dX13_sum_131 : decode cX13_sum 131 = .ok (.iload 10, 2) := dX13_sum_109g.2.2.2.2.2.2.2.2.2.2.2.2.2.1
theorem dX13_sum_133 : decode cX13_sum 133 = .ok (.iadd, 1) := dX13_sum_109g.2.2.2.2.2.2.2.2.2.2.2.2.2.2.1
theorem dX13_sum_134 : decode cX13_sum 134 = .ok (.istore 6, 2) := dX13_sum_109g.2.2.2.2.2.2.2.2.2.2.2.2.2.2.2
theorem dX13_sum_136g : decode cX13_sum 136 = .ok (.iinc 7 1, 3) ∧ decode cX13_sum 139 = .ok (.goto (-109), 3) ∧ decode cX13_sum 142 = .ok (.iload 6, 2) ∧ decode cX13_sum 144 = .ok (.ireturn, 1) := by decide +kernel
theorem dX13_sum_136 : decode cX13_sum 136 = .ok (.iinc 7 1, 3) := dX13_sum_136g.1
theorem dX13_sum_139 : decode cX13_sum 139 = .ok (.goto (-109), 3) := dX13_sum_136g.2.1
theorem dX13_sum_142 : decode cX13_sum 142 = .ok (.iload 6, 2) := dX13_sum_136g.2.2.1
theorem dX13_sum_144 : decode cX13_sum 144 = .ok (.ireturn, 1) := dX13_sum_136g.2.2.2
theorem dX13_chosen_0g : decode cX13_chosen 0 = .ok (.iconst (-1), 1) ∧ decode cX13_chosen 1 = .ok (.istore 4, 2) ∧ decode cX13_chosen 3 = .ok (.ldc_w 566, 3) ∧ decode cX13_chosen 6 = .ok (.istore 5, 2) ∧ decode cX13_chosen 8 = .ok (.aload_n 0, 1) ∧ decode cX13_chosen 9 = .ok (.iload_n 1, 1) ∧ decode cX13_chosen 10 = .ok (.ldc2_w 398, 3) ∧ decode cX13_chosen 13 = .ok (.invokevirtual 567, 3) ∧ decode cX13_chosen 16 = .ok (.istore 6, 2) ∧ decode cX13_chosen 18 = .ok (.iconst 0, 1) ∧ decode cX13_chosen 19 = .ok (.istore 7, 2) ∧ decode cX13_chosen 21 = .ok (.iload_n 3, 1) ∧ decode cX13_chosen 22 = .ok (.iconst (-1), 1) ∧ decode cX13_chosen 23 = .ok (.if_icmp .eq 152, 3) ∧ decode cX13_chosen 26 = .ok (.iload 7, 2) ∧ decode cX13_chosen 28 = .ok (.iload_n 2, 1) := by decide +kernel
theorem dX13_chosen_0 : decode cX13_chosen 0 = .ok (.iconst (-1), 1) := dX13_chosen_0g.1
theorem dX13_chosen_1 : decode cX13_chosen 1 = .ok (.istore 4, 2) := dX13_chosen_0g.2.1
theorem dX13_chosen_3 : decode cX13_chosen 3 = .ok (.ldc_w 566, 3) := dX13_chosen_0g.2.2.1
theorem dX13_chosen_6 : decode cX13_chosen 6 = .ok (.istore 5, 2) := dX13_chosen_0g.2.2.2.1
theorem dX13_chosen_8 : decode cX13_chosen 8 = .ok (.aload_n 0, 1) := dX13_chosen_0g.2.2.2.2.1
theorem dX13_chosen_9 : decode cX13_chosen 9 = .ok (.iload_n 1, 1) := dX13_chosen_0g.2.2.2.2.2.1
theorem dX13_chosen_10 : decode cX13_chosen 10 = .ok (.ldc2_w 398, 3) := dX13_chosen_0g.2.2.2.2.2.2.1
theorem dX13_chosen_13 : decode cX13_chosen 13 = .ok (.invokevirtual 567, 3) := dX13_chosen_0g.2.2.2.2.2.2.2.1
theorem dX13_chosen_16 : decode cX13_chosen 16 = .ok (.istore 6, 2) := dX13_chosen_0g.2.2.2.2.2.2.2.2.1
theorem dX13_chosen_18 : decode cX13_chosen 18 = .ok (.iconst 0, 1) := dX13_chosen_0g.2.2.2.2.2.2.2.2.2.1
theorem dX13_chosen_19 : decode cX13_chosen 19 = .ok (.istore 7, 2) := dX13_chosen_0g.2.2.2.2.2.2.2.2.2.2.1
theorem dX13_chosen_21 : decode cX13_chosen 21 = .ok (.iload_n 3, 1) := dX13_chosen_0g.2.2.2.2.2.2.2.2.2.2.2.1
theorem dX13_chosen_22 : decode cX13_chosen 22 = .ok (.iconst (-1), 1) := dX13_chosen_0g.2.2.2.2.2.2.2.2.2.2.2.2.1
theorem dX13_chosen_23 : decode cX13_chosen 23 = .ok (.if_icmp .eq 152, 3) := dX13_chosen_0g.2.2.2.2.2.2.2.2.2.2.2.2.2.1
theorem dX13_chosen_26 : decode cX13_chosen 26 = .ok (.iload 7, 2) := dX13_chosen_0g.2.2.2.2.2.2.2.2.2.2.2.2.2.2.1
theorem dX13_chosen_28 : decode cX13_chosen 28 = .ok (.iload_n 2, 1) := dX13_chosen_0g.2.2.2.2.2.2.2.2.2.2.2.2.2.2.2
theorem dX13_chosen_29g : decode cX13_chosen 29 = .ok (.ifCond .eq 12, 3) ∧ decode cX13_chosen 32 = .ok (.aload_n 0, 1) ∧ decode cX13_chosen 33 = .ok (.getfield 81, 3) ∧ decode cX13_chosen 36 = .ok (.iload_n 3, 1) ∧ decode cX13_chosen 37 = .ok (.iaload, 1) ∧ decode cX13_chosen 38 = .ok (.goto 9, 3) ∧ decode cX13_chosen 41 = .ok (.aload_n 0, 1) ∧ decode cX13_chosen 42 = .ok (.getfield 99, 3) ∧ decode cX13_chosen 45 = .ok (.iload_n 3, 1) ∧ decode cX13_chosen 46 = .ok (.iaload, 1) ∧ decode cX13_chosen 47 = .ok (.if_icmp .ge 128, 3) ∧ decode cX13_chosen 50 = .ok (.iconst 4, 1) ∧ decode cX13_chosen 51 = .ok (.iload_n 3, 1) ∧ decode cX13_chosen 52 = .ok (.imul, 1) ∧ decode cX13_chosen 53 = .ok (.iload 7, 2) ∧ decode cX13_chosen 55 = .ok (.iadd, 1) := by decide +kernel
theorem dX13_chosen_29 : decode cX13_chosen 29 = .ok (.ifCond .eq 12, 3) := dX13_chosen_29g.1
theorem dX13_chosen_32 : decode cX13_chosen 32 = .ok (.aload_n 0, 1) := dX13_chosen_29g.2.1
theorem dX13_chosen_33 : decode cX13_chosen 33 = .ok (.getfield 81, 3) := dX13_chosen_29g.2.2.1
theorem dX13_chosen_36 : decode cX13_chosen 36 = .ok (.iload_n 3, 1) := dX13_chosen_29g.2.2.2.1
theorem dX13_chosen_37 : decode cX13_chosen 37 = .ok (.iaload, 1) := dX13_chosen_29g.2.2.2.2.1
theorem dX13_chosen_38 : decode cX13_chosen 38 = .ok (.goto 9, 3) := dX13_chosen_29g.2.2.2.2.2.1
theorem dX13_chosen_41 : decode cX13_chosen 41 = .ok (.aload_n 0, 1) := dX13_chosen_29g.2.2.2.2.2.2.1
theorem dX13_chosen_42 : decode cX13_chosen 42 = .ok (.getfield 99, 3) := dX13_chosen_29g.2.2.2.2.2.2.2.1
theorem dX13_chosen_45 : decode cX13_chosen 45 = .ok (.iload_n 3, 1) := dX13_chosen_29g.2.2.2.2.2.2.2.2.1
theorem dX13_chosen_46 : decode cX13_chosen 46 = .ok (.iaload, 1) := dX13_chosen_29g.2.2.2.2.2.2.2.2.2.1
theorem dX13_chosen_47 : decode cX13_chosen 47 = .ok (.if_icmp .ge 128, 3) := dX13_chosen_29g.2.2.2.2.2.2.2.2.2.2.1
theorem dX13_chosen_50 : decode cX13_chosen 50 = .ok (.iconst 4, 1) := dX13_chosen_29g.2.2.2.2.2.2.2.2.2.2.2.1
theorem dX13_chosen_51 : decode cX13_chosen 51 = .ok (.iload_n 3, 1) := dX13_chosen_29g.2.2.2.2.2.2.2.2.2.2.2.2.1
theorem dX13_chosen_52 : decode cX13_chosen 52 = .ok (.imul, 1) := dX13_chosen_29g.2.2.2.2.2.2.2.2.2.2.2.2.2.1
theorem dX13_chosen_53 : decode cX13_chosen 53 = .ok (.iload 7, 2) := dX13_chosen_29g.2.2.2.2.2.2.2.2.2.2.2.2.2.2.1
theorem dX13_chosen_55 : decode cX13_chosen 55 = .ok (.iadd, 1) := dX13_chosen_29g.2.2.2.2.2.2.2.2.2.2.2.2.2.2.2
theorem dX13_chosen_56g : decode cX13_chosen 56 = .ok (.istore 8, 2) ∧ decode cX13_chosen 58 = .ok (.iload_n 2, 1) ∧ decode cX13_chosen 59 = .ok (.ifCond .ne 37, 3) ∧ decode cX13_chosen 62 = .ok (.aload_n 0, 1) ∧ decode cX13_chosen 63 = .ok (.iload 8, 2) ∧ decode cX13_chosen 65 = .ok (.iload 6, 2) ∧ decode cX13_chosen 67 = .ok (.aload_n 0, 1) ∧ decode cX13_chosen 68 = .ok (.getfield 231, 3) ∧ decode cX13_chosen 71 = .ok (.aload_n 0, 1) ∧ decode cX13_chosen 72 = .ok (.getfield 501, 3) ∧ decode cX13_chosen 75 = .ok (.iconst 1, 1) ∧ decode cX13_chosen 76 = .ok (.isub, 1) ∧ decode cX13_chosen 77 = .ok (.iaload, 1) ∧ decode cX13_chosen 78 = .ok (.iconst (-1), 1) ∧ decode cX13_chosen 79 = .ok (.if_icmp .ne 7, 3) ∧ decode cX13_chosen 82 = .ok (.iconst 1, 1) := by decide +kernel
theorem dX13_chosen_56 : decode cX13_chosen 56 = .ok (.istore 8, 2) := dX13_chosen_56g.1
theorem dX13_chosen_58 : decode cX13_chosen 58 = .ok (.iload_n 2, 1) := dX13_chosen_56g.2.1
theorem dX13_chosen_59 : decode cX13_chosen 59 = .ok (.ifCond .ne 37, 3) := dX13_chosen_56g.2.2.1
theorem dX13_chosen_62 : decode cX13_chosen 62 = .ok (.aload_n 0, 1) := dX13_chosen_56g.2.2.2.1
theorem dX13_chosen_63 : decode cX13_chosen 63 = .ok (.iload 8, 2) := dX13_chosen_56g.2.2.2.2.1
theorem dX13_chosen_65 : decode cX13_chosen 65 = .ok (.iload 6, 2) := dX13_chosen_56g.2.2.2.2.2.1
theorem dX13_chosen_67 : decode cX13_chosen 67 = .ok (.aload_n 0, 1) := dX13_chosen_56g.2.2.2.2.2.2.1
theorem dX13_chosen_68 : decode cX13_chosen 68 = .ok (.getfield 231, 3) := dX13_chosen_56g.2.2.2.2.2.2.2.1
theorem dX13_chosen_71 : decode cX13_chosen 71 = .ok (.aload_n 0, 1) := dX13_chosen_56g.2.2.2.2.2.2.2.2.1
theorem dX13_chosen_72 : decode cX13_chosen 72 = .ok (.getfield 501, 3) := dX13_chosen_56g.2.2.2.2.2.2.2.2.2.1
theorem dX13_chosen_75 : decode cX13_chosen 75 = .ok (.iconst 1, 1) := dX13_chosen_56g.2.2.2.2.2.2.2.2.2.2.1
theorem dX13_chosen_76 : decode cX13_chosen 76 = .ok (.isub, 1) := dX13_chosen_56g.2.2.2.2.2.2.2.2.2.2.2.1
theorem dX13_chosen_77 : decode cX13_chosen 77 = .ok (.iaload, 1) := dX13_chosen_56g.2.2.2.2.2.2.2.2.2.2.2.2.1
theorem dX13_chosen_78 : decode cX13_chosen 78 = .ok (.iconst (-1), 1) := dX13_chosen_56g.2.2.2.2.2.2.2.2.2.2.2.2.2.1
theorem dX13_chosen_79 : decode cX13_chosen 79 = .ok (.if_icmp .ne 7, 3) := dX13_chosen_56g.2.2.2.2.2.2.2.2.2.2.2.2.2.2.1
theorem dX13_chosen_82 : decode cX13_chosen 82 = .ok (.iconst 1, 1) := dX13_chosen_56g.2.2.2.2.2.2.2.2.2.2.2.2.2.2.2
theorem dX13_chosen_83g : decode cX13_chosen 83 = .ok (.goto 4, 3) ∧ decode cX13_chosen 86 = .ok (.iconst 0, 1) ∧ decode cX13_chosen 87 = .ok (.invokevirtual 269, 3) ∧ decode cX13_chosen 90 = .ok (.ifCond .ne 6, 3) ∧ decode cX13_chosen 93 = .ok (.goto 76, 3) ∧ decode cX13_chosen 96 = .ok (.iload_n 2, 1) ∧ decode cX13_chosen 97 = .ok (.ifCond .eq 26, 3) ∧ decode cX13_chosen 100 = .ok (.aload_n 0, 1) ∧ decode cX13_chosen 101 = .ok (.iload_n 1, 1) ∧ decode cX13_chosen 102 = .ok (.aload_n 0, 1) ∧ decode cX13_chosen 103 = .ok (.getfield 84, 3) ∧ decode cX13_chosen 106 = .ok (.iload 8, 2) ∧ decode cX13_chosen 108 = .ok (.iaload, 1) ∧ decode cX13_chosen 109 = .ok (.aload_n 0, 1) ∧ decode cX13_chosen 110 = .ok (.getfield 87, 3) ∧ decode cX13_chosen 113 = .ok (.iconst 3, 1) := by decide +kernel
theorem dX13_chosen_83 : decode cX13_chosen 83 = .ok (.goto 4, 3) := dX13_chosen_83g.1
theorem dX13_chosen_86 : decode cX13_chosen 86 = .ok (.iconst 0, 1) := dX13_chosen_83g.2.1
theorem dX13_chosen_87 : decode cX13_chosen 87 = .ok (.invokevirtual 269, 3) := dX13_chosen_83g.2.2.1
theorem dX13_chosen_90 : decode cX13_chosen 90 = .ok (.ifCond .ne 6, 3) := dX13_chosen_83g.2.2.2.1
theorem dX13_chosen_93 : decode cX13_chosen 93 = .ok (.goto 76, 3) := dX13_chosen_83g.2.2.2.2.1
theorem dX13_chosen_96 : decode cX13_chosen 96 = .ok (.iload_n 2, 1) := dX13_chosen_83g.2.2.2.2.2.1
theorem dX13_chosen_97 : decode cX13_chosen 97 = .ok (.ifCond .eq 26, 3) := dX13_chosen_83g.2.2.2.2.2.2.1
theorem dX13_chosen_100 : decode cX13_chosen 100 = .ok (.aload_n 0, 1) := dX13_chosen_83g.2.2.2.2.2.2.2.1
theorem dX13_chosen_101 : decode cX13_chosen 101 = .ok (.iload_n 1, 1) := dX13_chosen_83g.2.2.2.2.2.2.2.2.1
theorem dX13_chosen_102 : decode cX13_chosen 102 = .ok (.aload_n 0, 1) := dX13_chosen_83g.2.2.2.2.2.2.2.2.2.1
theorem dX13_chosen_103 : decode cX13_chosen 103 = .ok (.getfield 84, 3) := dX13_chosen_83g.2.2.2.2.2.2.2.2.2.2.1
theorem dX13_chosen_106 : decode cX13_chosen 106 = .ok (.iload 8, 2) := dX13_chosen_83g.2.2.2.2.2.2.2.2.2.2.2.1
theorem dX13_chosen_108 : decode cX13_chosen 108 = .ok (.iaload, 1) := dX13_chosen_83g.2.2.2.2.2.2.2.2.2.2.2.2.1
theorem dX13_chosen_109 : decode cX13_chosen 109 = .ok (.aload_n 0, 1) := dX13_chosen_83g.2.2.2.2.2.2.2.2.2.2.2.2.2.1
theorem dX13_chosen_110 : decode cX13_chosen 110 = .ok (.getfield 87, 3) := dX13_chosen_83g.2.2.2.2.2.2.2.2.2.2.2.2.2.2.1
theorem dX13_chosen_113 : decode cX13_chosen 113 = .ok (.iconst 3, 1) := dX13_chosen_83g.2.2.2.2.2.2.2.2.2.2.2.2.2.2.2
theorem dX13_chosen_114g : decode cX13_chosen 114 = .ok (.iload 8, 2) ∧ decode cX13_chosen 116 = .ok (.imul, 1) ∧ decode cX13_chosen 117 = .ok (.invokevirtual 570, 3) ∧ decode cX13_chosen 120 = .ok (.goto 23, 3) ∧ decode cX13_chosen 123 = .ok (.aload_n 0, 1) ∧ decode cX13_chosen 124 = .ok (.iload_n 1, 1) ∧ decode cX13_chosen 125 = .ok (.aload_n 0, 1) ∧ decode cX13_chosen 126 = .ok (.getfield 108, 3) ∧ decode cX13_chosen 129 = .ok (.iload 8, 2) ∧ decode cX13_chosen 131 = .ok (.iaload, 1) ∧ decode cX13_chosen 132 = .ok (.aload_n 0, 1) ∧ decode cX13_chosen 133 = .ok (.getfield 111, 3) ∧ decode cX13_chosen 136 = .ok (.iconst 3, 1) ∧ decode cX13_chosen 137 = .ok (.iload 8, 2) ∧ decode cX13_chosen 139 = .ok (.imul, 1) ∧ decode cX13_chosen 140 = .ok (.invokevirtual 570, 3) := by decide +kernel
theorem dX13_chosen_114 : decode cX13_chosen 114 = .ok (.iload 8, 2) := dX13_chosen_114g.1
theorem dX13_chosen_116 : decode cX13_chosen 116 = .ok (.imul, 1) := dX13_chosen_114g.2.1
theorem dX13_chosen_117 : decode cX13_chosen 117 = .ok (.invokevirtual 570, 3) := dX13_chosen_114g.2.2.1
theorem dX13_chosen_120 : decode cX13_chosen 120 = .ok (.goto 23, 3) := dX13_chosen_114g.2.2.2.1
theorem dX13_chosen_123 : decode cX13_chosen 123 = .ok (.aload_n 0, 1) := dX13_chosen_114g.2.2.2.2.1
theorem dX13_chosen_124 : decode cX13_chosen 124 = .ok (.iload_n 1, 1) := dX13_chosen_114g.2.2.2.2.2.1
theorem dX13_chosen_125 : decode cX13_chosen 125 = .ok (.aload_n 0, 1) := dX13_chosen_114g.2.2.2.2.2.2.1
theorem dX13_chosen_126 : decode cX13_chosen 126 = .ok (.getfield 108, 3) := dX13_chosen_114g.2.2.2.2.2.2.2.1
theorem dX13_chosen_129 : decode cX13_chosen 129 = .ok (.iload 8, 2) := dX13_chosen_114g.2.2.2.2.2.2.2.2.1
theorem dX13_chosen_131 : decode cX13_chosen 131 = .ok (.iaload, 1) := dX13_chosen_114g.2.2.2.2.2.2.2.2.2.1
theorem dX13_chosen_132 : decode cX13_chosen 132 = .ok (.aload_n 0, 1) := dX13_chosen_114g.2.2.2.2.2.2.2.2.2.2.1
theorem dX13_chosen_133 : decode cX13_chosen 133 = .ok (.getfield 111, 3) := dX13_chosen_114g.2.2.2.2.2.2.2.2.2.2.2.1
theorem dX13_chosen_136 : decode cX13_chosen 136 = .ok (.iconst 3, 1) := dX13_chosen_114g.2.2.2.2.2.2.2.2.2.2.2.2.1
theorem dX13_chosen_137 : decode cX13_chosen 137 = .ok (.iload 8, 2) := dX13_chosen_114g.2.2.2.2.2.2.2.2.2.2.2.2.2.1
theorem dX13_chosen_139 : decode cX13_chosen 139 = .ok (.imul, 1) := dX13_chosen_114g.2.2.2.2.2.2.2.2.2.2.2.2.2.2.1
theorem dX13_chosen_140 : decode cX13_chosen 140 = .ok (.invokevirtual 570, 3) := dX13_chosen_114g.2.2.2.2.2.2.2.2.2.2.2.2.2.2.2
theorem dX13_chosen_143g : decode cX13_chosen 143 = .ok (.istore 9, 2) ∧ decode cX13_chosen 145 = .ok (.iload 9, 2) ∧ decode cX13_chosen 147 = .ok (.iconst (-1), 1) ∧ decode cX13_chosen 148 = .ok (.if_icmp .eq 21, 3) ∧ decode cX13_chosen 151 = .ok (.iload 9, 2) ∧ decode cX13_chosen 153 = .ok (.iload 5, 2) ∧ decode cX13_chosen 155 = .ok (.if_icmp .lt 6, 3) ∧ decode cX13_chosen 158 = .ok (.goto 11, 3) ∧ decode cX13_chosen 161 = .ok (.iload 8, 2) ∧ decode cX13_chosen 163 = .ok (.istore 4, 2) ∧ decode cX13_chosen 165 = .ok (.iload 9, 2) ∧ decode cX13_chosen 167 = .ok (.istore 5, 2) ∧ decode cX13_chosen 169 = .ok (.iinc 7 1, 3) ∧ decode cX13_chosen 172 = .ok (.goto (-151), 3) ∧ decode cX13_chosen 175 = .ok (.iload 4, 2) ∧ decode cX13_chosen 177 = .ok (.ireturn, 1) := by decide +kernel
theorem dX13_chosen_143 : decode cX13_chosen 143 = .ok (.istore 9, 2) := dX13_chosen_143g.1
theorem dX13_chosen_145 : decode cX13_chosen 145 = .ok (.iload 9, 2) := dX13_chosen_143g.2.1
theorem dX13_chosen_147 : decode cX13_chosen 147 = .ok (.iconst (-1), 1) := dX13_chosen_143g.2.2.1
theorem dX13_chosen_148 : decode cX13_chosen 148 = .ok (.if_icmp .eq 21, 3) := dX13_chosen_143g.2.2.2.1
theorem dX13_chosen_151 : decode cX13_chosen 151 = .ok (.iload 9, 2) := dX13_chosen_143g.2.2.2.2.1
theorem dX13_chosen_153 : decode cX13_chosen 153 = .ok (.iload 5, 2) := dX13_chosen_143g.2.2.2.2.2.1
theorem dX13_chosen_155 : decode cX13_chosen 155 = .ok (.if_icmp .lt 6, 3) := dX13_chosen_143g.2.2.2.2.2.2.1
theorem dX13_chosen_158 : decode cX13_chosen 158 = .ok (.goto 11, 3) := dX13_chosen_143g.2.2.2.2.2.2.2.1
theorem dX13_chosen_161 : decode cX13_chosen 161 = .ok (.iload 8, 2) := dX13_chosen_143g.2.2.2.2.2.2.2.2.1
theorem dX13_chosen_163 : decode cX13_chosen 163 = .ok (.istore 4, 2) := dX13_chosen_143g.2.2.2.2.2.2.2.2.2.1
theorem dX13_chosen_165 : decode cX13_chosen 165 = .ok (.iload 9, 2) := dX13_chosen_143g.2.2.2.2.2.2.2.2.2.2.1
theorem dX13_chosen_167 : decode cX13_chosen 167 = .ok (.istore 5, 2) := dX13_chosen_143g.2.2.2.2.2.2.2.2.2.2.2.1
theorem dX13_chosen_169 : decode cX13_chosen 169 = .ok (.iinc 7 1, 3) := dX13_chosen_143g.2.2.2.2.2.2.2.2.2.2.2.2.1
theorem dX13_chosen_172 : decode cX13_chosen 172 = .ok (.goto (-151), 3) := dX13_chosen_143g.2.2.2.2.2.2.2.2.2.2.2.2.2.1
theorem dX13_chosen_175 : decode cX13_chosen 175 = .ok (.iload 4, 2) := dX13_chosen_143g.2.2.2.2.2.2.2.2.2.2.2.2.2.2.1
theorem dX13_chosen_177 : decode cX13_chosen 177 = .ok (.ireturn, 1) := dX13_chosen_143g.2.2.2.2.2.2.2.2.2.2.2.2.2.2.2
