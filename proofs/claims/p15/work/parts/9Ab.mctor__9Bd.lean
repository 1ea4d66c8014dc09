section
theorem dX13_init_0g : decode cX13_init 0 = .ok (.aload_n 0, 1) ∧ decode cX13_init 1 = .ok (.invokespecial 1, 3) ∧ decode cX13_init 4 = .ok (.aload_n 0, 1) ∧ decode cX13_init 5 = .ok (.bipush 10, 2) ∧ decode cX13_init 7 = .ok (.newarray .long, 2) ∧ decode cX13_init 9 = .ok (.dup, 1) ∧ decode cX13_init 10 = .ok (.iconst 0, 1) ∧ decode cX13_init 11 = .ok (.ldc2_w 7, 3) ∧ decode cX13_init 14 = .ok (.lastore, 1) ∧ decode cX13_init 15 = .ok (.dup, 1) ∧ decode cX13_init 16 = .ok (.iconst 1, 1) ∧ decode cX13_init 17 = .ok (.ldc2_w 9, 3) ∧ decode cX13_init 20 = .ok (.lastore, 1) ∧ decode cX13_init 21 = .ok (.dup, 1) ∧ decode cX13_init 22 = .ok (.iconst 2, 1) ∧ decode cX13_init 23 = .ok (.ldc2_w 11, 3) := by decide +kernel
theorem dX13_init_0 : decode cX13_init 0 = .ok (.aload_n 0, 1) := dX13_init_0g.1
theorem dX13_init_1 : decode cX13_init 1 = .ok (.invokespecial 1, 3) := dX13_init_0g.2.1
theorem dX13_init_4 : decode cX13_init 4 = .ok (.aload_n 0, 1) := dX13_init_0g.2.2.1
theorem dX13_init_5 : decode cX13_init 5 = .ok (.bipush 10, 2) := dX13_init_0g.2.2.2.1
theorem dX13_init_7 : decode cX13_init 7 = .ok (.newarray .long, 2) := dX13_init_0g.2.2.2.2.1
theorem dX13_init_9 : decode cX13_init 9 = .ok (.dup, 1) := dX13_init_0g.2.2.2.2.2.1
theorem dX13_init_10 : decode cX13_init 10 = .ok (.iconst 0, 1) := dX13_init_0g.2.2.2.2.2.2.1
theorem dX13_init_11 : decode cX13_init 11 = .ok (.ldc2_w 7, 3) := dX13_init_0g.2.2.2.2.2.2.2.1
theorem dX13_init_14 : decode cX13_init 14 = .ok (.lastore, 1) := dX13_init_0g.2.2.2.2.2.2.2.2.1
theorem dX13_init_15 : decode cX13_init 15 = .ok (.dup, 1) := dX13_init_0g.2.2.2.2.2.2.2.2.2.1
theorem dX13_init_16 : decode cX13_init 16 = .ok (.iconst 1, 1) := dX13_init_0g.2.2.2.2.2.2.2.2.2.2.1
theorem dX13_init_17 : decode cX13_init 17 = .ok (.ldc2_w 9, 3) := dX13_init_0g.2.2.2.2.2.2.2.2.2.2.2.1
theorem dX13_init_20 : decode cX13_init 20 = .ok (.lastore, 1) := dX13_init_0g.2.2.2.2.2.2.2.2.2.2.2.2.1
theorem dX13_init_21 : decode cX13_init 21 = .ok (.dup, 1) := dX13_init_0g.2.2.2.2.2.2.2.2.2.2.2.2.2.1
theorem dX13_init_22 : decode cX13_init 22 = .ok (.iconst 2, 1) := dX13_init_0g.2.2.2.2.2.2.2.2.2.2.2.2.2.2.1
theorem dX13_init_23 : decode cX13_init 23 = .ok (.ldc2_w 11, 3) := dX13_init_0g.2.2.2.2.2.2.2.2.2.2.2.2.2.2.2
theorem dX13_init_26g : decode cX13_init 26 = .ok (.lastore, 1) ∧ decode cX13_init 27 = .ok (.dup, 1) ∧ decode cX13_init 28 = .ok (.iconst 3, 1) ∧ decode cX13_init 29 = .ok (.ldc2_w 13, 3) ∧ decode cX13_init 32 = .ok (.lastore, 1) ∧ decode cX13_init 33 = .ok (.dup, 1) ∧ decode cX13_init 34 = .ok (.iconst 4, 1) ∧ decode cX13_init 35 = .ok (.ldc2_w 15, 3) ∧ decode cX13_init 38 = .ok (.lastore, 1) ∧ decode cX13_init 39 = .ok (.dup, 1) ∧ decode cX13_init 40 = .ok (.iconst 5, 1) ∧ decode cX13_init 41 = .ok (.ldc2_w 17, 3) ∧ decode cX13_init 44 = .ok (.lastore, 1) ∧ decode cX13_init 45 = .ok (.dup, 1) ∧ decode cX13_init 46 = .ok (.bipush 6, 2) ∧ decode cX13_init 48 = .ok (.ldc2_w 19, 3) := by decide +kernel
theorem dX13_init_26 : decode cX13_init 26 = .ok (.lastore, 1) := dX13_init_26g.1
theorem dX13_init_27 : decode cX13_init 27 = .ok (.dup, 1) := dX13_init_26g.2.1
theorem dX13_init_28 : decode cX13_init 28 = .ok (.iconst 3, 1) := dX13_init_26g.2.2.1
theorem dX13_init_29 : decode cX13_init 29 = .ok (.ldc2_w 13, 3) := dX13_init_26g.2.2.2.1
theorem dX13_init_32 : decode cX13_init 32 = .ok (.lastore, 1) := dX13_init_26g.2.2.2.2.1
theorem dX13_init_33 : decode cX13_init 33 = .ok (.dup, 1) := dX13_init_26g.2.2.2.2.2.1
theorem dX13_init_34 : decode cX13_init 34 = .ok (.iconst 4, 1) := dX13_init_26g.2.2.2.2.2.2.1
theorem dX13_init_35 : decode cX13_init 35 = .ok (.ldc2_w 15, 3) := dX13_init_26g.2.2.2.2.2.2.2.1
theorem dX13_init_38 : decode cX13_init 38 = .ok (.lastore, 1) := dX13_init_26g.2.2.2.2.2.2.2.2.1
theorem dX13_init_39 : decode cX13_init 39 = .ok (.dup, 1) := dX13_init_26g.2.2.2.2.2.2.2.2.2.1
theorem dX13_init_40 : decode cX13_init 40 = .ok (.iconst 5, 1) := dX13_init_26g.2.2.2.2.2.2.2.2.2.2.1
theorem dX13_init_41 : decode cX13_init 41 = .ok (.ldc2_w 17, 3) := dX13_init_26g.2.2.2.2.2.2.2.2.2.2.2.1
theorem dX13_init_44 : decode cX13_init 44 = .ok (.lastore, 1) := dX13_init_26g.2.2.2.2.2.2.2.2.2.2.2.2.1
theorem dX13_init_45 : decode cX13_init 45 = .ok (.dup, 1) := dX13_init_26g.2.2.2.2.2.2.2.2.2.2.2.2.2.1
theorem dX13_init_46 : decode cX13_init 46 = .ok (.bipush 6, 2) := dX13_init_26g.2.2.2.2.2.2.2.2.2.2.2.2.2.2.1
theorem dX13_init_48 : decode cX13_init 48 = .ok (.ldc2_w 19, 3) := dX13_init_26g.2.2.2.2.2.2.2.2.2.2.2.2.2.2.2
theorem dX13_init_51g : decode cX13_init 51 = .ok (.lastore, 1) ∧ decode cX13_init 52 = .ok (.dup, 1) ∧ decode cX13_init 53 = .ok (.bipush 7, 2) ∧ decode cX13_init 55 = .ok (.ldc2_w 21, 3) ∧ decode cX13_init 58 = .ok (.lastore, 1) ∧ decode cX13_init 59 = .ok (.dup, 1) ∧ decode cX13_init 60 = .ok (.bipush 8, 2) ∧ decode cX13_init 62 = .ok (.ldc2_w 23, 3) ∧ decode cX13_init 65 = .ok (.lastore, 1) ∧ decode cX13_init 66 = .ok (.dup, 1) ∧ decode cX13_init 67 = .ok (.bipush 9, 2) ∧ decode cX13_init 69 = .ok (.ldc2_w 25, 3) ∧ decode cX13_init 72 = .ok (.lastore, 1) ∧ decode cX13_init 73 = .ok (.putfield 27, 3) ∧ decode cX13_init 76 = .ok (.aload_n 0, 1) ∧ decode cX13_init 77 = .ok (.bipush 11, 2) := by decide +kernel
theorem dX13_init_51 : decode cX13_init 51 = .ok (.lastore, 1) := dX13_init_51g.1
theorem dX13_init_52 : decode cX13_init 52 = .ok (.dup, 1) := dX13_init_51g.2.1
theorem dX13_init_53 : decode cX13_init 53 = .ok (.bipush 7, 2) := dX13_init_51g.2.2.1
theorem dX13_init_55 : decode cX13_init 55 = .ok (.ldc2_w 21, 3) := dX13_init_51g.2.2.2.1
theorem dX13_init_58 : decode cX13_init 58 = .ok (.lastore, 1) := dX13_init_51g.2.2.2.2.1
theorem dX13_init_59 : decode cX13_init 59 = .ok (.dup, 1) := dX13_init_51g.2.2.2.2.2.1
theorem dX13_init_60 : decode cX13_init 60 = .ok (.bipush 8, 2) := dX13_init_51g.2.2.2.2.2.2.1
theorem dX13_init_62 : decode cX13_init 62 = .ok (.ldc2_w 23, 3) := dX13_init_51g.2.2.2.2.2.2.2.1
theorem dX13_init_65 : decode cX13_init 65 = .ok (.lastore, 1) := dX13_init_51g.2.2.2.2.2.2.2.2.1
theorem dX13_init_66 : decode cX13_init 66 = .ok (.dup, 1) := dX13_init_51g.2.2.2.2.2.2.2.2.2.1
theorem dX13_init_67 : decode cX13_init 67 = .ok (.bipush 9, 2) := dX13_init_51g.2.2.2.2.2.2.2.2.2.2.1
theorem dX13_init_69 : decode cX13_init 69 = .ok (.ldc2_w 25, 3) := dX13_init_51g.2.2.2.2.2.2.2.2.2.2.2.1
theorem dX13_init_72 : decode cX13_init 72 = .ok (.lastore, 1) := dX13_init_51g.2.2.2.2.2.2.2.2.2.2.2.2.1
theorem dX13_init_73 : decode cX13_init 73 = .ok (.putfield 27, 3) := dX13_init_51g.2.2.2.2.2.2.2.2.2.2.2.2.2.1
theorem dX13_init_76 : decode cX13_init 76 = .ok (.aload_n 0, 1) := dX13_init_51g.2.2.2.2.2.2.2.2.2.2.2.2.2.2.1
theorem dX13_init_77 : decode cX13_init 77 = .ok (.bipush 11, 2) := dX13_init_51g.2.2.2.2.2.2.2.2.2.2.2.2.2.2.2
theorem dX13_init_79g : decode cX13_init 79 = .ok (.newarray .long, 2) ∧ decode cX13_init 81 = .ok (.dup, 1) ∧ decode cX13_init 82 = .ok (.iconst 0, 1) ∧ decode cX13_init 83 = .ok (.ldc2_w 33, 3) ∧ decode cX13_init 86 = .ok (.lastore, 1) ∧ decode cX13_init 87 = .ok (.dup, 1) ∧ decode cX13_init 88 = .ok (.iconst 1, 1) ∧ decode cX13_init 89 = .ok (.ldc2_w 35, 3) ∧ decode cX13_init 92 = .ok (.lastore, 1) ∧ decode cX13_init 93 = .ok (.dup, 1) ∧ decode cX13_init 94 = .ok (.iconst 2, 1) ∧ decode cX13_init 95 = .ok (.ldc2_w 37, 3) ∧ decode cX13_init 98 = .ok (.lastore, 1) ∧ decode cX13_init 99 = .ok (.dup, 1) ∧ decode cX13_init 100 = .ok (.iconst 3, 1) ∧ decode cX13_init 101 = .ok (.ldc2_w 39, 3) := by decide +kernel
theorem dX13_init_79 : decode cX13_init 79 = .ok (.newarray .long, 2) := dX13_init_79g.1
theorem dX13_init_81 : decode cX13_init 81 = .ok (.dup, 1) := dX13_init_79g.2.1
theorem dX13_init_82 : decode cX13_init 82 = .ok (.iconst 0, 1) := dX13_init_79g.2.2.1
theorem dX13_init_83 : decode cX13_init 83 = .ok (.ldc2_w 33, 3) := dX13_init_79g.2.2.2.1
theorem dX13_init_86 : decode cX13_init 86 = .ok (.lastore, 1) := dX13_init_79g.2.2.2.2.1
theorem dX13_init_87 : decode cX13_init 87 = .ok (.dup, 1) := dX13_init_79g.2.2.2.2.2.1
theorem dX13_init_88 : decode cX13_init 88 = .ok (.iconst 1, 1) := dX13_init_79g.2.2.2.2.2.2.1
theorem dX13_init_89 : decode cX13_init 89 = .ok (.ldc2_w 35, 3) := dX13_init_79g.2.2.2.2.2.2.2.1
theorem dX13_init_92 : decode cX13_init 92 = .ok (.lastore, 1) := dX13_init_79g.2.2.2.2.2.2.2.2.1
theorem dX13_init_93 : decode cX13_init 93 = .ok (.dup, 1) := dX13_init_79g.2.2.2.2.2.2.2.2.2.1
theorem dX13_init_94 : decode cX13_init 94 = .ok (.iconst 2, 1) := dX13_init_79g.2.2.2.2.2.2.2.2.2.2.1
theorem dX13_init_95 : decode cX13_init 95 = .ok (.ldc2_w 37, 3) := dX13_init_79g.2.2.2.2.2.2.2.2.2.2.2.1
theorem dX13_init_98 : decode cX13_init 98 = .ok (.lastore, 1) := dX13_init_79g.2.2.2.2.2.2.2.2.2.2.2.2.1
theorem dX13_init_99 : decode cX13_init 99 = .ok (.dup, 1) := dX13_init_79g.2.2.2.2.2.2.2.2.2.2.2.2.2.1
theorem dX13_init_100 : decode cX13_init 100 = .ok (.iconst 3, 1) := dX13_init_79g.2.2.2.2.2.2.2.2.2.2.2.2.2.2.1
theorem dX13_init_101 : decode cX13_init 101 = .ok (.ldc2_w 39, 3) := dX13_init_79g.2.2.2.2.2.2.2.2.2.2.2.2.2.2.2
theorem dX13_init_104g : decode cX13_init 104 = .ok (.lastore, 1) ∧ decode cX13_init 105 = .ok (.dup, 1) ∧ decode cX13_init 106 = .ok (.iconst 4, 1) ∧ decode cX13_init 107 = .ok (.ldc2_w 41, 3) ∧ decode cX13_init 110 = .ok (.lastore, 1) ∧ decode cX13_init 111 = .ok (.dup, 1) ∧ decode cX13_init 112 = .ok (.iconst 5, 1) ∧ decode cX13_init 113 = .ok (.ldc2_w 43, 3) ∧ decode cX13_init 116 = .ok (.lastore, 1) ∧ decode cX13_init 117 = .ok (.dup, 1) ∧ decode cX13_init 118 = .ok (.bipush 6, 2) ∧ decode cX13_init 120 = .ok (.ldc2_w 45, 3) ∧ decode cX13_init 123 = .ok (.lastore, 1) ∧ decode cX13_init 124 = .ok (.dup, 1) ∧ decode cX13_init 125 = .ok (.bipush 7, 2) ∧ decode cX13_init 127 = .ok (.ldc2_w 47, 3) := by decide +kernel
theorem dX13_init_104 : decode cX13_init 104 = .ok (.lastore, 1) := dX13_init_104g.1
theorem dX13_init_105 : decode cX13_init 105 = .ok (.dup, 1) := dX13_init_104g.2.1
theorem dX13_init_106 : decode cX13_init 106 = .ok (.iconst 4, 1) := dX13_init_104g.2.2.1
theorem dX13_init_107 : decode cX13_init 107 = .ok (.ldc2_w 41, 3) := dX13_init_104g.2.2.2.1
theorem dX13_init_110 : decode cX13_init 110 = .ok (.lastore, 1) := dX13_init_104g.2.2.2.2.1
theorem dX13_init_111 : decode cX13_init 111 = .ok (.dup, 1) := dX13_init_104g.2.2.2.2.2.1
theorem dX13_init_112 : decode cX13_init 112 = .ok (.iconst 5, 1) := dX13_init_104g.2.2.2.2.2.2.1
theorem dX13_init_113 : decode cX13_init 113 = .ok (.ldc2_w 43, 3) := dX13_init_104g.2.2.2.2.2.2.2.1
theorem dX13_init_116 : decode cX13_init 116 = .ok (.lastore, 1) := dX13_init_104g.2.2.2.2.2.2.2.2.1
theorem dX13_init_117 : decode cX13_init 117 = .ok (.dup, 1) := dX13_init_104g.2.2.2.2.2.2.2.2.2.1
theorem dX13_init_118 : decode cX13_init 118 = .ok (.bipush 6, 2) := dX13_init_104g.2.2.2.2.2.2.2.2.2.2.1
theorem dX13_init_120 : decode cX13_init 120 = .ok (.ldc2_w 45, 3) := dX13_init_104g.2.2.2.2.2.2.2.2.2.2.2.1
theorem dX13_init_123 : decode cX13_init 123 = .ok (.lastore, 1) := dX13_init_104g.2.2.2.2.2.2.2.2.2.2.2.2.1
theorem dX13_init_124 : decode cX13_init 124 = .ok (.dup, 1) := dX13_init_104g.2.2.2.2.2.2.2.2.2.2.2.2.2.1
theorem dX13_init_125 : decode cX13_init 125 = .ok (.bipush 7, 2) := dX13_init_104g.2.2.2.2.2.2.2.2.2.2.2.2.2.2.1
theorem dX13_init_127 : decode cX13_init 127 = .ok (.ldc2_w 47, 3) := dX13_init_104g.2.2.2.2.2.2.2.2.2.2.2.2.2.2.2
theorem dX13_init_130g : decode cX13_init 130 = .ok (.lastore, 1) ∧ decode cX13_init 131 = .ok (.dup, 1) ∧ decode cX13_init 132 = .ok (.bipush 8, 2) ∧ decode cX13_init 134 = .ok (.ldc2_w 49, 3) ∧ decode cX13_init 137 = .ok (.lastore, 1) ∧ decode cX13_init 138 = .ok (.dup, 1) ∧ decode cX13_init 139 = .ok (.bipush 9, 2) ∧ decode cX13_init 141 = .ok (.ldc2_w 51, 3) ∧ decode cX13_init 144 = .ok (.lastore, 1) ∧ decode cX13_init 145 = .ok (.dup, 1) ∧ decode cX13_init 146 = .ok (.bipush 10, 2) ∧ decode cX13_init 148 = .ok (.ldc2_w 53, 3) ∧ decode cX13_init 151 = .ok (.lastore, 1) ∧ decode cX13_init 152 = .ok (.putfield 55, 3) ∧ decode cX13_init 155 = .ok (.aload_n 0, 1) ∧ decode cX13_init 156 = .ok (.iconst 5, 1) := by decide +kernel
theorem dX13_init_130 : decode cX13_init 130 = .ok (.lastore, 1) := dX13_init_130g.1
theorem dX13_init_131 : decode cX13_init 131 = .ok (.dup, 1) := dX13_init_130g.2.1
theorem dX13_init_132 : decode cX13_init 132 = .ok (.bipush 8, 2) := dX13_init_130g.2.2.1
theorem dX13_init_134 : decode cX13_init 134 = .ok (.ldc2_w 49, 3) := dX13_init_130g.2.2.2.1
theorem dX13_init_137 : decode cX13_init 137 = .ok (.lastore, 1) := dX13_init_130g.2.2.2.2.1
theorem dX13_init_138 : decode cX13_init 138 = .ok (.dup, 1) := dX13_init_130g.2.2.2.2.2.1
theorem dX13_init_139 : decode cX13_init 139 = .ok (.bipush 9, 2) := dX13_init_130g.2.2.2.2.2.2.1
theorem dX13_init_141 : decode cX13_init 141 = .ok (.ldc2_w 51, 3) := dX13_init_130g.2.2.2.2.2.2.2.1
theorem dX13_init_144 : decode cX13_init 144 = .ok (.lastore, 1) := dX13_init_130g.2.2.2.2.2.2.2.2.1
theorem dX13_init_145 : decode cX13_init 145 = .ok (.dup, 1) := dX13_init_130g.2.2.2.2.2.2.2.2.2.1
theorem dX13_init_146 : decode cX13_init 146 = .ok (.bipush 10, 2) := dX13_init_130g.2.2.2.2.2.2.2.2.2.2.1
theorem dX13_init_148 : decode cX13_init 148 = .ok (.ldc2_w 53, 3) := dX13_init_130g.2.2.2.2.2.2.2.2.2.2.2.1
theorem dX13_init_151 : decode cX13_init 151 = .ok (.lastore, 1) := dX13_init_130g.2.2.2.2.2.2.2.2.2.2.2.2.1
theorem dX13_init_152 : decode cX13_init 152 = .ok (.putfield 55, 3) := dX13_init_130g.2.2.2.2.2.2.2.2.2.2.2.2.2.1
theorem dX13_init_155 : decode cX13_init 155 = .ok (.aload_n 0, 1) := dX13_init_130g.2.2.2.2.2.2.2.2.2.2.2.2.2.2.1
theorem dX13_init_156 : decode cX13_init 156 = .ok (.iconst 5, 1) := dX13_init_130g.2.2.2.2.2.2.2.2.2.2.2.2.2.2.2
theorem dX13_init_157g : decode cX13_init 157 = .ok (.newarray .long, 2) ∧ decode cX13_init 159 = .ok (.dup, 1) ∧ decode cX13_init 160 = .ok (.iconst 0, 1) ∧ decode cX13_init 161 = .ok (.ldc2_w 58, 3) ∧ decode cX13_init 164 = .ok (.lastore, 1) ∧ decode cX13_init 165 = .ok (.dup, 1) ∧ decode cX13_init 166 = .ok (.iconst 1, 1) ∧ decode cX13_init 167 = .ok (.ldc2_w 60, 3) ∧ decode cX13_init 170 = .ok (.lastore, 1) ∧ decode cX13_init 171 = .ok (.dup, 1) ∧ decode cX13_init 172 = .ok (.iconst 2, 1) ∧ decode cX13_init 173 = .ok (.ldc2_w 62, 3) ∧ decode cX13_init 176 = .ok (.lastore, 1) ∧ decode cX13_init 177 = .ok (.dup, 1) ∧ decode cX13_init 178 = .ok (.iconst 3, 1) ∧ decode cX13_init 179 = .ok (.ldc2_w 64, 3) := by decide +kernel
theorem dX13_init_157 : decode cX13_init 157 = .ok (.newarray .long, 2) := dX13_init_157g.1
theorem dX13_init_159 : decode cX13_init 159 = .ok (.dup, 1) := dX13_init_157g.2.1
theorem dX13_init_160 : decode cX13_init 160 = .ok (.iconst 0, 1) := dX13_init_157g.2.2.1
theorem dX13_init_161 : decode cX13_init 161 = .ok (.ldc2_w 58, 3) := dX13_init_157g.2.2.2.1
theorem dX13_init_164 : decode cX13_init 164 = .ok (.lastore, 1) := dX13_init_157g.2.2.2.2.1
theorem dX13_init_165 : decode cX13_init 165 = .ok (.dup, 1) := dX13_init_157g.2.2.2.2.2.1
theorem dX13_init_166 : decode cX13_init 166 = .ok (.iconst 1, 1) := dX13_init_157g.2.2.2.2.2.2.1
theorem dX13_init_167 : decode cX13_init 167 = .ok (.ldc2_w 60, 3) := dX13_init_157g.2.2.2.2.2.2.2.1
theorem dX13_init_170 : decode cX13_init 170 = .ok (.lastore, 1) := dX13_init_157g.2.2.2.2.2.2.2.2.1
theorem dX13_init_171 : decode cX13_init 171 = .ok (.dup, 1) := dX13_init_157g.2.2.2.2.2.2.2.2.2.1
theorem dX13_init_172 : decode cX13_init 172 = .ok (.iconst 2, 1) := dX13_init_157g.2.2.2.2.2.2.2.2.2.2.1
theorem dX13_init_173 : decode cX13_init 173 = .ok (.ldc2_w 62, 3) := dX13_init_157g.2.2.2.2.2.2.2.2.2.2.2.1
theorem dX13_init_176 : decode cX13_init 176 = .ok (.lastore, 1) := dX13_init_157g.2.2.2.2.2.2.2.2.2.2.2.2.1
theorem dX13_init_177 : decode cX13_init 177 = .ok (.dup, 1) := dX13_init_157g.2.2.2.2.2.2.2.2.2.2.2.2.2.1
theorem dX13_init_178 : decode cX13_init 178 = .ok (.iconst 3, 1) := dX13_init_157g.2.2.2.2.2.2.2.2.2.2.2.2.2.2.1
theorem dX13_init_179 : decode cX13_init 179 = .ok (.ldc2_w 64, 3) := dX13_init_157g.2.2.2.2.2.2.2.2.2.2.2.2.2.2.2
theorem dX13_init_182g : decode cX13_init 182 = .ok (.lastore, 1) ∧ decode cX13_init 183 = .ok (.dup, 1) ∧ decode cX13_init 184 = .ok (.iconst 4, 1) ∧ decode cX13_init 185 = .ok (.ldc2_w 66, 3) ∧ decode cX13_init 188 = .ok (.lastore, 1) ∧ decode cX13_init 189 = .ok (.putfield 68, 3) ∧ decode cX13_init 192 = .ok (.aload_n 0, 1) ∧ decode cX13_init 193 = .ok (.iconst 5, 1) ∧ decode cX13_init 194 = .ok (.newarray .int, 2) ∧ decode cX13_init 196 = .ok (.dup, 1) ∧ decode cX13_init 197 = .ok (.iconst 0, 1) ∧ decode cX13_init 198 = .ok (.iconst 3, 1) ∧ decode cX13_init 199 = .ok (.iastore, 1) ∧ decode cX13_init 200 = .ok (.dup, 1) ∧ decode cX13_init 201 = .ok (.iconst 1, 1) ∧ decode cX13_init 202 = .ok (.iconst 3, 1) := by decide +kernel
theorem dX13_init_182 : decode cX13_init 182 = .ok (.lastore, 1) := dX13_init_182g.1
theorem dX13_init_183 : decode cX13_init 183 = .ok (.dup, 1) := dX13_init_182g.2.1
theorem dX13_init_184 : decode cX13_init 184 = .ok (.iconst 4, 1) := dX13_init_182g.2.2.1
theorem dX13_init_185 : decode cX13_init 185 = .ok (.ldc2_w 66, 3) := dX13_init_182g.2.2.2.1
theorem dX13_init_188 : decode cX13_init 188 = .ok (.lastore, 1) := dX13_init_182g.2.2.2.2.1
theorem dX13_init_189 : decode cX13_init 189 = .ok (.putfield 68, 3) := dX13_init_182g.2.2.2.2.2.1
theorem dX13_init_192 : decode cX13_init 192 = .ok (.aload_n 0, 1) := dX13_init_182g.2.2.2.2.2.2.1
theorem dX13_init_193 : decode cX13_init 193 = .ok (.iconst 5, 1) := dX13_init_182g.2.2.2.2.2.2.2.1
theorem dX13_init_194 : decode cX13_init 194 = .ok (.newarray .int, 2) := dX13_init_182g.2.2.2.2.2.2.2.2.1
theorem dX13_init_196 : decode cX13_init 196 = .ok (.dup, 1) := dX13_init_182g.2.2.2.2.2.2.2.2.2.1
theorem dX13_init_197 : decode cX13_init 197 = .ok (.iconst 0, 1) := dX13_init_182g.2.2.2.2.2.2.2.2.2.2.1
theorem dX13_init_198 : decode cX13_init 198 = .ok (.iconst 3, 1) := dX13_init_182g.2.2.2.2.2.2.2.2.2.2.2.1
theorem dX13_init_199 : decode cX13_init 199 = .ok (.iastore, 1) := dX13_init_182g.2.2.2.2.2.2.2.2.2.2.2.2.1
theorem dX13_init_200 : decode cX13_init 200 = .ok (.dup, 1) := dX13_init_182g.2.2.2.2.2.2.2.2.2.2.2.2.2.1
theorem dX13_init_201 : decode cX13_init 201 = .ok (.iconst 1, 1) := dX13_init_182g.2.2.2.2.2.2.2.2.2.2.2.2.2.2.1
theorem dX13_init_202 : decode cX13_init 202 = .ok (.iconst 3, 1) := dX13_init_182g.2.2.2.2.2.2.2.2.2.2.2.2.2.2.2
theorem dX13_init_203g : decode cX13_init 203 = .ok (.iastore, 1) ∧ decode cX13_init 204 = .ok (.dup, 1) ∧ decode cX13_init 205 = .ok (.iconst 2, 1) ∧ decode cX13_init 206 = .ok (.iconst 4, 1) ∧ decode cX13_init 207 = .ok (.iastore, 1) ∧ decode cX13_init 208 = .ok (.dup, 1) ∧ decode cX13_init 209 = .ok (.iconst 3, 1) ∧ decode cX13_init 210 = .ok (.iconst 5, 1) ∧ decode cX13_init 211 = .ok (.iastore, 1) ∧ decode cX13_init 212 = .ok (.dup, 1) ∧ decode cX13_init 213 = .ok (.iconst 4, 1) ∧ decode cX13_init 214 = .ok (.iconst 5, 1) ∧ decode cX13_init 215 = .ok (.iastore, 1) ∧ decode cX13_init 216 = .ok (.putfield 71, 3) ∧ decode cX13_init 219 = .ok (.aload_n 0, 1) ∧ decode cX13_init 220 = .ok (.iconst 5, 1) := by decide +kernel
theorem dX13_init_203 : decode cX13_init 203 = .ok (.iastore, 1) := dX13_init_203g.1
theorem dX13_init_204 : decode cX13_init 204 = .ok (.dup, 1) := dX13_init_203g.2.1
theorem dX13_init_205 : decode cX13_init 205 = .ok (.iconst 2, 1) := dX13_init_203g.2.2.1
theorem dX13_init_206 : decode cX13_init 206 = .ok (.iconst 4, 1) := dX13_init_203g.2.2.2.1
theorem dX13_init_207 : decode cX13_init 207 = .ok (.iastore, 1) := dX13_init_203g.2.2.2.2.1
theorem dX13_init_208 : decode cX13_init 208 = .ok (.dup, 1) := dX13_init_203g.2.2.2.2.2.1
theorem dX13_init_209 : decode cX13_init 209 = .ok (.iconst 3, 1) := dX13_init_203g.2.2.2.2.2.2.1
theorem dX13_init_210 : decode cX13_init 210 = .ok (.iconst 5, 1) := dX13_init_203g.2.2.2.2.2.2.2.1
theorem dX13_init_211 : decode cX13_init 211 = .ok (.iastore, 1) := dX13_init_203g.2.2.2.2.2.2.2.2.1
theorem dX13_init_212 : decode cX13_init 212 = .ok (.dup, 1) := dX13_init_203g.2.2.2.2.2.2.2.2.2.1
theorem dX13_init_213 : decode cX13_init 213 = .ok (.iconst 4, 1) := dX13_init_203g.2.2.2.2.2.2.2.2.2.2.1
theorem dX13_init_214 : decode cX13_init 214 = .ok (.iconst 5, 1) := dX13_init_203g.2.2.2.2.2.2.2.2.2.2.2.1
theorem dX13_init_215 : decode cX13_init 215 = .ok (.iastore, 1) := dX13_init_203g.2.2.2.2.2.2.2.2.2.2.2.2.1
theorem dX13_init_216 : decode cX13_init 216 = .ok (.putfield 71, 3) := dX13_init_203g.2.2.2.2.2.2.2.2.2.2.2.2.2.1
theorem dX13_init_219 : decode cX13_init 219 = .ok (.aload_n 0, 1) := dX13_init_203g.2.2.2.2.2.2.2.2.2.2.2.2.2.2.1
theorem dX13_init_220 : decode cX13_init 220 = .ok (.iconst 5, 1) := dX13_init_203g.2.2.2.2.2.2.2.2.2.2.2.2.2.2.2
theorem dX13_init_221g : decode cX13_init 221 = .ok (.newarray .int, 2) ∧ decode cX13_init 223 = .ok (.dup, 1) ∧ decode cX13_init 224 = .ok (.iconst 0, 1) ∧ decode cX13_init 225 = .ok (.bipush 60, 2) ∧ decode cX13_init 227 = .ok (.iastore, 1) ∧ decode cX13_init 228 = .ok (.dup, 1) ∧ decode cX13_init 229 = .ok (.iconst 1, 1) ∧ decode cX13_init 230 = .ok (.bipush 62, 2) ∧ decode cX13_init 232 = .ok (.iastore, 1) ∧ decode cX13_init 233 = .ok (.dup, 1) ∧ decode cX13_init 234 = .ok (.iconst 2, 1) ∧ decode cX13_init 235 = .ok (.bipush 38, 2) ∧ decode cX13_init 237 = .ok (.iastore, 1) ∧ decode cX13_init 238 = .ok (.dup, 1) ∧ decode cX13_init 239 = .ok (.iconst 3, 1) ∧ decode cX13_init 240 = .ok (.bipush 34, 2) := by decide +kernel
theorem dX13_init_221 : decode cX13_init 221 = .ok (.newarray .int, 2) := dX13_init_221g.1
theorem dX13_init_223 : decode cX13_init 223 = .ok (.dup, 1) := dX13_init_221g.2.1
theorem dX13_init_224 : decode cX13_init 224 = .ok (.iconst 0, 1) := dX13_init_221g.2.2.1
theorem dX13_init_225 : decode cX13_init 225 = .ok (.bipush 60, 2) := dX13_init_221g.2.2.2.1
theorem dX13_init_227 : decode cX13_init 227 = .ok (.iastore, 1) := dX13_init_221g.2.2.2.2.1
theorem dX13_init_228 : decode cX13_init 228 = .ok (.dup, 1) := dX13_init_221g.2.2.2.2.2.1
theorem dX13_init_229 : decode cX13_init 229 = .ok (.iconst 1, 1) := dX13_init_221g.2.2.2.2.2.2.1
theorem dX13_init_230 : decode cX13_init 230 = .ok (.bipush 62, 2) := dX13_init_221g.2.2.2.2.2.2.2.1
theorem dX13_init_232 : decode cX13_init 232 = .ok (.iastore, 1) := dX13_init_221g.2.2.2.2.2.2.2.2.1
theorem dX13_init_233 : decode cX13_init 233 = .ok (.dup, 1) := dX13_init_221g.2.2.2.2.2.2.2.2.2.1
theorem dX13_init_234 : decode cX13_init 234 = .ok (.iconst 2, 1) := dX13_init_221g.2.2.2.2.2.2.2.2.2.2.1
theorem dX13_init_235 : decode cX13_init 235 = .ok (.bipush 38, 2) := dX13_init_221g.2.2.2.2.2.2.2.2.2.2.2.1
theorem dX13_init_237 : decode cX13_init 237 = .ok (.iastore, 1) := dX13_init_221g.2.2.2.2.2.2.2.2.2.2.2.2.1
theorem dX13_init_238 : decode cX13_init 238 = .ok (.dup, 1) := dX13_init_221g.2.2.2.2.2.2.2.2.2.2.2.2.2.1
theorem dX13_init_239 : decode cX13_init 239 = .ok (.iconst 3, 1) := dX13_init_221g.2.2.2.2.2.2.2.2.2.2.2.2.2.2.1
theorem dX13_init_240 : decode cX13_init 240 = .ok (.bipush 34, 2) := dX13_init_221g.2.2.2.2.2.2.2.2.2.2.2.2.2.2.2
theorem dX13_init_242g : decode cX13_init 242 = .ok (.iastore, 1) ∧ decode cX13_init 243 = .ok (.dup, 1) ∧ decode cX13_init 244 = .ok (.iconst 4, 1) ∧ decode cX13_init 245 = .ok (.bipush 39, 2) ∧ decode cX13_init 247 = .ok (.iastore, 1) ∧ decode cX13_init 248 = .ok (.putfield 75, 3) ∧ decode cX13_init 251 = .ok (.aload_n 0, 1) ∧ decode cX13_init 252 = .ok (.bipush 8, 2) ∧ decode cX13_init 254 = .ok (.newarray .int, 2) ∧ decode cX13_init 256 = .ok (.putfield 78, 3) ∧ decode cX13_init 259 = .ok (.aload_n 0, 1) ∧ decode cX13_init 260 = .ok (.bipush 8, 2) ∧ decode cX13_init 262 = .ok (.newarray .int, 2) ∧ decode cX13_init 264 = .ok (.putfield 81, 3) ∧ decode cX13_init 267 = .ok (.aload_n 0, 1) ∧ decode cX13_init 268 = .ok (.bipush 32, 2) := by decide +kernel
theorem dX13_init_242 : decode cX13_init 242 = .ok (.iastore, 1) := dX13_init_242g.1
theorem dX13_init_243 : decode cX13_init 243 = .ok (.dup, 1) := dX13_init_242g.2.1
theorem dX13_init_244 : decode cX13_init 244 = .ok (.iconst 4, 1) := dX13_init_242g.2.2.1
theorem dX13_init_245 : decode cX13_init 245 = .ok (.bipush 39, 2) := dX13_init_242g.2.2.2.1
theorem dX13_init_247 : decode cX13_init 247 = .ok (.iastore, 1) := dX13_init_242g.2.2.2.2.1
theorem dX13_init_248 : decode cX13_init 248 = .ok (.putfield 75, 3) := dX13_init_242g.2.2.2.2.2.1
theorem dX13_init_251 : decode cX13_init 251 = .ok (.aload_n 0, 1) := dX13_init_242g.2.2.2.2.2.2.1
theorem dX13_init_252 : decode cX13_init 252 = .ok (.bipush 8, 2) := dX13_init_242g.2.2.2.2.2.2.2.1
theorem dX13_init_254 : decode cX13_init 254 = .ok (.newarray .int, 2) := dX13_init_242g.2.2.2.2.2.2.2.2.1
theorem dX13_init_256 : decode cX13_init 256 = .ok (.putfield 78, 3) := dX13_init_242g.2.2.2.2.2.2.2.2.2.1
theorem dX13_init_259 : decode cX13_init 259 = .ok (.aload_n 0, 1) := dX13_init_242g.2.2.2.2.2.2.2.2.2.2.1
theorem dX13_init_260 : decode cX13_init 260 = .ok (.bipush 8, 2) := dX13_init_242g.2.2.2.2.2.2.2.2.2.2.2.1
theorem dX13_init_262 : decode cX13_init 262 = .ok (.newarray .int, 2) := dX13_init_242g.2.2.2.2.2.2.2.2.2.2.2.2.1
theorem dX13_init_264 : decode cX13_init 264 = .ok (.putfield 81, 3) := dX13_init_242g.2.2.2.2.2.2.2.2.2.2.2.2.2.1
theorem dX13_init_267 : decode cX13_init 267 = .ok (.aload_n 0, 1) := dX13_init_242g.2.2.2.2.2.2.2.2.2.2.2.2.2.2.1
theorem dX13_init_268 : decode cX13_init 268 = .ok (.bipush 32, 2) := dX13_init_242g.2.2.2.2.2.2.2.2.2.2.2.2.2.2.2
theorem dX13_init_270g : decode cX13_init 270 = .ok (.newarray .int, 2) ∧ decode cX13_init 272 = .ok (.putfield 84, 3) ∧ decode cX13_init 275 = .ok (.aload_n 0, 1) ∧ decode cX13_init 276 = .ok (.bipush 96, 2) ∧ decode cX13_init 278 = .ok (.newarray .int, 2) ∧ decode cX13_init 280 = .ok (.putfield 87, 3) ∧ decode cX13_init 283 = .ok (.aload_n 0, 1) ∧ decode cX13_init 284 = .ok (.bipush 8, 2) ∧ decode cX13_init 286 = .ok (.newarray .int, 2) ∧ decode cX13_init 288 = .ok (.putfield 90, 3) ∧ decode cX13_init 291 = .ok (.aload_n 0, 1) ∧ decode cX13_init 292 = .ok (.bipush 64, 2) ∧ decode cX13_init 294 = .ok (.newarray .int, 2) ∧ decode cX13_init 296 = .ok (.putfield 93, 3) ∧ decode cX13_init 299 = .ok (.aload_n 0, 1) ∧ decode cX13_init 300 = .ok (.bipush 64, 2) := by decide +kernel
theorem dX13_init_270 : decode cX13_init 270 = .ok (.newarray .int, 2) := dX13_init_270g.1
theorem dX13_init_272 : decode cX13_init 272 = .ok (.putfield 84, 3) := dX13_init_270g.2.1
theorem dX13_init_275 : decode cX13_init 275 = .ok (.aload_n 0, 1) := dX13_init_270g.2.2.1
theorem dX13_init_276 : decode cX13_init 276 = .ok (.bipush 96, 2) := dX13_init_270g.2.2.2.1
theorem dX13_init_278 : decode cX13_init 278 = .ok (.newarray .int, 2) := dX13_init_270g.2.2.2.2.1
theorem dX13_init_280 : decode cX13_init 280 = .ok (.putfield 87, 3) := dX13_init_270g.2.2.2.2.2.1
theorem dX13_init_283 : decode cX13_init 283 = .ok (.aload_n 0, 1) := dX13_init_270g.2.2.2.2.2.2.1
theorem dX13_init_284 : decode cX13_init 284 = .ok (.bipush 8, 2) := dX13_init_270g.2.2.2.2.2.2.2.1
theorem dX13_init_286 : decode cX13_init 286 = .ok (.newarray .int, 2) := dX13_init_270g.2.2.2.2.2.2.2.2.1
theorem dX13_init_288 : decode cX13_init 288 = .ok (.putfield 90, 3) := dX13_init_270g.2.2.2.2.2.2.2.2.2.1
theorem dX13_init_291 : decode cX13_init 291 = .ok (.aload_n 0, 1) := dX13_init_270g.2.2.2.2.2.2.2.2.2.2.1
theorem dX13_init_292 : decode cX13_init 292 = .ok (.bipush 64, 2) := dX13_init_270g.2.2.2.2.2.2.2.2.2.2.2.1
theorem dX13_init_294 : decode cX13_init 294 = .ok (.newarray .int, 2) := dX13_init_270g.2.2.2.2.2.2.2.2.2.2.2.2.1
theorem dX13_init_296 : decode cX13_init 296 = .ok (.putfield 93, 3) := dX13_init_270g.2.2.2.2.2.2.2.2.2.2.2.2.2.1
theorem dX13_init_299 : decode cX13_init 299 = .ok (.aload_n 0, 1) := dX13_init_270g.2.2.2.2.2.2.2.2.2.2.2.2.2.2.1
theorem dX13_init_300 : decode cX13_init 300 = .ok (.bipush 64, 2) := dX13_init_270g.2.2.2.2.2.2.2.2.2.2.2.2.2.2.2
theorem dX13_init_302g : decode cX13_init 302 = .ok (.newarray .int, 2) ∧ decode cX13_init 304 = .ok (.putfield 96, 3) ∧ decode cX13_init 307 = .ok (.aload_n 0, 1) ∧ decode cX13_init 308 = .ok (.bipush 8, 2) ∧ decode cX13_init 310 = .ok (.newarray .int, 2) ∧ decode cX13_init 312 = .ok (.putfield 99, 3) ∧ decode cX13_init 315 = .ok (.aload_n 0, 1) ∧ decode cX13_init 316 = .ok (.bipush 32, 2) ∧ decode cX13_init 318 = .ok (.newarray .int, 2) ∧ decode cX13_init 320 = .ok (.putfield 102, 3) ∧ decode cX13_init 323 = .ok (.aload_n 0, 1) ∧ decode cX13_init 324 = .ok (.bipush 32, 2) ∧ decode cX13_init 326 = .ok (.newarray .int, 2) ∧ decode cX13_init 328 = .ok (.putfield 105, 3) ∧ decode cX13_init 331 = .ok (.aload_n 0, 1) ∧ decode cX13_init 332 = .ok (.bipush 32, 2) := by decide +kernel
theorem dX13_init_302 : decode cX13_init 302 = .ok (.newarray .int, 2) := dX13_init_302g.1
theorem dX13_init_304 : decode cX13_init 304 = .ok (.putfield 96, 3) := dX13_init_302g.2.1
theorem dX13_init_307 : decode cX13_init 307 = .ok (.aload_n 0, 1) := dX13_init_302g.2.2.1
theorem dX13_init_308 : decode cX13_init 308 = .ok (.bipush 8, 2) := dX13_init_302g.2.2.2.1
theorem dX13_init_310 : decode cX13_init 310 = .ok (.newarray .int, 2) := dX13_init_302g.2.2.2.2.1
theorem dX13_init_312 : decode cX13_init 312 = .ok (.putfield 99, 3) := dX13_init_302g.2.2.2.2.2.1
theorem dX13_init_315 : decode cX13_init 315 = .ok (.aload_n 0, 1) := dX13_init_302g.2.2.2.2.2.2.1
theorem dX13_init_316 : decode cX13_init 316 = .ok (.bipush 32, 2) := dX13_init_302g.2.2.2.2.2.2.2.1
theorem dX13_init_318 : decode cX13_init 318 = .ok (.newarray .int, 2) := dX13_init_302g.2.2.2.2.2.2.2.2.1
theorem dX13_init_320 : decode cX13_init 320 = .ok (.putfield 102, 3) := dX13_init_302g.2.2.2.2.2.2.2.2.2.1
theorem dX13_init_323 : decode cX13_init 323 = .ok (.aload_n 0, 1) := dX13_init_302g.2.2.2.2.2.2.2.2.2.2.1
theorem dX13_init_324 : decode cX13_init 324 = .ok (.bipush 32, 2) := dX13_init_302g.2.2.2.2.2.2.2.2.2.2.2.1
theorem dX13_init_326 : decode cX13_init 326 = .ok (.newarray .int, 2) := dX13_init_302g.2.2.2.2.2.2.2.2.2.2.2.2.1
theorem dX13_init_328 : decode cX13_init 328 = .ok (.putfield 105, 3) := dX13_init_302g.2.2.2.2.2.2.2.2.2.2.2.2.2.1
theorem dX13_init_331 : decode cX13_init 331 = .ok (.aload_n 0, 1) := dX13_init_302g.2.2.2.2.2.2.2.2.2.2.2.2.2.2.1
theorem dX13_init_332 : decode cX13_init 332 = .ok (.bipush 32, 2) := dX13_init_302g.2.2.2.2.2.2.2.2.2.2.2.2.2.2.2
theorem dX13_init_334g : decode cX13_init 334 = .ok (.newarray .int, 2) ∧ decode cX13_init 336 = .ok (.putfield 108, 3) ∧ decode cX13_init 339 = .ok (.aload_n 0, 1) ∧ decode cX13_init 340 = .ok (.bipush 96, 2) ∧ decode cX13_init 342 = .ok (.newarray .int, 2) ∧ decode cX13_init 344 = .ok (.putfield 111, 3) ∧ decode cX13_init 347 = .ok (.aload_n 0, 1) ∧ decode cX13_init 348 = .ok (.bipush 32, 2) ∧ decode cX13_init 350 = .ok (.newarray .boolean, 2) ∧ decode cX13_init 352 = .ok (.putfield 114, 3) ∧ decode cX13_init 355 = .ok (.aload_n 0, 1) ∧ decode cX13_init 356 = .ok (.sipush 1200, 3) ∧ decode cX13_init 359 = .ok (.newarray .byte, 2) ∧ decode cX13_init 361 = .ok (.putfield 118, 3) ∧ decode cX13_init 364 = .ok (.aload_n 0, 1) ∧ decode cX13_init 365 = .ok (.iconst (-1), 1) := by decide +kernel
theorem dX13_init_334 : decode cX13_init 334 = .ok (.newarray .int, 2) := dX13_init_334g.1
theorem dX13_init_336 : decode cX13_init 336 = .ok (.putfield 108, 3) := dX13_init_334g.2.1
theorem dX13_init_339 : decode cX13_init 339 = .ok (.aload_n 0, 1) := dX13_init_334g.2.2.1
theorem dX13_init_340 : decode cX13_init 340 = .ok (.bipush 96, 2) := dX13_init_334g.2.2.2.1
theorem dX13_init_342 : decode cX13_init 342 = .ok (.newarray .int, 2) := dX13_init_334g.2.2.2.2.1
theorem dX13_init_344 : decode cX13_init 344 = .ok (.putfield 111, 3) := dX13_init_334g.2.2.2.2.2.1
theorem dX13_init_347 : decode cX13_init 347 = .ok (.aload_n 0, 1) := dX13_init_334g.2.2.2.2.2.2.1
theorem dX13_init_348 : decode cX13_init 348 = .ok (.bipush 32, 2) := dX13_init_334g.2.2.2.2.2.2.2.1
theorem dX13_init_350 : decode cX13_init 350 = .ok (.newarray .boolean, 2) := dX13_init_334g.2.2.2.2.2.2.2.2.1
theorem dX13_init_352 : decode cX13_init 352 = .ok (.putfield 114, 3) := dX13_init_334g.2.2.2.2.2.2.2.2.2.1
theorem dX13_init_355 : decode cX13_init 355 = .ok (.aload_n 0, 1) := dX13_init_334g.2.2.2.2.2.2.2.2.2.2.1
theorem dX13_init_356 : decode cX13_init 356 = .ok (.sipush 1200, 3) := dX13_init_334g.2.2.2.2.2.2.2.2.2.2.2.1
theorem dX13_init_359 : decode cX13_init 359 = .ok (.newarray .byte, 2) := dX13_init_334g.2.2.2.2.2.2.2.2.2.2.2.2.1
theorem dX13_init_361 : decode cX13_init 361 = .ok (.putfield 118, 3) := dX13_init_334g.2.2.2.2.2.2.2.2.2.2.2.2.2.1
theorem dX13_init_364 : decode cX13_init 364 = .ok (.aload_n 0, 1) := dX13_init_334g.2.2.2.2.2.2.2.2.2.2.2.2.2.2.1
theorem dX13_init_365 : decode cX13_init 365 = .ok (.iconst (-1), 1) := dX13_init_334g.2.2.2.2.2.2.2.2.2.2.2.2.2.2.2
theorem dX13_init_366g : decode cX13_init 366 = .ok (.putfield 122, 3) ∧ decode cX13_init 369 = .ok (.aload_n 0, 1) ∧ decode cX13_init 370 = .ok (.bipush 80, 2) ∧ decode cX13_init 372 = .ok (.newarray .int, 2) ∧ decode cX13_init 374 = .ok (.putfield 126, 3) ∧ decode cX13_init 377 = .ok (.aload_n 0, 1) ∧ decode cX13_init 378 = .ok (.bipush 80, 2) ∧ decode cX13_init 380 = .ok (.newarray .int, 2) ∧ decode cX13_init 382 = .ok (.putfield 129, 3) ∧ decode cX13_init 385 = .ok (.aload_n 0, 1) ∧ decode cX13_init 386 = .ok (.bipush 80, 2) ∧ decode cX13_init 388 = .ok (.newarray .int, 2) ∧ decode cX13_init 390 = .ok (.putfield 132, 3) ∧ decode cX13_init 393 = .ok (.aload_n 0, 1) ∧ decode cX13_init 394 = .ok (.bipush 80, 2) ∧ decode cX13_init 396 = .ok (.newarray .int, 2) := by decide +kernel
theorem dX13_init_366 : decode cX13_init 366 = .ok (.putfield 122, 3) := dX13_init_366g.1
theorem dX13_init_369 : decode cX13_init 369 = .ok (.aload_n 0, 1) := dX13_init_366g.2.1
theorem dX13_init_370 : decode cX13_init 370 = .ok (.bipush 80, 2) := dX13_init_366g.2.2.1
theorem dX13_init_372 : decode cX13_init 372 = .ok (.newarray .int, 2) := dX13_init_366g.2.2.2.1
theorem dX13_init_374 : decode cX13_init 374 = .ok (.putfield 126, 3) := dX13_init_366g.2.2.2.2.1
theorem dX13_init_377 : decode cX13_init 377 = .ok (.aload_n 0, 1) := dX13_init_366g.2.2.2.2.2.1
theorem dX13_init_378 : decode cX13_init 378 = .ok (.bipush 80, 2) := dX13_init_366g.2.2.2.2.2.2.1
theorem dX13_init_380 : decode cX13_init 380 = .ok (.newarray .int, 2) := dX13_init_366g.2.2.2.2.2.2.2.1
theorem dX13_init_382 : decode cX13_init 382 = .ok (.putfield 129, 3) := dX13_init_366g.2.2.2.2.2.2.2.2.1
theorem dX13_init_385 : decode cX13_init 385 = .ok (.aload_n 0, 1) := dX13_init_366g.2.2.2.2.2.2.2.2.2.1
theorem dX13_init_386 : decode cX13_init 386 = .ok (.bipush 80, 2) := dX13_init_366g.2.2.2.2.2.2.2.2.2.2.1
theorem dX13_init_388 : decode cX13_init 388 = .ok (.newarray .int, 2) := dX13_init_366g.2.2.2.2.2.2.2.2.2.2.2.1
theorem dX13_init_390 : decode cX13_init 390 = .ok (.putfield 132, 3) := dX13_init_366g.2.2.2.2.2.2.2.2.2.2.2.2.1
theorem dX13_init_393 : decode cX13_init 393 = .ok (.aload_n 0, 1) := dX13_init_366g.2.2.2.2.2.2.2.2.2.2.2.2.2.1
theorem dX13_init_394 : decode cX13_init 394 = .ok (.bipush 80, 2) := dX13_init_366g.2.2.2.2.2.2.2.2.2.2.2.2.2.2.1
theorem dX13_init_396 : decode cX13_init 396 = .ok (.newarray .int, 2) := dX13_init_366g.2.2.2.2.2.2.2.2.2.2.2.2.2.2.2
theorem dX13_init_398g : decode cX13_init 398 = .ok (.putfield 135, 3) ∧ decode cX13_init 401 = .ok (.aload_n 0, 1) ∧ decode cX13_init 402 = .ok (.bipush 80, 2) ∧ decode cX13_init 404 = .ok (.newarray .int, 2) ∧ decode cX13_init 406 = .ok (.putfield 138, 3) ∧ decode cX13_init 409 = .ok (.aload_n 0, 1) ∧ decode cX13_init 410 = .ok (.bipush 80, 2) ∧ decode cX13_init 412 = .ok (.newarray .int, 2) ∧ decode cX13_init 414 = .ok (.putfield 141, 3) ∧ decode cX13_init 417 = .ok (.aload_n 0, 1) ∧ decode cX13_init 418 = .ok (.bipush 80, 2) ∧ decode cX13_init 420 = .ok (.newarray .int, 2) ∧ decode cX13_init 422 = .ok (.putfield 144, 3) ∧ decode cX13_init 425 = .ok (.aload_n 0, 1) ∧ decode cX13_init 426 = .ok (.bipush 80, 2) ∧ decode cX13_init 428 = .ok (.newarray .int, 2) := by decide +kernel
theorem dX13_init_398 : decode cX13_init 398 = .ok (.putfield 135, 3) := dX13_init_398g.1
theorem dX13_init_401 : decode cX13_init 401 = .ok (.aload_n 0, 1) := dX13_init_398g.2.1
theorem dX13_init_402 : decode cX13_init 402 = .ok (.bipush 80, 2) := dX13_init_398g.2.2.1
theorem dX13_init_404 : decode cX13_init 404 = .ok (.newarray .int, 2) := dX13_init_398g.2.2.2.1
theorem dX13_init_406 : decode cX13_init 406 = .ok (.putfield 138, 3) := dX13_init_398g.2.2.2.2.1
theorem dX13_init_409 : decode cX13_init 409 = .ok (.aload_n 0, 1) := dX13_init_398g.2.2.2.2.2.1
theorem dX13_init_410 : decode cX13_init 410 = .ok (.bipush 80, 2) := dX13_init_398g.2.2.2.2.2.2.1
theorem dX13_init_412 : decode cX13_init 412 = .ok (.newarray .int, 2) := dX13_init_398g.2.2.2.2.2.2.2.1
theorem dX13_init_414 : decode cX13_init 414 = .ok (.putfield 141, 3) := dX13_init_398g.2.2.2.2.2.2.2.2.1
theorem dX13_init_417 : decode cX13_init 417 = .ok (.aload_n 0, 1) := dX13_init_398g.2.2.2.2.2.2.2.2.2.1
theorem dX13_init_418 : decode cX13_init 418 = .ok (.bipush 80, 2) := dX13_init_398g.2.2.2.2.2.2.2.2.2.2.1
theorem dX13_init_420 : decode cX13_init 420 = .ok (.newarray .int, 2) := dX13_init_398g.2.2.2.2.2.2.2.2.2.2.2.1
theorem dX13_init_422 : decode cX13_init 422 = .ok (.putfield 144, 3) := dX13_init_398g.2.2.2.2.2.2.2.2.2.2.2.2.1
theorem dX13_init_425 : decode cX13_init 425 = .ok (.aload_n 0, 1) := dX13_init_398g.2.2.2.2.2.2.2.2.2.2.2.2.2.1
theorem dX13_init_426 : decode cX13_init 426 = .ok (.bipush 80, 2) := dX13_init_398g.2.2.2.2.2.2.2.2.2.2.2.2.2.2.1
theorem dX13_init_428 : decode cX13_init 428 = .ok (.newarray .int, 2) := dX13_init_398g.2.2.2.2.2.2.2.2.2.2.2.2.2.2.2
theorem dX13_init_430g : decode cX13_init 430 = .ok (.putfield 147, 3) ∧ decode cX13_init 433 = .ok (.aload_n 0, 1) ∧ decode cX13_init 434 = .ok (.bipush 80, 2) ∧ decode cX13_init 436 = .ok (.newarray .long, 2) ∧ decode cX13_init 438 = .ok (.putfield 150, 3) ∧ decode cX13_init 441 = .ok (.aload_n 0, 1) ∧ decode cX13_init 442 = .ok (.sipush 960, 3) ∧ decode cX13_init 445 = .ok (.newarray .long, 2) ∧ decode cX13_init 447 = .ok (.putfield 153, 3) ∧ decode cX13_init 450 = .ok (.aload_n 0, 1) ∧ decode cX13_init 451 = .ok (.sipush 960, 3) ∧ decode cX13_init 454 = .ok (.newarray .int, 2) ∧ decode cX13_init 456 = .ok (.putfield 156, 3) ∧ decode cX13_init 459 = .ok (.aload_n 0, 1) ∧ decode cX13_init 460 = .ok (.sipush 960, 3) ∧ decode cX13_init 463 = .ok (.newarray .int, 2) := by decide +kernel
theorem dX13_init_430 : decode cX13_init 430 = .ok (.putfield 147, 3) := dX13_init_430g.1
theorem dX13_init_433 : decode cX13_init 433 = .ok (.aload_n 0, 1) := dX13_init_430g.2.1
theorem dX13_init_434 : decode cX13_init 434 = .ok (.bipush 80, 2) := dX13_init_430g.2.2.1
theorem dX13_init_436 : decode cX13_init 436 = .ok (.newarray .long, 2) := dX13_init_430g.2.2.2.1
theorem dX13_init_438 : decode cX13_init 438 = .ok (.putfield 150, 3) := dX13_init_430g.2.2.2.2.1
theorem dX13_init_441 : decode cX13_init 441 = .ok (.aload_n 0, 1) := dX13_init_430g.2.2.2.2.2.1
theorem dX13_init_442 : decode cX13_init 442 = .ok (.sipush 960, 3) := dX13_init_430g.2.2.2.2.2.2.1
theorem dX13_init_445 : decode cX13_init 445 = .ok (.newarray .long, 2) := dX13_init_430g.2.2.2.2.2.2.2.1
theorem dX13_init_447 : decode cX13_init 447 = .ok (.putfield 153, 3) := dX13_init_430g.2.2.2.2.2.2.2.2.1
theorem dX13_init_450 : decode cX13_init 450 = .ok (.aload_n 0, 1) := dX13_init_430g.2.2.2.2.2.2.2.2.2.1
theorem dX13_init_451 : decode cX13_init 451 = .ok (.sipush 960, 3) := dX13_init_430g.2.2.2.2.2.2.2.2.2.2.1
theorem dX13_init_454 : decode cX13_init 454 = .ok (.newarray .int, 2) := dX13_init_430g.2.2.2.2.2.2.2.2.2.2.2.1
theorem dX13_init_456 : decode cX13_init 456 = .ok (.putfield 156, 3) := dX13_init_430g.2.2.2.2.2.2.2.2.2.2.2.2.1
theorem dX13_init_459 : decode cX13_init 459 = .ok (.aload_n 0, 1) := dX13_init_430g.2.2.2.2.2.2.2.2.2.2.2.2.2.1
theorem dX13_init_460 : decode cX13_init 460 = .ok (.sipush 960, 3) := dX13_init_430g.2.2.2.2.2.2.2.2.2.2.2.2.2.2.1
theorem dX13_init_463 : decode cX13_init 463 = .ok (.newarray .int, 2) := dX13_init_430g.2.2.2.2.2.2.2.2.2.2.2.2.2.2.2
theorem dX13_init_465g : decode cX13_init 465 = .ok (.putfield 159, 3) ∧ decode cX13_init 468 = .ok (.aload_n 0, 1) ∧ decode cX13_init 469 = .ok (.sipush 2000, 3) ∧ decode cX13_init 472 = .ok (.newarray .byte, 2) ∧ decode cX13_init 474 = .ok (.putfield 162, 3) ∧ decode cX13_init 477 = .ok (.aload_n 0, 1) ∧ decode cX13_init 478 = .ok (.sipush 1920, 3) ∧ decode cX13_init 481 = .ok (.newarray .byte, 2) ∧ decode cX13_init 483 = .ok (.putfield 165, 3) ∧ decode cX13_init 486 = .ok (.aload_n 0, 1) ∧ decode cX13_init 487 = .ok (.bipush 80, 2) ∧ decode cX13_init 489 = .ok (.newarray .int, 2) ∧ decode cX13_init 491 = .ok (.putfield 168, 3) ∧ decode cX13_init 494 = .ok (.aload_n 0, 1) ∧ decode cX13_init 495 = .ok (.bipush 80, 2) ∧ decode cX13_init 497 = .ok (.newarray .int, 2) := by decide +kernel
theorem dX13_init_465 : decode cX13_init 465 = .ok (.putfield 159, 3) := dX13_init_465g.1
theorem dX13_init_468 : decode cX13_init 468 = .ok (.aload_n 0, 1) := dX13_init_465g.2.1
theorem dX13_init_469 : decode cX13_init 469 = .ok (.sipush 2000, 3) := dX13_init_465g.2.2.1
theorem dX13_init_472 : decode cX13_init 472 = .ok (.newarray .byte, 2) := dX13_init_465g.2.2.2.1
theorem dX13_init_474 : decode cX13_init 474 = .ok (.putfield 162, 3) := dX13_init_465g.2.2.2.2.1
theorem dX13_init_477 : decode cX13_init 477 = .ok (.aload_n 0, 1) := dX13_init_465g.2.2.2.2.2.1
theorem dX13_init_478 : decode cX13_init 478 = .ok (.sipush 1920, 3) := dX13_init_465g.2.2.2.2.2.2.1
theorem dX13_init_481 : decode cX13_init 481 = .ok (.newarray .byte, 2) := dX13_init_465g.2.2.2.2.2.2.2.1
theorem dX13_init_483 : decode cX13_init 483 = .ok (.putfield 165, 3) := dX13_init_465g.2.2.2.2.2.2.2.2.1
theorem dX13_init_486 : decode cX13_init 486 = .ok (.aload_n 0, 1) := dX13_init_465g.2.2.2.2.2.2.2.2.2.1
theorem dX13_init_487 : decode cX13_init 487 = .ok (.bipush 80, 2) := dX13_init_465g.2.2.2.2.2.2.2.2.2.2.1
theorem dX13_init_489 : decode cX13_init 489 = .ok (.newarray .int, 2) := dX13_init_465g.2.2.2.2.2.2.2.2.2.2.2.1
theorem dX13_init_491 : decode cX13_init 491 = .ok (.putfield 168, 3) := dX13_init_465g.2.2.2.2.2.2.2.2.2.2.2.2.1
theorem dX13_init_494 : decode cX13_init 494 = .ok (.aload_n 0, 1) := dX13_init_465g.2.2.2.2.2.2.2.2.2.2.2.2.2.1
theorem dX13_init_495 : decode cX13_init 495 = .ok (.bipush 80, 2) := dX13_init_465g.2.2.2.2.2.2.2.2.2.2.2.2.2.2.1
theorem dX13_init_497 : decode cX13_init 497 = .ok (.newarray .int, 2) := dX13_init_465g.2.2.2.2.2.2.2.2.2.2.2.2.2.2.2
theorem dX13_init_499g : decode cX13_init 499 = .ok (.putfield 171, 3) ∧ decode cX13_init 502 = .ok (.aload_n 0, 1) ∧ decode cX13_init 503 = .ok (.bipush 80, 2) ∧ decode cX13_init 505 = .ok (.newarray .int, 2) ∧ decode cX13_init 507 = .ok (.putfield 174, 3) ∧ decode cX13_init 510 = .ok (.aload_n 0, 1) ∧ decode cX13_init 511 = .ok (.sipush 2080, 3) ∧ decode cX13_init 514 = .ok (.newarray .int, 2) ∧ decode cX13_init 516 = .ok (.putfield 177, 3) ∧ decode cX13_init 519 = .ok (.aload_n 0, 1) ∧ decode cX13_init 520 = .ok (.bipush 80, 2) ∧ decode cX13_init 522 = .ok (.newarray .int, 2) ∧ decode cX13_init 524 = .ok (.putfield 180, 3) ∧ decode cX13_init 527 = .ok (.aload_n 0, 1) ∧ decode cX13_init 528 = .ok (.sipush 2080, 3) ∧ decode cX13_init 531 = .ok (.newarray .int, 2) := by decide +kernel
theorem dX13_init_499 : decode cX13_init 499 = .ok (.putfield 171, 3) := dX13_init_499g.1
theorem dX13_init_502 : decode cX13_init 502 = .ok (.aload_n 0, 1) := dX13_init_499g.2.1
theorem dX13_init_503 : decode cX13_init 503 = .ok (.bipush 80, 2) := dX13_init_499g.2.2.1
theorem dX13_init_505 : decode cX13_init 505 = .ok (.newarray .int, 2) := dX13_init_499g.2.2.2.1
theorem dX13_init_507 : decode cX13_init 507 = .ok (.putfield 174, 3) := dX13_init_499g.2.2.2.2.1
theorem dX13_init_510 : decode cX13_init 510 = .ok (.aload_n 0, 1) := dX13_init_499g.2.2.2.2.2.1
theorem dX13_init_511 : decode cX13_init 511 = .ok (.sipush 2080, 3) := dX13_init_499g.2.2.2.2.2.2.1
theorem dX13_init_514 : decode cX13_init 514 = .ok (.newarray .int, 2) := dX13_init_499g.2.2.2.2.2.2.2.1
theorem dX13_init_516 : decode cX13_init 516 = .ok (.putfield 177, 3) := dX13_init_499g.2.2.2.2.2.2.2.2.1
theorem dX13_init_519 : decode cX13_init 519 = .ok (.aload_n 0, 1) := dX13_init_499g.2.2.2.2.2.2.2.2.2.1
theorem dX13_init_520 : decode cX13_init 520 = .ok (.bipush 80, 2) := dX13_init_499g.2.2.2.2.2.2.2.2.2.2.1
theorem dX13_init_522 : decode cX13_init 522 = .ok (.newarray .int, 2) := dX13_init_499g.2.2.2.2.2.2.2.2.2.2.2.1
theorem dX13_init_524 : decode cX13_init 524 = .ok (.putfield 180, 3) := dX13_init_499g.2.2.2.2.2.2.2.2.2.2.2.2.1
theorem dX13_init_527 : decode cX13_init 527 = .ok (.aload_n 0, 1) := dX13_init_499g.2.2.2.2.2.2.2.2.2.2.2.2.2.1
theorem dX13_init_528 : decode cX13_init 528 = .ok (.sipush 2080, 3) := dX13_init_499g.2.2.2.2.2.2.2.2.2.2.2.2.2.2.1
theorem dX13_init_531 : decode cX13_init 531 = .ok (.newarray .int, 2) := dX13_init_499g.2.2.2.2.2.2.2.2.2.2.2.2.2.2.2
theorem dX13_init_533g : decode cX13_init 533 = .ok (.putfield 183, 3) ∧ decode cX13_init 536 = .ok (.aload_n 0, 1) ∧ decode cX13_init 537 = .ok (.iconst (-1), 1) ∧ decode cX13_init 538 = .ok (.putfield 186, 3) ∧ decode cX13_init 541 = .ok (.aload_n 0, 1) ∧ decode cX13_init 542 = .ok (.bipush 60, 2) ∧ decode cX13_init 544 = .ok (.newarray .int, 2) ∧ decode cX13_init 546 = .ok (.putfield 189, 3) ∧ decode cX13_init 549 = .ok (.aload_n 0, 1) ∧ decode cX13_init 550 = .ok (.bipush 60, 2) ∧ decode cX13_init 552 = .ok (.newarray .int, 2) ∧ decode cX13_init 554 = .ok (.putfield 192, 3) ∧ decode cX13_init 557 = .ok (.aload_n 0, 1) ∧ decode cX13_init 558 = .ok (.sipush 400, 3) ∧ decode cX13_init 561 = .ok (.newarray .int, 2) ∧ decode cX13_init 563 = .ok (.putfield 195, 3) := by decide +kernel
theorem dX13_init_533 : decode cX13_init 533 = .ok (.putfield 183, 3) := dX13_init_533g.1
theorem dX13_init_536 : decode cX13_init 536 = .ok (.aload_n 0, 1) := dX13_init_533g.2.1
theorem dX13_init_537 : decode cX13_init 537 = .ok (.iconst (-1), 1) := dX13_init_533g.2.2.1
theorem dX13_init_538 : decode cX13_init 538 = .ok (.putfield 186, 3) := dX13_init_533g.2.2.2.1
theorem dX13_init_541 : decode cX13_init 541 = .ok (.aload_n 0, 1) := dX13_init_533g.2.2.2.2.1
theorem dX13_init_542 : decode cX13_init 542 = .ok (.bipush 60, 2) := dX13_init_533g.2.2.2.2.2.1
theorem dX13_init_544 : decode cX13_init 544 = .ok (.newarray .int, 2) := dX13_init_533g.2.2.2.2.2.2.1
theorem dX13_init_546 : decode cX13_init 546 = .ok (.putfield 189, 3) := dX13_init_533g.2.2.2.2.2.2.2.1
theorem dX13_init_549 : decode cX13_init 549 = .ok (.aload_n 0, 1) := dX13_init_533g.2.2.2.2.2.2.2.2.1
theorem dX13_init_550 : decode cX13_init 550 = .ok (.bipush 60, 2) := dX13_init_533g.2.2.2.2.2.2.2.2.2.1
theorem dX13_init_552 : decode cX13_init 552 = .ok (.newarray .int, 2) := dX13_init_533g.2.2.2.2.2.2.2.2.2.2.1
theorem dX13_init_554 : decode cX13_init 554 = .ok (.putfield 192, 3) := dX13_init_533g.2.2.2.2.2.2.2.2.2.2.2.1
theorem dX13_init_557 : decode cX13_init 557 = .ok (.aload_n 0, 1) := dX13_init_533g.2.2.2.2.2.2.2.2.2.2.2.2.1
theorem dX13_init_558 : decode cX13_init 558 = .ok (.sipush 400, 3) := dX13_init_533g.2.2.2.2.2.2.2.2.2.2.2.2.2.1
theorem dX13_init_561 : decode cX13_init 561 = .ok (.newarray .int, 2) := dX13_init_533g.2.2.2.2.2.2.2.2.2.2.2.2.2.2.1
theorem dX13_init_563 : decode cX13_init 563 = .ok (.putfield 195, 3) := dX13_init_533g.2.2.2.2.2.2.2.2.2.2.2.2.2.2.2
theorem dX13_init_566g : decode cX13_init 566 = .ok (.aload_n 0, 1) ∧ decode cX13_init 567 = .ok (.sipush 400, 3) ∧ decode cX13_init 570 = .ok (.newarray .int, 2) ∧ decode cX13_init 572 = .ok (.putfield 198, 3) ∧ decode cX13_init 575 = .ok (.aload_n 0, 1) ∧ decode cX13_init 576 = .ok (.sipush 400, 3) ∧ decode cX13_init 579 = .ok (.newarray .int, 2) ∧ decode cX13_init 581 = .ok (.putfield 201, 3) ∧ decode cX13_init 584 = .ok (.aload_n 0, 1) ∧ decode cX13_init 585 = .ok (.sipush 400, 3) ∧ decode cX13_init 588 = .ok (.newarray .int, 2) ∧ decode cX13_init 590 = .ok (.putfield 204, 3) ∧ decode cX13_init 593 = .ok (.aload_n 0, 1) ∧ decode cX13_init 594 = .ok (.bipush 80, 2) ∧ decode cX13_init 596 = .ok (.newarray .int, 2) ∧ decode cX13_init 598 = .ok (.putfield 207, 3) := by decide +kernel
theorem dX13_init_566 : decode cX13_init 566 = .ok (.aload_n 0, 1) := dX13_init_566g.1
theorem dX13_init_567 : decode cX13_init 567 = .ok (.sipush 400, 3) := dX13_init_566g.2.1
theorem dX13_init_570 : decode cX13_init 570 = .ok (.newarray .int, 2) := dX13_init_566g.2.2.1
theorem dX13_init_572 : decode cX13_init 572 = .ok (.putfield 198, 3) := dX13_init_566g.2.2.2.1
theorem dX13_init_575 : decode cX13_init 575 = .ok (.aload_n 0, 1) := dX13_init_566g.2.2.2.2.1
theorem dX13_init_576 : decode cX13_init 576 = .ok (.sipush 400, 3) := dX13_init_566g.2.2.2.2.2.1
theorem dX13_init_579 : decode cX13_init 579 = .ok (.newarray .int, 2) := dX13_init_566g.2.2.2.2.2.2.1
theorem dX13_init_581 : decode cX13_init 581 = .ok (.putfield 201, 3) := dX13_init_566g.2.2.2.2.2.2.2.1
theorem dX13_init_584 : decode cX13_init 584 = .ok (.aload_n 0, 1) := dX13_init_566g.2.2.2.2.2.2.2.2.1
theorem dX13_init_585 : decode cX13_init 585 = .ok (.sipush 400, 3) := dX13_init_566g.2.2.2.2.2.2.2.2.2.1
theorem dX13_init_588 : decode cX13_init 588 = .ok (.newarray .int, 2) := dX13_init_566g.2.2.2.2.2.2.2.2.2.2.1
theorem dX13_init_590 : decode cX13_init 590 = .ok (.putfield 204, 3) := dX13_init_566g.2.2.2.2.2.2.2.2.2.2.2.1
theorem dX13_init_593 : decode cX13_init 593 = .ok (.aload_n 0, 1) := dX13_init_566g.2.2.2.2.2.2.2.2.2.2.2.2.1
theorem dX13_init_594 : decode cX13_init 594 = .ok (.bipush 80, 2) := dX13_init_566g.2.2.2.2.2.2.2.2.2.2.2.2.2.1
theorem dX13_init_596 : decode cX13_init 596 = .ok (.newarray .int, 2) := dX13_init_566g.2.2.2.2.2.2.2.2.2.2.2.2.2.2.1
theorem dX13_init_598 : decode cX13_init 598 = .ok (.putfield 207, 3) := dX13_init_566g.2.2.2.2.2.2.2.2.2.2.2.2.2.2.2
theorem dX13_init_601g : decode cX13_init 601 = .ok (.aload_n 0, 1) ∧ decode cX13_init 602 = .ok (.bipush 80, 2) ∧ decode cX13_init 604 = .ok (.newarray .int, 2) ∧ decode cX13_init 606 = .ok (.putfield 210, 3) ∧ decode cX13_init 609 = .ok (.aload_n 0, 1) ∧ decode cX13_init 610 = .ok (.bipush 80, 2) ∧ decode cX13_init 612 = .ok (.newarray .boolean, 2) ∧ decode cX13_init 614 = .ok (.putfield 213, 3) ∧ decode cX13_init 617 = .ok (.aload_n 0, 1) ∧ decode cX13_init 618 = .ok (.bipush 80, 2) ∧ decode cX13_init 620 = .ok (.newarray .boolean, 2) ∧ decode cX13_init 622 = .ok (.putfield 216, 3) ∧ decode cX13_init 625 = .ok (.aload_n 0, 1) ∧ decode cX13_init 626 = .ok (.bipush 81, 2) ∧ decode cX13_init 628 = .ok (.newarray .int, 2) ∧ decode cX13_init 630 = .ok (.putfield 219, 3) := by decide +kernel
theorem dX13_init_601 : decode cX13_init 601 = .ok (.aload_n 0, 1) := dX13_init_601g.1
theorem dX13_init_602 : decode cX13_init 602 = .ok (.bipush 80, 2) := dX13_init_601g.2.1
theorem dX13_init_604 : decode cX13_init 604 = .ok (.newarray .int, 2) := dX13_init_601g.2.2.1
theorem dX13_init_606 : decode cX13_init 606 = .ok (.putfield 210, 3) := dX13_init_601g.2.2.2.1
theorem dX13_init_609 : decode cX13_init 609 = .ok (.aload_n 0, 1) := dX13_init_601g.2.2.2.2.1
theorem dX13_init_610 : decode cX13_init 610 = .ok (.bipush 80, 2) := dX13_init_601g.2.2.2.2.2.1
theorem dX13_init_612 : decode cX13_init 612 = .ok (.newarray .boolean, 2) := dX13_init_601g.2.2.2.2.2.2.1
theorem dX13_init_614 : decode cX13_init 614 = .ok (.putfield 213, 3) := dX13_init_601g.2.2.2.2.2.2.2.1
theorem dX13_init_617 : decode cX13_init 617 = .ok (.aload_n 0, 1) := dX13_init_601g.2.2.2.2.2.2.2.2.1
theorem dX13_init_618 : decode cX13_init 618 = .ok (.bipush 80, 2) := dX13_init_601g.2.2.2.2.2.2.2.2.2.1
theorem dX13_init_620 : decode cX13_init 620 = .ok (.newarray .boolean, 2) := dX13_init_601g.2.2.2.2.2.2.2.2.2.2.1
theorem dX13_init_622 : decode cX13_init 622 = .ok (.putfield 216, 3) := dX13_init_601g.2.2.2.2.2.2.2.2.2.2.2.1
theorem dX13_init_625 : decode cX13_init 625 = .ok (.aload_n 0, 1) := dX13_init_601g.2.2.2.2.2.2.2.2.2.2.2.2.1
theorem dX13_init_626 : decode cX13_init 626 = .ok (.bipush 81, 2) := dX13_init_601g.2.2.2.2.2.2.2.2.2.2.2.2.2.1
theorem dX13_init_628 : decode cX13_init 628 = .ok (.newarray .int, 2) := dX13_init_601g.2.2.2.2.2.2.2.2.2.2.2.2.2.2.1
theorem dX13_init_630 : decode cX13_init 630 = .ok (.putfield 219, 3) := dX13_init_601g.2.2.2.2.2.2.2.2.2.2.2.2.2.2.2
theorem dX13_init_633g : decode cX13_init 633 = .ok (.aload_n 0, 1) ∧ decode cX13_init 634 = .ok (.bipush 81, 2) ∧ decode cX13_init 636 = .ok (.newarray .int, 2) ∧ decode cX13_init 638 = .ok (.putfield 222, 3) ∧ decode cX13_init 641 = .ok (.aload_n 0, 1) ∧ decode cX13_init 642 = .ok (.bipush 81, 2) ∧ decode cX13_init 644 = .ok (.newarray .int, 2) ∧ decode cX13_init 646 = .ok (.putfield 225, 3) ∧ decode cX13_init 649 = .ok (.aload_n 0, 1) ∧ decode cX13_init 650 = .ok (.bipush 81, 2) ∧ decode cX13_init 652 = .ok (.newarray .int, 2) ∧ decode cX13_init 654 = .ok (.putfield 228, 3) ∧ decode cX13_init 657 = .ok (.aload_n 0, 1) ∧ decode cX13_init 658 = .ok (.bipush 81, 2) ∧ decode cX13_init 660 = .ok (.newarray .int, 2) ∧ decode cX13_init 662 = .ok (.putfield 231, 3) := by decide +kernel
theorem dX13_init_633 : decode cX13_init 633 = .ok (.aload_n 0, 1) := dX13_init_633g.1
theorem dX13_init_634 : decode cX13_init 634 = .ok (.bipush 81, 2) := dX13_init_633g.2.1
theorem dX13_init_636 : decode cX13_init 636 = .ok (.newarray .int, 2) := dX13_init_633g.2.2.1
theorem dX13_init_638 : decode cX13_init 638 = .ok (.putfield 222, 3) := dX13_init_633g.2.2.2.1
theorem dX13_init_641 : decode cX13_init 641 = .ok (.aload_n 0, 1) := dX13_init_633g.2.2.2.2.1
theorem dX13_init_642 : decode cX13_init 642 = .ok (.bipush 81, 2) := dX13_init_633g.2.2.2.2.2.1
theorem dX13_init_644 : decode cX13_init 644 = .ok (.newarray .int, 2) := dX13_init_633g.2.2.2.2.2.2.1
theorem dX13_init_646 : decode cX13_init 646 = .ok (.putfield 225, 3) := dX13_init_633g.2.2.2.2.2.2.2.1
theorem dX13_init_649 : decode cX13_init 649 = .ok (.aload_n 0, 1) := dX13_init_633g.2.2.2.2.2.2.2.2.1
theorem dX13_init_650 : decode cX13_init 650 = .ok (.bipush 81, 2) := dX13_init_633g.2.2.2.2.2.2.2.2.2.1
theorem dX13_init_652 : decode cX13_init 652 = .ok (.newarray .int, 2) := dX13_init_633g.2.2.2.2.2.2.2.2.2.2.1
theorem dX13_init_654 : decode cX13_init 654 = .ok (.putfield 228, 3) := dX13_init_633g.2.2.2.2.2.2.2.2.2.2.2.1
theorem dX13_init_657 : decode cX13_init 657 = .ok (.aload_n 0, 1) := dX13_init_633g.2.2.2.2.2.2.2.2.2.2.2.2.1
theorem dX13_init_658 : decode cX13_init 658 = .ok (.bipush 81, 2) := dX13_init_633g.2.2.2.2.2.2.2.2.2.2.2.2.2.1
theorem dX13_init_660 : decode cX13_init 660 = .ok (.newarray .int, 2) := dX13_init_633g.2.2.2.2.2.2.2.2.2.2.2.2.2.2.1
theorem dX13_init_662 : decode cX13_init 662 = .ok (.putfield 231, 3) := dX13_init_633g.2.2.2.2.2.2.2.2.2.2.2.2.2.2.2
theorem dX13_init_665g : decode cX13_init 665 = .ok (.aload_n 0, 1) ∧ decode cX13_init 666 = .ok (.bipush 81, 2) ∧ decode cX13_init 668 = .ok (.newarray .int, 2) ∧ decode cX13_init 670 = .ok (.putfield 234, 3) ∧ decode cX13_init 673 = .ok (.aload_n 0, 1) ∧ decode cX13_init 674 = .ok (.sipush 405, 3) ∧ decode cX13_init 677 = .ok (.newarray .int, 2) ∧ decode cX13_init 679 = .ok (.putfield 237, 3) ∧ decode cX13_init 682 = .ok (.aload_n 0, 1) ∧ decode cX13_init 683 = .ok (.sipush 405, 3) ∧ decode cX13_init 686 = .ok (.newarray .int, 2) ∧ decode cX13_init 688 = .ok (.putfield 240, 3) ∧ decode cX13_init 691 = .ok (.aload_n 0, 1) ∧ decode cX13_init 692 = .ok (.sipush 2430, 3) ∧ decode cX13_init 695 = .ok (.newarray .int, 2) ∧ decode cX13_init 697 = .ok (.putfield 243, 3) := by decide +kernel
theorem dX13_init_665 : decode cX13_init 665 = .ok (.aload_n 0, 1) := dX13_init_665g.1
theorem dX13_init_666 : decode cX13_init 666 = .ok (.bipush 81, 2) := dX13_init_665g.2.1
theorem dX13_init_668 : decode cX13_init 668 = .ok (.newarray .int, 2) := dX13_init_665g.2.2.1
theorem dX13_init_670 : decode cX13_init 670 = .ok (.putfield 234, 3) := dX13_init_665g.2.2.2.1
theorem dX13_init_673 : decode cX13_init 673 = .ok (.aload_n 0, 1) := dX13_init_665g.2.2.2.2.1
theorem dX13_init_674 : decode cX13_init 674 = .ok (.sipush 405, 3) := dX13_init_665g.2.2.2.2.2.1
theorem dX13_init_677 : decode cX13_init 677 = .ok (.newarray .int, 2) := dX13_init_665g.2.2.2.2.2.2.1
theorem dX13_init_679 : decode cX13_init 679 = .ok (.putfield 237, 3) := dX13_init_665g.2.2.2.2.2.2.2.1
theorem dX13_init_682 : decode cX13_init 682 = .ok (.aload_n 0, 1) := dX13_init_665g.2.2.2.2.2.2.2.2.1
theorem dX13_init_683 : decode cX13_init 683 = .ok (.sipush 405, 3) := dX13_init_665g.2.2.2.2.2.2.2.2.2.1
theorem dX13_init_686 : decode cX13_init 686 = .ok (.newarray .int, 2) := dX13_init_665g.2.2.2.2.2.2.2.2.2.2.1
theorem dX13_init_688 : decode cX13_init 688 = .ok (.putfield 240, 3) := dX13_init_665g.2.2.2.2.2.2.2.2.2.2.2.1
theorem dX13_init_691 : decode cX13_init 691 = .ok (.aload_n 0, 1) := dX13_init_665g.2.2.2.2.2.2.2.2.2.2.2.2.1
theorem dX13_init_692 : decode cX13_init 692 = .ok (.sipush 2430, 3) := dX13_init_665g.2.2.2.2.2.2.2.2.2.2.2.2.2.1
theorem dX13_init_695 : decode cX13_init 695 = .ok (.newarray .int, 2) := dX13_init_665g.2.2.2.2.2.2.2.2.2.2.2.2.2.2.1
theorem dX13_init_697 : decode cX13_init 697 = .ok (.putfield 243, 3) := dX13_init_665g.2.2.2.2.2.2.2.2.2.2.2.2.2.2.2
theorem dX13_init_700g : decode cX13_init 700 = .ok (.aload_n 0, 1) ∧ decode cX13_init 701 = .ok (.sipush 2430, 3) ∧ decode cX13_init 704 = .ok (.newarray .int, 2) ∧ decode cX13_init 706 = .ok (.putfield 246, 3) ∧ decode cX13_init 709 = .ok (.aload_n 0, 1) ∧ decode cX13_init 710 = .ok (.iconst 4, 1) ∧ decode cX13_init 711 = .ok (.newarray .int, 2) ∧ decode cX13_init 713 = .ok (.putfield 249, 3) ∧ decode cX13_init 716 = .ok (.iconst 0, 1) ∧ decode cX13_init 717 = .ok (.istore_n 1, 1) ∧ decode cX13_init 718 = .ok (.iload_n 1, 1) ∧ decode cX13_init 719 = .ok (.bipush 8, 2) ∧ decode cX13_init 721 = .ok (.if_icmp .ge 16, 3) ∧ decode cX13_init 724 = .ok (.aload_n 0, 1) ∧ decode cX13_init 725 = .ok (.getfield 78, 3) ∧ decode cX13_init 728 = .ok (.iload_n 1, 1) := by decide +kernel
theorem dX13_init_700 : decode cX13_init 700 = .ok (.aload_n 0, 1) := dX13_init_700g.1
theorem dX13_init_701 : decode cX13_init 701 = .ok (.sipush 2430, 3) := dX13_init_700g.2.1
theorem dX13_init_704 : decode cX13_init 704 = .ok (.newarray .int, 2) := dX13_init_700g.2.2.1
theorem dX13_init_706 : decode cX13_init 706 = .ok (.putfield 246, 3) := dX13_init_700g.2.2.2.1
theorem dX13_init_709 : decode cX13_init 709 = .ok (.aload_n 0, 1) := dX13_init_700g.2.2.2.2.1
theorem dX13_init_710 : decode cX13_init 710 = .ok (.iconst 4, 1) := dX13_init_700g.2.2.2.2.2.1
theorem dX13_init_711 : decode cX13_init 711 = .ok (.newarray .int, 2) := dX13_init_700g.2.2.2.2.2.2.1
theorem dX13_init_713 : decode cX13_init 713 = .ok (.putfield 249, 3) := dX13_init_700g.2.2.2.2.2.2.2.1
theorem dX13_init_716 : decode cX13_init 716 = .ok (.iconst 0, 1) := dX13_init_700g.2.2.2.2.2.2.2.2.1
theorem dX13_init_717 : decode cX13_init 717 = .ok (.istore_n 1, 1) := dX13_init_700g.2.2.2.2.2.2.2.2.2.1
theorem dX13_init_718 : decode cX13_init 718 = .ok (.iload_n 1, 1) := dX13_init_700g.2.2.2.2.2.2.2.2.2.2.1
theorem dX13_init_719 : decode cX13_init 719 = .ok (.bipush 8, 2) := dX13_init_700g.2.2.2.2.2.2.2.2.2.2.2.1
theorem dX13_init_721 : decode cX13_init 721 = .ok (.if_icmp .ge 16, 3) := dX13_init_700g.2.2.2.2.2.2.2.2.2.2.2.2.1
theorem dX13_init_724 : decode cX13_init 724 = .ok (.aload_n 0, 1) := dX13_init_700g.2.2.2.2.2.2.2.2.2.2.2.2.2.1
theorem dX13_init_725 : decode cX13_init 725 = .ok (.getfield 78, 3) := dX13_init_700g.2.2.2.2.2.2.2.2.2.2.2.2.2.2.1
theorem dX13_init_728 : decode cX13_init 728 = .ok (.iload_n 1, 1) := dX13_init_700g.2.2.2.2.2.2.2.2.2.2.2.2.2.2.2
theorem dX13_init_729g : decode cX13_init 729 = .ok (.iconst (-1), 1) ∧ decode cX13_init 730 = .ok (.iastore, 1) ∧ decode cX13_init 731 = .ok (.iinc 1 1, 3) ∧ decode cX13_init 734 = .ok (.goto (-16), 3) ∧ decode cX13_init 737 = .ok (.return_, 1) := by decide +kernel
theorem dX13_init_729 : decode cX13_init 729 = .ok (.iconst (-1), 1) := dX13_init_729g.1
theorem dX13_init_730 : decode cX13_init 730 = .ok (.iastore, 1) := dX13_init_729g.2.1
theorem dX13_init_731 : decode cX13_init 731 = .ok (.iinc 1 1, 3) := dX13_init_729g.2.2.1
theorem dX13_init_734 : decode cX13_init 734 = .ok (.goto (-16), 3) := dX13_init_729g.2.2.2.1
theorem dX13_init_737 : decode cX13_init 737 = .ok (.return_, 1) := dX13_init_729g.2.2.2.2

/-- what the reference's constructor leaves -/
def MNew (dC : Nat → ClassId) (dI : Nat → Nat → Nat) (h0 : Nat) (A : Nat → Prop) (u : (Nat → Nat) × (Nat → ClassId) × MSt) (t : State) : Prop := va_P (dC, dI) vwCl (mW h0 u.1 u.2.1 u.2.2.1 u.2.2.2.1 u.2.2.2.2) t.heap ∧ va_K (dC, dI) vwCl (mT u.2.1) t ∧ va_D A (mW h0 u.1 u.2.1 u.2.2.1 u.2.2.2.1 u.2.2.2.2)
def nv13 : List Value := (List.range 77).map (mfn 0 (fun _ => 0) (fun _ => 0))
set_option maxHeartbeats 8000000 in
set_option maxRecDepth 100000 in
theorem d_mctor (l : Launch) (dC : Nat → ClassId) (dI : Nat → Nat → Nat) (h0 sz : Nat) : Met l yX13_init wm_X13_init ({ frames := 3, cells := 60, slots := 21948, locals := 60 }) (va_Pc [.ref h0] (fun U => U.heap.size = sz ∧ va_P (dC, dI) vwCl [(h0, .inr (12, nv13))] U.heap ∧ va_K (dC, dI) vwCl [] U ∧ va_D (fun _ => True) [(h0, (.inr (12, nv13) : va_E))])) (va_Qv (fun u : (Nat → Nat) × (Nat → ClassId) × MSt => RI u.2.2.1 u.2.2.2.1 u.2.2.2.2 ∧ u.2.2.1 20 = 0 ∧ ENT (u.2.2.2.1 3) (u.2.2.2.1 4) (u.2.2.2.2 2) ∧ WRD7 (u.2.2.2.2 0) (u.2.2.2.2 1) ∧ IN8 u.2.2.1 u.2.2.2.1) (MNew dC dI h0 (va_A [(h0, .inr (12, nv13))] sz)) (va_A [(h0, .inr (12, nv13))] sz)) 60 21948 (va_A [(h0, .inr (12, nv13))] sz) := by
  refine Met.ofW (cc := cX13_init) (maxL := 2) (ret := none) (by decide) rfl ?_
  intro p e s m args below meth c s₁ B hml hv
  obtain ⟨rfl, hsz, hP, hK, hD0⟩ := hv
  have hx := B.exec
  have hb := B.bytes
  have hr := B.returns
  have hts := atoms_spec (ws := wm_X13_init) B.pre
  have htb := fun (w : Cond) (h : w ∈ tb) => hts w (List.mem_cons_of_mem _ h)
  have hown : s.vm.findClass RX13 = some m.cls := findClass_of_methodNamed B.named
  have hlocks := B.notSynchronized
  have hin : meth.name = "<init>" := (name_of_methodNamed B.named B.method).1
  subst hsz
  have hD := hD0.self (sz := s.heap.size)
  generalize hAe : va_A [(h0, (.inr (12, nv13) : va_E))] s.heap.size = A at hD ⊢
  have hA : ∀ q : Nat, s.heap.size ≤ q → A q := fun q h => by rw [← hAe]; exact Or.inr h
  have hS : va_S A s.heap s.heap [] := va_S.rf
  have hl := lv_entry ([.ref h0]) (n := 2) (Nat.le_of_ble_eq_true rfl)
  rw [lg_entry_eq]
  generalize (lg_sl ([.ref h0]) ++ List.replicate (2 - (lg_sl ([.ref h0])).length) Slot.unset).toArray = ls at hl ⊢
  have hl : lv_has ls 2 [(0, .ref h0)] := hl
  obtain ⟨ad_0, ead_0⟩ : ∃ z : Nat → Nat, z = fun _ => 0 := ⟨_, rfl⟩
  obtain ⟨cid_0, ecid_0⟩ : ∃ z : Nat → ClassId, z = fun _ => dC 0 := ⟨_, rfl⟩
  obtain ⟨sg_0, esg_0⟩ : ∃ z : Nat → Int32, z = fun _ => 0 := ⟨_, rfl⟩
  obtain ⟨gm_0, egm_0⟩ : ∃ z : Nat → Nat → Int32, z = fun _ _ => 0 := ⟨_, rfl⟩
  obtain ⟨lg_0, elg_0⟩ : ∃ z : Nat → Nat → Int64, z = fun _ _ => 0 := ⟨_, rfl⟩
  have hP : va_P (dC, dI) vwCl (mWx 0 h0 ad_0 cid_0 sg_0 gm_0 lg_0) s.heap := by rw [ead_0, esg_0]; exact hP
  have hD : va_D A (mWx 0 h0 ad_0 cid_0 sg_0 gm_0 lg_0) := by rw [ead_0, esg_0]; exact hD
  have hK : va_K (dC, dI) vwCl (mTx 0 cid_0) s := hK
  have hz_0 : ZR 0 gm_0 := fun j hj _ => by cases hj
  refine lv_aload_n hx hb dX13_init_0 rfl (lv_at hl 0 rfl) ?_
  refine W.objInit hx hb hown (htb _ kw_1000) (htb _ kw_181) (htb _ kw_1369) rfl (by rw [hml]; exact hl.1) rfl dX13_init_1 (Nat.le_of_ble_eq_true rfl) (Nat.le_of_ble_eq_true rfl) ?_
  refine W.eq (g2 := F0 m 4 ls []) rfl ?_
  refine lv_aload_n hx hb dX13_init_4 rfl (lv_at hl 0 rfl) ?_
  refine lv_bipush (v := 10) hx hb dX13_init_5 (by decide) ?_
  refine va_newa (D := (dC, dI)) (atype := .long) (ty := .long) (N' := 10) (a0 := (10, .inr (.inl (fun _ => 0)))) hx hb (htb _ kw_306) rfl hK hP hD hS hA (fun _ => rfl) (by decide) (by decide) (by decide) (Nat.le_of_ble_eq_true rfl) (Nat.le_of_ble_eq_true rfl) dX13_init_7 (fun q_1 cA_2 H hK hP hD hS => ?_)
  rw [mTx_s (n := 0) (k := 0) (ty := .long) rfl (by decide) rfl] at hK
  obtain ⟨cid_3, ecid_3⟩ : ∃ z, z = va_up cid_0 0 cA_2 := ⟨_, rfl⟩
  rw [← ecid_3] at hK
  refine lv_dup hx hb dX13_init_9 rfl ?_
  refine lv_iconst (v := 0) hx hb dX13_init_10 (by decide) ?_
  refine lv_ldc2 (own := RX13) (v := 422607679091) hx hb hown (htb _ kw_1001) dX13_init_11 ?_
  refine va_last (D := (dC, dI)) (f := (fun _ => 0)) hx hb hK hP hD hS _ 0 wOo (by rw [ecid_3]; rfl) (vp_in_iff.mpr ⟨by decide, by decide⟩) dX13_init_14 (fun H locs hP hD hS => ?_)
  rw [set_last] at hP hD
  obtain ⟨f_4, ef_4⟩ : ∃ z, z = vp_updL (fun _ => 0) (0 : Int32).toNatClampNeg 422607679091 := ⟨_, rfl⟩
  rw [← ef_4] at hP hD
  refine lv_dup hx hb dX13_init_15 rfl ?_
  refine lv_iconst (v := 1) hx hb dX13_init_16 (by decide) ?_
  refine lv_ldc2 (own := RX13) (v := 418430673267) hx hb hown (htb _ kw_1002) dX13_init_17 ?_
  refine va_last (D := (dC, dI)) (f := f_4) hx hb hK hP hD hS _ 0 wOo (by rw [ecid_3]; rfl) (vp_in_iff.mpr ⟨by decide, by decide⟩) dX13_init_20 (fun H locs hP hD hS => ?_)
  rw [set_last] at hP hD
  obtain ⟨f_5, ef_5⟩ : ∃ z, z = vp_updL f_4 (1 : Int32).toNatClampNeg 418430673267 := ⟨_, rfl⟩
  rw [← ef_5] at hP hD
  refine lv_dup hx hb dX13_init_21 rfl ?_
  refine lv_iconst (v := 2) hx hb dX13_init_22 (by decide) ?_
  refine lv_ldc2 (own := RX13) (v := 1650811246) hx hb hown (htb _ kw_1003) dX13_init_23 ?_
  refine va_last (D := (dC, dI)) (f := f_5) hx hb hK hP hD hS _ 0 wOo (by rw [ecid_3]; rfl) (vp_in_iff.mpr ⟨by decide, by decide⟩) dX13_init_26 (fun H locs hP hD hS => ?_)
  rw [set_last] at hP hD
  obtain ⟨f_6, ef_6⟩ : ∃ z, z = vp_updL f_5 (2 : Int32).toNatClampNeg 1650811246 := ⟨_, rfl⟩
  rw [← ef_6] at hP hD
  refine lv_dup hx hb dX13_init_27 rfl ?_
  refine lv_iconst (v := 3) hx hb dX13_init_28 (by decide) ?_
  refine lv_ldc2 (own := RX13) (v := 6386279) hx hb hown (htb _ kw_1004) dX13_init_29 ?_
  refine va_last (D := (dC, dI)) (f := f_6) hx hb hK hP hD hS _ 0 wOo (by rw [ecid_3]; rfl) (vp_in_iff.mpr ⟨by decide, by decide⟩) dX13_init_32 (fun H locs hP hD hS => ?_)
  rw [set_last] at hP hD
  obtain ⟨f_7, ef_7⟩ : ∃ z, z = vp_updL f_6 (3 : Int32).toNatClampNeg 6386279 := ⟨_, rfl⟩
  rw [← ef_7] at hP hD
  refine lv_dup hx hb dX13_init_33 rfl ?_
  refine lv_iconst (v := 4) hx hb dX13_init_34 (by decide) ?_
  refine lv_ldc2 (own := RX13) (v := 7562612) hx hb hown (htb _ kw_1005) dX13_init_35 ?_
  refine va_last (D := (dC, dI)) (f := f_7) hx hb hK hP hD hS _ 0 wOo (by rw [ecid_3]; rfl) (vp_in_iff.mpr ⟨by decide, by decide⟩) dX13_init_38 (fun H locs hP hD hS => ?_)
  rw [set_last] at hP hD
  obtain ⟨f_8, ef_8⟩ : ∃ z, z = vp_updL f_7 (4 : Int32).toNatClampNeg 7562612 := ⟨_, rfl⟩
  rw [← ef_8] at hP hD
  refine lv_dup hx hb dX13_init_39 rfl ?_
  refine lv_iconst (v := 5) hx hb dX13_init_40 (by decide) ?_
  refine lv_ldc2 (own := RX13) (v := 1818850164) hx hb hown (htb _ kw_1006) dX13_init_41 ?_
  refine va_last (D := (dC, dI)) (f := f_8) hx hb hK hP hD hS _ 0 wOo (by rw [ecid_3]; rfl) (vp_in_iff.mpr ⟨by decide, by decide⟩) dX13_init_44 (fun H locs hP hD hS => ?_)
  rw [set_last] at hP hD
  obtain ⟨f_9, ef_9⟩ : ∃ z, z = vp_updL f_8 (5 : Int32).toNatClampNeg 1818850164 := ⟨_, rfl⟩
  rw [← ef_9] at hP hD
  refine lv_dup hx hb dX13_init_45 rfl ?_
  refine lv_bipush (v := 6) hx hb dX13_init_46 (by decide) ?_
  refine lv_ldc2 (own := RX13) (v := 508440638821) hx hb hown (htb _ kw_1007) dX13_init_48 ?_
  refine va_last (D := (dC, dI)) (f := f_9) hx hb hK hP hD hS _ 0 wOo (by rw [ecid_3]; rfl) (vp_in_iff.mpr ⟨by decide, by decide⟩) dX13_init_51 (fun H locs hP hD hS => ?_)
  rw [set_last] at hP hD
  obtain ⟨f_10, ef_10⟩ : ∃ z, z = vp_updL f_9 (6 : Int32).toNatClampNeg 508440638821 := ⟨_, rfl⟩
  rw [← ef_10] at hP hD
  refine lv_dup hx hb dX13_init_52 rfl ?_
  refine lv_bipush (v := 7) hx hb dX13_init_53 (by decide) ?_
  refine lv_ldc2 (own := RX13) (v := 7497062) hx hb hown (htb _ kw_1008) dX13_init_55 ?_
  refine va_last (D := (dC, dI)) (f := f_10) hx hb hK hP hD hS _ 0 wOo (by rw [ecid_3]; rfl) (vp_in_iff.mpr ⟨by decide, by decide⟩) dX13_init_58 (fun H locs hP hD hS => ?_)
  rw [set_last] at hP hD
  obtain ⟨f_11, ef_11⟩ : ∃ z, z = vp_updL f_10 (7 : Int32).toNatClampNeg 7497062 := ⟨_, rfl⟩
  rw [← ef_11] at hP hD
  refine lv_dup hx hb dX13_init_59 rfl ?_
  refine lv_bipush (v := 8) hx hb dX13_init_60 (by decide) ?_
  refine lv_ldc2 (own := RX13) (v := 1853189228) hx hb hown (htb _ kw_1009) dX13_init_62 ?_
  refine va_last (D := (dC, dI)) (f := f_11) hx hb hK hP hD hS _ 0 wOo (by rw [ecid_3]; rfl) (vp_in_iff.mpr ⟨by decide, by decide⟩) dX13_init_65 (fun H locs hP hD hS => ?_)
  rw [set_last] at hP hD
  obtain ⟨f_12, ef_12⟩ : ∃ z, z = vp_updL f_11 (8 : Int32).toNatClampNeg 1853189228 := ⟨_, rfl⟩
  rw [← ef_12] at hP hD
  refine lv_dup hx hb dX13_init_66 rfl ?_
  refine lv_bipush (v := 9) hx hb dX13_init_67 (by decide) ?_
  refine lv_ldc2 (own := RX13) (v := 119225866483056) hx hb hown (htb _ kw_1010) dX13_init_69 ?_
  refine va_last (D := (dC, dI)) (f := f_12) hx hb hK hP hD hS _ 0 wOo (by rw [ecid_3]; rfl) (vp_in_iff.mpr ⟨by decide, by decide⟩) dX13_init_72 (fun H locs hP hD hS => ?_)
  rw [set_last] at hP hD
  obtain ⟨f_13, ef_13⟩ : ∃ z, z = vp_updL f_12 (9 : Int32).toNatClampNeg 119225866483056 := ⟨_, rfl⟩
  rw [← ef_13] at hP hD
  refine va_putF (D := (dC, dI)) (ci := 12) (v := .ref q_1) (ty := tyX13 0) (C := RX13) (T := TX13) (N := 77) (ref := "WiredBeansModel") hx hb htb inX13 tyX13 tyX13_ok nmX13 hown hK hP hD hS 0 rfl rfl 0 (by decide) (htb _ kw_1027) (fun _ h9 => h9) rfl hin rfl (tyX13_ok 0 (by decide)) rfl rfl (by rw [List.length_map, List.length_range]; decide) dX13_init_73 (fun H locs hP hD hS => ?_)
  have hP : va_P (dC, dI) vwCl ((mWx 0 h0 ad_0 cid_0 sg_0 gm_0 lg_0 ++ [(q_1, (.inl (cA_2, mLen 0, .inr (.inl f_13)) : va_E))]).set 0 (h0, .inr (12, ((List.range 77).map (mfn 0 ad_0 sg_0)).set 0 (.ref q_1)))) H := hP
  have hD : va_D A ((mWx 0 h0 ad_0 cid_0 sg_0 gm_0 lg_0 ++ [(q_1, (.inl (cA_2, mLen 0, .inr (.inl f_13)) : va_E))]).set 0 (h0, .inr (12, ((List.range 77).map (mfn 0 ad_0 sg_0)).set 0 (.ref q_1)))) := hD
  rw [mWx_l (n := 0) (k := 0) rfl (by decide) (by decide) (by decide) (by decide), ← ecid_3] at hP hD
  obtain ⟨ad_14, ead_14⟩ : ∃ z, z = va_up ad_0 0 q_1 := ⟨_, rfl⟩
  rw [← ead_14] at hP hD
  obtain ⟨lg_16, elg_16⟩ : ∃ z, z = va_up lg_0 0 f_13 := ⟨_, rfl⟩
  rw [← elg_16] at hP hD
  have hz_15 : ZR 1 gm_0 := ZR_n (k := 0) rfl hz_0 (by decide) (fun _ _ => rfl)
  have hP : va_P (dC, dI) vwCl (mWx 1 h0 ad_14 cid_3 sg_0 gm_0 lg_16) H := hP
  have hD : va_D A (mWx 1 h0 ad_14 cid_3 sg_0 gm_0 lg_16) := hD
  refine W.widen (k := 1) (n := 10) (Nat.le_of_ble_eq_true rfl) (Nat.le_of_ble_eq_true rfl) ?_
  refine lv_aload_n hx hb dX13_init_76 rfl (lv_at hl 0 rfl) ?_
  refine lv_bipush (v := 11) hx hb dX13_init_77 (by decide) ?_
  refine va_newa (D := (dC, dI)) (atype := .long) (ty := .long) (N' := 11) (a0 := (11, .inr (.inl (fun _ => 0)))) hx hb (htb _ kw_306) rfl hK hP hD hS hA (fun _ => rfl) (by decide) (by decide) (by decide) (Nat.le_of_ble_eq_true rfl) (Nat.le_of_ble_eq_true rfl) dX13_init_79 (fun q_17 cA_18 H hK hP hD hS => ?_)
  rw [mTx_s (n := 1) (k := 1) (ty := .long) rfl (by decide) rfl] at hK
  obtain ⟨cid_19, ecid_19⟩ : ∃ z, z = va_up cid_3 1 cA_18 := ⟨_, rfl⟩
  rw [← ecid_19] at hK
  refine lv_dup hx hb dX13_init_81 rfl ?_
  refine lv_iconst (v := 0) hx hb dX13_init_82 (by decide) ?_
  refine lv_ldc2 (own := RX13) (v := 7955827) hx hb hown (htb _ kw_1011) dX13_init_83 ?_
  refine va_last (D := (dC, dI)) (f := (fun _ => 0)) hx hb hK hP hD hS _ 1 wOo (by rw [ecid_19]; rfl) (vp_in_iff.mpr ⟨by decide, by decide⟩) dX13_init_86 (fun H locs hP hD hS => ?_)
  rw [set_last] at hP hD
  obtain ⟨f_20, ef_20⟩ : ∃ z, z = vp_updL (fun _ => 0) (0 : Int32).toNatClampNeg 7955827 := ⟨_, rfl⟩
  rw [← ef_20] at hP hD
  refine lv_dup hx hb dX13_init_87 rfl ?_
  refine lv_iconst (v := 1) hx hb dX13_init_88 (by decide) ?_
  refine lv_ldc2 (own := RX13) (v := 28271) hx hb hown (htb _ kw_1012) dX13_init_89 ?_
  refine va_last (D := (dC, dI)) (f := f_20) hx hb hK hP hD hS _ 1 wOo (by rw [ecid_19]; rfl) (vp_in_iff.mpr ⟨by decide, by decide⟩) dX13_init_92 (fun H locs hP hD hS => ?_)
  rw [set_last] at hP hD
  obtain ⟨f_21, ef_21⟩ : ∃ z, z = vp_updL f_20 (1 : Int32).toNatClampNeg 28271 := ⟨_, rfl⟩
  rw [← ef_21] at hP hD
  refine lv_dup hx hb dX13_init_93 rfl ?_
  refine lv_iconst (v := 2) hx hb dX13_init_94 (by decide) ?_
  refine lv_ldc2 (own := RX13) (v := 7302757) hx hb hown (htb _ kw_1013) dX13_init_95 ?_
  refine va_last (D := (dC, dI)) (f := f_21) hx hb hK hP hD hS _ 1 wOo (by rw [ecid_19]; rfl) (vp_in_iff.mpr ⟨by decide, by decide⟩) dX13_init_98 (fun H locs hP hD hS => ?_)
  rw [set_last] at hP hD
  obtain ⟨f_22, ef_22⟩ : ∃ z, z = vp_updL f_21 (2 : Int32).toNatClampNeg 7302757 := ⟨_, rfl⟩
  rw [← ef_22] at hP hD
  refine lv_dup hx hb dX13_init_99 rfl ?_
  refine lv_iconst (v := 3) hx hb dX13_init_100 (by decide) ?_
  refine lv_ldc2 (own := RX13) (v := 1835101817) hx hb hown (htb _ kw_1014) dX13_init_101 ?_
  refine va_last (D := (dC, dI)) (f := f_22) hx hb hK hP hD hS _ 1 wOo (by rw [ecid_19]; rfl) (vp_in_iff.mpr ⟨by decide, by decide⟩) dX13_init_104 (fun H locs hP hD hS => ?_)
  rw [set_last] at hP hD
  obtain ⟨f_23, ef_23⟩ : ∃ z, z = vp_updL f_22 (3 : Int32).toNatClampNeg 1835101817 := ⟨_, rfl⟩
  rw [← ef_23] at hP hD
  refine lv_dup hx hb dX13_init_105 rfl ?_
  refine lv_iconst (v := 4) hx hb dX13_init_106 (by decide) ?_
  refine lv_ldc2 (own := RX13) (v := 6909556) hx hb hown (htb _ kw_1015) dX13_init_107 ?_
  refine va_last (D := (dC, dI)) (f := f_23) hx hb hK hP hD hS _ 1 wOo (by rw [ecid_19]; rfl) (vp_in_iff.mpr ⟨by decide, by decide⟩) dX13_init_110 (fun H locs hP hD hS => ?_)
  rw [set_last] at hP hD
  obtain ⟨f_24, ef_24⟩ : ∃ z, z = vp_updL f_23 (4 : Int32).toNatClampNeg 6909556 := ⟨_, rfl⟩
  rw [← ef_24] at hP hD
  refine lv_dup hx hb dX13_init_111 rfl ?_
  refine lv_iconst (v := 5) hx hb dX13_init_112 (by decide) ?_
  refine lv_ldc2 (own := RX13) (v := 500136506472) hx hb hown (htb _ kw_1016) dX13_init_113 ?_
  refine va_last (D := (dC, dI)) (f := f_24) hx hb hK hP hD hS _ 1 wOo (by rw [ecid_19]; rfl) (vp_in_iff.mpr ⟨by decide, by decide⟩) dX13_init_116 (fun H locs hP hD hS => ?_)
  rw [set_last] at hP hD
  obtain ⟨f_25, ef_25⟩ : ∃ z, z = vp_updL f_24 (5 : Int32).toNatClampNeg 500136506472 := ⟨_, rfl⟩
  rw [← ef_25] at hP hD
  refine lv_dup hx hb dX13_init_117 rfl ?_
  refine lv_bipush (v := 6) hx hb dX13_init_118 (by decide) ?_
  refine lv_ldc2 (own := RX13) (v := 1667785074) hx hb hown (htb _ kw_1017) dX13_init_120 ?_
  refine va_last (D := (dC, dI)) (f := f_25) hx hb hK hP hD hS _ 1 wOo (by rw [ecid_19]; rfl) (vp_in_iff.mpr ⟨by decide, by decide⟩) dX13_init_123 (fun H locs hP hD hS => ?_)
  rw [set_last] at hP hD
  obtain ⟨f_26, ef_26⟩ : ∃ z, z = vp_updL f_25 (6 : Int32).toNatClampNeg 1667785074 := ⟨_, rfl⟩
  rw [← ef_26] at hP hD
  refine lv_dup hx hb dX13_init_124 rfl ?_
  refine lv_bipush (v := 7) hx hb dX13_init_125 (by decide) ?_
  refine lv_ldc2 (own := RX13) (v := 1952807028) hx hb hown (htb _ kw_1018) dX13_init_127 ?_
  refine va_last (D := (dC, dI)) (f := f_26) hx hb hK hP hD hS _ 1 wOo (by rw [ecid_19]; rfl) (vp_in_iff.mpr ⟨by decide, by decide⟩) dX13_init_130 (fun H locs hP hD hS => ?_)
  rw [set_last] at hP hD
  obtain ⟨f_27, ef_27⟩ : ∃ z, z = vp_updL f_26 (7 : Int32).toNatClampNeg 1952807028 := ⟨_, rfl⟩
  rw [← ef_27] at hP hD
  refine lv_dup hx hb dX13_init_131 rfl ?_
  refine lv_bipush (v := 8) hx hb dX13_init_132 (by decide) ?_
  refine lv_ldc2 (own := RX13) (v := 7499639) hx hb hown (htb _ kw_1019) dX13_init_134 ?_
  refine va_last (D := (dC, dI)) (f := f_27) hx hb hK hP hD hS _ 1 wOo (by rw [ecid_19]; rfl) (vp_in_iff.mpr ⟨by decide, by decide⟩) dX13_init_137 (fun H locs hP hD hS => ?_)
  rw [set_last] at hP hD
  obtain ⟨f_28, ef_28⟩ : ∃ z, z = vp_updL f_27 (8 : Int32).toNatClampNeg 7499639 := ⟨_, rfl⟩
  rw [← ef_28] at hP hD
  refine lv_dup hx hb dX13_init_138 rfl ?_
  refine lv_bipush (v := 9) hx hb dX13_init_139 (by decide) ?_
  refine lv_ldc2 (own := RX13) (v := 1953658213) hx hb hown (htb _ kw_1020) dX13_init_141 ?_
  refine va_last (D := (dC, dI)) (f := f_28) hx hb hK hP hD hS _ 1 wOo (by rw [ecid_19]; rfl) (vp_in_iff.mpr ⟨by decide, by decide⟩) dX13_init_144 (fun H locs hP hD hS => ?_)
  rw [set_last] at hP hD
  obtain ⟨f_29, ef_29⟩ : ∃ z, z = vp_updL f_28 (9 : Int32).toNatClampNeg 1953658213 := ⟨_, rfl⟩
  rw [← ef_29] at hP hD
  refine lv_dup hx hb dX13_init_145 rfl ?_
  refine lv_bipush (v := 10) hx hb dX13_init_146 (by decide) ?_
  refine lv_ldc2 (own := RX13) (v := 439721161573) hx hb hown (htb _ kw_1021) dX13_init_148 ?_
  refine va_last (D := (dC, dI)) (f := f_29) hx hb hK hP hD hS _ 1 wOo (by rw [ecid_19]; rfl) (vp_in_iff.mpr ⟨by decide, by decide⟩) dX13_init_151 (fun H locs hP hD hS => ?_)
  rw [set_last] at hP hD
  obtain ⟨f_30, ef_30⟩ : ∃ z, z = vp_updL f_29 (10 : Int32).toNatClampNeg 439721161573 := ⟨_, rfl⟩
  rw [← ef_30] at hP hD
  refine va_putF (D := (dC, dI)) (ci := 12) (v := .ref q_17) (ty := tyX13 1) (C := RX13) (T := TX13) (N := 77) (ref := "WiredBeansModel") hx hb htb inX13 tyX13 tyX13_ok nmX13 hown hK hP hD hS 0 rfl rfl 1 (by decide) (htb _ kw_1028) (fun _ h9 => h9) rfl hin rfl (tyX13_ok 1 (by decide)) rfl rfl (by rw [List.length_map, List.length_range]; decide) dX13_init_152 (fun H locs hP hD hS => ?_)
  have hP : va_P (dC, dI) vwCl ((mWx 1 h0 ad_14 cid_3 sg_0 gm_0 lg_16 ++ [(q_17, (.inl (cA_18, mLen 1, .inr (.inl f_30)) : va_E))]).set 0 (h0, .inr (12, ((List.range 77).map (mfn 1 ad_14 sg_0)).set 1 (.ref q_17)))) H := hP
  have hD : va_D A ((mWx 1 h0 ad_14 cid_3 sg_0 gm_0 lg_16 ++ [(q_17, (.inl (cA_18, mLen 1, .inr (.inl f_30)) : va_E))]).set 0 (h0, .inr (12, ((List.range 77).map (mfn 1 ad_14 sg_0)).set 1 (.ref q_17)))) := hD
  rw [mWx_l (n := 1) (k := 1) rfl (by decide) (by decide) (by decide) (by decide), ← ecid_19] at hP hD
  obtain ⟨ad_31, ead_31⟩ : ∃ z, z = va_up ad_14 1 q_17 := ⟨_, rfl⟩
  rw [← ead_31] at hP hD
  obtain ⟨lg_33, elg_33⟩ : ∃ z, z = va_up lg_16 1 f_30 := ⟨_, rfl⟩
  rw [← elg_33] at hP hD
  have hz_32 : ZR 2 gm_0 := ZR_n (k := 1) rfl hz_15 (by decide) (fun _ _ => rfl)
  have hP : va_P (dC, dI) vwCl (mWx 2 h0 ad_31 cid_19 sg_0 gm_0 lg_33) H := hP
  have hD : va_D A (mWx 2 h0 ad_31 cid_19 sg_0 gm_0 lg_33) := hD
  refine W.widen (k := 2) (n := 21) (Nat.le_of_ble_eq_true rfl) (Nat.le_of_ble_eq_true rfl) ?_
  refine lv_aload_n hx hb dX13_init_155 rfl (lv_at hl 0 rfl) ?_
  refine lv_iconst (v := 5) hx hb dX13_init_156 (by decide) ?_
  refine va_newa (D := (dC, dI)) (atype := .long) (ty := .long) (N' := 5) (a0 := (5, .inr (.inl (fun _ => 0)))) hx hb (htb _ kw_306) rfl hK hP hD hS hA (fun _ => rfl) (by decide) (by decide) (by decide) (Nat.le_of_ble_eq_true rfl) (Nat.le_of_ble_eq_true rfl) dX13_init_157 (fun q_34 cA_35 H hK hP hD hS => ?_)
  rw [mTx_s (n := 2) (k := 2) (ty := .long) rfl (by decide) rfl] at hK
  obtain ⟨cid_36, ecid_36⟩ : ∃ z, z = va_up cid_19 2 cA_35 := ⟨_, rfl⟩
  rw [← ecid_36] at hK
  refine lv_dup hx hb dX13_init_159 rfl ?_
  refine lv_iconst (v := 0) hx hb dX13_init_160 (by decide) ?_
  refine lv_ldc2 (own := RX13) (v := 7107643) hx hb hown (htb _ kw_1022) dX13_init_161 ?_
  refine va_last (D := (dC, dI)) (f := (fun _ => 0)) hx hb hK hP hD hS _ 2 wOo (by rw [ecid_36]; rfl) (vp_in_iff.mpr ⟨by decide, by decide⟩) dX13_init_164 (fun H locs hP hD hS => ?_)
  rw [set_last] at hP hD
  obtain ⟨f_37, ef_37⟩ : ∃ z, z = vp_updL (fun _ => 0) (0 : Int32).toNatClampNeg 7107643 := ⟨_, rfl⟩
  rw [← ef_37] at hP hD
  refine lv_dup hx hb dX13_init_165 rfl ?_
  refine lv_iconst (v := 1) hx hb dX13_init_166 (by decide) ?_
  refine lv_ldc2 (own := RX13) (v := 6779963) hx hb hown (htb _ kw_1023) dX13_init_167 ?_
  refine va_last (D := (dC, dI)) (f := f_37) hx hb hK hP hD hS _ 2 wOo (by rw [ecid_36]; rfl) (vp_in_iff.mpr ⟨by decide, by decide⟩) dX13_init_170 (fun H locs hP hD hS => ?_)
  rw [set_last] at hP hD
  obtain ⟨f_38, ef_38⟩ : ∃ z, z = vp_updL f_37 (1 : Int32).toNatClampNeg 6779963 := ⟨_, rfl⟩
  rw [← ef_38] at hP hD
  refine lv_dup hx hb dX13_init_171 rfl ?_
  refine lv_iconst (v := 2) hx hb dX13_init_172 (by decide) ?_
  refine lv_ldc2 (own := RX13) (v := 1634562107) hx hb hown (htb _ kw_1024) dX13_init_173 ?_
  refine va_last (D := (dC, dI)) (f := f_38) hx hb hK hP hD hS _ 2 wOo (by rw [ecid_36]; rfl) (vp_in_iff.mpr ⟨by decide, by decide⟩) dX13_init_176 (fun H locs hP hD hS => ?_)
  rw [set_last] at hP hD
  obtain ⟨f_39, ef_39⟩ : ∃ z, z = vp_updL f_38 (2 : Int32).toNatClampNeg 1634562107 := ⟨_, rfl⟩
  rw [← ef_39] at hP hD
  refine lv_dup hx hb dX13_init_177 rfl ?_
  refine lv_iconst (v := 3) hx hb dX13_init_178 (by decide) ?_
  refine lv_ldc2 (own := RX13) (v := 487301542971) hx hb hown (htb _ kw_1025) dX13_init_179 ?_
  refine va_last (D := (dC, dI)) (f := f_39) hx hb hK hP hD hS _ 2 wOo (by rw [ecid_36]; rfl) (vp_in_iff.mpr ⟨by decide, by decide⟩) dX13_init_182 (fun H locs hP hD hS => ?_)
  rw [set_last] at hP hD
  obtain ⟨f_40, ef_40⟩ : ∃ z, z = vp_updL f_39 (3 : Int32).toNatClampNeg 487301542971 := ⟨_, rfl⟩
  rw [← ef_40] at hP hD
  refine lv_dup hx hb dX13_init_183 rfl ?_
  refine lv_iconst (v := 4) hx hb dX13_init_184 (by decide) ?_
  refine lv_ldc2 (own := RX13) (v := 418498179899) hx hb hown (htb _ kw_1026) dX13_init_185 ?_
  refine va_last (D := (dC, dI)) (f := f_40) hx hb hK hP hD hS _ 2 wOo (by rw [ecid_36]; rfl) (vp_in_iff.mpr ⟨by decide, by decide⟩) dX13_init_188 (fun H locs hP hD hS => ?_)
  rw [set_last] at hP hD
  obtain ⟨f_41, ef_41⟩ : ∃ z, z = vp_updL f_40 (4 : Int32).toNatClampNeg 418498179899 := ⟨_, rfl⟩
  rw [← ef_41] at hP hD
  refine va_putF (D := (dC, dI)) (ci := 12) (v := .ref q_34) (ty := tyX13 2) (C := RX13) (T := TX13) (N := 77) (ref := "WiredBeansModel") hx hb htb inX13 tyX13 tyX13_ok nmX13 hown hK hP hD hS 0 rfl rfl 2 (by decide) (htb _ kw_1029) (fun _ h9 => h9) rfl hin rfl (tyX13_ok 2 (by decide)) rfl rfl (by rw [List.length_map, List.length_range]; decide) dX13_init_189 (fun H locs hP hD hS => ?_)
  have hP : va_P (dC, dI) vwCl ((mWx 2 h0 ad_31 cid_19 sg_0 gm_0 lg_33 ++ [(q_34, (.inl (cA_35, mLen 2, .inr (.inl f_41)) : va_E))]).set 0 (h0, .inr (12, ((List.range 77).map (mfn 2 ad_31 sg_0)).set 2 (.ref q_34)))) H := hP
  have hD : va_D A ((mWx 2 h0 ad_31 cid_19 sg_0 gm_0 lg_33 ++ [(q_34, (.inl (cA_35, mLen 2, .inr (.inl f_41)) : va_E))]).set 0 (h0, .inr (12, ((List.range 77).map (mfn 2 ad_31 sg_0)).set 2 (.ref q_34)))) := hD
  rw [mWx_l (n := 2) (k := 2) rfl (by decide) (by decide) (by decide) (by decide), ← ecid_36] at hP hD
  obtain ⟨ad_42, ead_42⟩ : ∃ z, z = va_up ad_31 2 q_34 := ⟨_, rfl⟩
  rw [← ead_42] at hP hD
  obtain ⟨lg_44, elg_44⟩ : ∃ z, z = va_up lg_33 2 f_41 := ⟨_, rfl⟩
  rw [← elg_44] at hP hD
  have hz_43 : ZR 3 gm_0 := ZR_n (k := 2) rfl hz_32 (by decide) (fun _ _ => rfl)
  have hP : va_P (dC, dI) vwCl (mWx 3 h0 ad_42 cid_36 sg_0 gm_0 lg_44) H := hP
  have hD : va_D A (mWx 3 h0 ad_42 cid_36 sg_0 gm_0 lg_44) := hD
  refine W.widen (k := 3) (n := 26) (Nat.le_of_ble_eq_true rfl) (Nat.le_of_ble_eq_true rfl) ?_
  refine lv_aload_n hx hb dX13_init_192 rfl (lv_at hl 0 rfl) ?_
  refine lv_iconst (v := 5) hx hb dX13_init_193 (by decide) ?_
  refine va_newa (D := (dC, dI)) (atype := .int) (ty := .int) (N' := 5) (a0 := (5, .inl (fun _ => 0))) hx hb (htb _ kw_205) rfl hK hP hD hS hA (fun _ => rfl) (by decide) (by decide) (by decide) (Nat.le_of_ble_eq_true rfl) (Nat.le_of_ble_eq_true rfl) dX13_init_194 (fun q_45 cA_46 H hK hP hD hS => ?_)
  rw [mTx_s (n := 3) (k := 3) (ty := .int) rfl (by decide) rfl] at hK
  obtain ⟨cid_47, ecid_47⟩ : ∃ z, z = va_up cid_36 3 cA_46 := ⟨_, rfl⟩
  rw [← ecid_47] at hK
  refine lv_dup hx hb dX13_init_196 rfl ?_
  refine lv_iconst (v := 0) hx hb dX13_init_197 (by decide) ?_
  refine lv_iconst (v := 3) hx hb dX13_init_198 (by decide) ?_
  refine va_iast (D := (dC, dI)) (f := (fun _ => 0)) hx hb hK hP hD hS _ 3 wOo (by rw [ecid_47]; rfl) (vp_in_iff.mpr ⟨by decide, by decide⟩) dX13_init_199 (fun H locs hP hD hS => ?_)
  rw [set_last] at hP hD
  obtain ⟨f_48, ef_48⟩ : ∃ z, z = upd (fun _ => 0) (0 : Int32).toNatClampNeg 3 := ⟨_, rfl⟩
  rw [← ef_48] at hP hD
  refine lv_dup hx hb dX13_init_200 rfl ?_
  refine lv_iconst (v := 1) hx hb dX13_init_201 (by decide) ?_
  refine lv_iconst (v := 3) hx hb dX13_init_202 (by decide) ?_
  refine va_iast (D := (dC, dI)) (f := f_48) hx hb hK hP hD hS _ 3 wOo (by rw [ecid_47]; rfl) (vp_in_iff.mpr ⟨by decide, by decide⟩) dX13_init_203 (fun H locs hP hD hS => ?_)
  rw [set_last] at hP hD
  obtain ⟨f_49, ef_49⟩ : ∃ z, z = upd f_48 (1 : Int32).toNatClampNeg 3 := ⟨_, rfl⟩
  rw [← ef_49] at hP hD
  refine lv_dup hx hb dX13_init_204 rfl ?_
  refine lv_iconst (v := 2) hx hb dX13_init_205 (by decide) ?_
  refine lv_iconst (v := 4) hx hb dX13_init_206 (by decide) ?_
  refine va_iast (D := (dC, dI)) (f := f_49) hx hb hK hP hD hS _ 3 wOo (by rw [ecid_47]; rfl) (vp_in_iff.mpr ⟨by decide, by decide⟩) dX13_init_207 (fun H locs hP hD hS => ?_)
  rw [set_last] at hP hD
  obtain ⟨f_50, ef_50⟩ : ∃ z, z = upd f_49 (2 : Int32).toNatClampNeg 4 := ⟨_, rfl⟩
  rw [← ef_50] at hP hD
  refine lv_dup hx hb dX13_init_208 rfl ?_
  refine lv_iconst (v := 3) hx hb dX13_init_209 (by decide) ?_
  refine lv_iconst (v := 5) hx hb dX13_init_210 (by decide) ?_
  refine va_iast (D := (dC, dI)) (f := f_50) hx hb hK hP hD hS _ 3 wOo (by rw [ecid_47]; rfl) (vp_in_iff.mpr ⟨by decide, by decide⟩) dX13_init_211 (fun H locs hP hD hS => ?_)
  rw [set_last] at hP hD
  obtain ⟨f_51, ef_51⟩ : ∃ z, z = upd f_50 (3 : Int32).toNatClampNeg 5 := ⟨_, rfl⟩
  rw [← ef_51] at hP hD
  refine lv_dup hx hb dX13_init_212 rfl ?_
  refine lv_iconst (v := 4) hx hb dX13_init_213 (by decide) ?_
  refine lv_iconst (v := 5) hx hb dX13_init_214 (by decide) ?_
  refine va_iast (D := (dC, dI)) (f := f_51) hx hb hK hP hD hS _ 3 wOo (by rw [ecid_47]; rfl) (vp_in_iff.mpr ⟨by decide, by decide⟩) dX13_init_215 (fun H locs hP hD hS => ?_)
  rw [set_last] at hP hD
  obtain ⟨f_52, ef_52⟩ : ∃ z, z = upd f_51 (4 : Int32).toNatClampNeg 5 := ⟨_, rfl⟩
  rw [← ef_52] at hP hD
  refine va_putF (D := (dC, dI)) (ci := 12) (v := .ref q_45) (ty := tyX13 3) (C := RX13) (T := TX13) (N := 77) (ref := "WiredBeansModel") hx hb htb inX13 tyX13 tyX13_ok nmX13 hown hK hP hD hS 0 rfl rfl 3 (by decide) (htb _ kw_1030) (fun _ h9 => h9) rfl hin rfl (tyX13_ok 3 (by decide)) rfl rfl (by rw [List.length_map, List.length_range]; decide) dX13_init_216 (fun H locs hP hD hS => ?_)
  have hP : va_P (dC, dI) vwCl ((mWx 3 h0 ad_42 cid_36 sg_0 gm_0 lg_44 ++ [(q_45, (.inl (cA_46, mLen 3, .inl f_52) : va_E))]).set 0 (h0, .inr (12, ((List.range 77).map (mfn 3 ad_42 sg_0)).set 3 (.ref q_45)))) H := hP
  have hD : va_D A ((mWx 3 h0 ad_42 cid_36 sg_0 gm_0 lg_44 ++ [(q_45, (.inl (cA_46, mLen 3, .inl f_52) : va_E))]).set 0 (h0, .inr (12, ((List.range 77).map (mfn 3 ad_42 sg_0)).set 3 (.ref q_45)))) := hD
  rw [mWx_i (n := 3) (k := 3) rfl (by decide) (by decide) (by decide) (by decide), ← ecid_47] at hP hD
  obtain ⟨ad_53, ead_53⟩ : ∃ z, z = va_up ad_42 3 q_45 := ⟨_, rfl⟩
  rw [← ead_53] at hP hD
  obtain ⟨gm_55, egm_55⟩ : ∃ z, z = va_up gm_0 3 f_52 := ⟨_, rfl⟩
  rw [← egm_55] at hP hD
  have hz_54 : ZR 4 gm_55 := by rw [egm_55]; exact ZR_n (k := 3) rfl hz_43 (by decide) (fun j9 q9 => va_up_ne _ _ q9)
  have hr3_4 : gm_55 3 = f_52 := by rw [egm_55]; exact va_up_self _ _ _
  have hP : va_P (dC, dI) vwCl (mWx 4 h0 ad_53 cid_47 sg_0 gm_55 lg_44) H := hP
  have hD : va_D A (mWx 4 h0 ad_53 cid_47 sg_0 gm_55 lg_44) := hD
  refine W.widen (k := 4) (n := 31) (Nat.le_of_ble_eq_true rfl) (Nat.le_of_ble_eq_true rfl) ?_
  refine lv_aload_n hx hb dX13_init_219 rfl (lv_at hl 0 rfl) ?_
  refine lv_iconst (v := 5) hx hb dX13_init_220 (by decide) ?_
  refine va_newa (D := (dC, dI)) (atype := .int) (ty := .int) (N' := 5) (a0 := (5, .inl (fun _ => 0))) hx hb (htb _ kw_205) rfl hK hP hD hS hA (fun _ => rfl) (by decide) (by decide) (by decide) (Nat.le_of_ble_eq_true rfl) (Nat.le_of_ble_eq_true rfl) dX13_init_221 (fun q_56 cA_57 H hK hP hD hS => ?_)
  rw [mTx_s (n := 4) (k := 4) (ty := .int) rfl (by decide) rfl] at hK
  obtain ⟨cid_58, ecid_58⟩ : ∃ z, z = va_up cid_47 4 cA_57 := ⟨_, rfl⟩
  rw [← ecid_58] at hK
  refine lv_dup hx hb dX13_init_223 rfl ?_
  refine lv_iconst (v := 0) hx hb dX13_init_224 (by decide) ?_
  refine lv_bipush (v := 60) hx hb dX13_init_225 (by decide) ?_
  refine va_iast (D := (dC, dI)) (f := (fun _ => 0)) hx hb hK hP hD hS _ 4 wOo (by rw [ecid_58]; rfl) (vp_in_iff.mpr ⟨by decide, by decide⟩) dX13_init_227 (fun H locs hP hD hS => ?_)
  rw [set_last] at hP hD
  obtain ⟨f_59, ef_59⟩ : ∃ z, z = upd (fun _ => 0) (0 : Int32).toNatClampNeg 60 := ⟨_, rfl⟩
  rw [← ef_59] at hP hD
  refine lv_dup hx hb dX13_init_228 rfl ?_
  refine lv_iconst (v := 1) hx hb dX13_init_229 (by decide) ?_
  refine lv_bipush (v := 62) hx hb dX13_init_230 (by decide) ?_
  refine va_iast (D := (dC, dI)) (f := f_59) hx hb hK hP hD hS _ 4 wOo (by rw [ecid_58]; rfl) (vp_in_iff.mpr ⟨by decide, by decide⟩) dX13_init_232 (fun H locs hP hD hS => ?_)
  rw [set_last] at hP hD
  obtain ⟨f_60, ef_60⟩ : ∃ z, z = upd f_59 (1 : Int32).toNatClampNeg 62 := ⟨_, rfl⟩
  rw [← ef_60] at hP hD
  refine lv_dup hx hb dX13_init_233 rfl ?_
  refine lv_iconst (v := 2) hx hb dX13_init_234 (by decide) ?_
  refine lv_bipush (v := 38) hx hb dX13_init_235 (by decide) ?_
  refine va_iast (D := (dC, dI)) (f := f_60) hx hb hK hP hD hS _ 4 wOo (by rw [ecid_58]; rfl) (vp_in_iff.mpr ⟨by decide, by decide⟩) dX13_init_237 (fun H locs hP hD hS => ?_)
  rw [set_last] at hP hD
  obtain ⟨f_61, ef_61⟩ : ∃ z, z = upd f_60 (2 : Int32).toNatClampNeg 38 := ⟨_, rfl⟩
  rw [← ef_61] at hP hD
  refine lv_dup hx hb dX13_init_238 rfl ?_
  refine lv_iconst (v := 3) hx hb dX13_init_239 (by decide) ?_
  refine lv_bipush (v := 34) hx hb dX13_init_240 (by decide) ?_
  refine va_iast (D := (dC, dI)) (f := f_61) hx hb hK hP hD hS _ 4 wOo (by rw [ecid_58]; rfl) (vp_in_iff.mpr ⟨by decide, by decide⟩) dX13_init_242 (fun H locs hP hD hS => ?_)
  rw [set_last] at hP hD
  obtain ⟨f_62, ef_62⟩ : ∃ z, z = upd f_61 (3 : Int32).toNatClampNeg 34 := ⟨_, rfl⟩
  rw [← ef_62] at hP hD
  refine lv_dup hx hb dX13_init_243 rfl ?_
  refine lv_iconst (v := 4) hx hb dX13_init_244 (by decide) ?_
  refine lv_bipush (v := 39) hx hb dX13_init_245 (by decide) ?_
  refine va_iast (D := (dC, dI)) (f := f_62) hx hb hK hP hD hS _ 4 wOo (by rw [ecid_58]; rfl) (vp_in_iff.mpr ⟨by decide, by decide⟩) dX13_init_247 (fun H locs hP hD hS => ?_)
  rw [set_last] at hP hD
  obtain ⟨f_63, ef_63⟩ : ∃ z, z = upd f_62 (4 : Int32).toNatClampNeg 39 := ⟨_, rfl⟩
  rw [← ef_63] at hP hD
  refine va_putF (D := (dC, dI)) (ci := 12) (v := .ref q_56) (ty := tyX13 4) (C := RX13) (T := TX13) (N := 77) (ref := "WiredBeansModel") hx hb htb inX13 tyX13 tyX13_ok nmX13 hown hK hP hD hS 0 rfl rfl 4 (by decide) (htb _ kw_1031) (fun _ h9 => h9) rfl hin rfl (tyX13_ok 4 (by decide)) rfl rfl (by rw [List.length_map, List.length_range]; decide) dX13_init_248 (fun H locs hP hD hS => ?_)
  have hP : va_P (dC, dI) vwCl ((mWx 4 h0 ad_53 cid_47 sg_0 gm_55 lg_44 ++ [(q_56, (.inl (cA_57, mLen 4, .inl f_63) : va_E))]).set 0 (h0, .inr (12, ((List.range 77).map (mfn 4 ad_53 sg_0)).set 4 (.ref q_56)))) H := hP
  have hD : va_D A ((mWx 4 h0 ad_53 cid_47 sg_0 gm_55 lg_44 ++ [(q_56, (.inl (cA_57, mLen 4, .inl f_63) : va_E))]).set 0 (h0, .inr (12, ((List.range 77).map (mfn 4 ad_53 sg_0)).set 4 (.ref q_56)))) := hD
  rw [mWx_i (n := 4) (k := 4) rfl (by decide) (by decide) (by decide) (by decide), ← ecid_58] at hP hD
  obtain ⟨ad_64, ead_64⟩ : ∃ z, z = va_up ad_53 4 q_56 := ⟨_, rfl⟩
  rw [← ead_64] at hP hD
  obtain ⟨gm_66, egm_66⟩ : ∃ z, z = va_up gm_55 4 f_63 := ⟨_, rfl⟩
  rw [← egm_66] at hP hD
  have hz_65 : ZR 5 gm_66 := by rw [egm_66]; exact ZR_n (k := 4) rfl hz_54 (by decide) (fun j9 q9 => va_up_ne _ _ q9)
  have hr4_5 : gm_66 4 = f_63 := by rw [egm_66]; exact va_up_self _ _ _
  have hr3_5 : gm_66 3 = f_52 := by rw [egm_66, va_up_ne _ _ (show (3 : Nat) ≠ 4 by decide)]; exact hr3_4
  have hP : va_P (dC, dI) vwCl (mWx 5 h0 ad_64 cid_58 sg_0 gm_66 lg_44) H := hP
  have hD : va_D A (mWx 5 h0 ad_64 cid_58 sg_0 gm_66 lg_44) := hD
  refine W.widen (k := 5) (n := 36) (Nat.le_of_ble_eq_true rfl) (Nat.le_of_ble_eq_true rfl) ?_
  refine lv_aload_n hx hb dX13_init_251 rfl (lv_at hl 0 rfl) ?_
  refine lv_bipush (v := 8) hx hb dX13_init_252 (by decide) ?_
  refine va_newa (D := (dC, dI)) (atype := .int) (ty := .int) (N' := 8) (a0 := (8, .inl (fun _ => 0))) hx hb (htb _ kw_205) rfl hK hP hD hS hA (fun _ => rfl) (by decide) (by decide) (by decide) (Nat.le_of_ble_eq_true rfl) (Nat.le_of_ble_eq_true rfl) dX13_init_254 (fun q_67 cA_68 H hK hP hD hS => ?_)
  rw [mTx_s (n := 5) (k := 6) (ty := .int) rfl (by decide) rfl] at hK
  obtain ⟨cid_69, ecid_69⟩ : ∃ z, z = va_up cid_58 6 cA_68 := ⟨_, rfl⟩
  rw [← ecid_69] at hK
  refine va_putF (D := (dC, dI)) (ci := 12) (v := .ref q_67) (ty := tyX13 6) (C := RX13) (T := TX13) (N := 77) (ref := "WiredBeansModel") hx hb htb inX13 tyX13 tyX13_ok nmX13 hown hK hP hD hS 0 rfl rfl 6 (by decide) (htb _ kw_1033) (fun _ h9 => h9) rfl hin rfl (tyX13_ok 6 (by decide)) rfl rfl (by rw [List.length_map, List.length_range]; decide) dX13_init_256 (fun H locs hP hD hS => ?_)
  have hP : va_P (dC, dI) vwCl ((mWx 5 h0 ad_64 cid_58 sg_0 gm_66 lg_44 ++ [(q_67, (.inl (cA_68, mLen 6, .inl (fun _ => 0)) : va_E))]).set 0 (h0, .inr (12, ((List.range 77).map (mfn 5 ad_64 sg_0)).set 6 (.ref q_67)))) H := hP
  have hD : va_D A ((mWx 5 h0 ad_64 cid_58 sg_0 gm_66 lg_44 ++ [(q_67, (.inl (cA_68, mLen 6, .inl (fun _ => 0)) : va_E))]).set 0 (h0, .inr (12, ((List.range 77).map (mfn 5 ad_64 sg_0)).set 6 (.ref q_67)))) := hD
  rw [mWx_i (n := 5) (k := 6) rfl (by decide) (by decide) (by decide) (by decide), ← ecid_69] at hP hD
  obtain ⟨ad_70, ead_70⟩ : ∃ z, z = va_up ad_64 6 q_67 := ⟨_, rfl⟩
  rw [← ead_70] at hP hD
  obtain ⟨gm_72, egm_72⟩ : ∃ z, z = va_up gm_66 6 (fun _ => 0) := ⟨_, rfl⟩
  rw [← egm_72] at hP hD
  have hz_71 : ZR 6 gm_72 := by rw [egm_72]; exact ZR_z rfl hz_65
  have hr3_6 : gm_72 3 = f_52 := by rw [egm_72, va_up_ne _ _ (show (3 : Nat) ≠ 6 by decide)]; exact hr3_5
  have hr4_6 : gm_72 4 = f_63 := by rw [egm_72, va_up_ne _ _ (show (4 : Nat) ≠ 6 by decide)]; exact hr4_5
  have hP : va_P (dC, dI) vwCl (mWx 6 h0 ad_70 cid_69 sg_0 gm_72 lg_44) H := hP
  have hD : va_D A (mWx 6 h0 ad_70 cid_69 sg_0 gm_72 lg_44) := hD
  refine W.widen (k := 6) (n := 44) (Nat.le_of_ble_eq_true rfl) (Nat.le_of_ble_eq_true rfl) ?_
  refine lv_aload_n hx hb dX13_init_259 rfl (lv_at hl 0 rfl) ?_
  refine lv_bipush (v := 8) hx hb dX13_init_260 (by decide) ?_
  refine va_newa (D := (dC, dI)) (atype := .int) (ty := .int) (N' := 8) (a0 := (8, .inl (fun _ => 0))) hx hb (htb _ kw_205) rfl hK hP hD hS hA (fun _ => rfl) (by decide) (by decide) (by decide) (Nat.le_of_ble_eq_true rfl) (Nat.le_of_ble_eq_true rfl) dX13_init_262 (fun q_73 cA_74 H hK hP hD hS => ?_)
  rw [mTx_s (n := 6) (k := 7) (ty := .int) rfl (by decide) rfl] at hK
  obtain ⟨cid_75, ecid_75⟩ : ∃ z, z = va_up cid_69 7 cA_74 := ⟨_, rfl⟩
  rw [← ecid_75] at hK
  refine va_putF (D := (dC, dI)) (ci := 12) (v := .ref q_73) (ty := tyX13 7) (C := RX13) (T := TX13) (N := 77) (ref := "WiredBeansModel") hx hb htb inX13 tyX13 tyX13_ok nmX13 hown hK hP hD hS 0 rfl rfl 7 (by decide) (htb _ kw_1034) (fun _ h9 => h9) rfl hin rfl (tyX13_ok 7 (by decide)) rfl rfl (by rw [List.length_map, List.length_range]; decide) dX13_init_264 (fun H locs hP hD hS => ?_)
  have hP : va_P (dC, dI) vwCl ((mWx 6 h0 ad_70 cid_69 sg_0 gm_72 lg_44 ++ [(q_73, (.inl (cA_74, mLen 7, .inl (fun _ => 0)) : va_E))]).set 0 (h0, .inr (12, ((List.range 77).map (mfn 6 ad_70 sg_0)).set 7 (.ref q_73)))) H := hP
  have hD : va_D A ((mWx 6 h0 ad_70 cid_69 sg_0 gm_72 lg_44 ++ [(q_73, (.inl (cA_74, mLen 7, .inl (fun _ => 0)) : va_E))]).set 0 (h0, .inr (12, ((List.range 77).map (mfn 6 ad_70 sg_0)).set 7 (.ref q_73)))) := hD
  rw [mWx_i (n := 6) (k := 7) rfl (by decide) (by decide) (by decide) (by decide), ← ecid_75] at hP hD
  obtain ⟨ad_76, ead_76⟩ : ∃ z, z = va_up ad_70 7 q_73 := ⟨_, rfl⟩
  rw [← ead_76] at hP hD
  obtain ⟨gm_78, egm_78⟩ : ∃ z, z = va_up gm_72 7 (fun _ => 0) := ⟨_, rfl⟩
  rw [← egm_78] at hP hD
  have hz_77 : ZR 7 gm_78 := by rw [egm_78]; exact ZR_z rfl hz_71
  have hr3_7 : gm_78 3 = f_52 := by rw [egm_78, va_up_ne _ _ (show (3 : Nat) ≠ 7 by decide)]; exact hr3_6
  have hr4_7 : gm_78 4 = f_63 := by rw [egm_78, va_up_ne _ _ (show (4 : Nat) ≠ 7 by decide)]; exact hr4_6
  have hP : va_P (dC, dI) vwCl (mWx 7 h0 ad_76 cid_75 sg_0 gm_78 lg_44) H := hP
  have hD : va_D A (mWx 7 h0 ad_76 cid_75 sg_0 gm_78 lg_44) := hD
  refine W.widen (k := 7) (n := 52) (Nat.le_of_ble_eq_true rfl) (Nat.le_of_ble_eq_true rfl) ?_
  refine lv_aload_n hx hb dX13_init_267 rfl (lv_at hl 0 rfl) ?_
  refine lv_bipush (v := 32) hx hb dX13_init_268 (by decide) ?_
  refine va_newa (D := (dC, dI)) (atype := .int) (ty := .int) (N' := 32) (a0 := (32, .inl (fun _ => 0))) hx hb (htb _ kw_205) rfl hK hP hD hS hA (fun _ => rfl) (by decide) (by decide) (by decide) (Nat.le_of_ble_eq_true rfl) (Nat.le_of_ble_eq_true rfl) dX13_init_270 (fun q_79 cA_80 H hK hP hD hS => ?_)
  rw [mTx_s (n := 7) (k := 8) (ty := .int) rfl (by decide) rfl] at hK
  obtain ⟨cid_81, ecid_81⟩ : ∃ z, z = va_up cid_75 8 cA_80 := ⟨_, rfl⟩
  rw [← ecid_81] at hK
  refine va_putF (D := (dC, dI)) (ci := 12) (v := .ref q_79) (ty := tyX13 8) (C := RX13) (T := TX13) (N := 77) (ref := "WiredBeansModel") hx hb htb inX13 tyX13 tyX13_ok nmX13 hown hK hP hD hS 0 rfl rfl 8 (by decide) (htb _ kw_1035) (fun _ h9 => h9) rfl hin rfl (tyX13_ok 8 (by decide)) rfl rfl (by rw [List.length_map, List.length_range]; decide) dX13_init_272 (fun H locs hP hD hS => ?_)
  have hP : va_P (dC, dI) vwCl ((mWx 7 h0 ad_76 cid_75 sg_0 gm_78 lg_44 ++ [(q_79, (.inl (cA_80, mLen 8, .inl (fun _ => 0)) : va_E))]).set 0 (h0, .inr (12, ((List.range 77).map (mfn 7 ad_76 sg_0)).set 8 (.ref q_79)))) H := hP
  have hD : va_D A ((mWx 7 h0 ad_76 cid_75 sg_0 gm_78 lg_44 ++ [(q_79, (.inl (cA_80, mLen 8, .inl (fun _ => 0)) : va_E))]).set 0 (h0, .inr (12, ((List.range 77).map (mfn 7 ad_76 sg_0)).set 8 (.ref q_79)))) := hD
  rw [mWx_i (n := 7) (k := 8) rfl (by decide) (by decide) (by decide) (by decide), ← ecid_81] at hP hD
  obtain ⟨ad_82, ead_82⟩ : ∃ z, z = va_up ad_76 8 q_79 := ⟨_, rfl⟩
  rw [← ead_82] at hP hD
  obtain ⟨gm_84, egm_84⟩ : ∃ z, z = va_up gm_78 8 (fun _ => 0) := ⟨_, rfl⟩
  rw [← egm_84] at hP hD
  have hz_83 : ZR 8 gm_84 := by rw [egm_84]; exact ZR_z rfl hz_77
  have hr3_8 : gm_84 3 = f_52 := by rw [egm_84, va_up_ne _ _ (show (3 : Nat) ≠ 8 by decide)]; exact hr3_7
  have hr4_8 : gm_84 4 = f_63 := by rw [egm_84, va_up_ne _ _ (show (4 : Nat) ≠ 8 by decide)]; exact hr4_7
  have hP : va_P (dC, dI) vwCl (mWx 8 h0 ad_82 cid_81 sg_0 gm_84 lg_44) H := hP
  have hD : va_D A (mWx 8 h0 ad_82 cid_81 sg_0 gm_84 lg_44) := hD
  refine W.widen (k := 8) (n := 84) (Nat.le_of_ble_eq_true rfl) (Nat.le_of_ble_eq_true rfl) ?_
  refine lv_aload_n hx hb dX13_init_275 rfl (lv_at hl 0 rfl) ?_
  refine lv_bipush (v := 96) hx hb dX13_init_276 (by decide) ?_
  refine va_newa (D := (dC, dI)) (atype := .int) (ty := .int) (N' := 96) (a0 := (96, .inl (fun _ => 0))) hx hb (htb _ kw_205) rfl hK hP hD hS hA (fun _ => rfl) (by decide) (by decide) (by decide) (Nat.le_of_ble_eq_true rfl) (Nat.le_of_ble_eq_true rfl) dX13_init_278 (fun q_85 cA_86 H hK hP hD hS => ?_)
  rw [mTx_s (n := 8) (k := 9) (ty := .int) rfl (by decide) rfl] at hK
  obtain ⟨cid_87, ecid_87⟩ : ∃ z, z = va_up cid_81 9 cA_86 := ⟨_, rfl⟩
  rw [← ecid_87] at hK
  refine va_putF (D := (dC, dI)) (ci := 12) (v := .ref q_85) (ty := tyX13 9) (C := RX13) (T := TX13) (N := 77) (ref := "WiredBeansModel") hx hb htb inX13 tyX13 tyX13_ok nmX13 hown hK hP hD hS 0 rfl rfl 9 (by decide) (htb _ kw_1036) (fun _ h9 => h9) rfl hin rfl (tyX13_ok 9 (by decide)) rfl rfl (by rw [List.length_map, List.length_range]; decide) dX13_init_280 (fun H locs hP hD hS => ?_)
  have hP : va_P (dC, dI) vwCl ((mWx 8 h0 ad_82 cid_81 sg_0 gm_84 lg_44 ++ [(q_85, (.inl (cA_86, mLen 9, .inl (fun _ => 0)) : va_E))]).set 0 (h0, .inr (12, ((List.range 77).map (mfn 8 ad_82 sg_0)).set 9 (.ref q_85)))) H := hP
  have hD : va_D A ((mWx 8 h0 ad_82 cid_81 sg_0 gm_84 lg_44 ++ [(q_85, (.inl (cA_86, mLen 9, .inl (fun _ => 0)) : va_E))]).set 0 (h0, .inr (12, ((List.range 77).map (mfn 8 ad_82 sg_0)).set 9 (.ref q_85)))) := hD
  rw [mWx_i (n := 8) (k := 9) rfl (by decide) (by decide) (by decide) (by decide), ← ecid_87] at hP hD
  obtain ⟨ad_88, ead_88⟩ : ∃ z, z = va_up ad_82 9 q_85 := ⟨_, rfl⟩
  rw [← ead_88] at hP hD
  obtain ⟨gm_90, egm_90⟩ : ∃ z, z = va_up gm_84 9 (fun _ => 0) := ⟨_, rfl⟩
  rw [← egm_90] at hP hD
  have hz_89 : ZR 9 gm_90 := by rw [egm_90]; exact ZR_z rfl hz_83
  have hr3_9 : gm_90 3 = f_52 := by rw [egm_90, va_up_ne _ _ (show (3 : Nat) ≠ 9 by decide)]; exact hr3_8
  have hr4_9 : gm_90 4 = f_63 := by rw [egm_90, va_up_ne _ _ (show (4 : Nat) ≠ 9 by decide)]; exact hr4_8
  have hP : va_P (dC, dI) vwCl (mWx 9 h0 ad_88 cid_87 sg_0 gm_90 lg_44) H := hP
  have hD : va_D A (mWx 9 h0 ad_88 cid_87 sg_0 gm_90 lg_44) := hD
  refine W.widen (k := 9) (n := 180) (Nat.le_of_ble_eq_true rfl) (Nat.le_of_ble_eq_true rfl) ?_
  refine lv_aload_n hx hb dX13_init_283 rfl (lv_at hl 0 rfl) ?_
  refine lv_bipush (v := 8) hx hb dX13_init_284 (by decide) ?_
  refine va_newa (D := (dC, dI)) (atype := .int) (ty := .int) (N' := 8) (a0 := (8, .inl (fun _ => 0))) hx hb (htb _ kw_205) rfl hK hP hD hS hA (fun _ => rfl) (by decide) (by decide) (by decide) (Nat.le_of_ble_eq_true rfl) (Nat.le_of_ble_eq_true rfl) dX13_init_286 (fun q_91 cA_92 H hK hP hD hS => ?_)
  rw [mTx_s (n := 9) (k := 10) (ty := .int) rfl (by decide) rfl] at hK
  obtain ⟨cid_93, ecid_93⟩ : ∃ z, z = va_up cid_87 10 cA_92 := ⟨_, rfl⟩
  rw [← ecid_93] at hK
  refine va_putF (D := (dC, dI)) (ci := 12) (v := .ref q_91) (ty := tyX13 10) (C := RX13) (T := TX13) (N := 77) (ref := "WiredBeansModel") hx hb htb inX13 tyX13 tyX13_ok nmX13 hown hK hP hD hS 0 rfl rfl 10 (by decide) (htb _ kw_1037) (fun _ h9 => h9) rfl hin rfl (tyX13_ok 10 (by decide)) rfl rfl (by rw [List.length_map, List.length_range]; decide) dX13_init_288 (fun H locs hP hD hS => ?_)
  have hP : va_P (dC, dI) vwCl ((mWx 9 h0 ad_88 cid_87 sg_0 gm_90 lg_44 ++ [(q_91, (.inl (cA_92, mLen 10, .inl (fun _ => 0)) : va_E))]).set 0 (h0, .inr (12, ((List.range 77).map (mfn 9 ad_88 sg_0)).set 10 (.ref q_91)))) H := hP
  have hD : va_D A ((mWx 9 h0 ad_88 cid_87 sg_0 gm_90 lg_44 ++ [(q_91, (.inl (cA_92, mLen 10, .inl (fun _ => 0)) : va_E))]).set 0 (h0, .inr (12, ((List.range 77).map (mfn 9 ad_88 sg_0)).set 10 (.ref q_91)))) := hD
  rw [mWx_i (n := 9) (k := 10) rfl (by decide) (by decide) (by decide) (by decide), ← ecid_93] at hP hD
  obtain ⟨ad_94, ead_94⟩ : ∃ z, z = va_up ad_88 10 q_91 := ⟨_, rfl⟩
  rw [← ead_94] at hP hD
  obtain ⟨gm_96, egm_96⟩ : ∃ z, z = va_up gm_90 10 (fun _ => 0) := ⟨_, rfl⟩
  rw [← egm_96] at hP hD
  have hz_95 : ZR 10 gm_96 := by rw [egm_96]; exact ZR_z rfl hz_89
  have hr3_10 : gm_96 3 = f_52 := by rw [egm_96, va_up_ne _ _ (show (3 : Nat) ≠ 10 by decide)]; exact hr3_9
  have hr4_10 : gm_96 4 = f_63 := by rw [egm_96, va_up_ne _ _ (show (4 : Nat) ≠ 10 by decide)]; exact hr4_9
  have hP : va_P (dC, dI) vwCl (mWx 10 h0 ad_94 cid_93 sg_0 gm_96 lg_44) H := hP
  have hD : va_D A (mWx 10 h0 ad_94 cid_93 sg_0 gm_96 lg_44) := hD
  refine W.widen (k := 10) (n := 188) (Nat.le_of_ble_eq_true rfl) (Nat.le_of_ble_eq_true rfl) ?_
  refine lv_aload_n hx hb dX13_init_291 rfl (lv_at hl 0 rfl) ?_
  refine lv_bipush (v := 64) hx hb dX13_init_292 (by decide) ?_
  refine va_newa (D := (dC, dI)) (atype := .int) (ty := .int) (N' := 64) (a0 := (64, .inl (fun _ => 0))) hx hb (htb _ kw_205) rfl hK hP hD hS hA (fun _ => rfl) (by decide) (by decide) (by decide) (Nat.le_of_ble_eq_true rfl) (Nat.le_of_ble_eq_true rfl) dX13_init_294 (fun q_97 cA_98 H hK hP hD hS => ?_)
  rw [mTx_s (n := 10) (k := 11) (ty := .int) rfl (by decide) rfl] at hK
  obtain ⟨cid_99, ecid_99⟩ : ∃ z, z = va_up cid_93 11 cA_98 := ⟨_, rfl⟩
  rw [← ecid_99] at hK
  refine va_putF (D := (dC, dI)) (ci := 12) (v := .ref q_97) (ty := tyX13 11) (C := RX13) (T := TX13) (N := 77) (ref := "WiredBeansModel") hx hb htb inX13 tyX13 tyX13_ok nmX13 hown hK hP hD hS 0 rfl rfl 11 (by decide) (htb _ kw_1038) (fun _ h9 => h9) rfl hin rfl (tyX13_ok 11 (by decide)) rfl rfl (by rw [List.length_map, List.length_range]; decide) dX13_init_296 (fun H locs hP hD hS => ?_)
  have hP : va_P (dC, dI) vwCl ((mWx 10 h0 ad_94 cid_93 sg_0 gm_96 lg_44 ++ [(q_97, (.inl (cA_98, mLen 11, .inl (fun _ => 0)) : va_E))]).set 0 (h0, .inr (12, ((List.range 77).map (mfn 10 ad_94 sg_0)).set 11 (.ref q_97)))) H := hP
  have hD : va_D A ((mWx 10 h0 ad_94 cid_93 sg_0 gm_96 lg_44 ++ [(q_97, (.inl (cA_98, mLen 11, .inl (fun _ => 0)) : va_E))]).set 0 (h0, .inr (12, ((List.range 77).map (mfn 10 ad_94 sg_0)).set 11 (.ref q_97)))) := hD
  rw [mWx_i (n := 10) (k := 11) rfl (by decide) (by decide) (by decide) (by decide), ← ecid_99] at hP hD
  obtain ⟨ad_100, ead_100⟩ : ∃ z, z = va_up ad_94 11 q_97 := ⟨_, rfl⟩
  rw [← ead_100] at hP hD
  obtain ⟨gm_102, egm_102⟩ : ∃ z, z = va_up gm_96 11 (fun _ => 0) := ⟨_, rfl⟩
  rw [← egm_102] at hP hD
  have hz_101 : ZR 11 gm_102 := by rw [egm_102]; exact ZR_z rfl hz_95
  have hr3_11 : gm_102 3 = f_52 := by rw [egm_102, va_up_ne _ _ (show (3 : Nat) ≠ 11 by decide)]; exact hr3_10
  have hr4_11 : gm_102 4 = f_63 := by rw [egm_102, va_up_ne _ _ (show (4 : Nat) ≠ 11 by decide)]; exact hr4_10
  have hP : va_P (dC, dI) vwCl (mWx 11 h0 ad_100 cid_99 sg_0 gm_102 lg_44) H := hP
  have hD : va_D A (mWx 11 h0 ad_100 cid_99 sg_0 gm_102 lg_44) := hD
  refine W.widen (k := 11) (n := 252) (Nat.le_of_ble_eq_true rfl) (Nat.le_of_ble_eq_true rfl) ?_
  refine lv_aload_n hx hb dX13_init_299 rfl (lv_at hl 0 rfl) ?_
  refine lv_bipush (v := 64) hx hb dX13_init_300 (by decide) ?_
  refine va_newa (D := (dC, dI)) (atype := .int) (ty := .int) (N' := 64) (a0 := (64, .inl (fun _ => 0))) hx hb (htb _ kw_205) rfl hK hP hD hS hA (fun _ => rfl) (by decide) (by decide) (by decide) (Nat.le_of_ble_eq_true rfl) (Nat.le_of_ble_eq_true rfl) dX13_init_302 (fun q_103 cA_104 H hK hP hD hS => ?_)
  rw [mTx_s (n := 11) (k := 12) (ty := .int) rfl (by decide) rfl] at hK
  obtain ⟨cid_105, ecid_105⟩ : ∃ z, z = va_up cid_99 12 cA_104 := ⟨_, rfl⟩
  rw [← ecid_105] at hK
  refine va_putF (D := (dC, dI)) (ci := 12) (v := .ref q_103) (ty := tyX13 12) (C := RX13) (T := TX13) (N := 77) (ref := "WiredBeansModel") hx hb htb inX13 tyX13 tyX13_ok nmX13 hown hK hP hD hS 0 rfl rfl 12 (by decide) (htb _ kw_1039) (fun _ h9 => h9) rfl hin rfl (tyX13_ok 12 (by decide)) rfl rfl (by rw [List.length_map, List.length_range]; decide) dX13_init_304 (fun H locs hP hD hS => ?_)
  have hP : va_P (dC, dI) vwCl ((mWx 11 h0 ad_100 cid_99 sg_0 gm_102 lg_44 ++ [(q_103, (.inl (cA_104, mLen 12, .inl (fun _ => 0)) : va_E))]).set 0 (h0, .inr (12, ((List.range 77).map (mfn 11 ad_100 sg_0)).set 12 (.ref q_103)))) H := hP
  have hD : va_D A ((mWx 11 h0 ad_100 cid_99 sg_0 gm_102 lg_44 ++ [(q_103, (.inl (cA_104, mLen 12, .inl (fun _ => 0)) : va_E))]).set 0 (h0, .inr (12, ((List.range 77).map (mfn 11 ad_100 sg_0)).set 12 (.ref q_103)))) := hD
  rw [mWx_i (n := 11) (k := 12) rfl (by decide) (by decide) (by decide) (by decide), ← ecid_105] at hP hD
  obtain ⟨ad_106, ead_106⟩ : ∃ z, z = va_up ad_100 12 q_103 := ⟨_, rfl⟩
  rw [← ead_106] at hP hD
  obtain ⟨gm_108, egm_108⟩ : ∃ z, z = va_up gm_102 12 (fun _ => 0) := ⟨_, rfl⟩
  rw [← egm_108] at hP hD
  have hz_107 : ZR 12 gm_108 := by rw [egm_108]; exact ZR_z rfl hz_101
  have hr3_12 : gm_108 3 = f_52 := by rw [egm_108, va_up_ne _ _ (show (3 : Nat) ≠ 12 by decide)]; exact hr3_11
  have hr4_12 : gm_108 4 = f_63 := by rw [egm_108, va_up_ne _ _ (show (4 : Nat) ≠ 12 by decide)]; exact hr4_11
  have hP : va_P (dC, dI) vwCl (mWx 12 h0 ad_106 cid_105 sg_0 gm_108 lg_44) H := hP
  have hD : va_D A (mWx 12 h0 ad_106 cid_105 sg_0 gm_108 lg_44) := hD
  refine W.widen (k := 12) (n := 316) (Nat.le_of_ble_eq_true rfl) (Nat.le_of_ble_eq_true rfl) ?_
  refine lv_aload_n hx hb dX13_init_307 rfl (lv_at hl 0 rfl) ?_
  refine lv_bipush (v := 8) hx hb dX13_init_308 (by decide) ?_
  refine va_newa (D := (dC, dI)) (atype := .int) (ty := .int) (N' := 8) (a0 := (8, .inl (fun _ => 0))) hx hb (htb _ kw_205) rfl hK hP hD hS hA (fun _ => rfl) (by decide) (by decide) (by decide) (Nat.le_of_ble_eq_true rfl) (Nat.le_of_ble_eq_true rfl) dX13_init_310 (fun q_109 cA_110 H hK hP hD hS => ?_)
  rw [mTx_s (n := 12) (k := 13) (ty := .int) rfl (by decide) rfl] at hK
  obtain ⟨cid_111, ecid_111⟩ : ∃ z, z = va_up cid_105 13 cA_110 := ⟨_, rfl⟩
  rw [← ecid_111] at hK
  refine va_putF (D := (dC, dI)) (ci := 12) (v := .ref q_109) (ty := tyX13 13) (C := RX13) (T := TX13) (N := 77) (ref := "WiredBeansModel") hx hb htb inX13 tyX13 tyX13_ok nmX13 hown hK hP hD hS 0 rfl rfl 13 (by decide) (htb _ kw_1040) (fun _ h9 => h9) rfl hin rfl (tyX13_ok 13 (by decide)) rfl rfl (by rw [List.length_map, List.length_range]; decide) dX13_init_312 (fun H locs hP hD hS => ?_)
  have hP : va_P (dC, dI) vwCl ((mWx 12 h0 ad_106 cid_105 sg_0 gm_108 lg_44 ++ [(q_109, (.inl (cA_110, mLen 13, .inl (fun _ => 0)) : va_E))]).set 0 (h0, .inr (12, ((List.range 77).map (mfn 12 ad_106 sg_0)).set 13 (.ref q_109)))) H := hP
  have hD : va_D A ((mWx 12 h0 ad_106 cid_105 sg_0 gm_108 lg_44 ++ [(q_109, (.inl (cA_110, mLen 13, .inl (fun _ => 0)) : va_E))]).set 0 (h0, .inr (12, ((List.range 77).map (mfn 12 ad_106 sg_0)).set 13 (.ref q_109)))) := hD
  rw [mWx_i (n := 12) (k := 13) rfl (by decide) (by decide) (by decide) (by decide), ← ecid_111] at hP hD
  obtain ⟨ad_112, ead_112⟩ : ∃ z, z = va_up ad_106 13 q_109 := ⟨_, rfl⟩
  rw [← ead_112] at hP hD
  obtain ⟨gm_114, egm_114⟩ : ∃ z, z = va_up gm_108 13 (fun _ => 0) := ⟨_, rfl⟩
  rw [← egm_114] at hP hD
  have hz_113 : ZR 13 gm_114 := by rw [egm_114]; exact ZR_z rfl hz_107
  have hr3_13 : gm_114 3 = f_52 := by rw [egm_114, va_up_ne _ _ (show (3 : Nat) ≠ 13 by decide)]; exact hr3_12
  have hr4_13 : gm_114 4 = f_63 := by rw [egm_114, va_up_ne _ _ (show (4 : Nat) ≠ 13 by decide)]; exact hr4_12
  have hP : va_P (dC, dI) vwCl (mWx 13 h0 ad_112 cid_111 sg_0 gm_114 lg_44) H := hP
  have hD : va_D A (mWx 13 h0 ad_112 cid_111 sg_0 gm_114 lg_44) := hD
  refine W.widen (k := 13) (n := 324) (Nat.le_of_ble_eq_true rfl) (Nat.le_of_ble_eq_true rfl) ?_
  refine lv_aload_n hx hb dX13_init_315 rfl (lv_at hl 0 rfl) ?_
  refine lv_bipush (v := 32) hx hb dX13_init_316 (by decide) ?_
  refine va_newa (D := (dC, dI)) (atype := .int) (ty := .int) (N' := 32) (a0 := (32, .inl (fun _ => 0))) hx hb (htb _ kw_205) rfl hK hP hD hS hA (fun _ => rfl) (by decide) (by decide) (by decide) (Nat.le_of_ble_eq_true rfl) (Nat.le_of_ble_eq_true rfl) dX13_init_318 (fun q_115 cA_116 H hK hP hD hS => ?_)
  rw [mTx_s (n := 13) (k := 14) (ty := .int) rfl (by decide) rfl] at hK
  obtain ⟨cid_117, ecid_117⟩ : ∃ z, z = va_up cid_111 14 cA_116 := ⟨_, rfl⟩
  rw [← ecid_117] at hK
  refine va_putF (D := (dC, dI)) (ci := 12) (v := .ref q_115) (ty := tyX13 14) (C := RX13) (T := TX13) (N := 77) (ref := "WiredBeansModel") hx hb htb inX13 tyX13 tyX13_ok nmX13 hown hK hP hD hS 0 rfl rfl 14 (by decide) (htb _ kw_1041) (fun _ h9 => h9) rfl hin rfl (tyX13_ok 14 (by decide)) rfl rfl (by rw [List.length_map, List.length_range]; decide) dX13_init_320 (fun H locs hP hD hS => ?_)
  have hP : va_P (dC, dI) vwCl ((mWx 13 h0 ad_112 cid_111 sg_0 gm_114 lg_44 ++ [(q_115, (.inl (cA_116, mLen 14, .inl (fun _ => 0)) : va_E))]).set 0 (h0, .inr (12, ((List.range 77).map (mfn 13 ad_112 sg_0)).set 14 (.ref q_115)))) H := hP
  have hD : va_D A ((mWx 13 h0 ad_112 cid_111 sg_0 gm_114 lg_44 ++ [(q_115, (.inl (cA_116, mLen 14, .inl (fun _ => 0)) : va_E))]).set 0 (h0, .inr (12, ((List.range 77).map (mfn 13 ad_112 sg_0)).set 14 (.ref q_115)))) := hD
  rw [mWx_i (n := 13) (k := 14) rfl (by decide) (by decide) (by decide) (by decide), ← ecid_117] at hP hD
  obtain ⟨ad_118, ead_118⟩ : ∃ z, z = va_up ad_112 14 q_115 := ⟨_, rfl⟩
  rw [← ead_118] at hP hD
  obtain ⟨gm_120, egm_120⟩ : ∃ z, z = va_up gm_114 14 (fun _ => 0) := ⟨_, rfl⟩
  rw [← egm_120] at hP hD
  have hz_119 : ZR 14 gm_120 := by rw [egm_120]; exact ZR_z rfl hz_113
  have hr3_14 : gm_120 3 = f_52 := by rw [egm_120, va_up_ne _ _ (show (3 : Nat) ≠ 14 by decide)]; exact hr3_13
  have hr4_14 : gm_120 4 = f_63 := by rw [egm_120, va_up_ne _ _ (show (4 : Nat) ≠ 14 by decide)]; exact hr4_13
  have hP : va_P (dC, dI) vwCl (mWx 14 h0 ad_118 cid_117 sg_0 gm_120 lg_44) H := hP
  have hD : va_D A (mWx 14 h0 ad_118 cid_117 sg_0 gm_120 lg_44) := hD
  refine W.widen (k := 14) (n := 356) (Nat.le_of_ble_eq_true rfl) (Nat.le_of_ble_eq_true rfl) ?_
  refine lv_aload_n hx hb dX13_init_323 rfl (lv_at hl 0 rfl) ?_
  refine lv_bipush (v := 32) hx hb dX13_init_324 (by decide) ?_
  refine va_newa (D := (dC, dI)) (atype := .int) (ty := .int) (N' := 32) (a0 := (32, .inl (fun _ => 0))) hx hb (htb _ kw_205) rfl hK hP hD hS hA (fun _ => rfl) (by decide) (by decide) (by decide) (Nat.le_of_ble_eq_true rfl) (Nat.le_of_ble_eq_true rfl) dX13_init_326 (fun q_121 cA_122 H hK hP hD hS => ?_)
  rw [mTx_s (n := 14) (k := 15) (ty := .int) rfl (by decide) rfl] at hK
  obtain ⟨cid_123, ecid_123⟩ : ∃ z, z = va_up cid_117 15 cA_122 := ⟨_, rfl⟩
  rw [← ecid_123] at hK
  refine va_putF (D := (dC, dI)) (ci := 12) (v := .ref q_121) (ty := tyX13 15) (C := RX13) (T := TX13) (N := 77) (ref := "WiredBeansModel") hx hb htb inX13 tyX13 tyX13_ok nmX13 hown hK hP hD hS 0 rfl rfl 15 (by decide) (htb _ kw_1042) (fun _ h9 => h9) rfl hin rfl (tyX13_ok 15 (by decide)) rfl rfl (by rw [List.length_map, List.length_range]; decide) dX13_init_328 (fun H locs hP hD hS => ?_)
  have hP : va_P (dC, dI) vwCl ((mWx 14 h0 ad_118 cid_117 sg_0 gm_120 lg_44 ++ [(q_121, (.inl (cA_122, mLen 15, .inl (fun _ => 0)) : va_E))]).set 0 (h0, .inr (12, ((List.range 77).map (mfn 14 ad_118 sg_0)).set 15 (.ref q_121)))) H := hP
  have hD : va_D A ((mWx 14 h0 ad_118 cid_117 sg_0 gm_120 lg_44 ++ [(q_121, (.inl (cA_122, mLen 15, .inl (fun _ => 0)) : va_E))]).set 0 (h0, .inr (12, ((List.range 77).map (mfn 14 ad_118 sg_0)).set 15 (.ref q_121)))) := hD
  rw [mWx_i (n := 14) (k := 15) rfl (by decide) (by decide) (by decide) (by decide), ← ecid_123] at hP hD
  obtain ⟨ad_124, ead_124⟩ : ∃ z, z = va_up ad_118 15 q_121 := ⟨_, rfl⟩
  rw [← ead_124] at hP hD
  obtain ⟨gm_126, egm_126⟩ : ∃ z, z = va_up gm_120 15 (fun _ => 0) := ⟨_, rfl⟩
  rw [← egm_126] at hP hD
  have hz_125 : ZR 15 gm_126 := by rw [egm_126]; exact ZR_z rfl hz_119
  have hr3_15 : gm_126 3 = f_52 := by rw [egm_126, va_up_ne _ _ (show (3 : Nat) ≠ 15 by decide)]; exact hr3_14
  have hr4_15 : gm_126 4 = f_63 := by rw [egm_126, va_up_ne _ _ (show (4 : Nat) ≠ 15 by decide)]; exact hr4_14
  have hP : va_P (dC, dI) vwCl (mWx 15 h0 ad_124 cid_123 sg_0 gm_126 lg_44) H := hP
  have hD : va_D A (mWx 15 h0 ad_124 cid_123 sg_0 gm_126 lg_44) := hD
  refine W.widen (k := 15) (n := 388) (Nat.le_of_ble_eq_true rfl) (Nat.le_of_ble_eq_true rfl) ?_
  refine lv_aload_n hx hb dX13_init_331 rfl (lv_at hl 0 rfl) ?_
  refine lv_bipush (v := 32) hx hb dX13_init_332 (by decide) ?_
  refine va_newa (D := (dC, dI)) (atype := .int) (ty := .int) (N' := 32) (a0 := (32, .inl (fun _ => 0))) hx hb (htb _ kw_205) rfl hK hP hD hS hA (fun _ => rfl) (by decide) (by decide) (by decide) (Nat.le_of_ble_eq_true rfl) (Nat.le_of_ble_eq_true rfl) dX13_init_334 (fun q_127 cA_128 H hK hP hD hS => ?_)
  rw [mTx_s (n := 15) (k := 16) (ty := .int) rfl (by decide) rfl] at hK
  obtain ⟨cid_129, ecid_129⟩ : ∃ z, z = va_up cid_123 16 cA_128 := ⟨_, rfl⟩
  rw [← ecid_129] at hK
  refine va_putF (D := (dC, dI)) (ci := 12) (v := .ref q_127) (ty := tyX13 16) (C := RX13) (T := TX13) (N := 77) (ref := "WiredBeansModel") hx hb htb inX13 tyX13 tyX13_ok nmX13 hown hK hP hD hS 0 rfl rfl 16 (by decide) (htb _ kw_1043) (fun _ h9 => h9) rfl hin rfl (tyX13_ok 16 (by decide)) rfl rfl (by rw [List.length_map, List.length_range]; decide) dX13_init_336 (fun H locs hP hD hS => ?_)
  have hP : va_P (dC, dI) vwCl ((mWx 15 h0 ad_124 cid_123 sg_0 gm_126 lg_44 ++ [(q_127, (.inl (cA_128, mLen 16, .inl (fun _ => 0)) : va_E))]).set 0 (h0, .inr (12, ((List.range 77).map (mfn 15 ad_124 sg_0)).set 16 (.ref q_127)))) H := hP
  have hD : va_D A ((mWx 15 h0 ad_124 cid_123 sg_0 gm_126 lg_44 ++ [(q_127, (.inl (cA_128, mLen 16, .inl (fun _ => 0)) : va_E))]).set 0 (h0, .inr (12, ((List.range 77).map (mfn 15 ad_124 sg_0)).set 16 (.ref q_127)))) := hD
  rw [mWx_i (n := 15) (k := 16) rfl (by decide) (by decide) (by decide) (by decide), ← ecid_129] at hP hD
  obtain ⟨ad_130, ead_130⟩ : ∃ z, z = va_up ad_124 16 q_127 := ⟨_, rfl⟩
  rw [← ead_130] at hP hD
  obtain ⟨gm_132, egm_132⟩ : ∃ z, z = va_up gm_126 16 (fun _ => 0) := ⟨_, rfl⟩
  rw [← egm_132] at hP hD
  have hz_131 : ZR 16 gm_132 := by rw [egm_132]; exact ZR_z rfl hz_125
  have hr3_16 : gm_132 3 = f_52 := by rw [egm_132, va_up_ne _ _ (show (3 : Nat) ≠ 16 by decide)]; exact hr3_15
  have hr4_16 : gm_132 4 = f_63 := by rw [egm_132, va_up_ne _ _ (show (4 : Nat) ≠ 16 by decide)]; exact hr4_15
  have hP : va_P (dC, dI) vwCl (mWx 16 h0 ad_130 cid_129 sg_0 gm_132 lg_44) H := hP
  have hD : va_D A (mWx 16 h0 ad_130 cid_129 sg_0 gm_132 lg_44) := hD
  refine W.widen (k := 16) (n := 420) (Nat.le_of_ble_eq_true rfl) (Nat.le_of_ble_eq_true rfl) ?_
  refine lv_aload_n hx hb dX13_init_339 rfl (lv_at hl 0 rfl) ?_
  refine lv_bipush (v := 96) hx hb dX13_init_340 (by decide) ?_
  refine va_newa (D := (dC, dI)) (atype := .int) (ty := .int) (N' := 96) (a0 := (96, .inl (fun _ => 0))) hx hb (htb _ kw_205) rfl hK hP hD hS hA (fun _ => rfl) (by decide) (by decide) (by decide) (Nat.le_of_ble_eq_true rfl) (Nat.le_of_ble_eq_true rfl) dX13_init_342 (fun q_133 cA_134 H hK hP hD hS => ?_)
  rw [mTx_s (n := 16) (k := 17) (ty := .int) rfl (by decide) rfl] at hK
  obtain ⟨cid_135, ecid_135⟩ : ∃ z, z = va_up cid_129 17 cA_134 := ⟨_, rfl⟩
  rw [← ecid_135] at hK
  refine va_putF (D := (dC, dI)) (ci := 12) (v := .ref q_133) (ty := tyX13 17) (C := RX13) (T := TX13) (N := 77) (ref := "WiredBeansModel") hx hb htb inX13 tyX13 tyX13_ok nmX13 hown hK hP hD hS 0 rfl rfl 17 (by decide) (htb _ kw_1044) (fun _ h9 => h9) rfl hin rfl (tyX13_ok 17 (by decide)) rfl rfl (by rw [List.length_map, List.length_range]; decide) dX13_init_344 (fun H locs hP hD hS => ?_)
  have hP : va_P (dC, dI) vwCl ((mWx 16 h0 ad_130 cid_129 sg_0 gm_132 lg_44 ++ [(q_133, (.inl (cA_134, mLen 17, .inl (fun _ => 0)) : va_E))]).set 0 (h0, .inr (12, ((List.range 77).map (mfn 16 ad_130 sg_0)).set 17 (.ref q_133)))) H := hP
  have hD : va_D A ((mWx 16 h0 ad_130 cid_129 sg_0 gm_132 lg_44 ++ [(q_133, (.inl (cA_134, mLen 17, .inl (fun _ => 0)) : va_E))]).set 0 (h0, .inr (12, ((List.range 77).map (mfn 16 ad_130 sg_0)).set 17 (.ref q_133)))) := hD
  rw [mWx_i (n := 16) (k := 17) rfl (by decide) (by decide) (by decide) (by decide), ← ecid_135] at hP hD
  obtain ⟨ad_136, ead_136⟩ : ∃ z, z = va_up ad_130 17 q_133 := ⟨_, rfl⟩
  rw [← ead_136] at hP hD
  obtain ⟨gm_138, egm_138⟩ : ∃ z, z = va_up gm_132 17 (fun _ => 0) := ⟨_, rfl⟩
  rw [← egm_138] at hP hD
  have hz_137 : ZR 17 gm_138 := by rw [egm_138]; exact ZR_z rfl hz_131
  have hr3_17 : gm_138 3 = f_52 := by rw [egm_138, va_up_ne _ _ (show (3 : Nat) ≠ 17 by decide)]; exact hr3_16
  have hr4_17 : gm_138 4 = f_63 := by rw [egm_138, va_up_ne _ _ (show (4 : Nat) ≠ 17 by decide)]; exact hr4_16
  have hP : va_P (dC, dI) vwCl (mWx 17 h0 ad_136 cid_135 sg_0 gm_138 lg_44) H := hP
  have hD : va_D A (mWx 17 h0 ad_136 cid_135 sg_0 gm_138 lg_44) := hD
  refine W.widen (k := 17) (n := 516) (Nat.le_of_ble_eq_true rfl) (Nat.le_of_ble_eq_true rfl) ?_
  refine lv_aload_n hx hb dX13_init_347 rfl (lv_at hl 0 rfl) ?_
  refine lv_bipush (v := 32) hx hb dX13_init_348 (by decide) ?_
  refine va_newa (D := (dC, dI)) (atype := .boolean) (ty := .boolean) (N' := 32) (a0 := (32, .inl (fun _ => 0))) hx hb (htb _ kw_1104) rfl hK hP hD hS hA (fun _ => rfl) (by decide) (by decide) (by decide) (Nat.le_of_ble_eq_true rfl) (Nat.le_of_ble_eq_true rfl) dX13_init_350 (fun q_139 cA_140 H hK hP hD hS => ?_)
  rw [mTx_s (n := 17) (k := 18) (ty := .boolean) rfl (by decide) rfl] at hK
  obtain ⟨cid_141, ecid_141⟩ : ∃ z, z = va_up cid_135 18 cA_140 := ⟨_, rfl⟩
  rw [← ecid_141] at hK
  refine va_putF (D := (dC, dI)) (ci := 12) (v := .ref q_139) (ty := tyX13 18) (C := RX13) (T := TX13) (N := 77) (ref := "WiredBeansModel") hx hb htb inX13 tyX13 tyX13_ok nmX13 hown hK hP hD hS 0 rfl rfl 18 (by decide) (htb _ kw_1045) (fun _ h9 => h9) rfl hin rfl (tyX13_ok 18 (by decide)) rfl rfl (by rw [List.length_map, List.length_range]; decide) dX13_init_352 (fun H locs hP hD hS => ?_)
  have hP : va_P (dC, dI) vwCl ((mWx 17 h0 ad_136 cid_135 sg_0 gm_138 lg_44 ++ [(q_139, (.inl (cA_140, mLen 18, .inl (fun _ => 0)) : va_E))]).set 0 (h0, .inr (12, ((List.range 77).map (mfn 17 ad_136 sg_0)).set 18 (.ref q_139)))) H := hP
  have hD : va_D A ((mWx 17 h0 ad_136 cid_135 sg_0 gm_138 lg_44 ++ [(q_139, (.inl (cA_140, mLen 18, .inl (fun _ => 0)) : va_E))]).set 0 (h0, .inr (12, ((List.range 77).map (mfn 17 ad_136 sg_0)).set 18 (.ref q_139)))) := hD
  rw [mWx_i (n := 17) (k := 18) rfl (by decide) (by decide) (by decide) (by decide), ← ecid_141] at hP hD
  obtain ⟨ad_142, ead_142⟩ : ∃ z, z = va_up ad_136 18 q_139 := ⟨_, rfl⟩
  rw [← ead_142] at hP hD
  obtain ⟨gm_144, egm_144⟩ : ∃ z, z = va_up gm_138 18 (fun _ => 0) := ⟨_, rfl⟩
  rw [← egm_144] at hP hD
  have hz_143 : ZR 18 gm_144 := by rw [egm_144]; exact ZR_z rfl hz_137
  have hr3_18 : gm_144 3 = f_52 := by rw [egm_144, va_up_ne _ _ (show (3 : Nat) ≠ 18 by decide)]; exact hr3_17
  have hr4_18 : gm_144 4 = f_63 := by rw [egm_144, va_up_ne _ _ (show (4 : Nat) ≠ 18 by decide)]; exact hr4_17
  have hP : va_P (dC, dI) vwCl (mWx 18 h0 ad_142 cid_141 sg_0 gm_144 lg_44) H := hP
  have hD : va_D A (mWx 18 h0 ad_142 cid_141 sg_0 gm_144 lg_44) := hD
  refine W.widen (k := 18) (n := 548) (Nat.le_of_ble_eq_true rfl) (Nat.le_of_ble_eq_true rfl) ?_
  refine lv_aload_n hx hb dX13_init_355 rfl (lv_at hl 0 rfl) ?_
  refine lv_sipush (v := 1200) hx hb dX13_init_356 (by decide) ?_
  refine va_newa (D := (dC, dI)) (atype := .byte) (ty := .byte) (N' := 1200) (a0 := (1200, .inl (fun _ => 0))) hx hb (htb _ kw_875) rfl hK hP hD hS hA (fun _ => rfl) (by decide) (by decide) (by decide) (Nat.le_of_ble_eq_true rfl) (Nat.le_of_ble_eq_true rfl) dX13_init_359 (fun q_145 cA_146 H hK hP hD hS => ?_)
  rw [mTx_s (n := 18) (k := 19) (ty := .byte) rfl (by decide) rfl] at hK
  obtain ⟨cid_147, ecid_147⟩ : ∃ z, z = va_up cid_141 19 cA_146 := ⟨_, rfl⟩
  rw [← ecid_147] at hK
  refine va_putF (D := (dC, dI)) (ci := 12) (v := .ref q_145) (ty := tyX13 19) (C := RX13) (T := TX13) (N := 77) (ref := "WiredBeansModel") hx hb htb inX13 tyX13 tyX13_ok nmX13 hown hK hP hD hS 0 rfl rfl 19 (by decide) (htb _ kw_1046) (fun _ h9 => h9) rfl hin rfl (tyX13_ok 19 (by decide)) rfl rfl (by rw [List.length_map, List.length_range]; decide) dX13_init_361 (fun H locs hP hD hS => ?_)
  have hP : va_P (dC, dI) vwCl ((mWx 18 h0 ad_142 cid_141 sg_0 gm_144 lg_44 ++ [(q_145, (.inl (cA_146, mLen 19, .inl (fun _ => 0)) : va_E))]).set 0 (h0, .inr (12, ((List.range 77).map (mfn 18 ad_142 sg_0)).set 19 (.ref q_145)))) H := hP
  have hD : va_D A ((mWx 18 h0 ad_142 cid_141 sg_0 gm_144 lg_44 ++ [(q_145, (.inl (cA_146, mLen 19, .inl (fun _ => 0)) : va_E))]).set 0 (h0, .inr (12, ((List.range 77).map (mfn 18 ad_142 sg_0)).set 19 (.ref q_145)))) := hD
  rw [mWx_i (n := 18) (k := 19) rfl (by decide) (by decide) (by decide) (by decide), ← ecid_147] at hP hD
  obtain ⟨ad_148, ead_148⟩ : ∃ z, z = va_up ad_142 19 q_145 := ⟨_, rfl⟩
  rw [← ead_148] at hP hD
  obtain ⟨gm_150, egm_150⟩ : ∃ z, z = va_up gm_144 19 (fun _ => 0) := ⟨_, rfl⟩
  rw [← egm_150] at hP hD
  have hz_149 : ZR 19 gm_150 := by rw [egm_150]; exact ZR_z rfl hz_143
  have hr3_19 : gm_150 3 = f_52 := by rw [egm_150, va_up_ne _ _ (show (3 : Nat) ≠ 19 by decide)]; exact hr3_18
  have hr4_19 : gm_150 4 = f_63 := by rw [egm_150, va_up_ne _ _ (show (4 : Nat) ≠ 19 by decide)]; exact hr4_18
  have hP : va_P (dC, dI) vwCl (mWx 19 h0 ad_148 cid_147 sg_0 gm_150 lg_44) H := hP
  have hD : va_D A (mWx 19 h0 ad_148 cid_147 sg_0 gm_150 lg_44) := hD
  refine W.widen (k := 19) (n := 1748) (Nat.le_of_ble_eq_true rfl) (Nat.le_of_ble_eq_true rfl) ?_
  refine lv_aload_n hx hb dX13_init_364 rfl (lv_at hl 0 rfl) ?_
  refine lv_iconst (v := (-1)) hx hb dX13_init_365 (by decide) ?_
  refine va_put (D := (dC, dI)) (ci := 12) (v := .int (-1)) (ty := tyX13 23) (C := RX13) (T := TX13) (N := 77) (ref := "WiredBeansModel") hx hb htb inX13 tyX13 tyX13_ok nmX13 hown hK hP hD hS 0 rfl rfl 23 (by decide) (htb _ kw_1050) (fun _ h9 => h9) rfl (tyX13_ok 23 (by decide)) rfl rfl (by rw [List.length_map, List.length_range]; decide) dX13_init_366 (fun H locs hP hD hS => ?_)
  have hP : va_P (dC, dI) vwCl ((mWx 19 h0 ad_148 cid_147 sg_0 gm_150 lg_44).set 0 (h0, .inr (12, ((List.range 77).map (mfn 19 ad_148 sg_0)).set 23 (.int (-1))))) H := hP
  have hD : va_D A ((mWx 19 h0 ad_148 cid_147 sg_0 gm_150 lg_44).set 0 (h0, .inr (12, ((List.range 77).map (mfn 19 ad_148 sg_0)).set 23 (.int (-1))))) := hD
  rw [mWx_s (by decide)] at hP hD
  obtain ⟨sg_151, esg_151⟩ : ∃ z, z = va_up sg_0 23 (-1) := ⟨_, rfl⟩
  rw [← esg_151] at hP hD
  refine lv_aload_n hx hb dX13_init_369 rfl (lv_at hl 0 rfl) ?_
  refine lv_bipush (v := 80) hx hb dX13_init_370 (by decide) ?_
  refine va_newa (D := (dC, dI)) (atype := .int) (ty := .int) (N' := 80) (a0 := (80, .inl (fun _ => 0))) hx hb (htb _ kw_205) rfl hK hP hD hS hA (fun _ => rfl) (by decide) (by decide) (by decide) (Nat.le_of_ble_eq_true rfl) (Nat.le_of_ble_eq_true rfl) dX13_init_372 (fun q_152 cA_153 H hK hP hD hS => ?_)
  rw [mTx_s (n := 19) (k := 26) (ty := .int) rfl (by decide) rfl] at hK
  obtain ⟨cid_154, ecid_154⟩ : ∃ z, z = va_up cid_147 26 cA_153 := ⟨_, rfl⟩
  rw [← ecid_154] at hK
  refine va_putF (D := (dC, dI)) (ci := 12) (v := .ref q_152) (ty := tyX13 26) (C := RX13) (T := TX13) (N := 77) (ref := "WiredBeansModel") hx hb htb inX13 tyX13 tyX13_ok nmX13 hown hK hP hD hS 0 rfl rfl 26 (by decide) (htb _ kw_1053) (fun _ h9 => h9) rfl hin rfl (tyX13_ok 26 (by decide)) rfl rfl (by rw [List.length_map, List.length_range]; decide) dX13_init_374 (fun H locs hP hD hS => ?_)
  have hP : va_P (dC, dI) vwCl ((mWx 19 h0 ad_148 cid_147 sg_151 gm_150 lg_44 ++ [(q_152, (.inl (cA_153, mLen 26, .inl (fun _ => 0)) : va_E))]).set 0 (h0, .inr (12, ((List.range 77).map (mfn 19 ad_148 sg_151)).set 26 (.ref q_152)))) H := hP
  have hD : va_D A ((mWx 19 h0 ad_148 cid_147 sg_151 gm_150 lg_44 ++ [(q_152, (.inl (cA_153, mLen 26, .inl (fun _ => 0)) : va_E))]).set 0 (h0, .inr (12, ((List.range 77).map (mfn 19 ad_148 sg_151)).set 26 (.ref q_152)))) := hD
  rw [mWx_i (n := 19) (k := 26) rfl (by decide) (by decide) (by decide) (by decide), ← ecid_154] at hP hD
  obtain ⟨ad_155, ead_155⟩ : ∃ z, z = va_up ad_148 26 q_152 := ⟨_, rfl⟩
  rw [← ead_155] at hP hD
  obtain ⟨gm_157, egm_157⟩ : ∃ z, z = va_up gm_150 26 (fun _ => 0) := ⟨_, rfl⟩
  rw [← egm_157] at hP hD
  have hz_156 : ZR 20 gm_157 := by rw [egm_157]; exact ZR_z rfl hz_149
  have hr3_20 : gm_157 3 = f_52 := by rw [egm_157, va_up_ne _ _ (show (3 : Nat) ≠ 26 by decide)]; exact hr3_19
  have hr4_20 : gm_157 4 = f_63 := by rw [egm_157, va_up_ne _ _ (show (4 : Nat) ≠ 26 by decide)]; exact hr4_19
  have hP : va_P (dC, dI) vwCl (mWx 20 h0 ad_155 cid_154 sg_151 gm_157 lg_44) H := hP
  have hD : va_D A (mWx 20 h0 ad_155 cid_154 sg_151 gm_157 lg_44) := hD
  refine W.widen (k := 20) (n := 1828) (Nat.le_of_ble_eq_true rfl) (Nat.le_of_ble_eq_true rfl) ?_
  refine lv_aload_n hx hb dX13_init_377 rfl (lv_at hl 0 rfl) ?_
  refine lv_bipush (v := 80) hx hb dX13_init_378 (by decide) ?_
  refine va_newa (D := (dC, dI)) (atype := .int) (ty := .int) (N' := 80) (a0 := (80, .inl (fun _ => 0))) hx hb (htb _ kw_205) rfl hK hP hD hS hA (fun _ => rfl) (by decide) (by decide) (by decide) (Nat.le_of_ble_eq_true rfl) (Nat.le_of_ble_eq_true rfl) dX13_init_380 (fun q_158 cA_159 H hK hP hD hS => ?_)
  rw [mTx_s (n := 20) (k := 27) (ty := .int) rfl (by decide) rfl] at hK
  obtain ⟨cid_160, ecid_160⟩ : ∃ z, z = va_up cid_154 27 cA_159 := ⟨_, rfl⟩
  rw [← ecid_160] at hK
  refine va_putF (D := (dC, dI)) (ci := 12) (v := .ref q_158) (ty := tyX13 27) (C := RX13) (T := TX13) (N := 77) (ref := "WiredBeansModel") hx hb htb inX13 tyX13 tyX13_ok nmX13 hown hK hP hD hS 0 rfl rfl 27 (by decide) (htb _ kw_1054) (fun _ h9 => h9) rfl hin rfl (tyX13_ok 27 (by decide)) rfl rfl (by rw [List.length_map, List.length_range]; decide) dX13_init_382 (fun H locs hP hD hS => ?_)
  have hP : va_P (dC, dI) vwCl ((mWx 20 h0 ad_155 cid_154 sg_151 gm_157 lg_44 ++ [(q_158, (.inl (cA_159, mLen 27, .inl (fun _ => 0)) : va_E))]).set 0 (h0, .inr (12, ((List.range 77).map (mfn 20 ad_155 sg_151)).set 27 (.ref q_158)))) H := hP
  have hD : va_D A ((mWx 20 h0 ad_155 cid_154 sg_151 gm_157 lg_44 ++ [(q_158, (.inl (cA_159, mLen 27, .inl (fun _ => 0)) : va_E))]).set 0 (h0, .inr (12, ((List.range 77).map (mfn 20 ad_155 sg_151)).set 27 (.ref q_158)))) := hD
  rw [mWx_i (n := 20) (k := 27) rfl (by decide) (by decide) (by decide) (by decide), ← ecid_160] at hP hD
  obtain ⟨ad_161, ead_161⟩ : ∃ z, z = va_up ad_155 27 q_158 := ⟨_, rfl⟩
  rw [← ead_161] at hP hD
  obtain ⟨gm_163, egm_163⟩ : ∃ z, z = va_up gm_157 27 (fun _ => 0) := ⟨_, rfl⟩
  rw [← egm_163] at hP hD
  have hz_162 : ZR 21 gm_163 := by rw [egm_163]; exact ZR_z rfl hz_156
  have hr3_21 : gm_163 3 = f_52 := by rw [egm_163, va_up_ne _ _ (show (3 : Nat) ≠ 27 by decide)]; exact hr3_20
  have hr4_21 : gm_163 4 = f_63 := by rw [egm_163, va_up_ne _ _ (show (4 : Nat) ≠ 27 by decide)]; exact hr4_20
  have hP : va_P (dC, dI) vwCl (mWx 21 h0 ad_161 cid_160 sg_151 gm_163 lg_44) H := hP
  have hD : va_D A (mWx 21 h0 ad_161 cid_160 sg_151 gm_163 lg_44) := hD
  refine W.widen (k := 21) (n := 1908) (Nat.le_of_ble_eq_true rfl) (Nat.le_of_ble_eq_true rfl) ?_
  refine lv_aload_n hx hb dX13_init_385 rfl (lv_at hl 0 rfl) ?_
  refine lv_bipush (v := 80) hx hb dX13_init_386 (by decide) ?_
  refine va_newa (D := (dC, dI)) (atype := .int) (ty := .int) (N' := 80) (a0 := (80, .inl (fun _ => 0))) hx hb (htb _ kw_205) rfl hK hP hD hS hA (fun _ => rfl) (by decide) (by decide) (by decide) (Nat.le_of_ble_eq_true rfl) (Nat.le_of_ble_eq_true rfl) dX13_init_388 (fun q_164 cA_165 H hK hP hD hS => ?_)
  rw [mTx_s (n := 21) (k := 28) (ty := .int) rfl (by decide) rfl] at hK
  obtain ⟨cid_166, ecid_166⟩ : ∃ z, z = va_up cid_160 28 cA_165 := ⟨_, rfl⟩
  rw [← ecid_166] at hK
  refine va_putF (D := (dC, dI)) (ci := 12) (v := .ref q_164) (ty := tyX13 28) (C := RX13) (T := TX13) (N := 77) (ref := "WiredBeansModel") hx hb htb inX13 tyX13 tyX13_ok nmX13 hown hK hP hD hS 0 rfl rfl 28 (by decide) (htb _ kw_1055) (fun _ h9 => h9) rfl hin rfl (tyX13_ok 28 (by decide)) rfl rfl (by rw [List.length_map, List.length_range]; decide) dX13_init_390 (fun H locs hP hD hS => ?_)
  have hP : va_P (dC, dI) vwCl ((mWx 21 h0 ad_161 cid_160 sg_151 gm_163 lg_44 ++ [(q_164, (.inl (cA_165, mLen 28, .inl (fun _ => 0)) : va_E))]).set 0 (h0, .inr (12, ((List.range 77).map (mfn 21 ad_161 sg_151)).set 28 (.ref q_164)))) H := hP
  have hD : va_D A ((mWx 21 h0 ad_161 cid_160 sg_151 gm_163 lg_44 ++ [(q_164, (.inl (cA_165, mLen 28, .inl (fun _ => 0)) : va_E))]).set 0 (h0, .inr (12, ((List.range 77).map (mfn 21 ad_161 sg_151)).set 28 (.ref q_164)))) := hD
  rw [mWx_i (n := 21) (k := 28) rfl (by decide) (by decide) (by decide) (by decide), ← ecid_166] at hP hD
  obtain ⟨ad_167, ead_167⟩ : ∃ z, z = va_up ad_161 28 q_164 := ⟨_, rfl⟩
  rw [← ead_167] at hP hD
  obtain ⟨gm_169, egm_169⟩ : ∃ z, z = va_up gm_163 28 (fun _ => 0) := ⟨_, rfl⟩
  rw [← egm_169] at hP hD
  have hz_168 : ZR 22 gm_169 := by rw [egm_169]; exact ZR_z rfl hz_162
  have hr3_22 : gm_169 3 = f_52 := by rw [egm_169, va_up_ne _ _ (show (3 : Nat) ≠ 28 by decide)]; exact hr3_21
  have hr4_22 : gm_169 4 = f_63 := by rw [egm_169, va_up_ne _ _ (show (4 : Nat) ≠ 28 by decide)]; exact hr4_21
  have hP : va_P (dC, dI) vwCl (mWx 22 h0 ad_167 cid_166 sg_151 gm_169 lg_44) H := hP
  have hD : va_D A (mWx 22 h0 ad_167 cid_166 sg_151 gm_169 lg_44) := hD
  refine W.widen (k := 22) (n := 1988) (Nat.le_of_ble_eq_true rfl) (Nat.le_of_ble_eq_true rfl) ?_
  refine lv_aload_n hx hb dX13_init_393 rfl (lv_at hl 0 rfl) ?_
  refine lv_bipush (v := 80) hx hb dX13_init_394 (by decide) ?_
  refine va_newa (D := (dC, dI)) (atype := .int) (ty := .int) (N' := 80) (a0 := (80, .inl (fun _ => 0))) hx hb (htb _ kw_205) rfl hK hP hD hS hA (fun _ => rfl) (by decide) (by decide) (by decide) (Nat.le_of_ble_eq_true rfl) (Nat.le_of_ble_eq_true rfl) dX13_init_396 (fun q_170 cA_171 H hK hP hD hS => ?_)
  rw [mTx_s (n := 22) (k := 29) (ty := .int) rfl (by decide) rfl] at hK
  obtain ⟨cid_172, ecid_172⟩ : ∃ z, z = va_up cid_166 29 cA_171 := ⟨_, rfl⟩
  rw [← ecid_172] at hK
  refine va_putF (D := (dC, dI)) (ci := 12) (v := .ref q_170) (ty := tyX13 29) (C := RX13) (T := TX13) (N := 77) (ref := "WiredBeansModel") hx hb htb inX13 tyX13 tyX13_ok nmX13 hown hK hP hD hS 0 rfl rfl 29 (by decide) (htb _ kw_1056) (fun _ h9 => h9) rfl hin rfl (tyX13_ok 29 (by decide)) rfl rfl (by rw [List.length_map, List.length_range]; decide) dX13_init_398 (fun H locs hP hD hS => ?_)
  have hP : va_P (dC, dI) vwCl ((mWx 22 h0 ad_167 cid_166 sg_151 gm_169 lg_44 ++ [(q_170, (.inl (cA_171, mLen 29, .inl (fun _ => 0)) : va_E))]).set 0 (h0, .inr (12, ((List.range 77).map (mfn 22 ad_167 sg_151)).set 29 (.ref q_170)))) H := hP
  have hD : va_D A ((mWx 22 h0 ad_167 cid_166 sg_151 gm_169 lg_44 ++ [(q_170, (.inl (cA_171, mLen 29, .inl (fun _ => 0)) : va_E))]).set 0 (h0, .inr (12, ((List.range 77).map (mfn 22 ad_167 sg_151)).set 29 (.ref q_170)))) := hD
  rw [mWx_i (n := 22) (k := 29) rfl (by decide) (by decide) (by decide) (by decide), ← ecid_172] at hP hD
  obtain ⟨ad_173, ead_173⟩ : ∃ z, z = va_up ad_167 29 q_170 := ⟨_, rfl⟩
  rw [← ead_173] at hP hD
  obtain ⟨gm_175, egm_175⟩ : ∃ z, z = va_up gm_169 29 (fun _ => 0) := ⟨_, rfl⟩
  rw [← egm_175] at hP hD
  have hz_174 : ZR 23 gm_175 := by rw [egm_175]; exact ZR_z rfl hz_168
  have hr3_23 : gm_175 3 = f_52 := by rw [egm_175, va_up_ne _ _ (show (3 : Nat) ≠ 29 by decide)]; exact hr3_22
  have hr4_23 : gm_175 4 = f_63 := by rw [egm_175, va_up_ne _ _ (show (4 : Nat) ≠ 29 by decide)]; exact hr4_22
  have hP : va_P (dC, dI) vwCl (mWx 23 h0 ad_173 cid_172 sg_151 gm_175 lg_44) H := hP
  have hD : va_D A (mWx 23 h0 ad_173 cid_172 sg_151 gm_175 lg_44) := hD
  refine W.widen (k := 23) (n := 2068) (Nat.le_of_ble_eq_true rfl) (Nat.le_of_ble_eq_true rfl) ?_
  refine lv_aload_n hx hb dX13_init_401 rfl (lv_at hl 0 rfl) ?_
  refine lv_bipush (v := 80) hx hb dX13_init_402 (by decide) ?_
  refine va_newa (D := (dC, dI)) (atype := .int) (ty := .int) (N' := 80) (a0 := (80, .inl (fun _ => 0))) hx hb (htb _ kw_205) rfl hK hP hD hS hA (fun _ => rfl) (by decide) (by decide) (by decide) (Nat.le_of_ble_eq_true rfl) (Nat.le_of_ble_eq_true rfl) dX13_init_404 (fun q_176 cA_177 H hK hP hD hS => ?_)
  rw [mTx_s (n := 23) (k := 30) (ty := .int) rfl (by decide) rfl] at hK
  obtain ⟨cid_178, ecid_178⟩ : ∃ z, z = va_up cid_172 30 cA_177 := ⟨_, rfl⟩
  rw [← ecid_178] at hK
  refine va_putF (D := (dC, dI)) (ci := 12) (v := .ref q_176) (ty := tyX13 30) (C := RX13) (T := TX13) (N := 77) (ref := "WiredBeansModel") hx hb htb inX13 tyX13 tyX13_ok nmX13 hown hK hP hD hS 0 rfl rfl 30 (by decide) (htb _ kw_1057) (fun _ h9 => h9) rfl hin rfl (tyX13_ok 30 (by decide)) rfl rfl (by rw [List.length_map, List.length_range]; decide) dX13_init_406 (fun H locs hP hD hS => ?_)
  have hP : va_P (dC, dI) vwCl ((mWx 23 h0 ad_173 cid_172 sg_151 gm_175 lg_44 ++ [(q_176, (.inl (cA_177, mLen 30, .inl (fun _ => 0)) : va_E))]).set 0 (h0, .inr (12, ((List.range 77).map (mfn 23 ad_173 sg_151)).set 30 (.ref q_176)))) H := hP
  have hD : va_D A ((mWx 23 h0 ad_173 cid_172 sg_151 gm_175 lg_44 ++ [(q_176, (.inl (cA_177, mLen 30, .inl (fun _ => 0)) : va_E))]).set 0 (h0, .inr (12, ((List.range 77).map (mfn 23 ad_173 sg_151)).set 30 (.ref q_176)))) := hD
  rw [mWx_i (n := 23) (k := 30) rfl (by decide) (by decide) (by decide) (by decide), ← ecid_178] at hP hD
  obtain ⟨ad_179, ead_179⟩ : ∃ z, z = va_up ad_173 30 q_176 := ⟨_, rfl⟩
  rw [← ead_179] at hP hD
  obtain ⟨gm_181, egm_181⟩ : ∃ z, z = va_up gm_175 30 (fun _ => 0) := ⟨_, rfl⟩
  rw [← egm_181] at hP hD
  have hz_180 : ZR 24 gm_181 := by rw [egm_181]; exact ZR_z rfl hz_174
  have hr3_24 : gm_181 3 = f_52 := by rw [egm_181, va_up_ne _ _ (show (3 : Nat) ≠ 30 by decide)]; exact hr3_23
  have hr4_24 : gm_181 4 = f_63 := by rw [egm_181, va_up_ne _ _ (show (4 : Nat) ≠ 30 by decide)]; exact hr4_23
  have hP : va_P (dC, dI) vwCl (mWx 24 h0 ad_179 cid_178 sg_151 gm_181 lg_44) H := hP
  have hD : va_D A (mWx 24 h0 ad_179 cid_178 sg_151 gm_181 lg_44) := hD
  refine W.widen (k := 24) (n := 2148) (Nat.le_of_ble_eq_true rfl) (Nat.le_of_ble_eq_true rfl) ?_
  refine lv_aload_n hx hb dX13_init_409 rfl (lv_at hl 0 rfl) ?_
  refine lv_bipush (v := 80) hx hb dX13_init_410 (by decide) ?_
  refine va_newa (D := (dC, dI)) (atype := .int) (ty := .int) (N' := 80) (a0 := (80, .inl (fun _ => 0))) hx hb (htb _ kw_205) rfl hK hP hD hS hA (fun _ => rfl) (by decide) (by decide) (by decide) (Nat.le_of_ble_eq_true rfl) (Nat.le_of_ble_eq_true rfl) dX13_init_412 (fun q_182 cA_183 H hK hP hD hS => ?_)
  rw [mTx_s (n := 24) (k := 31) (ty := .int) rfl (by decide) rfl] at hK
  obtain ⟨cid_184, ecid_184⟩ : ∃ z, z = va_up cid_178 31 cA_183 := ⟨_, rfl⟩
  rw [← ecid_184] at hK
  refine va_putF (D := (dC, dI)) (ci := 12) (v := .ref q_182) (ty := tyX13 31) (C := RX13) (T := TX13) (N := 77) (ref := "WiredBeansModel") hx hb htb inX13 tyX13 tyX13_ok nmX13 hown hK hP hD hS 0 rfl rfl 31 (by decide) (htb _ kw_1058) (fun _ h9 => h9) rfl hin rfl (tyX13_ok 31 (by decide)) rfl rfl (by rw [List.length_map, List.length_range]; decide) dX13_init_414 (fun H locs hP hD hS => ?_)
  have hP : va_P (dC, dI) vwCl ((mWx 24 h0 ad_179 cid_178 sg_151 gm_181 lg_44 ++ [(q_182, (.inl (cA_183, mLen 31, .inl (fun _ => 0)) : va_E))]).set 0 (h0, .inr (12, ((List.range 77).map (mfn 24 ad_179 sg_151)).set 31 (.ref q_182)))) H := hP
  have hD : va_D A ((mWx 24 h0 ad_179 cid_178 sg_151 gm_181 lg_44 ++ [(q_182, (.inl (cA_183, mLen 31, .inl (fun _ => 0)) : va_E))]).set 0 (h0, .inr (12, ((List.range 77).map (mfn 24 ad_179 sg_151)).set 31 (.ref q_182)))) := hD
  rw [mWx_i (n := 24) (k := 31) rfl (by decide) (by decide) (by decide) (by decide), ← ecid_184] at hP hD
  obtain ⟨ad_185, ead_185⟩ : ∃ z, z = va_up ad_179 31 q_182 := ⟨_, rfl⟩
  rw [← ead_185] at hP hD
  obtain ⟨gm_187, egm_187⟩ : ∃ z, z = va_up gm_181 31 (fun _ => 0) := ⟨_, rfl⟩
  rw [← egm_187] at hP hD
  have hz_186 : ZR 25 gm_187 := by rw [egm_187]; exact ZR_z rfl hz_180
  have hr3_25 : gm_187 3 = f_52 := by rw [egm_187, va_up_ne _ _ (show (3 : Nat) ≠ 31 by decide)]; exact hr3_24
  have hr4_25 : gm_187 4 = f_63 := by rw [egm_187, va_up_ne _ _ (show (4 : Nat) ≠ 31 by decide)]; exact hr4_24
  have hP : va_P (dC, dI) vwCl (mWx 25 h0 ad_185 cid_184 sg_151 gm_187 lg_44) H := hP
  have hD : va_D A (mWx 25 h0 ad_185 cid_184 sg_151 gm_187 lg_44) := hD
  refine W.widen (k := 25) (n := 2228) (Nat.le_of_ble_eq_true rfl) (Nat.le_of_ble_eq_true rfl) ?_
  refine lv_aload_n hx hb dX13_init_417 rfl (lv_at hl 0 rfl) ?_
  refine lv_bipush (v := 80) hx hb dX13_init_418 (by decide) ?_
  refine va_newa (D := (dC, dI)) (atype := .int) (ty := .int) (N' := 80) (a0 := (80, .inl (fun _ => 0))) hx hb (htb _ kw_205) rfl hK hP hD hS hA (fun _ => rfl) (by decide) (by decide) (by decide) (Nat.le_of_ble_eq_true rfl) (Nat.le_of_ble_eq_true rfl) dX13_init_420 (fun q_188 cA_189 H hK hP hD hS => ?_)
  rw [mTx_s (n := 25) (k := 32) (ty := .int) rfl (by decide) rfl] at hK
  obtain ⟨cid_190, ecid_190⟩ : ∃ z, z = va_up cid_184 32 cA_189 := ⟨_, rfl⟩
  rw [← ecid_190] at hK
  refine va_putF (D := (dC, dI)) (ci := 12) (v := .ref q_188) (ty := tyX13 32) (C := RX13) (T := TX13) (N := 77) (ref := "WiredBeansModel") hx hb htb inX13 tyX13 tyX13_ok nmX13 hown hK hP hD hS 0 rfl rfl 32 (by decide) (htb _ kw_1059) (fun _ h9 => h9) rfl hin rfl (tyX13_ok 32 (by decide)) rfl rfl (by rw [List.length_map, List.length_range]; decide) dX13_init_422 (fun H locs hP hD hS => ?_)
  have hP : va_P (dC, dI) vwCl ((mWx 25 h0 ad_185 cid_184 sg_151 gm_187 lg_44 ++ [(q_188, (.inl (cA_189, mLen 32, .inl (fun _ => 0)) : va_E))]).set 0 (h0, .inr (12, ((List.range 77).map (mfn 25 ad_185 sg_151)).set 32 (.ref q_188)))) H := hP
  have hD : va_D A ((mWx 25 h0 ad_185 cid_184 sg_151 gm_187 lg_44 ++ [(q_188, (.inl (cA_189, mLen 32, .inl (fun _ => 0)) : va_E))]).set 0 (h0, .inr (12, ((List.range 77).map (mfn 25 ad_185 sg_151)).set 32 (.ref q_188)))) := hD
  rw [mWx_i (n := 25) (k := 32) rfl (by decide) (by decide) (by decide) (by decide), ← ecid_190] at hP hD
  obtain ⟨ad_191, ead_191⟩ : ∃ z, z = va_up ad_185 32 q_188 := ⟨_, rfl⟩
  rw [← ead_191] at hP hD
  obtain ⟨gm_193, egm_193⟩ : ∃ z, z = va_up gm_187 32 (fun _ => 0) := ⟨_, rfl⟩
  rw [← egm_193] at hP hD
  have hz_192 : ZR 26 gm_193 := by rw [egm_193]; exact ZR_z rfl hz_186
  have hr3_26 : gm_193 3 = f_52 := by rw [egm_193, va_up_ne _ _ (show (3 : Nat) ≠ 32 by decide)]; exact hr3_25
  have hr4_26 : gm_193 4 = f_63 := by rw [egm_193, va_up_ne _ _ (show (4 : Nat) ≠ 32 by decide)]; exact hr4_25
  have hP : va_P (dC, dI) vwCl (mWx 26 h0 ad_191 cid_190 sg_151 gm_193 lg_44) H := hP
  have hD : va_D A (mWx 26 h0 ad_191 cid_190 sg_151 gm_193 lg_44) := hD
  refine W.widen (k := 26) (n := 2308) (Nat.le_of_ble_eq_true rfl) (Nat.le_of_ble_eq_true rfl) ?_
  refine lv_aload_n hx hb dX13_init_425 rfl (lv_at hl 0 rfl) ?_
  refine lv_bipush (v := 80) hx hb dX13_init_426 (by decide) ?_
  refine va_newa (D := (dC, dI)) (atype := .int) (ty := .int) (N' := 80) (a0 := (80, .inl (fun _ => 0))) hx hb (htb _ kw_205) rfl hK hP hD hS hA (fun _ => rfl) (by decide) (by decide) (by decide) (Nat.le_of_ble_eq_true rfl) (Nat.le_of_ble_eq_true rfl) dX13_init_428 (fun q_194 cA_195 H hK hP hD hS => ?_)
  rw [mTx_s (n := 26) (k := 33) (ty := .int) rfl (by decide) rfl] at hK
  obtain ⟨cid_196, ecid_196⟩ : ∃ z, z = va_up cid_190 33 cA_195 := ⟨_, rfl⟩
  rw [← ecid_196] at hK
  refine va_putF (D := (dC, dI)) (ci := 12) (v := .ref q_194) (ty := tyX13 33) (C := RX13) (T := TX13) (N := 77) (ref := "WiredBeansModel") hx hb htb inX13 tyX13 tyX13_ok nmX13 hown hK hP hD hS 0 rfl rfl 33 (by decide) (htb _ kw_1060) (fun _ h9 => h9) rfl hin rfl (tyX13_ok 33 (by decide)) rfl rfl (by rw [List.length_map, List.length_range]; decide) dX13_init_430 (fun H locs hP hD hS => ?_)
  have hP : va_P (dC, dI) vwCl ((mWx 26 h0 ad_191 cid_190 sg_151 gm_193 lg_44 ++ [(q_194, (.inl (cA_195, mLen 33, .inl (fun _ => 0)) : va_E))]).set 0 (h0, .inr (12, ((List.range 77).map (mfn 26 ad_191 sg_151)).set 33 (.ref q_194)))) H := hP
  have hD : va_D A ((mWx 26 h0 ad_191 cid_190 sg_151 gm_193 lg_44 ++ [(q_194, (.inl (cA_195, mLen 33, .inl (fun _ => 0)) : va_E))]).set 0 (h0, .inr (12, ((List.range 77).map (mfn 26 ad_191 sg_151)).set 33 (.ref q_194)))) := hD
  rw [mWx_i (n := 26) (k := 33) rfl (by decide) (by decide) (by decide) (by decide), ← ecid_196] at hP hD
  obtain ⟨ad_197, ead_197⟩ : ∃ z, z = va_up ad_191 33 q_194 := ⟨_, rfl⟩
  rw [← ead_197] at hP hD
  obtain ⟨gm_199, egm_199⟩ : ∃ z, z = va_up gm_193 33 (fun _ => 0) := ⟨_, rfl⟩
  rw [← egm_199] at hP hD
  have hz_198 : ZR 27 gm_199 := by rw [egm_199]; exact ZR_z rfl hz_192
  have hr3_27 : gm_199 3 = f_52 := by rw [egm_199, va_up_ne _ _ (show (3 : Nat) ≠ 33 by decide)]; exact hr3_26
  have hr4_27 : gm_199 4 = f_63 := by rw [egm_199, va_up_ne _ _ (show (4 : Nat) ≠ 33 by decide)]; exact hr4_26
  have hP : va_P (dC, dI) vwCl (mWx 27 h0 ad_197 cid_196 sg_151 gm_199 lg_44) H := hP
  have hD : va_D A (mWx 27 h0 ad_197 cid_196 sg_151 gm_199 lg_44) := hD
  refine W.widen (k := 27) (n := 2388) (Nat.le_of_ble_eq_true rfl) (Nat.le_of_ble_eq_true rfl) ?_
  refine lv_aload_n hx hb dX13_init_433 rfl (lv_at hl 0 rfl) ?_
  refine lv_bipush (v := 80) hx hb dX13_init_434 (by decide) ?_
  refine va_newa (D := (dC, dI)) (atype := .long) (ty := .long) (N' := 80) (a0 := (80, .inr (.inl (fun _ => 0)))) hx hb (htb _ kw_306) rfl hK hP hD hS hA (fun _ => rfl) (by decide) (by decide) (by decide) (Nat.le_of_ble_eq_true rfl) (Nat.le_of_ble_eq_true rfl) dX13_init_436 (fun q_200 cA_201 H hK hP hD hS => ?_)
  rw [mTx_s (n := 27) (k := 34) (ty := .long) rfl (by decide) rfl] at hK
  obtain ⟨cid_202, ecid_202⟩ : ∃ z, z = va_up cid_196 34 cA_201 := ⟨_, rfl⟩
  rw [← ecid_202] at hK
  refine va_putF (D := (dC, dI)) (ci := 12) (v := .ref q_200) (ty := tyX13 34) (C := RX13) (T := TX13) (N := 77) (ref := "WiredBeansModel") hx hb htb inX13 tyX13 tyX13_ok nmX13 hown hK hP hD hS 0 rfl rfl 34 (by decide) (htb _ kw_1061) (fun _ h9 => h9) rfl hin rfl (tyX13_ok 34 (by decide)) rfl rfl (by rw [List.length_map, List.length_range]; decide) dX13_init_438 (fun H locs hP hD hS => ?_)
  have hP : va_P (dC, dI) vwCl ((mWx 27 h0 ad_197 cid_196 sg_151 gm_199 lg_44 ++ [(q_200, (.inl (cA_201, mLen 34, .inr (.inl (fun _ => 0))) : va_E))]).set 0 (h0, .inr (12, ((List.range 77).map (mfn 27 ad_197 sg_151)).set 34 (.ref q_200)))) H := hP
  have hD : va_D A ((mWx 27 h0 ad_197 cid_196 sg_151 gm_199 lg_44 ++ [(q_200, (.inl (cA_201, mLen 34, .inr (.inl (fun _ => 0))) : va_E))]).set 0 (h0, .inr (12, ((List.range 77).map (mfn 27 ad_197 sg_151)).set 34 (.ref q_200)))) := hD
  rw [mWx_l (n := 27) (k := 34) rfl (by decide) (by decide) (by decide) (by decide), ← ecid_202] at hP hD
  obtain ⟨ad_203, ead_203⟩ : ∃ z, z = va_up ad_197 34 q_200 := ⟨_, rfl⟩
  rw [← ead_203] at hP hD
  obtain ⟨lg_205, elg_205⟩ : ∃ z, z = va_up lg_44 34 (fun _ => 0) := ⟨_, rfl⟩
  rw [← elg_205] at hP hD
  have hz_204 : ZR 28 gm_199 := ZR_n (k := 34) rfl hz_198 (by decide) (fun _ _ => rfl)
  have hP : va_P (dC, dI) vwCl (mWx 28 h0 ad_203 cid_202 sg_151 gm_199 lg_205) H := hP
  have hD : va_D A (mWx 28 h0 ad_203 cid_202 sg_151 gm_199 lg_205) := hD
  refine W.widen (k := 28) (n := 2468) (Nat.le_of_ble_eq_true rfl) (Nat.le_of_ble_eq_true rfl) ?_
  refine lv_aload_n hx hb dX13_init_441 rfl (lv_at hl 0 rfl) ?_
  refine lv_sipush (v := 960) hx hb dX13_init_442 (by decide) ?_
  refine va_newa (D := (dC, dI)) (atype := .long) (ty := .long) (N' := 960) (a0 := (960, .inr (.inl (fun _ => 0)))) hx hb (htb _ kw_306) rfl hK hP hD hS hA (fun _ => rfl) (by decide) (by decide) (by decide) (Nat.le_of_ble_eq_true rfl) (Nat.le_of_ble_eq_true rfl) dX13_init_445 (fun q_206 cA_207 H hK hP hD hS => ?_)
  rw [mTx_s (n := 28) (k := 35) (ty := .long) rfl (by decide) rfl] at hK
  obtain ⟨cid_208, ecid_208⟩ : ∃ z, z = va_up cid_202 35 cA_207 := ⟨_, rfl⟩
  rw [← ecid_208] at hK
  refine va_putF (D := (dC, dI)) (ci := 12) (v := .ref q_206) (ty := tyX13 35) (C := RX13) (T := TX13) (N := 77) (ref := "WiredBeansModel") hx hb htb inX13 tyX13 tyX13_ok nmX13 hown hK hP hD hS 0 rfl rfl 35 (by decide) (htb _ kw_1062) (fun _ h9 => h9) rfl hin rfl (tyX13_ok 35 (by decide)) rfl rfl (by rw [List.length_map, List.length_range]; decide) dX13_init_447 (fun H locs hP hD hS => ?_)
  have hP : va_P (dC, dI) vwCl ((mWx 28 h0 ad_203 cid_202 sg_151 gm_199 lg_205 ++ [(q_206, (.inl (cA_207, mLen 35, .inr (.inl (fun _ => 0))) : va_E))]).set 0 (h0, .inr (12, ((List.range 77).map (mfn 28 ad_203 sg_151)).set 35 (.ref q_206)))) H := hP
  have hD : va_D A ((mWx 28 h0 ad_203 cid_202 sg_151 gm_199 lg_205 ++ [(q_206, (.inl (cA_207, mLen 35, .inr (.inl (fun _ => 0))) : va_E))]).set 0 (h0, .inr (12, ((List.range 77).map (mfn 28 ad_203 sg_151)).set 35 (.ref q_206)))) := hD
  rw [mWx_l (n := 28) (k := 35) rfl (by decide) (by decide) (by decide) (by decide), ← ecid_208] at hP hD
  obtain ⟨ad_209, ead_209⟩ : ∃ z, z = va_up ad_203 35 q_206 := ⟨_, rfl⟩
  rw [← ead_209] at hP hD
  obtain ⟨lg_211, elg_211⟩ : ∃ z, z = va_up lg_205 35 (fun _ => 0) := ⟨_, rfl⟩
  rw [← elg_211] at hP hD
  have hz_210 : ZR 29 gm_199 := ZR_n (k := 35) rfl hz_204 (by decide) (fun _ _ => rfl)
  have hP : va_P (dC, dI) vwCl (mWx 29 h0 ad_209 cid_208 sg_151 gm_199 lg_211) H := hP
  have hD : va_D A (mWx 29 h0 ad_209 cid_208 sg_151 gm_199 lg_211) := hD
  refine W.widen (k := 29) (n := 3428) (Nat.le_of_ble_eq_true rfl) (Nat.le_of_ble_eq_true rfl) ?_
  refine lv_aload_n hx hb dX13_init_450 rfl (lv_at hl 0 rfl) ?_
  refine lv_sipush (v := 960) hx hb dX13_init_451 (by decide) ?_
  refine va_newa (D := (dC, dI)) (atype := .int) (ty := .int) (N' := 960) (a0 := (960, .inl (fun _ => 0))) hx hb (htb _ kw_205) rfl hK hP hD hS hA (fun _ => rfl) (by decide) (by decide) (by decide) (Nat.le_of_ble_eq_true rfl) (Nat.le_of_ble_eq_true rfl) dX13_init_454 (fun q_212 cA_213 H hK hP hD hS => ?_)
  rw [mTx_s (n := 29) (k := 36) (ty := .int) rfl (by decide) rfl] at hK
  obtain ⟨cid_214, ecid_214⟩ : ∃ z, z = va_up cid_208 36 cA_213 := ⟨_, rfl⟩
  rw [← ecid_214] at hK
  refine va_putF (D := (dC, dI)) (ci := 12) (v := .ref q_212) (ty := tyX13 36) (C := RX13) (T := TX13) (N := 77) (ref := "WiredBeansModel") hx hb htb inX13 tyX13 tyX13_ok nmX13 hown hK hP hD hS 0 rfl rfl 36 (by decide) (htb _ kw_1063) (fun _ h9 => h9) rfl hin rfl (tyX13_ok 36 (by decide)) rfl rfl (by rw [List.length_map, List.length_range]; decide) dX13_init_456 (fun H locs hP hD hS => ?_)
  have hP : va_P (dC, dI) vwCl ((mWx 29 h0 ad_209 cid_208 sg_151 gm_199 lg_211 ++ [(q_212, (.inl (cA_213, mLen 36, .inl (fun _ => 0)) : va_E))]).set 0 (h0, .inr (12, ((List.range 77).map (mfn 29 ad_209 sg_151)).set 36 (.ref q_212)))) H := hP
  have hD : va_D A ((mWx 29 h0 ad_209 cid_208 sg_151 gm_199 lg_211 ++ [(q_212, (.inl (cA_213, mLen 36, .inl (fun _ => 0)) : va_E))]).set 0 (h0, .inr (12, ((List.range 77).map (mfn 29 ad_209 sg_151)).set 36 (.ref q_212)))) := hD
  rw [mWx_i (n := 29) (k := 36) rfl (by decide) (by decide) (by decide) (by decide), ← ecid_214] at hP hD
  obtain ⟨ad_215, ead_215⟩ : ∃ z, z = va_up ad_209 36 q_212 := ⟨_, rfl⟩
  rw [← ead_215] at hP hD
  obtain ⟨gm_217, egm_217⟩ : ∃ z, z = va_up gm_199 36 (fun _ => 0) := ⟨_, rfl⟩
  rw [← egm_217] at hP hD
  have hz_216 : ZR 30 gm_217 := by rw [egm_217]; exact ZR_z rfl hz_210
  have hr3_30 : gm_217 3 = f_52 := by rw [egm_217, va_up_ne _ _ (show (3 : Nat) ≠ 36 by decide)]; exact hr3_27
  have hr4_30 : gm_217 4 = f_63 := by rw [egm_217, va_up_ne _ _ (show (4 : Nat) ≠ 36 by decide)]; exact hr4_27
  have hP : va_P (dC, dI) vwCl (mWx 30 h0 ad_215 cid_214 sg_151 gm_217 lg_211) H := hP
  have hD : va_D A (mWx 30 h0 ad_215 cid_214 sg_151 gm_217 lg_211) := hD
  refine W.widen (k := 30) (n := 4388) (Nat.le_of_ble_eq_true rfl) (Nat.le_of_ble_eq_true rfl) ?_
  refine lv_aload_n hx hb dX13_init_459 rfl (lv_at hl 0 rfl) ?_
  refine lv_sipush (v := 960) hx hb dX13_init_460 (by decide) ?_
  refine va_newa (D := (dC, dI)) (atype := .int) (ty := .int) (N' := 960) (a0 := (960, .inl (fun _ => 0))) hx hb (htb _ kw_205) rfl hK hP hD hS hA (fun _ => rfl) (by decide) (by decide) (by decide) (Nat.le_of_ble_eq_true rfl) (Nat.le_of_ble_eq_true rfl) dX13_init_463 (fun q_218 cA_219 H hK hP hD hS => ?_)
  rw [mTx_s (n := 30) (k := 37) (ty := .int) rfl (by decide) rfl] at hK
  obtain ⟨cid_220, ecid_220⟩ : ∃ z, z = va_up cid_214 37 cA_219 := ⟨_, rfl⟩
  rw [← ecid_220] at hK
  refine va_putF (D := (dC, dI)) (ci := 12) (v := .ref q_218) (ty := tyX13 37) (C := RX13) (T := TX13) (N := 77) (ref := "WiredBeansModel") hx hb htb inX13 tyX13 tyX13_ok nmX13 hown hK hP hD hS 0 rfl rfl 37 (by decide) (htb _ kw_1064) (fun _ h9 => h9) rfl hin rfl (tyX13_ok 37 (by decide)) rfl rfl (by rw [List.length_map, List.length_range]; decide) dX13_init_465 (fun H locs hP hD hS => ?_)
  have hP : va_P (dC, dI) vwCl ((mWx 30 h0 ad_215 cid_214 sg_151 gm_217 lg_211 ++ [(q_218, (.inl (cA_219, mLen 37, .inl (fun _ => 0)) : va_E))]).set 0 (h0, .inr (12, ((List.range 77).map (mfn 30 ad_215 sg_151)).set 37 (.ref q_218)))) H := hP
  have hD : va_D A ((mWx 30 h0 ad_215 cid_214 sg_151 gm_217 lg_211 ++ [(q_218, (.inl (cA_219, mLen 37, .inl (fun _ => 0)) : va_E))]).set 0 (h0, .inr (12, ((List.range 77).map (mfn 30 ad_215 sg_151)).set 37 (.ref q_218)))) := hD
  rw [mWx_i (n := 30) (k := 37) rfl (by decide) (by decide) (by decide) (by decide), ← ecid_220] at hP hD
  obtain ⟨ad_221, ead_221⟩ : ∃ z, z = va_up ad_215 37 q_218 := ⟨_, rfl⟩
  rw [← ead_221] at hP hD
  obtain ⟨gm_223, egm_223⟩ : ∃ z, z = va_up gm_217 37 (fun _ => 0) := ⟨_, rfl⟩
  rw [← egm_223] at hP hD
  have hz_222 : ZR 31 gm_223 := by rw [egm_223]; exact ZR_z rfl hz_216
  have hr3_31 : gm_223 3 = f_52 := by rw [egm_223, va_up_ne _ _ (show (3 : Nat) ≠ 37 by decide)]; exact hr3_30
  have hr4_31 : gm_223 4 = f_63 := by rw [egm_223, va_up_ne _ _ (show (4 : Nat) ≠ 37 by decide)]; exact hr4_30
  have hP : va_P (dC, dI) vwCl (mWx 31 h0 ad_221 cid_220 sg_151 gm_223 lg_211) H := hP
  have hD : va_D A (mWx 31 h0 ad_221 cid_220 sg_151 gm_223 lg_211) := hD
  refine W.widen (k := 31) (n := 5348) (Nat.le_of_ble_eq_true rfl) (Nat.le_of_ble_eq_true rfl) ?_
  refine lv_aload_n hx hb dX13_init_468 rfl (lv_at hl 0 rfl) ?_
  refine lv_sipush (v := 2000) hx hb dX13_init_469 (by decide) ?_
  refine va_newa (D := (dC, dI)) (atype := .byte) (ty := .byte) (N' := 2000) (a0 := (2000, .inl (fun _ => 0))) hx hb (htb _ kw_875) rfl hK hP hD hS hA (fun _ => rfl) (by decide) (by decide) (by decide) (Nat.le_of_ble_eq_true rfl) (Nat.le_of_ble_eq_true rfl) dX13_init_472 (fun q_224 cA_225 H hK hP hD hS => ?_)
  rw [mTx_s (n := 31) (k := 38) (ty := .byte) rfl (by decide) rfl] at hK
  obtain ⟨cid_226, ecid_226⟩ : ∃ z, z = va_up cid_220 38 cA_225 := ⟨_, rfl⟩
  rw [← ecid_226] at hK
  refine va_putF (D := (dC, dI)) (ci := 12) (v := .ref q_224) (ty := tyX13 38) (C := RX13) (T := TX13) (N := 77) (ref := "WiredBeansModel") hx hb htb inX13 tyX13 tyX13_ok nmX13 hown hK hP hD hS 0 rfl rfl 38 (by decide) (htb _ kw_1065) (fun _ h9 => h9) rfl hin rfl (tyX13_ok 38 (by decide)) rfl rfl (by rw [List.length_map, List.length_range]; decide) dX13_init_474 (fun H locs hP hD hS => ?_)
  have hP : va_P (dC, dI) vwCl ((mWx 31 h0 ad_221 cid_220 sg_151 gm_223 lg_211 ++ [(q_224, (.inl (cA_225, mLen 38, .inl (fun _ => 0)) : va_E))]).set 0 (h0, .inr (12, ((List.range 77).map (mfn 31 ad_221 sg_151)).set 38 (.ref q_224)))) H := hP
  have hD : va_D A ((mWx 31 h0 ad_221 cid_220 sg_151 gm_223 lg_211 ++ [(q_224, (.inl (cA_225, mLen 38, .inl (fun _ => 0)) : va_E))]).set 0 (h0, .inr (12, ((List.range 77).map (mfn 31 ad_221 sg_151)).set 38 (.ref q_224)))) := hD
  rw [mWx_i (n := 31) (k := 38) rfl (by decide) (by decide) (by decide) (by decide), ← ecid_226] at hP hD
  obtain ⟨ad_227, ead_227⟩ : ∃ z, z = va_up ad_221 38 q_224 := ⟨_, rfl⟩
  rw [← ead_227] at hP hD
  obtain ⟨gm_229, egm_229⟩ : ∃ z, z = va_up gm_223 38 (fun _ => 0) := ⟨_, rfl⟩
  rw [← egm_229] at hP hD
  have hz_228 : ZR 32 gm_229 := by rw [egm_229]; exact ZR_z rfl hz_222
  have hr3_32 : gm_229 3 = f_52 := by rw [egm_229, va_up_ne _ _ (show (3 : Nat) ≠ 38 by decide)]; exact hr3_31
  have hr4_32 : gm_229 4 = f_63 := by rw [egm_229, va_up_ne _ _ (show (4 : Nat) ≠ 38 by decide)]; exact hr4_31
  have hP : va_P (dC, dI) vwCl (mWx 32 h0 ad_227 cid_226 sg_151 gm_229 lg_211) H := hP
  have hD : va_D A (mWx 32 h0 ad_227 cid_226 sg_151 gm_229 lg_211) := hD
  refine W.widen (k := 32) (n := 7348) (Nat.le_of_ble_eq_true rfl) (Nat.le_of_ble_eq_true rfl) ?_
  refine lv_aload_n hx hb dX13_init_477 rfl (lv_at hl 0 rfl) ?_
  refine lv_sipush (v := 1920) hx hb dX13_init_478 (by decide) ?_
  refine va_newa (D := (dC, dI)) (atype := .byte) (ty := .byte) (N' := 1920) (a0 := (1920, .inl (fun _ => 0))) hx hb (htb _ kw_875) rfl hK hP hD hS hA (fun _ => rfl) (by decide) (by decide) (by decide) (Nat.le_of_ble_eq_true rfl) (Nat.le_of_ble_eq_true rfl) dX13_init_481 (fun q_230 cA_231 H hK hP hD hS => ?_)
  rw [mTx_s (n := 32) (k := 39) (ty := .byte) rfl (by decide) rfl] at hK
  obtain ⟨cid_232, ecid_232⟩ : ∃ z, z = va_up cid_226 39 cA_231 := ⟨_, rfl⟩
  rw [← ecid_232] at hK
  refine va_putF (D := (dC, dI)) (ci := 12) (v := .ref q_230) (ty := tyX13 39) (C := RX13) (T := TX13) (N := 77) (ref := "WiredBeansModel") hx hb htb inX13 tyX13 tyX13_ok nmX13 hown hK hP hD hS 0 rfl rfl 39 (by decide) (htb _ kw_1066) (fun _ h9 => h9) rfl hin rfl (tyX13_ok 39 (by decide)) rfl rfl (by rw [List.length_map, List.length_range]; decide) dX13_init_483 (fun H locs hP hD hS => ?_)
  have hP : va_P (dC, dI) vwCl ((mWx 32 h0 ad_227 cid_226 sg_151 gm_229 lg_211 ++ [(q_230, (.inl (cA_231, mLen 39, .inl (fun _ => 0)) : va_E))]).set 0 (h0, .inr (12, ((List.range 77).map (mfn 32 ad_227 sg_151)).set 39 (.ref q_230)))) H := hP
  have hD : va_D A ((mWx 32 h0 ad_227 cid_226 sg_151 gm_229 lg_211 ++ [(q_230, (.inl (cA_231, mLen 39, .inl (fun _ => 0)) : va_E))]).set 0 (h0, .inr (12, ((List.range 77).map (mfn 32 ad_227 sg_151)).set 39 (.ref q_230)))) := hD
  rw [mWx_i (n := 32) (k := 39) rfl (by decide) (by decide) (by decide) (by decide), ← ecid_232] at hP hD
  obtain ⟨ad_233, ead_233⟩ : ∃ z, z = va_up ad_227 39 q_230 := ⟨_, rfl⟩
  rw [← ead_233] at hP hD
  obtain ⟨gm_235, egm_235⟩ : ∃ z, z = va_up gm_229 39 (fun _ => 0) := ⟨_, rfl⟩
  rw [← egm_235] at hP hD
  have hz_234 : ZR 33 gm_235 := by rw [egm_235]; exact ZR_z rfl hz_228
  have hr3_33 : gm_235 3 = f_52 := by rw [egm_235, va_up_ne _ _ (show (3 : Nat) ≠ 39 by decide)]; exact hr3_32
  have hr4_33 : gm_235 4 = f_63 := by rw [egm_235, va_up_ne _ _ (show (4 : Nat) ≠ 39 by decide)]; exact hr4_32
  have hP : va_P (dC, dI) vwCl (mWx 33 h0 ad_233 cid_232 sg_151 gm_235 lg_211) H := hP
  have hD : va_D A (mWx 33 h0 ad_233 cid_232 sg_151 gm_235 lg_211) := hD
  refine W.widen (k := 33) (n := 9268) (Nat.le_of_ble_eq_true rfl) (Nat.le_of_ble_eq_true rfl) ?_
  refine lv_aload_n hx hb dX13_init_486 rfl (lv_at hl 0 rfl) ?_
  refine lv_bipush (v := 80) hx hb dX13_init_487 (by decide) ?_
  refine va_newa (D := (dC, dI)) (atype := .int) (ty := .int) (N' := 80) (a0 := (80, .inl (fun _ => 0))) hx hb (htb _ kw_205) rfl hK hP hD hS hA (fun _ => rfl) (by decide) (by decide) (by decide) (Nat.le_of_ble_eq_true rfl) (Nat.le_of_ble_eq_true rfl) dX13_init_489 (fun q_236 cA_237 H hK hP hD hS => ?_)
  rw [mTx_s (n := 33) (k := 42) (ty := .int) rfl (by decide) rfl] at hK
  obtain ⟨cid_238, ecid_238⟩ : ∃ z, z = va_up cid_232 42 cA_237 := ⟨_, rfl⟩
  rw [← ecid_238] at hK
  refine va_putF (D := (dC, dI)) (ci := 12) (v := .ref q_236) (ty := tyX13 42) (C := RX13) (T := TX13) (N := 77) (ref := "WiredBeansModel") hx hb htb inX13 tyX13 tyX13_ok nmX13 hown hK hP hD hS 0 rfl rfl 42 (by decide) (htb _ kw_1069) (fun _ h9 => h9) rfl hin rfl (tyX13_ok 42 (by decide)) rfl rfl (by rw [List.length_map, List.length_range]; decide) dX13_init_491 (fun H locs hP hD hS => ?_)
  have hP : va_P (dC, dI) vwCl ((mWx 33 h0 ad_233 cid_232 sg_151 gm_235 lg_211 ++ [(q_236, (.inl (cA_237, mLen 42, .inl (fun _ => 0)) : va_E))]).set 0 (h0, .inr (12, ((List.range 77).map (mfn 33 ad_233 sg_151)).set 42 (.ref q_236)))) H := hP
  have hD : va_D A ((mWx 33 h0 ad_233 cid_232 sg_151 gm_235 lg_211 ++ [(q_236, (.inl (cA_237, mLen 42, .inl (fun _ => 0)) : va_E))]).set 0 (h0, .inr (12, ((List.range 77).map (mfn 33 ad_233 sg_151)).set 42 (.ref q_236)))) := hD
  rw [mWx_i (n := 33) (k := 42) rfl (by decide) (by decide) (by decide) (by decide), ← ecid_238] at hP hD
  obtain ⟨ad_239, ead_239⟩ : ∃ z, z = va_up ad_233 42 q_236 := ⟨_, rfl⟩
  rw [← ead_239] at hP hD
  obtain ⟨gm_241, egm_241⟩ : ∃ z, z = va_up gm_235 42 (fun _ => 0) := ⟨_, rfl⟩
  rw [← egm_241] at hP hD
  have hz_240 : ZR 34 gm_241 := by rw [egm_241]; exact ZR_z rfl hz_234
  have hr3_34 : gm_241 3 = f_52 := by rw [egm_241, va_up_ne _ _ (show (3 : Nat) ≠ 42 by decide)]; exact hr3_33
  have hr4_34 : gm_241 4 = f_63 := by rw [egm_241, va_up_ne _ _ (show (4 : Nat) ≠ 42 by decide)]; exact hr4_33
  have hP : va_P (dC, dI) vwCl (mWx 34 h0 ad_239 cid_238 sg_151 gm_241 lg_211) H := hP
  have hD : va_D A (mWx 34 h0 ad_239 cid_238 sg_151 gm_241 lg_211) := hD
  refine W.widen (k := 34) (n := 9348) (Nat.le_of_ble_eq_true rfl) (Nat.le_of_ble_eq_true rfl) ?_
  refine lv_aload_n hx hb dX13_init_494 rfl (lv_at hl 0 rfl) ?_
  refine lv_bipush (v := 80) hx hb dX13_init_495 (by decide) ?_
  refine va_newa (D := (dC, dI)) (atype := .int) (ty := .int) (N' := 80) (a0 := (80, .inl (fun _ => 0))) hx hb (htb _ kw_205) rfl hK hP hD hS hA (fun _ => rfl) (by decide) (by decide) (by decide) (Nat.le_of_ble_eq_true rfl) (Nat.le_of_ble_eq_true rfl) dX13_init_497 (fun q_242 cA_243 H hK hP hD hS => ?_)
  rw [mTx_s (n := 34) (k := 43) (ty := .int) rfl (by decide) rfl] at hK
  obtain ⟨cid_244, ecid_244⟩ : ∃ z, z = va_up cid_238 43 cA_243 := ⟨_, rfl⟩
  rw [← ecid_244] at hK
  refine va_putF (D := (dC, dI)) (ci := 12) (v := .ref q_242) (ty := tyX13 43) (C := RX13) (T := TX13) (N := 77) (ref := "WiredBeansModel") hx hb htb inX13 tyX13 tyX13_ok nmX13 hown hK hP hD hS 0 rfl rfl 43 (by decide) (htb _ kw_1070) (fun _ h9 => h9) rfl hin rfl (tyX13_ok 43 (by decide)) rfl rfl (by rw [List.length_map, List.length_range]; decide) dX13_init_499 (fun H locs hP hD hS => ?_)
  have hP : va_P (dC, dI) vwCl ((mWx 34 h0 ad_239 cid_238 sg_151 gm_241 lg_211 ++ [(q_242, (.inl (cA_243, mLen 43, .inl (fun _ => 0)) : va_E))]).set 0 (h0, .inr (12, ((List.range 77).map (mfn 34 ad_239 sg_151)).set 43 (.ref q_242)))) H := hP
  have hD : va_D A ((mWx 34 h0 ad_239 cid_238 sg_151 gm_241 lg_211 ++ [(q_242, (.inl (cA_243, mLen 43, .inl (fun _ => 0)) : va_E))]).set 0 (h0, .inr (12, ((List.range 77).map (mfn 34 ad_239 sg_151)).set 43 (.ref q_242)))) := hD
  rw [mWx_i (n := 34) (k := 43) rfl (by decide) (by decide) (by decide) (by decide), ← ecid_244] at hP hD
  obtain ⟨ad_245, ead_245⟩ : ∃ z, z = va_up ad_239 43 q_242 := ⟨_, rfl⟩
  rw [← ead_245] at hP hD
  obtain ⟨gm_247, egm_247⟩ : ∃ z, z = va_up gm_241 43 (fun _ => 0) := ⟨_, rfl⟩
  rw [← egm_247] at hP hD
  have hz_246 : ZR 35 gm_247 := by rw [egm_247]; exact ZR_z rfl hz_240
  have hr3_35 : gm_247 3 = f_52 := by rw [egm_247, va_up_ne _ _ (show (3 : Nat) ≠ 43 by decide)]; exact hr3_34
  have hr4_35 : gm_247 4 = f_63 := by rw [egm_247, va_up_ne _ _ (show (4 : Nat) ≠ 43 by decide)]; exact hr4_34
  have hP : va_P (dC, dI) vwCl (mWx 35 h0 ad_245 cid_244 sg_151 gm_247 lg_211) H := hP
  have hD : va_D A (mWx 35 h0 ad_245 cid_244 sg_151 gm_247 lg_211) := hD
  refine W.widen (k := 35) (n := 9428) (Nat.le_of_ble_eq_true rfl) (Nat.le_of_ble_eq_true rfl) ?_
  refine lv_aload_n hx hb dX13_init_502 rfl (lv_at hl 0 rfl) ?_
  refine lv_bipush (v := 80) hx hb dX13_init_503 (by decide) ?_
  refine va_newa (D := (dC, dI)) (atype := .int) (ty := .int) (N' := 80) (a0 := (80, .inl (fun _ => 0))) hx hb (htb _ kw_205) rfl hK hP hD hS hA (fun _ => rfl) (by decide) (by decide) (by decide) (Nat.le_of_ble_eq_true rfl) (Nat.le_of_ble_eq_true rfl) dX13_init_505 (fun q_248 cA_249 H hK hP hD hS => ?_)
  rw [mTx_s (n := 35) (k := 44) (ty := .int) rfl (by decide) rfl] at hK
  obtain ⟨cid_250, ecid_250⟩ : ∃ z, z = va_up cid_244 44 cA_249 := ⟨_, rfl⟩
  rw [← ecid_250] at hK
  refine va_putF (D := (dC, dI)) (ci := 12) (v := .ref q_248) (ty := tyX13 44) (C := RX13) (T := TX13) (N := 77) (ref := "WiredBeansModel") hx hb htb inX13 tyX13 tyX13_ok nmX13 hown hK hP hD hS 0 rfl rfl 44 (by decide) (htb _ kw_1071) (fun _ h9 => h9) rfl hin rfl (tyX13_ok 44 (by decide)) rfl rfl (by rw [List.length_map, List.length_range]; decide) dX13_init_507 (fun H locs hP hD hS => ?_)
  have hP : va_P (dC, dI) vwCl ((mWx 35 h0 ad_245 cid_244 sg_151 gm_247 lg_211 ++ [(q_248, (.inl (cA_249, mLen 44, .inl (fun _ => 0)) : va_E))]).set 0 (h0, .inr (12, ((List.range 77).map (mfn 35 ad_245 sg_151)).set 44 (.ref q_248)))) H := hP
  have hD : va_D A ((mWx 35 h0 ad_245 cid_244 sg_151 gm_247 lg_211 ++ [(q_248, (.inl (cA_249, mLen 44, .inl (fun _ => 0)) : va_E))]).set 0 (h0, .inr (12, ((List.range 77).map (mfn 35 ad_245 sg_151)).set 44 (.ref q_248)))) := hD
  rw [mWx_i (n := 35) (k := 44) rfl (by decide) (by decide) (by decide) (by decide), ← ecid_250] at hP hD
  obtain ⟨ad_251, ead_251⟩ : ∃ z, z = va_up ad_245 44 q_248 := ⟨_, rfl⟩
  rw [← ead_251] at hP hD
  obtain ⟨gm_253, egm_253⟩ : ∃ z, z = va_up gm_247 44 (fun _ => 0) := ⟨_, rfl⟩
  rw [← egm_253] at hP hD
  have hz_252 : ZR 36 gm_253 := by rw [egm_253]; exact ZR_z rfl hz_246
  have hr3_36 : gm_253 3 = f_52 := by rw [egm_253, va_up_ne _ _ (show (3 : Nat) ≠ 44 by decide)]; exact hr3_35
  have hr4_36 : gm_253 4 = f_63 := by rw [egm_253, va_up_ne _ _ (show (4 : Nat) ≠ 44 by decide)]; exact hr4_35
  have hP : va_P (dC, dI) vwCl (mWx 36 h0 ad_251 cid_250 sg_151 gm_253 lg_211) H := hP
  have hD : va_D A (mWx 36 h0 ad_251 cid_250 sg_151 gm_253 lg_211) := hD
  refine W.widen (k := 36) (n := 9508) (Nat.le_of_ble_eq_true rfl) (Nat.le_of_ble_eq_true rfl) ?_
  refine lv_aload_n hx hb dX13_init_510 rfl (lv_at hl 0 rfl) ?_
  refine lv_sipush (v := 2080) hx hb dX13_init_511 (by decide) ?_
  refine va_newa (D := (dC, dI)) (atype := .int) (ty := .int) (N' := 2080) (a0 := (2080, .inl (fun _ => 0))) hx hb (htb _ kw_205) rfl hK hP hD hS hA (fun _ => rfl) (by decide) (by decide) (by decide) (Nat.le_of_ble_eq_true rfl) (Nat.le_of_ble_eq_true rfl) dX13_init_514 (fun q_254 cA_255 H hK hP hD hS => ?_)
  rw [mTx_s (n := 36) (k := 45) (ty := .int) rfl (by decide) rfl] at hK
  obtain ⟨cid_256, ecid_256⟩ : ∃ z, z = va_up cid_250 45 cA_255 := ⟨_, rfl⟩
  rw [← ecid_256] at hK
  refine va_putF (D := (dC, dI)) (ci := 12) (v := .ref q_254) (ty := tyX13 45) (C := RX13) (T := TX13) (N := 77) (ref := "WiredBeansModel") hx hb htb inX13 tyX13 tyX13_ok nmX13 hown hK hP hD hS 0 rfl rfl 45 (by decide) (htb _ kw_1072) (fun _ h9 => h9) rfl hin rfl (tyX13_ok 45 (by decide)) rfl rfl (by rw [List.length_map, List.length_range]; decide) dX13_init_516 (fun H locs hP hD hS => ?_)
  have hP : va_P (dC, dI) vwCl ((mWx 36 h0 ad_251 cid_250 sg_151 gm_253 lg_211 ++ [(q_254, (.inl (cA_255, mLen 45, .inl (fun _ => 0)) : va_E))]).set 0 (h0, .inr (12, ((List.range 77).map (mfn 36 ad_251 sg_151)).set 45 (.ref q_254)))) H := hP
  have hD : va_D A ((mWx 36 h0 ad_251 cid_250 sg_151 gm_253 lg_211 ++ [(q_254, (.inl (cA_255, mLen 45, .inl (fun _ => 0)) : va_E))]).set 0 (h0, .inr (12, ((List.range 77).map (mfn 36 ad_251 sg_151)).set 45 (.ref q_254)))) := hD
  rw [mWx_i (n := 36) (k := 45) rfl (by decide) (by decide) (by decide) (by decide), ← ecid_256] at hP hD
  obtain ⟨ad_257, ead_257⟩ : ∃ z, z = va_up ad_251 45 q_254 := ⟨_, rfl⟩
  rw [← ead_257] at hP hD
  obtain ⟨gm_259, egm_259⟩ : ∃ z, z = va_up gm_253 45 (fun _ => 0) := ⟨_, rfl⟩
  rw [← egm_259] at hP hD
  have hz_258 : ZR 37 gm_259 := by rw [egm_259]; exact ZR_z rfl hz_252
  have hr3_37 : gm_259 3 = f_52 := by rw [egm_259, va_up_ne _ _ (show (3 : Nat) ≠ 45 by decide)]; exact hr3_36
  have hr4_37 : gm_259 4 = f_63 := by rw [egm_259, va_up_ne _ _ (show (4 : Nat) ≠ 45 by decide)]; exact hr4_36
  have hP : va_P (dC, dI) vwCl (mWx 37 h0 ad_257 cid_256 sg_151 gm_259 lg_211) H := hP
  have hD : va_D A (mWx 37 h0 ad_257 cid_256 sg_151 gm_259 lg_211) := hD
  refine W.widen (k := 37) (n := 11588) (Nat.le_of_ble_eq_true rfl) (Nat.le_of_ble_eq_true rfl) ?_
  refine lv_aload_n hx hb dX13_init_519 rfl (lv_at hl 0 rfl) ?_
  refine lv_bipush (v := 80) hx hb dX13_init_520 (by decide) ?_
  refine va_newa (D := (dC, dI)) (atype := .int) (ty := .int) (N' := 80) (a0 := (80, .inl (fun _ => 0))) hx hb (htb _ kw_205) rfl hK hP hD hS hA (fun _ => rfl) (by decide) (by decide) (by decide) (Nat.le_of_ble_eq_true rfl) (Nat.le_of_ble_eq_true rfl) dX13_init_522 (fun q_260 cA_261 H hK hP hD hS => ?_)
  rw [mTx_s (n := 37) (k := 46) (ty := .int) rfl (by decide) rfl] at hK
  obtain ⟨cid_262, ecid_262⟩ : ∃ z, z = va_up cid_256 46 cA_261 := ⟨_, rfl⟩
  rw [← ecid_262] at hK
  refine va_putF (D := (dC, dI)) (ci := 12) (v := .ref q_260) (ty := tyX13 46) (C := RX13) (T := TX13) (N := 77) (ref := "WiredBeansModel") hx hb htb inX13 tyX13 tyX13_ok nmX13 hown hK hP hD hS 0 rfl rfl 46 (by decide) (htb _ kw_1073) (fun _ h9 => h9) rfl hin rfl (tyX13_ok 46 (by decide)) rfl rfl (by rw [List.length_map, List.length_range]; decide) dX13_init_524 (fun H locs hP hD hS => ?_)
  have hP : va_P (dC, dI) vwCl ((mWx 37 h0 ad_257 cid_256 sg_151 gm_259 lg_211 ++ [(q_260, (.inl (cA_261, mLen 46, .inl (fun _ => 0)) : va_E))]).set 0 (h0, .inr (12, ((List.range 77).map (mfn 37 ad_257 sg_151)).set 46 (.ref q_260)))) H := hP
  have hD : va_D A ((mWx 37 h0 ad_257 cid_256 sg_151 gm_259 lg_211 ++ [(q_260, (.inl (cA_261, mLen 46, .inl (fun _ => 0)) : va_E))]).set 0 (h0, .inr (12, ((List.range 77).map (mfn 37 ad_257 sg_151)).set 46 (.ref q_260)))) := hD
  rw [mWx_i (n := 37) (k := 46) rfl (by decide) (by decide) (by decide) (by decide), ← ecid_262] at hP hD
  obtain ⟨ad_263, ead_263⟩ : ∃ z, z = va_up ad_257 46 q_260 := ⟨_, rfl⟩
  rw [← ead_263] at hP hD
  obtain ⟨gm_265, egm_265⟩ : ∃ z, z = va_up gm_259 46 (fun _ => 0) := ⟨_, rfl⟩
  rw [← egm_265] at hP hD
  have hz_264 : ZR 38 gm_265 := by rw [egm_265]; exact ZR_z rfl hz_258
  have hr3_38 : gm_265 3 = f_52 := by rw [egm_265, va_up_ne _ _ (show (3 : Nat) ≠ 46 by decide)]; exact hr3_37
  have hr4_38 : gm_265 4 = f_63 := by rw [egm_265, va_up_ne _ _ (show (4 : Nat) ≠ 46 by decide)]; exact hr4_37
  have hP : va_P (dC, dI) vwCl (mWx 38 h0 ad_263 cid_262 sg_151 gm_265 lg_211) H := hP
  have hD : va_D A (mWx 38 h0 ad_263 cid_262 sg_151 gm_265 lg_211) := hD
  refine W.widen (k := 38) (n := 11668) (Nat.le_of_ble_eq_true rfl) (Nat.le_of_ble_eq_true rfl) ?_
  refine lv_aload_n hx hb dX13_init_527 rfl (lv_at hl 0 rfl) ?_
  refine lv_sipush (v := 2080) hx hb dX13_init_528 (by decide) ?_
  refine va_newa (D := (dC, dI)) (atype := .int) (ty := .int) (N' := 2080) (a0 := (2080, .inl (fun _ => 0))) hx hb (htb _ kw_205) rfl hK hP hD hS hA (fun _ => rfl) (by decide) (by decide) (by decide) (Nat.le_of_ble_eq_true rfl) (Nat.le_of_ble_eq_true rfl) dX13_init_531 (fun q_266 cA_267 H hK hP hD hS => ?_)
  rw [mTx_s (n := 38) (k := 47) (ty := .int) rfl (by decide) rfl] at hK
  obtain ⟨cid_268, ecid_268⟩ : ∃ z, z = va_up cid_262 47 cA_267 := ⟨_, rfl⟩
  rw [← ecid_268] at hK
  refine va_putF (D := (dC, dI)) (ci := 12) (v := .ref q_266) (ty := tyX13 47) (C := RX13) (T := TX13) (N := 77) (ref := "WiredBeansModel") hx hb htb inX13 tyX13 tyX13_ok nmX13 hown hK hP hD hS 0 rfl rfl 47 (by decide) (htb _ kw_1074) (fun _ h9 => h9) rfl hin rfl (tyX13_ok 47 (by decide)) rfl rfl (by rw [List.length_map, List.length_range]; decide) dX13_init_533 (fun H locs hP hD hS => ?_)
  have hP : va_P (dC, dI) vwCl ((mWx 38 h0 ad_263 cid_262 sg_151 gm_265 lg_211 ++ [(q_266, (.inl (cA_267, mLen 47, .inl (fun _ => 0)) : va_E))]).set 0 (h0, .inr (12, ((List.range 77).map (mfn 38 ad_263 sg_151)).set 47 (.ref q_266)))) H := hP
  have hD : va_D A ((mWx 38 h0 ad_263 cid_262 sg_151 gm_265 lg_211 ++ [(q_266, (.inl (cA_267, mLen 47, .inl (fun _ => 0)) : va_E))]).set 0 (h0, .inr (12, ((List.range 77).map (mfn 38 ad_263 sg_151)).set 47 (.ref q_266)))) := hD
  rw [mWx_i (n := 38) (k := 47) rfl (by decide) (by decide) (by decide) (by decide), ← ecid_268] at hP hD
  obtain ⟨ad_269, ead_269⟩ : ∃ z, z = va_up ad_263 47 q_266 := ⟨_, rfl⟩
  rw [← ead_269] at hP hD
  obtain ⟨gm_271, egm_271⟩ : ∃ z, z = va_up gm_265 47 (fun _ => 0) := ⟨_, rfl⟩
  rw [← egm_271] at hP hD
  have hz_270 : ZR 39 gm_271 := by rw [egm_271]; exact ZR_z rfl hz_264
  have hr3_39 : gm_271 3 = f_52 := by rw [egm_271, va_up_ne _ _ (show (3 : Nat) ≠ 47 by decide)]; exact hr3_38
  have hr4_39 : gm_271 4 = f_63 := by rw [egm_271, va_up_ne _ _ (show (4 : Nat) ≠ 47 by decide)]; exact hr4_38
  have hP : va_P (dC, dI) vwCl (mWx 39 h0 ad_269 cid_268 sg_151 gm_271 lg_211) H := hP
  have hD : va_D A (mWx 39 h0 ad_269 cid_268 sg_151 gm_271 lg_211) := hD
  refine W.widen (k := 39) (n := 13748) (Nat.le_of_ble_eq_true rfl) (Nat.le_of_ble_eq_true rfl) ?_
  refine lv_aload_n hx hb dX13_init_536 rfl (lv_at hl 0 rfl) ?_
  refine lv_iconst (v := (-1)) hx hb dX13_init_537 (by decide) ?_
  refine va_put (D := (dC, dI)) (ci := 12) (v := .int (-1)) (ty := tyX13 52) (C := RX13) (T := TX13) (N := 77) (ref := "WiredBeansModel") hx hb htb inX13 tyX13 tyX13_ok nmX13 hown hK hP hD hS 0 rfl rfl 52 (by decide) (htb _ kw_1079) (fun _ h9 => h9) rfl (tyX13_ok 52 (by decide)) rfl rfl (by rw [List.length_map, List.length_range]; decide) dX13_init_538 (fun H locs hP hD hS => ?_)
  have hP : va_P (dC, dI) vwCl ((mWx 39 h0 ad_269 cid_268 sg_151 gm_271 lg_211).set 0 (h0, .inr (12, ((List.range 77).map (mfn 39 ad_269 sg_151)).set 52 (.int (-1))))) H := hP
  have hD : va_D A ((mWx 39 h0 ad_269 cid_268 sg_151 gm_271 lg_211).set 0 (h0, .inr (12, ((List.range 77).map (mfn 39 ad_269 sg_151)).set 52 (.int (-1))))) := hD
  rw [mWx_s (by decide)] at hP hD
  obtain ⟨sg_272, esg_272⟩ : ∃ z, z = va_up sg_151 52 (-1) := ⟨_, rfl⟩
  rw [← esg_272] at hP hD
  refine lv_aload_n hx hb dX13_init_541 rfl (lv_at hl 0 rfl) ?_
  refine lv_bipush (v := 60) hx hb dX13_init_542 (by decide) ?_
  refine va_newa (D := (dC, dI)) (atype := .int) (ty := .int) (N' := 60) (a0 := (60, .inl (fun _ => 0))) hx hb (htb _ kw_205) rfl hK hP hD hS hA (fun _ => rfl) (by decide) (by decide) (by decide) (Nat.le_of_ble_eq_true rfl) (Nat.le_of_ble_eq_true rfl) dX13_init_544 (fun q_273 cA_274 H hK hP hD hS => ?_)
  rw [mTx_s (n := 39) (k := 53) (ty := .int) rfl (by decide) rfl] at hK
  obtain ⟨cid_275, ecid_275⟩ : ∃ z, z = va_up cid_268 53 cA_274 := ⟨_, rfl⟩
  rw [← ecid_275] at hK
  refine va_putF (D := (dC, dI)) (ci := 12) (v := .ref q_273) (ty := tyX13 53) (C := RX13) (T := TX13) (N := 77) (ref := "WiredBeansModel") hx hb htb inX13 tyX13 tyX13_ok nmX13 hown hK hP hD hS 0 rfl rfl 53 (by decide) (htb _ kw_1080) (fun _ h9 => h9) rfl hin rfl (tyX13_ok 53 (by decide)) rfl rfl (by rw [List.length_map, List.length_range]; decide) dX13_init_546 (fun H locs hP hD hS => ?_)
  have hP : va_P (dC, dI) vwCl ((mWx 39 h0 ad_269 cid_268 sg_272 gm_271 lg_211 ++ [(q_273, (.inl (cA_274, mLen 53, .inl (fun _ => 0)) : va_E))]).set 0 (h0, .inr (12, ((List.range 77).map (mfn 39 ad_269 sg_272)).set 53 (.ref q_273)))) H := hP
  have hD : va_D A ((mWx 39 h0 ad_269 cid_268 sg_272 gm_271 lg_211 ++ [(q_273, (.inl (cA_274, mLen 53, .inl (fun _ => 0)) : va_E))]).set 0 (h0, .inr (12, ((List.range 77).map (mfn 39 ad_269 sg_272)).set 53 (.ref q_273)))) := hD
  rw [mWx_i (n := 39) (k := 53) rfl (by decide) (by decide) (by decide) (by decide), ← ecid_275] at hP hD
  obtain ⟨ad_276, ead_276⟩ : ∃ z, z = va_up ad_269 53 q_273 := ⟨_, rfl⟩
  rw [← ead_276] at hP hD
  obtain ⟨gm_278, egm_278⟩ : ∃ z, z = va_up gm_271 53 (fun _ => 0) := ⟨_, rfl⟩
  rw [← egm_278] at hP hD
  have hz_277 : ZR 40 gm_278 := by rw [egm_278]; exact ZR_z rfl hz_270
  have hr3_40 : gm_278 3 = f_52 := by rw [egm_278, va_up_ne _ _ (show (3 : Nat) ≠ 53 by decide)]; exact hr3_39
  have hr4_40 : gm_278 4 = f_63 := by rw [egm_278, va_up_ne _ _ (show (4 : Nat) ≠ 53 by decide)]; exact hr4_39
  have hP : va_P (dC, dI) vwCl (mWx 40 h0 ad_276 cid_275 sg_272 gm_278 lg_211) H := hP
  have hD : va_D A (mWx 40 h0 ad_276 cid_275 sg_272 gm_278 lg_211) := hD
  refine W.widen (k := 40) (n := 13808) (Nat.le_of_ble_eq_true rfl) (Nat.le_of_ble_eq_true rfl) ?_
  refine lv_aload_n hx hb dX13_init_549 rfl (lv_at hl 0 rfl) ?_
  refine lv_bipush (v := 60) hx hb dX13_init_550 (by decide) ?_
  refine va_newa (D := (dC, dI)) (atype := .int) (ty := .int) (N' := 60) (a0 := (60, .inl (fun _ => 0))) hx hb (htb _ kw_205) rfl hK hP hD hS hA (fun _ => rfl) (by decide) (by decide) (by decide) (Nat.le_of_ble_eq_true rfl) (Nat.le_of_ble_eq_true rfl) dX13_init_552 (fun q_279 cA_280 H hK hP hD hS => ?_)
  rw [mTx_s (n := 40) (k := 54) (ty := .int) rfl (by decide) rfl] at hK
  obtain ⟨cid_281, ecid_281⟩ : ∃ z, z = va_up cid_275 54 cA_280 := ⟨_, rfl⟩
  rw [← ecid_281] at hK
  refine va_putF (D := (dC, dI)) (ci := 12) (v := .ref q_279) (ty := tyX13 54) (C := RX13) (T := TX13) (N := 77) (ref := "WiredBeansModel") hx hb htb inX13 tyX13 tyX13_ok nmX13 hown hK hP hD hS 0 rfl rfl 54 (by decide) (htb _ kw_1081) (fun _ h9 => h9) rfl hin rfl (tyX13_ok 54 (by decide)) rfl rfl (by rw [List.length_map, List.length_range]; decide) dX13_init_554 (fun H locs hP hD hS => ?_)
  have hP : va_P (dC, dI) vwCl ((mWx 40 h0 ad_276 cid_275 sg_272 gm_278 lg_211 ++ [(q_279, (.inl (cA_280, mLen 54, .inl (fun _ => 0)) : va_E))]).set 0 (h0, .inr (12, ((List.range 77).map (mfn 40 ad_276 sg_272)).set 54 (.ref q_279)))) H := hP
  have hD : va_D A ((mWx 40 h0 ad_276 cid_275 sg_272 gm_278 lg_211 ++ [(q_279, (.inl (cA_280, mLen 54, .inl (fun _ => 0)) : va_E))]).set 0 (h0, .inr (12, ((List.range 77).map (mfn 40 ad_276 sg_272)).set 54 (.ref q_279)))) := hD
  rw [mWx_i (n := 40) (k := 54) rfl (by decide) (by decide) (by decide) (by decide), ← ecid_281] at hP hD
  obtain ⟨ad_282, ead_282⟩ : ∃ z, z = va_up ad_276 54 q_279 := ⟨_, rfl⟩
  rw [← ead_282] at hP hD
  obtain ⟨gm_284, egm_284⟩ : ∃ z, z = va_up gm_278 54 (fun _ => 0) := ⟨_, rfl⟩
  rw [← egm_284] at hP hD
  have hz_283 : ZR 41 gm_284 := by rw [egm_284]; exact ZR_z rfl hz_277
  have hr3_41 : gm_284 3 = f_52 := by rw [egm_284, va_up_ne _ _ (show (3 : Nat) ≠ 54 by decide)]; exact hr3_40
  have hr4_41 : gm_284 4 = f_63 := by rw [egm_284, va_up_ne _ _ (show (4 : Nat) ≠ 54 by decide)]; exact hr4_40
  have hP : va_P (dC, dI) vwCl (mWx 41 h0 ad_282 cid_281 sg_272 gm_284 lg_211) H := hP
  have hD : va_D A (mWx 41 h0 ad_282 cid_281 sg_272 gm_284 lg_211) := hD
  refine W.widen (k := 41) (n := 13868) (Nat.le_of_ble_eq_true rfl) (Nat.le_of_ble_eq_true rfl) ?_
  refine lv_aload_n hx hb dX13_init_557 rfl (lv_at hl 0 rfl) ?_
  refine lv_sipush (v := 400) hx hb dX13_init_558 (by decide) ?_
  refine va_newa (D := (dC, dI)) (atype := .int) (ty := .int) (N' := 400) (a0 := (400, .inl (fun _ => 0))) hx hb (htb _ kw_205) rfl hK hP hD hS hA (fun _ => rfl) (by decide) (by decide) (by decide) (Nat.le_of_ble_eq_true rfl) (Nat.le_of_ble_eq_true rfl) dX13_init_561 (fun q_285 cA_286 H hK hP hD hS => ?_)
  rw [mTx_s (n := 41) (k := 55) (ty := .int) rfl (by decide) rfl] at hK
  obtain ⟨cid_287, ecid_287⟩ : ∃ z, z = va_up cid_281 55 cA_286 := ⟨_, rfl⟩
  rw [← ecid_287] at hK
  refine va_putF (D := (dC, dI)) (ci := 12) (v := .ref q_285) (ty := tyX13 55) (C := RX13) (T := TX13) (N := 77) (ref := "WiredBeansModel") hx hb htb inX13 tyX13 tyX13_ok nmX13 hown hK hP hD hS 0 rfl rfl 55 (by decide) (htb _ kw_1082) (fun _ h9 => h9) rfl hin rfl (tyX13_ok 55 (by decide)) rfl rfl (by rw [List.length_map, List.length_range]; decide) dX13_init_563 (fun H locs hP hD hS => ?_)
  have hP : va_P (dC, dI) vwCl ((mWx 41 h0 ad_282 cid_281 sg_272 gm_284 lg_211 ++ [(q_285, (.inl (cA_286, mLen 55, .inl (fun _ => 0)) : va_E))]).set 0 (h0, .inr (12, ((List.range 77).map (mfn 41 ad_282 sg_272)).set 55 (.ref q_285)))) H := hP
  have hD : va_D A ((mWx 41 h0 ad_282 cid_281 sg_272 gm_284 lg_211 ++ [(q_285, (.inl (cA_286, mLen 55, .inl (fun _ => 0)) : va_E))]).set 0 (h0, .inr (12, ((List.range 77).map (mfn 41 ad_282 sg_272)).set 55 (.ref q_285)))) := hD
  rw [mWx_i (n := 41) (k := 55) rfl (by decide) (by decide) (by decide) (by decide), ← ecid_287] at hP hD
  obtain ⟨ad_288, ead_288⟩ : ∃ z, z = va_up ad_282 55 q_285 := ⟨_, rfl⟩
  rw [← ead_288] at hP hD
  obtain ⟨gm_290, egm_290⟩ : ∃ z, z = va_up gm_284 55 (fun _ => 0) := ⟨_, rfl⟩
  rw [← egm_290] at hP hD
  have hz_289 : ZR 42 gm_290 := by rw [egm_290]; exact ZR_z rfl hz_283
  have hr3_42 : gm_290 3 = f_52 := by rw [egm_290, va_up_ne _ _ (show (3 : Nat) ≠ 55 by decide)]; exact hr3_41
  have hr4_42 : gm_290 4 = f_63 := by rw [egm_290, va_up_ne _ _ (show (4 : Nat) ≠ 55 by decide)]; exact hr4_41
  have hP : va_P (dC, dI) vwCl (mWx 42 h0 ad_288 cid_287 sg_272 gm_290 lg_211) H := hP
  have hD : va_D A (mWx 42 h0 ad_288 cid_287 sg_272 gm_290 lg_211) := hD
  refine W.widen (k := 42) (n := 14268) (Nat.le_of_ble_eq_true rfl) (Nat.le_of_ble_eq_true rfl) ?_
  refine lv_aload_n hx hb dX13_init_566 rfl (lv_at hl 0 rfl) ?_
  refine lv_sipush (v := 400) hx hb dX13_init_567 (by decide) ?_
  refine va_newa (D := (dC, dI)) (atype := .int) (ty := .int) (N' := 400) (a0 := (400, .inl (fun _ => 0))) hx hb (htb _ kw_205) rfl hK hP hD hS hA (fun _ => rfl) (by decide) (by decide) (by decide) (Nat.le_of_ble_eq_true rfl) (Nat.le_of_ble_eq_true rfl) dX13_init_570 (fun q_291 cA_292 H hK hP hD hS => ?_)
  rw [mTx_s (n := 42) (k := 56) (ty := .int) rfl (by decide) rfl] at hK
  obtain ⟨cid_293, ecid_293⟩ : ∃ z, z = va_up cid_287 56 cA_292 := ⟨_, rfl⟩
  rw [← ecid_293] at hK
  refine va_putF (D := (dC, dI)) (ci := 12) (v := .ref q_291) (ty := tyX13 56) (C := RX13) (T := TX13) (N := 77) (ref := "WiredBeansModel") hx hb htb inX13 tyX13 tyX13_ok nmX13 hown hK hP hD hS 0 rfl rfl 56 (by decide) (htb _ kw_1083) (fun _ h9 => h9) rfl hin rfl (tyX13_ok 56 (by decide)) rfl rfl (by rw [List.length_map, List.length_range]; decide) dX13_init_572 (fun H locs hP hD hS => ?_)
  have hP : va_P (dC, dI) vwCl ((mWx 42 h0 ad_288 cid_287 sg_272 gm_290 lg_211 ++ [(q_291, (.inl (cA_292, mLen 56, .inl (fun _ => 0)) : va_E))]).set 0 (h0, .inr (12, ((List.range 77).map (mfn 42 ad_288 sg_272)).set 56 (.ref q_291)))) H := hP
  have hD : va_D A ((mWx 42 h0 ad_288 cid_287 sg_272 gm_290 lg_211 ++ [(q_291, (.inl (cA_292, mLen 56, .inl (fun _ => 0)) : va_E))]).set 0 (h0, .inr (12, ((List.range 77).map (mfn 42 ad_288 sg_272)).set 56 (.ref q_291)))) := hD
  rw [mWx_i (n := 42) (k := 56) rfl (by decide) (by decide) (by decide) (by decide), ← ecid_293] at hP hD
  obtain ⟨ad_294, ead_294⟩ : ∃ z, z = va_up ad_288 56 q_291 := ⟨_, rfl⟩
  rw [← ead_294] at hP hD
  obtain ⟨gm_296, egm_296⟩ : ∃ z, z = va_up gm_290 56 (fun _ => 0) := ⟨_, rfl⟩
  rw [← egm_296] at hP hD
  have hz_295 : ZR 43 gm_296 := by rw [egm_296]; exact ZR_z rfl hz_289
  have hr3_43 : gm_296 3 = f_52 := by rw [egm_296, va_up_ne _ _ (show (3 : Nat) ≠ 56 by decide)]; exact hr3_42
  have hr4_43 : gm_296 4 = f_63 := by rw [egm_296, va_up_ne _ _ (show (4 : Nat) ≠ 56 by decide)]; exact hr4_42
  have hP : va_P (dC, dI) vwCl (mWx 43 h0 ad_294 cid_293 sg_272 gm_296 lg_211) H := hP
  have hD : va_D A (mWx 43 h0 ad_294 cid_293 sg_272 gm_296 lg_211) := hD
  refine W.widen (k := 43) (n := 14668) (Nat.le_of_ble_eq_true rfl) (Nat.le_of_ble_eq_true rfl) ?_
  refine lv_aload_n hx hb dX13_init_575 rfl (lv_at hl 0 rfl) ?_
  refine lv_sipush (v := 400) hx hb dX13_init_576 (by decide) ?_
  refine va_newa (D := (dC, dI)) (atype := .int) (ty := .int) (N' := 400) (a0 := (400, .inl (fun _ => 0))) hx hb (htb _ kw_205) rfl hK hP hD hS hA (fun _ => rfl) (by decide) (by decide) (by decide) (Nat.le_of_ble_eq_true rfl) (Nat.le_of_ble_eq_true rfl) dX13_init_579 (fun q_297 cA_298 H hK hP hD hS => ?_)
  rw [mTx_s (n := 43) (k := 57) (ty := .int) rfl (by decide) rfl] at hK
  obtain ⟨cid_299, ecid_299⟩ : ∃ z, z = va_up cid_293 57 cA_298 := ⟨_, rfl⟩
  rw [← ecid_299] at hK
  refine va_putF (D := (dC, dI)) (ci := 12) (v := .ref q_297) (ty := tyX13 57) (C := RX13) (T := TX13) (N := 77) (ref := "WiredBeansModel") hx hb htb inX13 tyX13 tyX13_ok nmX13 hown hK hP hD hS 0 rfl rfl 57 (by decide) (htb _ kw_1084) (fun _ h9 => h9) rfl hin rfl (tyX13_ok 57 (by decide)) rfl rfl (by rw [List.length_map, List.length_range]; decide) dX13_init_581 (fun H locs hP hD hS => ?_)
  have hP : va_P (dC, dI) vwCl ((mWx 43 h0 ad_294 cid_293 sg_272 gm_296 lg_211 ++ [(q_297, (.inl (cA_298, mLen 57, .inl (fun _ => 0)) : va_E))]).set 0 (h0, .inr (12, ((List.range 77).map (mfn 43 ad_294 sg_272)).set 57 (.ref q_297)))) H := hP
  have hD : va_D A ((mWx 43 h0 ad_294 cid_293 sg_272 gm_296 lg_211 ++ [(q_297, (.inl (cA_298, mLen 57, .inl (fun _ => 0)) : va_E))]).set 0 (h0, .inr (12, ((List.range 77).map (mfn 43 ad_294 sg_272)).set 57 (.ref q_297)))) := hD
  rw [mWx_i (n := 43) (k := 57) rfl (by decide) (by decide) (by decide) (by decide), ← ecid_299] at hP hD
  obtain ⟨ad_300, ead_300⟩ : ∃ z, z = va_up ad_294 57 q_297 := ⟨_, rfl⟩
  rw [← ead_300] at hP hD
  obtain ⟨gm_302, egm_302⟩ : ∃ z, z = va_up gm_296 57 (fun _ => 0) := ⟨_, rfl⟩
  rw [← egm_302] at hP hD
  have hz_301 : ZR 44 gm_302 := by rw [egm_302]; exact ZR_z rfl hz_295
  have hr3_44 : gm_302 3 = f_52 := by rw [egm_302, va_up_ne _ _ (show (3 : Nat) ≠ 57 by decide)]; exact hr3_43
  have hr4_44 : gm_302 4 = f_63 := by rw [egm_302, va_up_ne _ _ (show (4 : Nat) ≠ 57 by decide)]; exact hr4_43
  have hP : va_P (dC, dI) vwCl (mWx 44 h0 ad_300 cid_299 sg_272 gm_302 lg_211) H := hP
  have hD : va_D A (mWx 44 h0 ad_300 cid_299 sg_272 gm_302 lg_211) := hD
  refine W.widen (k := 44) (n := 15068) (Nat.le_of_ble_eq_true rfl) (Nat.le_of_ble_eq_true rfl) ?_
  refine lv_aload_n hx hb dX13_init_584 rfl (lv_at hl 0 rfl) ?_
  refine lv_sipush (v := 400) hx hb dX13_init_585 (by decide) ?_
  refine va_newa (D := (dC, dI)) (atype := .int) (ty := .int) (N' := 400) (a0 := (400, .inl (fun _ => 0))) hx hb (htb _ kw_205) rfl hK hP hD hS hA (fun _ => rfl) (by decide) (by decide) (by decide) (Nat.le_of_ble_eq_true rfl) (Nat.le_of_ble_eq_true rfl) dX13_init_588 (fun q_303 cA_304 H hK hP hD hS => ?_)
  rw [mTx_s (n := 44) (k := 58) (ty := .int) rfl (by decide) rfl] at hK
  obtain ⟨cid_305, ecid_305⟩ : ∃ z, z = va_up cid_299 58 cA_304 := ⟨_, rfl⟩
  rw [← ecid_305] at hK
  refine va_putF (D := (dC, dI)) (ci := 12) (v := .ref q_303) (ty := tyX13 58) (C := RX13) (T := TX13) (N := 77) (ref := "WiredBeansModel") hx hb htb inX13 tyX13 tyX13_ok nmX13 hown hK hP hD hS 0 rfl rfl 58 (by decide) (htb _ kw_1085) (fun _ h9 => h9) rfl hin rfl (tyX13_ok 58 (by decide)) rfl rfl (by rw [List.length_map, List.length_range]; decide) dX13_init_590 (fun H locs hP hD hS => ?_)
  have hP : va_P (dC, dI) vwCl ((mWx 44 h0 ad_300 cid_299 sg_272 gm_302 lg_211 ++ [(q_303, (.inl (cA_304, mLen 58, .inl (fun _ => 0)) : va_E))]).set 0 (h0, .inr (12, ((List.range 77).map (mfn 44 ad_300 sg_272)).set 58 (.ref q_303)))) H := hP
  have hD : va_D A ((mWx 44 h0 ad_300 cid_299 sg_272 gm_302 lg_211 ++ [(q_303, (.inl (cA_304, mLen 58, .inl (fun _ => 0)) : va_E))]).set 0 (h0, .inr (12, ((List.range 77).map (mfn 44 ad_300 sg_272)).set 58 (.ref q_303)))) := hD
  rw [mWx_i (n := 44) (k := 58) rfl (by decide) (by decide) (by decide) (by decide), ← ecid_305] at hP hD
  obtain ⟨ad_306, ead_306⟩ : ∃ z, z = va_up ad_300 58 q_303 := ⟨_, rfl⟩
  rw [← ead_306] at hP hD
  obtain ⟨gm_308, egm_308⟩ : ∃ z, z = va_up gm_302 58 (fun _ => 0) := ⟨_, rfl⟩
  rw [← egm_308] at hP hD
  have hz_307 : ZR 45 gm_308 := by rw [egm_308]; exact ZR_z rfl hz_301
  have hr3_45 : gm_308 3 = f_52 := by rw [egm_308, va_up_ne _ _ (show (3 : Nat) ≠ 58 by decide)]; exact hr3_44
  have hr4_45 : gm_308 4 = f_63 := by rw [egm_308, va_up_ne _ _ (show (4 : Nat) ≠ 58 by decide)]; exact hr4_44
  have hP : va_P (dC, dI) vwCl (mWx 45 h0 ad_306 cid_305 sg_272 gm_308 lg_211) H := hP
  have hD : va_D A (mWx 45 h0 ad_306 cid_305 sg_272 gm_308 lg_211) := hD
  refine W.widen (k := 45) (n := 15468) (Nat.le_of_ble_eq_true rfl) (Nat.le_of_ble_eq_true rfl) ?_
  refine lv_aload_n hx hb dX13_init_593 rfl (lv_at hl 0 rfl) ?_
  refine lv_bipush (v := 80) hx hb dX13_init_594 (by decide) ?_
  refine va_newa (D := (dC, dI)) (atype := .int) (ty := .int) (N' := 80) (a0 := (80, .inl (fun _ => 0))) hx hb (htb _ kw_205) rfl hK hP hD hS hA (fun _ => rfl) (by decide) (by decide) (by decide) (Nat.le_of_ble_eq_true rfl) (Nat.le_of_ble_eq_true rfl) dX13_init_596 (fun q_309 cA_310 H hK hP hD hS => ?_)
  rw [mTx_s (n := 45) (k := 59) (ty := .int) rfl (by decide) rfl] at hK
  obtain ⟨cid_311, ecid_311⟩ : ∃ z, z = va_up cid_305 59 cA_310 := ⟨_, rfl⟩
  rw [← ecid_311] at hK
  refine va_putF (D := (dC, dI)) (ci := 12) (v := .ref q_309) (ty := tyX13 59) (C := RX13) (T := TX13) (N := 77) (ref := "WiredBeansModel") hx hb htb inX13 tyX13 tyX13_ok nmX13 hown hK hP hD hS 0 rfl rfl 59 (by decide) (htb _ kw_1086) (fun _ h9 => h9) rfl hin rfl (tyX13_ok 59 (by decide)) rfl rfl (by rw [List.length_map, List.length_range]; decide) dX13_init_598 (fun H locs hP hD hS => ?_)
  have hP : va_P (dC, dI) vwCl ((mWx 45 h0 ad_306 cid_305 sg_272 gm_308 lg_211 ++ [(q_309, (.inl (cA_310, mLen 59, .inl (fun _ => 0)) : va_E))]).set 0 (h0, .inr (12, ((List.range 77).map (mfn 45 ad_306 sg_272)).set 59 (.ref q_309)))) H := hP
  have hD : va_D A ((mWx 45 h0 ad_306 cid_305 sg_272 gm_308 lg_211 ++ [(q_309, (.inl (cA_310, mLen 59, .inl (fun _ => 0)) : va_E))]).set 0 (h0, .inr (12, ((List.range 77).map (mfn 45 ad_306 sg_272)).set 59 (.ref q_309)))) := hD
  rw [mWx_i (n := 45) (k := 59) rfl (by decide) (by decide) (by decide) (by decide), ← ecid_311] at hP hD
  obtain ⟨ad_312, ead_312⟩ : ∃ z, z = va_up ad_306 59 q_309 := ⟨_, rfl⟩
  rw [← ead_312] at hP hD
  obtain ⟨gm_314, egm_314⟩ : ∃ z, z = va_up gm_308 59 (fun _ => 0) := ⟨_, rfl⟩
  rw [← egm_314] at hP hD
  have hz_313 : ZR 46 gm_314 := by rw [egm_314]; exact ZR_z rfl hz_307
  have hr3_46 : gm_314 3 = f_52 := by rw [egm_314, va_up_ne _ _ (show (3 : Nat) ≠ 59 by decide)]; exact hr3_45
  have hr4_46 : gm_314 4 = f_63 := by rw [egm_314, va_up_ne _ _ (show (4 : Nat) ≠ 59 by decide)]; exact hr4_45
  have hP : va_P (dC, dI) vwCl (mWx 46 h0 ad_312 cid_311 sg_272 gm_314 lg_211) H := hP
  have hD : va_D A (mWx 46 h0 ad_312 cid_311 sg_272 gm_314 lg_211) := hD
  refine W.widen (k := 46) (n := 15548) (Nat.le_of_ble_eq_true rfl) (Nat.le_of_ble_eq_true rfl) ?_
  refine lv_aload_n hx hb dX13_init_601 rfl (lv_at hl 0 rfl) ?_
  refine lv_bipush (v := 80) hx hb dX13_init_602 (by decide) ?_
  refine va_newa (D := (dC, dI)) (atype := .int) (ty := .int) (N' := 80) (a0 := (80, .inl (fun _ => 0))) hx hb (htb _ kw_205) rfl hK hP hD hS hA (fun _ => rfl) (by decide) (by decide) (by decide) (Nat.le_of_ble_eq_true rfl) (Nat.le_of_ble_eq_true rfl) dX13_init_604 (fun q_315 cA_316 H hK hP hD hS => ?_)
  rw [mTx_s (n := 46) (k := 60) (ty := .int) rfl (by decide) rfl] at hK
  obtain ⟨cid_317, ecid_317⟩ : ∃ z, z = va_up cid_311 60 cA_316 := ⟨_, rfl⟩
  rw [← ecid_317] at hK
  refine va_putF (D := (dC, dI)) (ci := 12) (v := .ref q_315) (ty := tyX13 60) (C := RX13) (T := TX13) (N := 77) (ref := "WiredBeansModel") hx hb htb inX13 tyX13 tyX13_ok nmX13 hown hK hP hD hS 0 rfl rfl 60 (by decide) (htb _ kw_1087) (fun _ h9 => h9) rfl hin rfl (tyX13_ok 60 (by decide)) rfl rfl (by rw [List.length_map, List.length_range]; decide) dX13_init_606 (fun H locs hP hD hS => ?_)
  have hP : va_P (dC, dI) vwCl ((mWx 46 h0 ad_312 cid_311 sg_272 gm_314 lg_211 ++ [(q_315, (.inl (cA_316, mLen 60, .inl (fun _ => 0)) : va_E))]).set 0 (h0, .inr (12, ((List.range 77).map (mfn 46 ad_312 sg_272)).set 60 (.ref q_315)))) H := hP
  have hD : va_D A ((mWx 46 h0 ad_312 cid_311 sg_272 gm_314 lg_211 ++ [(q_315, (.inl (cA_316, mLen 60, .inl (fun _ => 0)) : va_E))]).set 0 (h0, .inr (12, ((List.range 77).map (mfn 46 ad_312 sg_272)).set 60 (.ref q_315)))) := hD
  rw [mWx_i (n := 46) (k := 60) rfl (by decide) (by decide) (by decide) (by decide), ← ecid_317] at hP hD
  obtain ⟨ad_318, ead_318⟩ : ∃ z, z = va_up ad_312 60 q_315 := ⟨_, rfl⟩
  rw [← ead_318] at hP hD
  obtain ⟨gm_320, egm_320⟩ : ∃ z, z = va_up gm_314 60 (fun _ => 0) := ⟨_, rfl⟩
  rw [← egm_320] at hP hD
  have hz_319 : ZR 47 gm_320 := by rw [egm_320]; exact ZR_z rfl hz_313
  have hr3_47 : gm_320 3 = f_52 := by rw [egm_320, va_up_ne _ _ (show (3 : Nat) ≠ 60 by decide)]; exact hr3_46
  have hr4_47 : gm_320 4 = f_63 := by rw [egm_320, va_up_ne _ _ (show (4 : Nat) ≠ 60 by decide)]; exact hr4_46
  have hP : va_P (dC, dI) vwCl (mWx 47 h0 ad_318 cid_317 sg_272 gm_320 lg_211) H := hP
  have hD : va_D A (mWx 47 h0 ad_318 cid_317 sg_272 gm_320 lg_211) := hD
  refine W.widen (k := 47) (n := 15628) (Nat.le_of_ble_eq_true rfl) (Nat.le_of_ble_eq_true rfl) ?_
  refine lv_aload_n hx hb dX13_init_609 rfl (lv_at hl 0 rfl) ?_
  refine lv_bipush (v := 80) hx hb dX13_init_610 (by decide) ?_
  refine va_newa (D := (dC, dI)) (atype := .boolean) (ty := .boolean) (N' := 80) (a0 := (80, .inl (fun _ => 0))) hx hb (htb _ kw_1104) rfl hK hP hD hS hA (fun _ => rfl) (by decide) (by decide) (by decide) (Nat.le_of_ble_eq_true rfl) (Nat.le_of_ble_eq_true rfl) dX13_init_612 (fun q_321 cA_322 H hK hP hD hS => ?_)
  rw [mTx_s (n := 47) (k := 61) (ty := .boolean) rfl (by decide) rfl] at hK
  obtain ⟨cid_323, ecid_323⟩ : ∃ z, z = va_up cid_317 61 cA_322 := ⟨_, rfl⟩
  rw [← ecid_323] at hK
  refine va_putF (D := (dC, dI)) (ci := 12) (v := .ref q_321) (ty := tyX13 61) (C := RX13) (T := TX13) (N := 77) (ref := "WiredBeansModel") hx hb htb inX13 tyX13 tyX13_ok nmX13 hown hK hP hD hS 0 rfl rfl 61 (by decide) (htb _ kw_1088) (fun _ h9 => h9) rfl hin rfl (tyX13_ok 61 (by decide)) rfl rfl (by rw [List.length_map, List.length_range]; decide) dX13_init_614 (fun H locs hP hD hS => ?_)
  have hP : va_P (dC, dI) vwCl ((mWx 47 h0 ad_318 cid_317 sg_272 gm_320 lg_211 ++ [(q_321, (.inl (cA_322, mLen 61, .inl (fun _ => 0)) : va_E))]).set 0 (h0, .inr (12, ((List.range 77).map (mfn 47 ad_318 sg_272)).set 61 (.ref q_321)))) H := hP
  have hD : va_D A ((mWx 47 h0 ad_318 cid_317 sg_272 gm_320 lg_211 ++ [(q_321, (.inl (cA_322, mLen 61, .inl (fun _ => 0)) : va_E))]).set 0 (h0, .inr (12, ((List.range 77).map (mfn 47 ad_318 sg_272)).set 61 (.ref q_321)))) := hD
  rw [mWx_i (n := 47) (k := 61) rfl (by decide) (by decide) (by decide) (by decide), ← ecid_323] at hP hD
  obtain ⟨ad_324, ead_324⟩ : ∃ z, z = va_up ad_318 61 q_321 := ⟨_, rfl⟩
  rw [← ead_324] at hP hD
  obtain ⟨gm_326, egm_326⟩ : ∃ z, z = va_up gm_320 61 (fun _ => 0) := ⟨_, rfl⟩
  rw [← egm_326] at hP hD
  have hz_325 : ZR 48 gm_326 := by rw [egm_326]; exact ZR_z rfl hz_319
  have hr3_48 : gm_326 3 = f_52 := by rw [egm_326, va_up_ne _ _ (show (3 : Nat) ≠ 61 by decide)]; exact hr3_47
  have hr4_48 : gm_326 4 = f_63 := by rw [egm_326, va_up_ne _ _ (show (4 : Nat) ≠ 61 by decide)]; exact hr4_47
  have hP : va_P (dC, dI) vwCl (mWx 48 h0 ad_324 cid_323 sg_272 gm_326 lg_211) H := hP
  have hD : va_D A (mWx 48 h0 ad_324 cid_323 sg_272 gm_326 lg_211) := hD
  refine W.widen (k := 48) (n := 15708) (Nat.le_of_ble_eq_true rfl) (Nat.le_of_ble_eq_true rfl) ?_
  refine lv_aload_n hx hb dX13_init_617 rfl (lv_at hl 0 rfl) ?_
  refine lv_bipush (v := 80) hx hb dX13_init_618 (by decide) ?_
  refine va_newa (D := (dC, dI)) (atype := .boolean) (ty := .boolean) (N' := 80) (a0 := (80, .inl (fun _ => 0))) hx hb (htb _ kw_1104) rfl hK hP hD hS hA (fun _ => rfl) (by decide) (by decide) (by decide) (Nat.le_of_ble_eq_true rfl) (Nat.le_of_ble_eq_true rfl) dX13_init_620 (fun q_327 cA_328 H hK hP hD hS => ?_)
  rw [mTx_s (n := 48) (k := 62) (ty := .boolean) rfl (by decide) rfl] at hK
  obtain ⟨cid_329, ecid_329⟩ : ∃ z, z = va_up cid_323 62 cA_328 := ⟨_, rfl⟩
  rw [← ecid_329] at hK
  refine va_putF (D := (dC, dI)) (ci := 12) (v := .ref q_327) (ty := tyX13 62) (C := RX13) (T := TX13) (N := 77) (ref := "WiredBeansModel") hx hb htb inX13 tyX13 tyX13_ok nmX13 hown hK hP hD hS 0 rfl rfl 62 (by decide) (htb _ kw_1089) (fun _ h9 => h9) rfl hin rfl (tyX13_ok 62 (by decide)) rfl rfl (by rw [List.length_map, List.length_range]; decide) dX13_init_622 (fun H locs hP hD hS => ?_)
  have hP : va_P (dC, dI) vwCl ((mWx 48 h0 ad_324 cid_323 sg_272 gm_326 lg_211 ++ [(q_327, (.inl (cA_328, mLen 62, .inl (fun _ => 0)) : va_E))]).set 0 (h0, .inr (12, ((List.range 77).map (mfn 48 ad_324 sg_272)).set 62 (.ref q_327)))) H := hP
  have hD : va_D A ((mWx 48 h0 ad_324 cid_323 sg_272 gm_326 lg_211 ++ [(q_327, (.inl (cA_328, mLen 62, .inl (fun _ => 0)) : va_E))]).set 0 (h0, .inr (12, ((List.range 77).map (mfn 48 ad_324 sg_272)).set 62 (.ref q_327)))) := hD
  rw [mWx_i (n := 48) (k := 62) rfl (by decide) (by decide) (by decide) (by decide), ← ecid_329] at hP hD
  obtain ⟨ad_330, ead_330⟩ : ∃ z, z = va_up ad_324 62 q_327 := ⟨_, rfl⟩
  rw [← ead_330] at hP hD
  obtain ⟨gm_332, egm_332⟩ : ∃ z, z = va_up gm_326 62 (fun _ => 0) := ⟨_, rfl⟩
  rw [← egm_332] at hP hD
  have hz_331 : ZR 49 gm_332 := by rw [egm_332]; exact ZR_z rfl hz_325
  have hr3_49 : gm_332 3 = f_52 := by rw [egm_332, va_up_ne _ _ (show (3 : Nat) ≠ 62 by decide)]; exact hr3_48
  have hr4_49 : gm_332 4 = f_63 := by rw [egm_332, va_up_ne _ _ (show (4 : Nat) ≠ 62 by decide)]; exact hr4_48
  have hP : va_P (dC, dI) vwCl (mWx 49 h0 ad_330 cid_329 sg_272 gm_332 lg_211) H := hP
  have hD : va_D A (mWx 49 h0 ad_330 cid_329 sg_272 gm_332 lg_211) := hD
  refine W.widen (k := 49) (n := 15788) (Nat.le_of_ble_eq_true rfl) (Nat.le_of_ble_eq_true rfl) ?_
  refine lv_aload_n hx hb dX13_init_625 rfl (lv_at hl 0 rfl) ?_
  refine lv_bipush (v := 81) hx hb dX13_init_626 (by decide) ?_
  refine va_newa (D := (dC, dI)) (atype := .int) (ty := .int) (N' := 81) (a0 := (81, .inl (fun _ => 0))) hx hb (htb _ kw_205) rfl hK hP hD hS hA (fun _ => rfl) (by decide) (by decide) (by decide) (Nat.le_of_ble_eq_true rfl) (Nat.le_of_ble_eq_true rfl) dX13_init_628 (fun q_333 cA_334 H hK hP hD hS => ?_)
  rw [mTx_s (n := 49) (k := 64) (ty := .int) rfl (by decide) rfl] at hK
  obtain ⟨cid_335, ecid_335⟩ : ∃ z, z = va_up cid_329 64 cA_334 := ⟨_, rfl⟩
  rw [← ecid_335] at hK
  refine va_putF (D := (dC, dI)) (ci := 12) (v := .ref q_333) (ty := tyX13 64) (C := RX13) (T := TX13) (N := 77) (ref := "WiredBeansModel") hx hb htb inX13 tyX13 tyX13_ok nmX13 hown hK hP hD hS 0 rfl rfl 64 (by decide) (htb _ kw_1091) (fun _ h9 => h9) rfl hin rfl (tyX13_ok 64 (by decide)) rfl rfl (by rw [List.length_map, List.length_range]; decide) dX13_init_630 (fun H locs hP hD hS => ?_)
  have hP : va_P (dC, dI) vwCl ((mWx 49 h0 ad_330 cid_329 sg_272 gm_332 lg_211 ++ [(q_333, (.inl (cA_334, mLen 64, .inl (fun _ => 0)) : va_E))]).set 0 (h0, .inr (12, ((List.range 77).map (mfn 49 ad_330 sg_272)).set 64 (.ref q_333)))) H := hP
  have hD : va_D A ((mWx 49 h0 ad_330 cid_329 sg_272 gm_332 lg_211 ++ [(q_333, (.inl (cA_334, mLen 64, .inl (fun _ => 0)) : va_E))]).set 0 (h0, .inr (12, ((List.range 77).map (mfn 49 ad_330 sg_272)).set 64 (.ref q_333)))) := hD
  rw [mWx_i (n := 49) (k := 64) rfl (by decide) (by decide) (by decide) (by decide), ← ecid_335] at hP hD
  obtain ⟨ad_336, ead_336⟩ : ∃ z, z = va_up ad_330 64 q_333 := ⟨_, rfl⟩
  rw [← ead_336] at hP hD
  obtain ⟨gm_338, egm_338⟩ : ∃ z, z = va_up gm_332 64 (fun _ => 0) := ⟨_, rfl⟩
  rw [← egm_338] at hP hD
  have hz_337 : ZR 50 gm_338 := by rw [egm_338]; exact ZR_z rfl hz_331
  have hr3_50 : gm_338 3 = f_52 := by rw [egm_338, va_up_ne _ _ (show (3 : Nat) ≠ 64 by decide)]; exact hr3_49
  have hr4_50 : gm_338 4 = f_63 := by rw [egm_338, va_up_ne _ _ (show (4 : Nat) ≠ 64 by decide)]; exact hr4_49
  have hP : va_P (dC, dI) vwCl (mWx 50 h0 ad_336 cid_335 sg_272 gm_338 lg_211) H := hP
  have hD : va_D A (mWx 50 h0 ad_336 cid_335 sg_272 gm_338 lg_211) := hD
  refine W.widen (k := 50) (n := 15869) (Nat.le_of_ble_eq_true rfl) (Nat.le_of_ble_eq_true rfl) ?_
  refine lv_aload_n hx hb dX13_init_633 rfl (lv_at hl 0 rfl) ?_
  refine lv_bipush (v := 81) hx hb dX13_init_634 (by decide) ?_
  refine va_newa (D := (dC, dI)) (atype := .int) (ty := .int) (N' := 81) (a0 := (81, .inl (fun _ => 0))) hx hb (htb _ kw_205) rfl hK hP hD hS hA (fun _ => rfl) (by decide) (by decide) (by decide) (Nat.le_of_ble_eq_true rfl) (Nat.le_of_ble_eq_true rfl) dX13_init_636 (fun q_339 cA_340 H hK hP hD hS => ?_)
  rw [mTx_s (n := 50) (k := 65) (ty := .int) rfl (by decide) rfl] at hK
  obtain ⟨cid_341, ecid_341⟩ : ∃ z, z = va_up cid_335 65 cA_340 := ⟨_, rfl⟩
  rw [← ecid_341] at hK
  refine va_putF (D := (dC, dI)) (ci := 12) (v := .ref q_339) (ty := tyX13 65) (C := RX13) (T := TX13) (N := 77) (ref := "WiredBeansModel") hx hb htb inX13 tyX13 tyX13_ok nmX13 hown hK hP hD hS 0 rfl rfl 65 (by decide) (htb _ kw_1092) (fun _ h9 => h9) rfl hin rfl (tyX13_ok 65 (by decide)) rfl rfl (by rw [List.length_map, List.length_range]; decide) dX13_init_638 (fun H locs hP hD hS => ?_)
  have hP : va_P (dC, dI) vwCl ((mWx 50 h0 ad_336 cid_335 sg_272 gm_338 lg_211 ++ [(q_339, (.inl (cA_340, mLen 65, .inl (fun _ => 0)) : va_E))]).set 0 (h0, .inr (12, ((List.range 77).map (mfn 50 ad_336 sg_272)).set 65 (.ref q_339)))) H := hP
  have hD : va_D A ((mWx 50 h0 ad_336 cid_335 sg_272 gm_338 lg_211 ++ [(q_339, (.inl (cA_340, mLen 65, .inl (fun _ => 0)) : va_E))]).set 0 (h0, .inr (12, ((List.range 77).map (mfn 50 ad_336 sg_272)).set 65 (.ref q_339)))) := hD
  rw [mWx_i (n := 50) (k := 65) rfl (by decide) (by decide) (by decide) (by decide), ← ecid_341] at hP hD
  obtain ⟨ad_342, ead_342⟩ : ∃ z, z = va_up ad_336 65 q_339 := ⟨_, rfl⟩
  rw [← ead_342] at hP hD
  obtain ⟨gm_344, egm_344⟩ : ∃ z, z = va_up gm_338 65 (fun _ => 0) := ⟨_, rfl⟩
  rw [← egm_344] at hP hD
  have hz_343 : ZR 51 gm_344 := by rw [egm_344]; exact ZR_z rfl hz_337
  have hr3_51 : gm_344 3 = f_52 := by rw [egm_344, va_up_ne _ _ (show (3 : Nat) ≠ 65 by decide)]; exact hr3_50
  have hr4_51 : gm_344 4 = f_63 := by rw [egm_344, va_up_ne _ _ (show (4 : Nat) ≠ 65 by decide)]; exact hr4_50
  have hP : va_P (dC, dI) vwCl (mWx 51 h0 ad_342 cid_341 sg_272 gm_344 lg_211) H := hP
  have hD : va_D A (mWx 51 h0 ad_342 cid_341 sg_272 gm_344 lg_211) := hD
  refine W.widen (k := 51) (n := 15950) (Nat.le_of_ble_eq_true rfl) (Nat.le_of_ble_eq_true rfl) ?_
  refine lv_aload_n hx hb dX13_init_641 rfl (lv_at hl 0 rfl) ?_
  refine lv_bipush (v := 81) hx hb dX13_init_642 (by decide) ?_
  refine va_newa (D := (dC, dI)) (atype := .int) (ty := .int) (N' := 81) (a0 := (81, .inl (fun _ => 0))) hx hb (htb _ kw_205) rfl hK hP hD hS hA (fun _ => rfl) (by decide) (by decide) (by decide) (Nat.le_of_ble_eq_true rfl) (Nat.le_of_ble_eq_true rfl) dX13_init_644 (fun q_345 cA_346 H hK hP hD hS => ?_)
  rw [mTx_s (n := 51) (k := 66) (ty := .int) rfl (by decide) rfl] at hK
  obtain ⟨cid_347, ecid_347⟩ : ∃ z, z = va_up cid_341 66 cA_346 := ⟨_, rfl⟩
  rw [← ecid_347] at hK
  refine va_putF (D := (dC, dI)) (ci := 12) (v := .ref q_345) (ty := tyX13 66) (C := RX13) (T := TX13) (N := 77) (ref := "WiredBeansModel") hx hb htb inX13 tyX13 tyX13_ok nmX13 hown hK hP hD hS 0 rfl rfl 66 (by decide) (htb _ kw_1093) (fun _ h9 => h9) rfl hin rfl (tyX13_ok 66 (by decide)) rfl rfl (by rw [List.length_map, List.length_range]; decide) dX13_init_646 (fun H locs hP hD hS => ?_)
  have hP : va_P (dC, dI) vwCl ((mWx 51 h0 ad_342 cid_341 sg_272 gm_344 lg_211 ++ [(q_345, (.inl (cA_346, mLen 66, .inl (fun _ => 0)) : va_E))]).set 0 (h0, .inr (12, ((List.range 77).map (mfn 51 ad_342 sg_272)).set 66 (.ref q_345)))) H := hP
  have hD : va_D A ((mWx 51 h0 ad_342 cid_341 sg_272 gm_344 lg_211 ++ [(q_345, (.inl (cA_346, mLen 66, .inl (fun _ => 0)) : va_E))]).set 0 (h0, .inr (12, ((List.range 77).map (mfn 51 ad_342 sg_272)).set 66 (.ref q_345)))) := hD
  rw [mWx_i (n := 51) (k := 66) rfl (by decide) (by decide) (by decide) (by decide), ← ecid_347] at hP hD
  obtain ⟨ad_348, ead_348⟩ : ∃ z, z = va_up ad_342 66 q_345 := ⟨_, rfl⟩
  rw [← ead_348] at hP hD
  obtain ⟨gm_350, egm_350⟩ : ∃ z, z = va_up gm_344 66 (fun _ => 0) := ⟨_, rfl⟩
  rw [← egm_350] at hP hD
  have hz_349 : ZR 52 gm_350 := by rw [egm_350]; exact ZR_z rfl hz_343
  have hr3_52 : gm_350 3 = f_52 := by rw [egm_350, va_up_ne _ _ (show (3 : Nat) ≠ 66 by decide)]; exact hr3_51
  have hr4_52 : gm_350 4 = f_63 := by rw [egm_350, va_up_ne _ _ (show (4 : Nat) ≠ 66 by decide)]; exact hr4_51
  have hP : va_P (dC, dI) vwCl (mWx 52 h0 ad_348 cid_347 sg_272 gm_350 lg_211) H := hP
  have hD : va_D A (mWx 52 h0 ad_348 cid_347 sg_272 gm_350 lg_211) := hD
  refine W.widen (k := 52) (n := 16031) (Nat.le_of_ble_eq_true rfl) (Nat.le_of_ble_eq_true rfl) ?_
  refine lv_aload_n hx hb dX13_init_649 rfl (lv_at hl 0 rfl) ?_
  refine lv_bipush (v := 81) hx hb dX13_init_650 (by decide) ?_
  refine va_newa (D := (dC, dI)) (atype := .int) (ty := .int) (N' := 81) (a0 := (81, .inl (fun _ => 0))) hx hb (htb _ kw_205) rfl hK hP hD hS hA (fun _ => rfl) (by decide) (by decide) (by decide) (Nat.le_of_ble_eq_true rfl) (Nat.le_of_ble_eq_true rfl) dX13_init_652 (fun q_351 cA_352 H hK hP hD hS => ?_)
  rw [mTx_s (n := 52) (k := 67) (ty := .int) rfl (by decide) rfl] at hK
  obtain ⟨cid_353, ecid_353⟩ : ∃ z, z = va_up cid_347 67 cA_352 := ⟨_, rfl⟩
  rw [← ecid_353] at hK
  refine va_putF (D := (dC, dI)) (ci := 12) (v := .ref q_351) (ty := tyX13 67) (C := RX13) (T := TX13) (N := 77) (ref := "WiredBeansModel") hx hb htb inX13 tyX13 tyX13_ok nmX13 hown hK hP hD hS 0 rfl rfl 67 (by decide) (htb _ kw_1094) (fun _ h9 => h9) rfl hin rfl (tyX13_ok 67 (by decide)) rfl rfl (by rw [List.length_map, List.length_range]; decide) dX13_init_654 (fun H locs hP hD hS => ?_)
  have hP : va_P (dC, dI) vwCl ((mWx 52 h0 ad_348 cid_347 sg_272 gm_350 lg_211 ++ [(q_351, (.inl (cA_352, mLen 67, .inl (fun _ => 0)) : va_E))]).set 0 (h0, .inr (12, ((List.range 77).map (mfn 52 ad_348 sg_272)).set 67 (.ref q_351)))) H := hP
  have hD : va_D A ((mWx 52 h0 ad_348 cid_347 sg_272 gm_350 lg_211 ++ [(q_351, (.inl (cA_352, mLen 67, .inl (fun _ => 0)) : va_E))]).set 0 (h0, .inr (12, ((List.range 77).map (mfn 52 ad_348 sg_272)).set 67 (.ref q_351)))) := hD
  rw [mWx_i (n := 52) (k := 67) rfl (by decide) (by decide) (by decide) (by decide), ← ecid_353] at hP hD
  obtain ⟨ad_354, ead_354⟩ : ∃ z, z = va_up ad_348 67 q_351 := ⟨_, rfl⟩
  rw [← ead_354] at hP hD
  obtain ⟨gm_356, egm_356⟩ : ∃ z, z = va_up gm_350 67 (fun _ => 0) := ⟨_, rfl⟩
  rw [← egm_356] at hP hD
  have hz_355 : ZR 53 gm_356 := by rw [egm_356]; exact ZR_z rfl hz_349
  have hr3_53 : gm_356 3 = f_52 := by rw [egm_356, va_up_ne _ _ (show (3 : Nat) ≠ 67 by decide)]; exact hr3_52
  have hr4_53 : gm_356 4 = f_63 := by rw [egm_356, va_up_ne _ _ (show (4 : Nat) ≠ 67 by decide)]; exact hr4_52
  have hP : va_P (dC, dI) vwCl (mWx 53 h0 ad_354 cid_353 sg_272 gm_356 lg_211) H := hP
  have hD : va_D A (mWx 53 h0 ad_354 cid_353 sg_272 gm_356 lg_211) := hD
  refine W.widen (k := 53) (n := 16112) (Nat.le_of_ble_eq_true rfl) (Nat.le_of_ble_eq_true rfl) ?_
  refine lv_aload_n hx hb dX13_init_657 rfl (lv_at hl 0 rfl) ?_
  refine lv_bipush (v := 81) hx hb dX13_init_658 (by decide) ?_
  refine va_newa (D := (dC, dI)) (atype := .int) (ty := .int) (N' := 81) (a0 := (81, .inl (fun _ => 0))) hx hb (htb _ kw_205) rfl hK hP hD hS hA (fun _ => rfl) (by decide) (by decide) (by decide) (Nat.le_of_ble_eq_true rfl) (Nat.le_of_ble_eq_true rfl) dX13_init_660 (fun q_357 cA_358 H hK hP hD hS => ?_)
  rw [mTx_s (n := 53) (k := 68) (ty := .int) rfl (by decide) rfl] at hK
  obtain ⟨cid_359, ecid_359⟩ : ∃ z, z = va_up cid_353 68 cA_358 := ⟨_, rfl⟩
  rw [← ecid_359] at hK
  refine va_putF (D := (dC, dI)) (ci := 12) (v := .ref q_357) (ty := tyX13 68) (C := RX13) (T := TX13) (N := 77) (ref := "WiredBeansModel") hx hb htb inX13 tyX13 tyX13_ok nmX13 hown hK hP hD hS 0 rfl rfl 68 (by decide) (htb _ kw_1095) (fun _ h9 => h9) rfl hin rfl (tyX13_ok 68 (by decide)) rfl rfl (by rw [List.length_map, List.length_range]; decide) dX13_init_662 (fun H locs hP hD hS => ?_)
  have hP : va_P (dC, dI) vwCl ((mWx 53 h0 ad_354 cid_353 sg_272 gm_356 lg_211 ++ [(q_357, (.inl (cA_358, mLen 68, .inl (fun _ => 0)) : va_E))]).set 0 (h0, .inr (12, ((List.range 77).map (mfn 53 ad_354 sg_272)).set 68 (.ref q_357)))) H := hP
  have hD : va_D A ((mWx 53 h0 ad_354 cid_353 sg_272 gm_356 lg_211 ++ [(q_357, (.inl (cA_358, mLen 68, .inl (fun _ => 0)) : va_E))]).set 0 (h0, .inr (12, ((List.range 77).map (mfn 53 ad_354 sg_272)).set 68 (.ref q_357)))) := hD
  rw [mWx_i (n := 53) (k := 68) rfl (by decide) (by decide) (by decide) (by decide), ← ecid_359] at hP hD
  obtain ⟨ad_360, ead_360⟩ : ∃ z, z = va_up ad_354 68 q_357 := ⟨_, rfl⟩
  rw [← ead_360] at hP hD
  obtain ⟨gm_362, egm_362⟩ : ∃ z, z = va_up gm_356 68 (fun _ => 0) := ⟨_, rfl⟩
  rw [← egm_362] at hP hD
  have hz_361 : ZR 54 gm_362 := by rw [egm_362]; exact ZR_z rfl hz_355
  have hr3_54 : gm_362 3 = f_52 := by rw [egm_362, va_up_ne _ _ (show (3 : Nat) ≠ 68 by decide)]; exact hr3_53
  have hr4_54 : gm_362 4 = f_63 := by rw [egm_362, va_up_ne _ _ (show (4 : Nat) ≠ 68 by decide)]; exact hr4_53
  have hP : va_P (dC, dI) vwCl (mWx 54 h0 ad_360 cid_359 sg_272 gm_362 lg_211) H := hP
  have hD : va_D A (mWx 54 h0 ad_360 cid_359 sg_272 gm_362 lg_211) := hD
  refine W.widen (k := 54) (n := 16193) (Nat.le_of_ble_eq_true rfl) (Nat.le_of_ble_eq_true rfl) ?_
  refine lv_aload_n hx hb dX13_init_665 rfl (lv_at hl 0 rfl) ?_
  refine lv_bipush (v := 81) hx hb dX13_init_666 (by decide) ?_
  refine va_newa (D := (dC, dI)) (atype := .int) (ty := .int) (N' := 81) (a0 := (81, .inl (fun _ => 0))) hx hb (htb _ kw_205) rfl hK hP hD hS hA (fun _ => rfl) (by decide) (by decide) (by decide) (Nat.le_of_ble_eq_true rfl) (Nat.le_of_ble_eq_true rfl) dX13_init_668 (fun q_363 cA_364 H hK hP hD hS => ?_)
  rw [mTx_s (n := 54) (k := 69) (ty := .int) rfl (by decide) rfl] at hK
  obtain ⟨cid_365, ecid_365⟩ : ∃ z, z = va_up cid_359 69 cA_364 := ⟨_, rfl⟩
  rw [← ecid_365] at hK
  refine va_putF (D := (dC, dI)) (ci := 12) (v := .ref q_363) (ty := tyX13 69) (C := RX13) (T := TX13) (N := 77) (ref := "WiredBeansModel") hx hb htb inX13 tyX13 tyX13_ok nmX13 hown hK hP hD hS 0 rfl rfl 69 (by decide) (htb _ kw_1096) (fun _ h9 => h9) rfl hin rfl (tyX13_ok 69 (by decide)) rfl rfl (by rw [List.length_map, List.length_range]; decide) dX13_init_670 (fun H locs hP hD hS => ?_)
  have hP : va_P (dC, dI) vwCl ((mWx 54 h0 ad_360 cid_359 sg_272 gm_362 lg_211 ++ [(q_363, (.inl (cA_364, mLen 69, .inl (fun _ => 0)) : va_E))]).set 0 (h0, .inr (12, ((List.range 77).map (mfn 54 ad_360 sg_272)).set 69 (.ref q_363)))) H := hP
  have hD : va_D A ((mWx 54 h0 ad_360 cid_359 sg_272 gm_362 lg_211 ++ [(q_363, (.inl (cA_364, mLen 69, .inl (fun _ => 0)) : va_E))]).set 0 (h0, .inr (12, ((List.range 77).map (mfn 54 ad_360 sg_272)).set 69 (.ref q_363)))) := hD
  rw [mWx_i (n := 54) (k := 69) rfl (by decide) (by decide) (by decide) (by decide), ← ecid_365] at hP hD
  obtain ⟨ad_366, ead_366⟩ : ∃ z, z = va_up ad_360 69 q_363 := ⟨_, rfl⟩
  rw [← ead_366] at hP hD
  obtain ⟨gm_368, egm_368⟩ : ∃ z, z = va_up gm_362 69 (fun _ => 0) := ⟨_, rfl⟩
  rw [← egm_368] at hP hD
  have hz_367 : ZR 55 gm_368 := by rw [egm_368]; exact ZR_z rfl hz_361
  have hr3_55 : gm_368 3 = f_52 := by rw [egm_368, va_up_ne _ _ (show (3 : Nat) ≠ 69 by decide)]; exact hr3_54
  have hr4_55 : gm_368 4 = f_63 := by rw [egm_368, va_up_ne _ _ (show (4 : Nat) ≠ 69 by decide)]; exact hr4_54
  have hP : va_P (dC, dI) vwCl (mWx 55 h0 ad_366 cid_365 sg_272 gm_368 lg_211) H := hP
  have hD : va_D A (mWx 55 h0 ad_366 cid_365 sg_272 gm_368 lg_211) := hD
  refine W.widen (k := 55) (n := 16274) (Nat.le_of_ble_eq_true rfl) (Nat.le_of_ble_eq_true rfl) ?_
  refine lv_aload_n hx hb dX13_init_673 rfl (lv_at hl 0 rfl) ?_
  refine lv_sipush (v := 405) hx hb dX13_init_674 (by decide) ?_
  refine va_newa (D := (dC, dI)) (atype := .int) (ty := .int) (N' := 405) (a0 := (405, .inl (fun _ => 0))) hx hb (htb _ kw_205) rfl hK hP hD hS hA (fun _ => rfl) (by decide) (by decide) (by decide) (Nat.le_of_ble_eq_true rfl) (Nat.le_of_ble_eq_true rfl) dX13_init_677 (fun q_369 cA_370 H hK hP hD hS => ?_)
  rw [mTx_s (n := 55) (k := 70) (ty := .int) rfl (by decide) rfl] at hK
  obtain ⟨cid_371, ecid_371⟩ : ∃ z, z = va_up cid_365 70 cA_370 := ⟨_, rfl⟩
  rw [← ecid_371] at hK
  refine va_putF (D := (dC, dI)) (ci := 12) (v := .ref q_369) (ty := tyX13 70) (C := RX13) (T := TX13) (N := 77) (ref := "WiredBeansModel") hx hb htb inX13 tyX13 tyX13_ok nmX13 hown hK hP hD hS 0 rfl rfl 70 (by decide) (htb _ kw_1097) (fun _ h9 => h9) rfl hin rfl (tyX13_ok 70 (by decide)) rfl rfl (by rw [List.length_map, List.length_range]; decide) dX13_init_679 (fun H locs hP hD hS => ?_)
  have hP : va_P (dC, dI) vwCl ((mWx 55 h0 ad_366 cid_365 sg_272 gm_368 lg_211 ++ [(q_369, (.inl (cA_370, mLen 70, .inl (fun _ => 0)) : va_E))]).set 0 (h0, .inr (12, ((List.range 77).map (mfn 55 ad_366 sg_272)).set 70 (.ref q_369)))) H := hP
  have hD : va_D A ((mWx 55 h0 ad_366 cid_365 sg_272 gm_368 lg_211 ++ [(q_369, (.inl (cA_370, mLen 70, .inl (fun _ => 0)) : va_E))]).set 0 (h0, .inr (12, ((List.range 77).map (mfn 55 ad_366 sg_272)).set 70 (.ref q_369)))) := hD
  rw [mWx_i (n := 55) (k := 70) rfl (by decide) (by decide) (by decide) (by decide), ← ecid_371] at hP hD
  obtain ⟨ad_372, ead_372⟩ : ∃ z, z = va_up ad_366 70 q_369 := ⟨_, rfl⟩
  rw [← ead_372] at hP hD
  obtain ⟨gm_374, egm_374⟩ : ∃ z, z = va_up gm_368 70 (fun _ => 0) := ⟨_, rfl⟩
  rw [← egm_374] at hP hD
  have hz_373 : ZR 56 gm_374 := by rw [egm_374]; exact ZR_z rfl hz_367
  have hr3_56 : gm_374 3 = f_52 := by rw [egm_374, va_up_ne _ _ (show (3 : Nat) ≠ 70 by decide)]; exact hr3_55
  have hr4_56 : gm_374 4 = f_63 := by rw [egm_374, va_up_ne _ _ (show (4 : Nat) ≠ 70 by decide)]; exact hr4_55
  have hP : va_P (dC, dI) vwCl (mWx 56 h0 ad_372 cid_371 sg_272 gm_374 lg_211) H := hP
  have hD : va_D A (mWx 56 h0 ad_372 cid_371 sg_272 gm_374 lg_211) := hD
  refine W.widen (k := 56) (n := 16679) (Nat.le_of_ble_eq_true rfl) (Nat.le_of_ble_eq_true rfl) ?_
  refine lv_aload_n hx hb dX13_init_682 rfl (lv_at hl 0 rfl) ?_
  refine lv_sipush (v := 405) hx hb dX13_init_683 (by decide) ?_
  refine va_newa (D := (dC, dI)) (atype := .int) (ty := .int) (N' := 405) (a0 := (405, .inl (fun _ => 0))) hx hb (htb _ kw_205) rfl hK hP hD hS hA (fun _ => rfl) (by decide) (by decide) (by decide) (Nat.le_of_ble_eq_true rfl) (Nat.le_of_ble_eq_true rfl) dX13_init_686 (fun q_375 cA_376 H hK hP hD hS => ?_)
  rw [mTx_s (n := 56) (k := 71) (ty := .int) rfl (by decide) rfl] at hK
  obtain ⟨cid_377, ecid_377⟩ : ∃ z, z = va_up cid_371 71 cA_376 := ⟨_, rfl⟩
  rw [← ecid_377] at hK
  refine va_putF (D := (dC, dI)) (ci := 12) (v := .ref q_375) (ty := tyX13 71) (C := RX13) (T := TX13) (N := 77) (ref := "WiredBeansModel") hx hb htb inX13 tyX13 tyX13_ok nmX13 hown hK hP hD hS 0 rfl rfl 71 (by decide) (htb _ kw_1098) (fun _ h9 => h9) rfl hin rfl (tyX13_ok 71 (by decide)) rfl rfl (by rw [List.length_map, List.length_range]; decide) dX13_init_688 (fun H locs hP hD hS => ?_)
  have hP : va_P (dC, dI) vwCl ((mWx 56 h0 ad_372 cid_371 sg_272 gm_374 lg_211 ++ [(q_375, (.inl (cA_376, mLen 71, .inl (fun _ => 0)) : va_E))]).set 0 (h0, .inr (12, ((List.range 77).map (mfn 56 ad_372 sg_272)).set 71 (.ref q_375)))) H := hP
  have hD : va_D A ((mWx 56 h0 ad_372 cid_371 sg_272 gm_374 lg_211 ++ [(q_375, (.inl (cA_376, mLen 71, .inl (fun _ => 0)) : va_E))]).set 0 (h0, .inr (12, ((List.range 77).map (mfn 56 ad_372 sg_272)).set 71 (.ref q_375)))) := hD
  rw [mWx_i (n := 56) (k := 71) rfl (by decide) (by decide) (by decide) (by decide), ← ecid_377] at hP hD
  obtain ⟨ad_378, ead_378⟩ : ∃ z, z = va_up ad_372 71 q_375 := ⟨_, rfl⟩
  rw [← ead_378] at hP hD
  obtain ⟨gm_380, egm_380⟩ : ∃ z, z = va_up gm_374 71 (fun _ => 0) := ⟨_, rfl⟩
  rw [← egm_380] at hP hD
  have hz_379 : ZR 57 gm_380 := by rw [egm_380]; exact ZR_z rfl hz_373
  have hr3_57 : gm_380 3 = f_52 := by rw [egm_380, va_up_ne _ _ (show (3 : Nat) ≠ 71 by decide)]; exact hr3_56
  have hr4_57 : gm_380 4 = f_63 := by rw [egm_380, va_up_ne _ _ (show (4 : Nat) ≠ 71 by decide)]; exact hr4_56
  have hP : va_P (dC, dI) vwCl (mWx 57 h0 ad_378 cid_377 sg_272 gm_380 lg_211) H := hP
  have hD : va_D A (mWx 57 h0 ad_378 cid_377 sg_272 gm_380 lg_211) := hD
  refine W.widen (k := 57) (n := 17084) (Nat.le_of_ble_eq_true rfl) (Nat.le_of_ble_eq_true rfl) ?_
  refine lv_aload_n hx hb dX13_init_691 rfl (lv_at hl 0 rfl) ?_
  refine lv_sipush (v := 2430) hx hb dX13_init_692 (by decide) ?_
  refine va_newa (D := (dC, dI)) (atype := .int) (ty := .int) (N' := 2430) (a0 := (2430, .inl (fun _ => 0))) hx hb (htb _ kw_205) rfl hK hP hD hS hA (fun _ => rfl) (by decide) (by decide) (by decide) (Nat.le_of_ble_eq_true rfl) (Nat.le_of_ble_eq_true rfl) dX13_init_695 (fun q_381 cA_382 H hK hP hD hS => ?_)
  rw [mTx_s (n := 57) (k := 72) (ty := .int) rfl (by decide) rfl] at hK
  obtain ⟨cid_383, ecid_383⟩ : ∃ z, z = va_up cid_377 72 cA_382 := ⟨_, rfl⟩
  rw [← ecid_383] at hK
  refine va_putF (D := (dC, dI)) (ci := 12) (v := .ref q_381) (ty := tyX13 72) (C := RX13) (T := TX13) (N := 77) (ref := "WiredBeansModel") hx hb htb inX13 tyX13 tyX13_ok nmX13 hown hK hP hD hS 0 rfl rfl 72 (by decide) (htb _ kw_1099) (fun _ h9 => h9) rfl hin rfl (tyX13_ok 72 (by decide)) rfl rfl (by rw [List.length_map, List.length_range]; decide) dX13_init_697 (fun H locs hP hD hS => ?_)
  have hP : va_P (dC, dI) vwCl ((mWx 57 h0 ad_378 cid_377 sg_272 gm_380 lg_211 ++ [(q_381, (.inl (cA_382, mLen 72, .inl (fun _ => 0)) : va_E))]).set 0 (h0, .inr (12, ((List.range 77).map (mfn 57 ad_378 sg_272)).set 72 (.ref q_381)))) H := hP
  have hD : va_D A ((mWx 57 h0 ad_378 cid_377 sg_272 gm_380 lg_211 ++ [(q_381, (.inl (cA_382, mLen 72, .inl (fun _ => 0)) : va_E))]).set 0 (h0, .inr (12, ((List.range 77).map (mfn 57 ad_378 sg_272)).set 72 (.ref q_381)))) := hD
  rw [mWx_i (n := 57) (k := 72) rfl (by decide) (by decide) (by decide) (by decide), ← ecid_383] at hP hD
  obtain ⟨ad_384, ead_384⟩ : ∃ z, z = va_up ad_378 72 q_381 := ⟨_, rfl⟩
  rw [← ead_384] at hP hD
  obtain ⟨gm_386, egm_386⟩ : ∃ z, z = va_up gm_380 72 (fun _ => 0) := ⟨_, rfl⟩
  rw [← egm_386] at hP hD
  have hz_385 : ZR 58 gm_386 := by rw [egm_386]; exact ZR_z rfl hz_379
  have hr3_58 : gm_386 3 = f_52 := by rw [egm_386, va_up_ne _ _ (show (3 : Nat) ≠ 72 by decide)]; exact hr3_57
  have hr4_58 : gm_386 4 = f_63 := by rw [egm_386, va_up_ne _ _ (show (4 : Nat) ≠ 72 by decide)]; exact hr4_57
  have hP : va_P (dC, dI) vwCl (mWx 58 h0 ad_384 cid_383 sg_272 gm_386 lg_211) H := hP
  have hD : va_D A (mWx 58 h0 ad_384 cid_383 sg_272 gm_386 lg_211) := hD
  refine W.widen (k := 58) (n := 19514) (Nat.le_of_ble_eq_true rfl) (Nat.le_of_ble_eq_true rfl) ?_
  refine lv_aload_n hx hb dX13_init_700 rfl (lv_at hl 0 rfl) ?_
  refine lv_sipush (v := 2430) hx hb dX13_init_701 (by decide) ?_
  refine va_newa (D := (dC, dI)) (atype := .int) (ty := .int) (N' := 2430) (a0 := (2430, .inl (fun _ => 0))) hx hb (htb _ kw_205) rfl hK hP hD hS hA (fun _ => rfl) (by decide) (by decide) (by decide) (Nat.le_of_ble_eq_true rfl) (Nat.le_of_ble_eq_true rfl) dX13_init_704 (fun q_387 cA_388 H hK hP hD hS => ?_)
  rw [mTx_s (n := 58) (k := 73) (ty := .int) rfl (by decide) rfl] at hK
  obtain ⟨cid_389, ecid_389⟩ : ∃ z, z = va_up cid_383 73 cA_388 := ⟨_, rfl⟩
  rw [← ecid_389] at hK
  refine va_putF (D := (dC, dI)) (ci := 12) (v := .ref q_387) (ty := tyX13 73) (C := RX13) (T := TX13) (N := 77) (ref := "WiredBeansModel") hx hb htb inX13 tyX13 tyX13_ok nmX13 hown hK hP hD hS 0 rfl rfl 73 (by decide) (htb _ kw_1100) (fun _ h9 => h9) rfl hin rfl (tyX13_ok 73 (by decide)) rfl rfl (by rw [List.length_map, List.length_range]; decide) dX13_init_706 (fun H locs hP hD hS => ?_)
  have hP : va_P (dC, dI) vwCl ((mWx 58 h0 ad_384 cid_383 sg_272 gm_386 lg_211 ++ [(q_387, (.inl (cA_388, mLen 73, .inl (fun _ => 0)) : va_E))]).set 0 (h0, .inr (12, ((List.range 77).map (mfn 58 ad_384 sg_272)).set 73 (.ref q_387)))) H := hP
  have hD : va_D A ((mWx 58 h0 ad_384 cid_383 sg_272 gm_386 lg_211 ++ [(q_387, (.inl (cA_388, mLen 73, .inl (fun _ => 0)) : va_E))]).set 0 (h0, .inr (12, ((List.range 77).map (mfn 58 ad_384 sg_272)).set 73 (.ref q_387)))) := hD
  rw [mWx_i (n := 58) (k := 73) rfl (by decide) (by decide) (by decide) (by decide), ← ecid_389] at hP hD
  obtain ⟨ad_390, ead_390⟩ : ∃ z, z = va_up ad_384 73 q_387 := ⟨_, rfl⟩
  rw [← ead_390] at hP hD
  obtain ⟨gm_392, egm_392⟩ : ∃ z, z = va_up gm_386 73 (fun _ => 0) := ⟨_, rfl⟩
  rw [← egm_392] at hP hD
  have hz_391 : ZR 59 gm_392 := by rw [egm_392]; exact ZR_z rfl hz_385
  have hr3_59 : gm_392 3 = f_52 := by rw [egm_392, va_up_ne _ _ (show (3 : Nat) ≠ 73 by decide)]; exact hr3_58
  have hr4_59 : gm_392 4 = f_63 := by rw [egm_392, va_up_ne _ _ (show (4 : Nat) ≠ 73 by decide)]; exact hr4_58
  have hP : va_P (dC, dI) vwCl (mWx 59 h0 ad_390 cid_389 sg_272 gm_392 lg_211) H := hP
  have hD : va_D A (mWx 59 h0 ad_390 cid_389 sg_272 gm_392 lg_211) := hD
  refine W.widen (k := 59) (n := 21944) (Nat.le_of_ble_eq_true rfl) (Nat.le_of_ble_eq_true rfl) ?_
  refine lv_aload_n hx hb dX13_init_709 rfl (lv_at hl 0 rfl) ?_
  refine lv_iconst (v := 4) hx hb dX13_init_710 (by decide) ?_
  refine va_newa (D := (dC, dI)) (atype := .int) (ty := .int) (N' := 4) (a0 := (4, .inl (fun _ => 0))) hx hb (htb _ kw_205) rfl hK hP hD hS hA (fun _ => rfl) (by decide) (by decide) (by decide) (Nat.le_of_ble_eq_true rfl) (Nat.le_of_ble_eq_true rfl) dX13_init_711 (fun q_393 cA_394 H hK hP hD hS => ?_)
  rw [mTx_s (n := 59) (k := 75) (ty := .int) rfl (by decide) rfl] at hK
  obtain ⟨cid_395, ecid_395⟩ : ∃ z, z = va_up cid_389 75 cA_394 := ⟨_, rfl⟩
  rw [← ecid_395] at hK
  refine va_putF (D := (dC, dI)) (ci := 12) (v := .ref q_393) (ty := tyX13 75) (C := RX13) (T := TX13) (N := 77) (ref := "WiredBeansModel") hx hb htb inX13 tyX13 tyX13_ok nmX13 hown hK hP hD hS 0 rfl rfl 75 (by decide) (htb _ kw_1102) (fun _ h9 => h9) rfl hin rfl (tyX13_ok 75 (by decide)) rfl rfl (by rw [List.length_map, List.length_range]; decide) dX13_init_713 (fun H locs hP hD hS => ?_)
  have hP : va_P (dC, dI) vwCl ((mWx 59 h0 ad_390 cid_389 sg_272 gm_392 lg_211 ++ [(q_393, (.inl (cA_394, mLen 75, .inl (fun _ => 0)) : va_E))]).set 0 (h0, .inr (12, ((List.range 77).map (mfn 59 ad_390 sg_272)).set 75 (.ref q_393)))) H := hP
  have hD : va_D A ((mWx 59 h0 ad_390 cid_389 sg_272 gm_392 lg_211 ++ [(q_393, (.inl (cA_394, mLen 75, .inl (fun _ => 0)) : va_E))]).set 0 (h0, .inr (12, ((List.range 77).map (mfn 59 ad_390 sg_272)).set 75 (.ref q_393)))) := hD
  rw [mWx_i (n := 59) (k := 75) rfl (by decide) (by decide) (by decide) (by decide), ← ecid_395] at hP hD
  obtain ⟨ad_396, ead_396⟩ : ∃ z, z = va_up ad_390 75 q_393 := ⟨_, rfl⟩
  rw [← ead_396] at hP hD
  obtain ⟨gm_398, egm_398⟩ : ∃ z, z = va_up gm_392 75 (fun _ => 0) := ⟨_, rfl⟩
  rw [← egm_398] at hP hD
  have hz_397 : ZR 60 gm_398 := by rw [egm_398]; exact ZR_z rfl hz_391
  have hr3_60 : gm_398 3 = f_52 := by rw [egm_398, va_up_ne _ _ (show (3 : Nat) ≠ 75 by decide)]; exact hr3_59
  have hr4_60 : gm_398 4 = f_63 := by rw [egm_398, va_up_ne _ _ (show (4 : Nat) ≠ 75 by decide)]; exact hr4_59
  have hP : va_P (dC, dI) vwCl (mWx 60 h0 ad_396 cid_395 sg_272 gm_398 lg_211) H := hP
  have hD : va_D A (mWx 60 h0 ad_396 cid_395 sg_272 gm_398 lg_211) := hD
  refine W.widen (k := 60) (n := 21948) (Nat.le_of_ble_eq_true rfl) (Nat.le_of_ble_eq_true rfl) ?_
  rw [mWx_60] at hP hD
  rw [mTx_60] at hK
  have hP : va_P (dC, dI) vwCl (mW h0 ad_396 cid_395 sg_272 gm_398 lg_211) H := hP
  have hD : va_D A (mW h0 ad_396 cid_395 sg_272 gm_398 lg_211) := hD
  refine lv_iconst (v := 0) hx hb dX13_init_716 (by decide) ?_
  refine lv_istore_n (lv' := [(1, .int 0), (0, .ref h0)]) hx hb dX13_init_717 rfl hl (by decide) rfl (fun ls hl => ?_)
  refine lv_iload_n hx hb dX13_init_718 rfl (lv_at hl 0 rfl) ?_
  refine lv_bipush (v := 8) hx hb dX13_init_719 (by decide) ?_
  refine lv_icmp_ge (tgt := 737) hx hb dX13_init_721 (by decide) (fun c9 => absurd c9 (by decide)) (fun _ => ?_)
  refine lv_aload_n hx hb dX13_init_724 rfl (lv_at hl 1 rfl) ?_
  refine mr_get hx hb htb inX13 hown hK hP 6 (by decide) (htb _ kw_1033) rfl dX13_init_725 ?_
  refine W.eq (g2 := F0 m 728 ls [.ref (ad_396 6)]) rfl ?_
  refine lv_iload_n hx hb dX13_init_728 rfl (lv_at hl 0 rfl) ?_
  refine lv_iconst (v := (-1)) hx hb dX13_init_729 (by decide) ?_
  refine mr_iast hx hb hK hP hD hS 5 rfl rfl rfl (vp_in_iff.mpr ⟨by decide, by decide⟩) dX13_init_730 (fun H locs hP hD hS => ?_)
  obtain ⟨gm_399, egm_399⟩ : ∃ z, z = va_up gm_398 6 (upd (gm_398 6) (0 : Int32).toNatClampNeg (-1)) := ⟨_, rfl⟩
  rw [← egm_399] at hP hD
  refine lv_iinc (v := 1) (lv' := [(1, .int 1), (0, .ref h0)]) hx hb dX13_init_731 hl (k := 0) rfl (by decide) (by decide) rfl (fun ls hl => ?_)
  refine lv_goto (tgt := 718) hx hb dX13_init_734 (by decide) ?_
  refine lv_iload_n hx hb dX13_init_718 rfl (lv_at hl 0 rfl) ?_
  refine lv_bipush (v := 8) hx hb dX13_init_719 (by decide) ?_
  refine lv_icmp_ge (tgt := 737) hx hb dX13_init_721 (by decide) (fun c9 => absurd c9 (by decide)) (fun _ => ?_)
  refine lv_aload_n hx hb dX13_init_724 rfl (lv_at hl 1 rfl) ?_
  refine mr_get hx hb htb inX13 hown hK hP 6 (by decide) (htb _ kw_1033) rfl dX13_init_725 ?_
  refine W.eq (g2 := F0 m 728 ls [.ref (ad_396 6)]) rfl ?_
  refine lv_iload_n hx hb dX13_init_728 rfl (lv_at hl 0 rfl) ?_
  refine lv_iconst (v := (-1)) hx hb dX13_init_729 (by decide) ?_
  refine mr_iast hx hb hK hP hD hS 5 rfl rfl rfl (vp_in_iff.mpr ⟨by decide, by decide⟩) dX13_init_730 (fun H locs hP hD hS => ?_)
  obtain ⟨gm_400, egm_400⟩ : ∃ z, z = va_up gm_399 6 (upd (gm_399 6) (1 : Int32).toNatClampNeg (-1)) := ⟨_, rfl⟩
  rw [← egm_400] at hP hD
  refine lv_iinc (v := 2) (lv' := [(1, .int 2), (0, .ref h0)]) hx hb dX13_init_731 hl (k := 0) rfl (by decide) (by decide) rfl (fun ls hl => ?_)
  refine lv_goto (tgt := 718) hx hb dX13_init_734 (by decide) ?_
  refine lv_iload_n hx hb dX13_init_718 rfl (lv_at hl 0 rfl) ?_
  refine lv_bipush (v := 8) hx hb dX13_init_719 (by decide) ?_
  refine lv_icmp_ge (tgt := 737) hx hb dX13_init_721 (by decide) (fun c9 => absurd c9 (by decide)) (fun _ => ?_)
  refine lv_aload_n hx hb dX13_init_724 rfl (lv_at hl 1 rfl) ?_
  refine mr_get hx hb htb inX13 hown hK hP 6 (by decide) (htb _ kw_1033) rfl dX13_init_725 ?_
  refine W.eq (g2 := F0 m 728 ls [.ref (ad_396 6)]) rfl ?_
  refine lv_iload_n hx hb dX13_init_728 rfl (lv_at hl 0 rfl) ?_
  refine lv_iconst (v := (-1)) hx hb dX13_init_729 (by decide) ?_
  refine mr_iast hx hb hK hP hD hS 5 rfl rfl rfl (vp_in_iff.mpr ⟨by decide, by decide⟩) dX13_init_730 (fun H locs hP hD hS => ?_)
  obtain ⟨gm_401, egm_401⟩ : ∃ z, z = va_up gm_400 6 (upd (gm_400 6) (2 : Int32).toNatClampNeg (-1)) := ⟨_, rfl⟩
  rw [← egm_401] at hP hD
  refine lv_iinc (v := 3) (lv' := [(1, .int 3), (0, .ref h0)]) hx hb dX13_init_731 hl (k := 0) rfl (by decide) (by decide) rfl (fun ls hl => ?_)
  refine lv_goto (tgt := 718) hx hb dX13_init_734 (by decide) ?_
  refine lv_iload_n hx hb dX13_init_718 rfl (lv_at hl 0 rfl) ?_
  refine lv_bipush (v := 8) hx hb dX13_init_719 (by decide) ?_
  refine lv_icmp_ge (tgt := 737) hx hb dX13_init_721 (by decide) (fun c9 => absurd c9 (by decide)) (fun _ => ?_)
  refine lv_aload_n hx hb dX13_init_724 rfl (lv_at hl 1 rfl) ?_
  refine mr_get hx hb htb inX13 hown hK hP 6 (by decide) (htb _ kw_1033) rfl dX13_init_725 ?_
  refine W.eq (g2 := F0 m 728 ls [.ref (ad_396 6)]) rfl ?_
  refine lv_iload_n hx hb dX13_init_728 rfl (lv_at hl 0 rfl) ?_
  refine lv_iconst (v := (-1)) hx hb dX13_init_729 (by decide) ?_
  refine mr_iast hx hb hK hP hD hS 5 rfl rfl rfl (vp_in_iff.mpr ⟨by decide, by decide⟩) dX13_init_730 (fun H locs hP hD hS => ?_)
  obtain ⟨gm_402, egm_402⟩ : ∃ z, z = va_up gm_401 6 (upd (gm_401 6) (3 : Int32).toNatClampNeg (-1)) := ⟨_, rfl⟩
  rw [← egm_402] at hP hD
  refine lv_iinc (v := 4) (lv' := [(1, .int 4), (0, .ref h0)]) hx hb dX13_init_731 hl (k := 0) rfl (by decide) (by decide) rfl (fun ls hl => ?_)
  refine lv_goto (tgt := 718) hx hb dX13_init_734 (by decide) ?_
  refine lv_iload_n hx hb dX13_init_718 rfl (lv_at hl 0 rfl) ?_
  refine lv_bipush (v := 8) hx hb dX13_init_719 (by decide) ?_
  refine lv_icmp_ge (tgt := 737) hx hb dX13_init_721 (by decide) (fun c9 => absurd c9 (by decide)) (fun _ => ?_)
  refine lv_aload_n hx hb dX13_init_724 rfl (lv_at hl 1 rfl) ?_
  refine mr_get hx hb htb inX13 hown hK hP 6 (by decide) (htb _ kw_1033) rfl dX13_init_725 ?_
  refine W.eq (g2 := F0 m 728 ls [.ref (ad_396 6)]) rfl ?_
  refine lv_iload_n hx hb dX13_init_728 rfl (lv_at hl 0 rfl) ?_
  refine lv_iconst (v := (-1)) hx hb dX13_init_729 (by decide) ?_
  refine mr_iast hx hb hK hP hD hS 5 rfl rfl rfl (vp_in_iff.mpr ⟨by decide, by decide⟩) dX13_init_730 (fun H locs hP hD hS => ?_)
  obtain ⟨gm_403, egm_403⟩ : ∃ z, z = va_up gm_402 6 (upd (gm_402 6) (4 : Int32).toNatClampNeg (-1)) := ⟨_, rfl⟩
  rw [← egm_403] at hP hD
  refine lv_iinc (v := 5) (lv' := [(1, .int 5), (0, .ref h0)]) hx hb dX13_init_731 hl (k := 0) rfl (by decide) (by decide) rfl (fun ls hl => ?_)
  refine lv_goto (tgt := 718) hx hb dX13_init_734 (by decide) ?_
  refine lv_iload_n hx hb dX13_init_718 rfl (lv_at hl 0 rfl) ?_
  refine lv_bipush (v := 8) hx hb dX13_init_719 (by decide) ?_
  refine lv_icmp_ge (tgt := 737) hx hb dX13_init_721 (by decide) (fun c9 => absurd c9 (by decide)) (fun _ => ?_)
  refine lv_aload_n hx hb dX13_init_724 rfl (lv_at hl 1 rfl) ?_
  refine mr_get hx hb htb inX13 hown hK hP 6 (by decide) (htb _ kw_1033) rfl dX13_init_725 ?_
  refine W.eq (g2 := F0 m 728 ls [.ref (ad_396 6)]) rfl ?_
  refine lv_iload_n hx hb dX13_init_728 rfl (lv_at hl 0 rfl) ?_
  refine lv_iconst (v := (-1)) hx hb dX13_init_729 (by decide) ?_
  refine mr_iast hx hb hK hP hD hS 5 rfl rfl rfl (vp_in_iff.mpr ⟨by decide, by decide⟩) dX13_init_730 (fun H locs hP hD hS => ?_)
  obtain ⟨gm_404, egm_404⟩ : ∃ z, z = va_up gm_403 6 (upd (gm_403 6) (5 : Int32).toNatClampNeg (-1)) := ⟨_, rfl⟩
  rw [← egm_404] at hP hD
  refine lv_iinc (v := 6) (lv' := [(1, .int 6), (0, .ref h0)]) hx hb dX13_init_731 hl (k := 0) rfl (by decide) (by decide) rfl (fun ls hl => ?_)
  refine lv_goto (tgt := 718) hx hb dX13_init_734 (by decide) ?_
  refine lv_iload_n hx hb dX13_init_718 rfl (lv_at hl 0 rfl) ?_
  refine lv_bipush (v := 8) hx hb dX13_init_719 (by decide) ?_
  refine lv_icmp_ge (tgt := 737) hx hb dX13_init_721 (by decide) (fun c9 => absurd c9 (by decide)) (fun _ => ?_)
  refine lv_aload_n hx hb dX13_init_724 rfl (lv_at hl 1 rfl) ?_
  refine mr_get hx hb htb inX13 hown hK hP 6 (by decide) (htb _ kw_1033) rfl dX13_init_725 ?_
  refine W.eq (g2 := F0 m 728 ls [.ref (ad_396 6)]) rfl ?_
  refine lv_iload_n hx hb dX13_init_728 rfl (lv_at hl 0 rfl) ?_
  refine lv_iconst (v := (-1)) hx hb dX13_init_729 (by decide) ?_
  refine mr_iast hx hb hK hP hD hS 5 rfl rfl rfl (vp_in_iff.mpr ⟨by decide, by decide⟩) dX13_init_730 (fun H locs hP hD hS => ?_)
  obtain ⟨gm_405, egm_405⟩ : ∃ z, z = va_up gm_404 6 (upd (gm_404 6) (6 : Int32).toNatClampNeg (-1)) := ⟨_, rfl⟩
  rw [← egm_405] at hP hD
  refine lv_iinc (v := 7) (lv' := [(1, .int 7), (0, .ref h0)]) hx hb dX13_init_731 hl (k := 0) rfl (by decide) (by decide) rfl (fun ls hl => ?_)
  refine lv_goto (tgt := 718) hx hb dX13_init_734 (by decide) ?_
  refine lv_iload_n hx hb dX13_init_718 rfl (lv_at hl 0 rfl) ?_
  refine lv_bipush (v := 8) hx hb dX13_init_719 (by decide) ?_
  refine lv_icmp_ge (tgt := 737) hx hb dX13_init_721 (by decide) (fun c9 => absurd c9 (by decide)) (fun _ => ?_)
  refine lv_aload_n hx hb dX13_init_724 rfl (lv_at hl 1 rfl) ?_
  refine mr_get hx hb htb inX13 hown hK hP 6 (by decide) (htb _ kw_1033) rfl dX13_init_725 ?_
  refine W.eq (g2 := F0 m 728 ls [.ref (ad_396 6)]) rfl ?_
  refine lv_iload_n hx hb dX13_init_728 rfl (lv_at hl 0 rfl) ?_
  refine lv_iconst (v := (-1)) hx hb dX13_init_729 (by decide) ?_
  refine mr_iast hx hb hK hP hD hS 5 rfl rfl rfl (vp_in_iff.mpr ⟨by decide, by decide⟩) dX13_init_730 (fun H locs hP hD hS => ?_)
  obtain ⟨gm_406, egm_406⟩ : ∃ z, z = va_up gm_405 6 (upd (gm_405 6) (7 : Int32).toNatClampNeg (-1)) := ⟨_, rfl⟩
  rw [← egm_406] at hP hD
  refine lv_iinc (v := 8) (lv' := [(1, .int 8), (0, .ref h0)]) hx hb dX13_init_731 hl (k := 0) rfl (by decide) (by decide) rfl (fun ls hl => ?_)
  refine lv_goto (tgt := 718) hx hb dX13_init_734 (by decide) ?_
  refine lv_iload_n hx hb dX13_init_718 rfl (lv_at hl 0 rfl) ?_
  refine lv_bipush (v := 8) hx hb dX13_init_719 (by decide) ?_
  refine lv_icmp_ge (tgt := 737) hx hb dX13_init_721 (by decide) (fun _ => ?_) (fun c9 => absurd (by decide) c9)
  have h6 : ∀ k, k < 8 → gm_406 6 k = -1 := fun k hk => by
    rw [show gm_406 6 = upd (gm_405 6) (7 : Int32).toNatClampNeg (-1) from (by rw [egm_406, va_up_self])]
    by_cases q7 : k = (7 : Int32).toNatClampNeg
    · rw [q7, upd_at]
    rw [upd_ne q7]
    rw [show gm_405 6 = upd (gm_404 6) (6 : Int32).toNatClampNeg (-1) from (by rw [egm_405, va_up_self])]
    by_cases q6 : k = (6 : Int32).toNatClampNeg
    · rw [q6, upd_at]
    rw [upd_ne q6]
    rw [show gm_404 6 = upd (gm_403 6) (5 : Int32).toNatClampNeg (-1) from (by rw [egm_404, va_up_self])]
    by_cases q5 : k = (5 : Int32).toNatClampNeg
    · rw [q5, upd_at]
    rw [upd_ne q5]
    rw [show gm_403 6 = upd (gm_402 6) (4 : Int32).toNatClampNeg (-1) from (by rw [egm_403, va_up_self])]
    by_cases q4 : k = (4 : Int32).toNatClampNeg
    · rw [q4, upd_at]
    rw [upd_ne q4]
    rw [show gm_402 6 = upd (gm_401 6) (3 : Int32).toNatClampNeg (-1) from (by rw [egm_402, va_up_self])]
    by_cases q3 : k = (3 : Int32).toNatClampNeg
    · rw [q3, upd_at]
    rw [upd_ne q3]
    rw [show gm_401 6 = upd (gm_400 6) (2 : Int32).toNatClampNeg (-1) from (by rw [egm_401, va_up_self])]
    by_cases q2 : k = (2 : Int32).toNatClampNeg
    · rw [q2, upd_at]
    rw [upd_ne q2]
    rw [show gm_400 6 = upd (gm_399 6) (1 : Int32).toNatClampNeg (-1) from (by rw [egm_400, va_up_self])]
    by_cases q1 : k = (1 : Int32).toNatClampNeg
    · rw [q1, upd_at]
    rw [upd_ne q1]
    rw [show gm_399 6 = upd (gm_398 6) (0 : Int32).toNatClampNeg (-1) from (by rw [egm_399, va_up_self])]
    by_cases q0 : k = (0 : Int32).toNatClampNeg
    · rw [q0, upd_at]
    rw [upd_ne q0]
    exfalso
    have r0 : (0 : Int32).toNatClampNeg = 0 := (by decide); have r1 : (1 : Int32).toNatClampNeg = 1 := (by decide); have r2 : (2 : Int32).toNatClampNeg = 2 := (by decide); have r3 : (3 : Int32).toNatClampNeg = 3 := (by decide); have r4 : (4 : Int32).toNatClampNeg = 4 := (by decide); have r5 : (5 : Int32).toNatClampNeg = 5 := (by decide); have r6 : (6 : Int32).toNatClampNeg = 6 := (by decide); have r7 : (7 : Int32).toNatClampNeg = 7 := (by decide)
    omega
  have he6 : ∀ k, k ≠ 6 → gm_406 k = gm_398 k := fun k hk => by rw [egm_406, va_up_ne _ _ hk, egm_405, va_up_ne _ _ hk, egm_404, va_up_ne _ _ hk, egm_403, va_up_ne _ _ hk, egm_402, va_up_ne _ _ hk, egm_401, va_up_ne _ _ hk, egm_400, va_up_ne _ _ hk, egm_399, va_up_ne _ _ hk]
  have h33 : ∀ i, i < 5 → iv 3 5 (gm_398 3 i) := fun i hi => by
    rw [hr3_60, ef_52, ef_51, ef_50, ef_49, ef_48]
    have key : ∀ i, i < 5 → 3 ≤ ((upd (upd (upd (upd (upd (fun _ => 0) (0 : Int32).toNatClampNeg 3) (1 : Int32).toNatClampNeg 3) (2 : Int32).toNatClampNeg 4) (3 : Int32).toNatClampNeg 5) (4 : Int32).toNatClampNeg 5) i).toInt ∧ ((upd (upd (upd (upd (upd (fun _ => 0) (0 : Int32).toNatClampNeg 3) (1 : Int32).toNatClampNeg 3) (2 : Int32).toNatClampNeg 4) (3 : Int32).toNatClampNeg 5) (4 : Int32).toNatClampNeg 5) i).toInt ≤ 5 := by decide
    exact key i hi
  have h34 : ∀ i, i < 5 → iv 34 62 (gm_398 4 i) := fun i hi => by
    rw [hr4_60, ef_63, ef_62, ef_61, ef_60, ef_59]
    have key : ∀ i, i < 5 → 34 ≤ ((upd (upd (upd (upd (upd (fun _ => 0) (0 : Int32).toNatClampNeg 60) (1 : Int32).toNatClampNeg 62) (2 : Int32).toNatClampNeg 38) (3 : Int32).toNatClampNeg 34) (4 : Int32).toNatClampNeg 39) i).toInt ∧ ((upd (upd (upd (upd (upd (fun _ => 0) (0 : Int32).toNatClampNeg 60) (1 : Int32).toNatClampNeg 62) (2 : Int32).toNatClampNeg 38) (3 : Int32).toNatClampNeg 34) (4 : Int32).toNatClampNeg 39) i).toInt ≤ 62 := by decide
    exact key i hi
  have hE3 : gm_406 3 = (upd (upd (upd (upd (upd (fun _ => 0) (0 : Int32).toNatClampNeg 3) (1 : Int32).toNatClampNeg 3) (2 : Int32).toNatClampNeg 4) (3 : Int32).toNatClampNeg 5) (4 : Int32).toNatClampNeg 5) := by rw [he6 3 (by decide), hr3_60, ef_52, ef_51, ef_50, ef_49, ef_48]
  have hE4 : gm_406 4 = (upd (upd (upd (upd (upd (fun _ => 0) (0 : Int32).toNatClampNeg 60) (1 : Int32).toNatClampNeg 62) (2 : Int32).toNatClampNeg 38) (3 : Int32).toNatClampNeg 34) (4 : Int32).toNatClampNeg 39) := by rw [he6 4 (by decide), hr4_60, ef_63, ef_62, ef_61, ef_60, ef_59]
  have hL0 : lg_211 0 = (vp_updL (vp_updL (vp_updL (vp_updL (vp_updL (vp_updL (vp_updL (vp_updL (vp_updL (vp_updL (fun _ => 0) (0 : Int32).toNatClampNeg 422607679091) (1 : Int32).toNatClampNeg 418430673267) (2 : Int32).toNatClampNeg 1650811246) (3 : Int32).toNatClampNeg 6386279) (4 : Int32).toNatClampNeg 7562612) (5 : Int32).toNatClampNeg 1818850164) (6 : Int32).toNatClampNeg 508440638821) (7 : Int32).toNatClampNeg 7497062) (8 : Int32).toNatClampNeg 1853189228) (9 : Int32).toNatClampNeg 119225866483056) := by rw [elg_211, va_up_ne _ _ (show (0 : Nat) ≠ 35 by decide), elg_205, va_up_ne _ _ (show (0 : Nat) ≠ 34 by decide), elg_44, va_up_ne _ _ (show (0 : Nat) ≠ 2 by decide), elg_33, va_up_ne _ _ (show (0 : Nat) ≠ 1 by decide), elg_16, va_up_self, ef_13, ef_12, ef_11, ef_10, ef_9, ef_8, ef_7, ef_6, ef_5, ef_4]
  have hL1 : lg_211 1 = (vp_updL (vp_updL (vp_updL (vp_updL (vp_updL (vp_updL (vp_updL (vp_updL (vp_updL (vp_updL (vp_updL (fun _ => 0) (0 : Int32).toNatClampNeg 7955827) (1 : Int32).toNatClampNeg 28271) (2 : Int32).toNatClampNeg 7302757) (3 : Int32).toNatClampNeg 1835101817) (4 : Int32).toNatClampNeg 6909556) (5 : Int32).toNatClampNeg 500136506472) (6 : Int32).toNatClampNeg 1667785074) (7 : Int32).toNatClampNeg 1952807028) (8 : Int32).toNatClampNeg 7499639) (9 : Int32).toNatClampNeg 1953658213) (10 : Int32).toNatClampNeg 439721161573) := by rw [elg_211, va_up_ne _ _ (show (1 : Nat) ≠ 35 by decide), elg_205, va_up_ne _ _ (show (1 : Nat) ≠ 34 by decide), elg_44, va_up_ne _ _ (show (1 : Nat) ≠ 2 by decide), elg_33, va_up_self, ef_30, ef_29, ef_28, ef_27, ef_26, ef_25, ef_24, ef_23, ef_22, ef_21, ef_20]
  have hL2 : lg_211 2 = (vp_updL (vp_updL (vp_updL (vp_updL (vp_updL (fun _ => 0) (0 : Int32).toNatClampNeg 7107643) (1 : Int32).toNatClampNeg 6779963) (2 : Int32).toNatClampNeg 1634562107) (3 : Int32).toNatClampNeg 487301542971) (4 : Int32).toNatClampNeg 418498179899) := by rw [elg_211, va_up_ne _ _ (show (2 : Nat) ≠ 35 by decide), elg_205, va_up_ne _ _ (show (2 : Nat) ≠ 34 by decide), elg_44, va_up_self, ef_41, ef_40, ef_39, ef_38, ef_37]
  have hENT : ENT (gm_406 3) (gm_406 4) (lg_211 2) := by rw [hE3, hE4, hL2]; unfold ENT; decide
  have hWRD : WRD7 (lg_211 0) (lg_211 1) := by rw [hL0, hL1]; unfold WRD7; decide
  have hRI : RI sg_272 gm_406 lg_211 := RI_0 hz_397 h33 h34 (fun k q1 q2 => by rw [esg_272, va_up_ne _ _ q2, esg_151, va_up_ne _ _ q1, esg_0]) (by rw [esg_272, va_up_self]) h6 he6
  exact W.vret hx hb hr (fun t ht hW => ⟨⟨(ad_396, cid_395, sg_272, gm_406, lg_211), rfl, ⟨hRI, (show sg_272 20 = 0 from by rw [esg_272, va_up_ne _ _ (by decide), esg_151, va_up_ne _ _ (by decide), esg_0]), hENT, hWRD, ⟨h6, (fun k hk => hk.elim (fun q => by rw [q]; exact (he6 7 (by decide)).trans (hz_397 7 (by decide) (by decide))) (fun q => q.elim (fun q => by rw [q]; exact (he6 10 (by decide)).trans (hz_397 10 (by decide) (by decide))) (fun q => by rw [q]; exact (he6 13 (by decide)).trans (hz_397 13 (by decide) (by decide))))), (fun k hk => (show sg_272 k = 0 from (by rw [esg_272, va_up_ne _ _ (show k ≠ 52 by omega), esg_151, va_up_ne _ _ (show k ≠ 23 by omega), esg_0])))⟩⟩, by rw [ht]; exact hP, va_K.moved hW.alike hK, hD⟩, hS.F ht⟩) hS.2.2 dX13_init_737
end
section
/-- an array's cell tells its values below its length alone -/
theorem arr_q {cA : ClassId} {n : Nat} {f g : Nat → Option Nat} (h : ∀ j, j < n → f j = g j) : vp_cell cA (n, .inr (.inr (.inr (.inr f)))) = vp_cell cA (n, .inr (.inr (.inr (.inr g)))) := by
  rw [vp_cell_q, vp_cell_q]
  unfold arrV
  congr 1
  apply Array.ext_getElem?
  intro j
  simp only [Array.getElem?_ofFn]
  by_cases hj : j < n
  · simp [hj, h j hj]
  · simp [hj]
theorem arr_i {cA : ClassId} {n : Nat} {f g : Nat → Int32} (h : ∀ j, j < n → f j = g j) : vp_cell cA (n, .inl f) = vp_cell cA (n, .inl g) := by
  rw [vp_cell_i, vp_cell_i]
  unfold arrV
  congr 1
  apply Array.ext_getElem?
  intro j
  simp only [Array.getElem?_ofFn]
  by_cases hj : j < n
  · simp [hj, h j hj]
  · simp [hj]
section NC
variable (dC : Nat → ClassId) (dI : Nat → Nat → Nat) (ad : Nat → Nat → Nat) (cid : Nat → ClassId)
def NPre (pre : va_W) (sz : Nat) (U : State) : Prop := U.heap.size = sz ∧ va_P (dC, dI) vwCl pre U.heap ∧ va_K (dC, dI) vwCl (cT cid) U ∧ va_D (fun _ => True) pre ∧ CE ad (va_A pre sz) U
def NB9k (A : Nat → Prop) (w : va_W) (t : State) : Prop := va_P (dC, dI) vwCl w t.heap ∧ va_K (dC, dI) vwCl (cT cid) t ∧ va_D A w
/-- a constructor: from the cells pre to cells with post -/
def NM (l : Launch) (y : MethodName) (ws : List Cond) (rm : Room) (as : List Value) (pre : va_W) (post : va_W → Prop) (mc ms : Nat) : Prop :=
  ∀ sz, Met l y ws rm (va_Pc as (NPre dC dI ad cid pre sz)) (va_Qv post (NB9k dC dI cid (va_A pre sz)) (va_A pre sz)) mc ms (va_A pre sz)
end NC
section NC2
variable {p : Program} {l : Launch} {e : Env} {R : Room} {s : State} {m : MethodId} {args : Array Value} {below : List Frame} {meth : Method} {c : Code} {H : Heap} {locs : List Loc} {Q : State → Prop} {cc : ByteArray} {pc : Nat} {ls : Array Slot} {rest : List Value} {A : Nat → Prop}
variable {dC : Nat → ClassId} {dI : Nat → Nat → Nat} {ad : Nat → Nat → Nat} {cid : Nat → ClassId} {Ts : List Cond} {own : String} {index : Nat}
variable {y : MethodName} {ws : List Cond} {rm : Room} {bytes : ByteArray} {maxL n nL : Nat} {as : List Value} {st0 : List Value} {cells slots mc ms h : Nat} {w0 r : va_W} {post : va_W → Prop}
theorem NPre_blind {sz : Nat} {pre : va_W} : FrameBlind (va_Pc as (NPre dC dI ad cid pre sz)) := fun a U g mk q => by
  obtain ⟨q0, q1, qP, qK, qD, qG⟩ := q
  exact ⟨q0, q1, qP, va_K.moved (u := U) (U := U.calling g mk a) (Vm.Alike.refl U.vm) qK, qD, CE.call g mk a qG⟩
theorem nw_call (S : CallFix p m c cc nL s args Ts own) (hM : NM dC dI ad cid l y ws rm (.ref h :: as) w0 post mc ms) (cw : CallB R s args own index y bytes maxL none ws rm mc ms n ∧ y.name = "<init>" ∧ (Cond.instanceMethod y).before args s = true) (hn : as.length = n) (hsize : ls.size = nL) (hst : st0 = as.reverse ++ .ref h :: rest) (hW : (rest.map fun v => v.category).sum ≤ 8) (hdg : decode cc pc = .ok (.invokespecial index, 3)) (hf : cells + mc ≤ R.cells ∧ slots + ms ≤ R.slots)
    (hK : va_K (dC, dI) vwCl (cT cid) s) (hP : va_P (dC, dI) vwCl (w0 ++ r) H) (hD : va_D A (w0 ++ r)) (hS : va_S A s.heap H locs) (hA : ∀ q, s.heap.size ≤ q → A q) (hG : CE ad A s)
    (kk : ∀ (w : va_W) (H1 : Heap) (locs1 : List Loc), post w → va_P (dC, dI) vwCl (w ++ r) H1 → va_D A (w ++ r) → va_S A s.heap H1 locs1 → W p l e R s m args below meth c H1 locs1 (cells + mc) (slots + ms) Q (F0 m (pc + 3) ls rest)) : W p l e R s m args below meth c H locs cells slots Q (F0 m pc ls st0) := by
  subst hst
  have hPc : va_P (dC, dI) vwCl w0 H := va_Psl hP (List.sublist_append_left _ _)
  have hDc : va_D A w0 := va_Dsl hD (List.sublist_append_left _ _)
  have hFc : ∀ q, va_A w0 H.size q → A q := fun q h => by
    rcases h with ⟨k, e, h⟩ | h
    · exact hDc.2 k (q, e) h
    · exact hA q (Nat.le_trans hS.1 h)
  refine va_callv (va_runI (As := as) (rest := rest) S (hM H.size) cw ⟨NPre_blind, fun U hU hW => ⟨rfl, by rw [hU], by rw [hU]; exact hPc, va_K.moved hW.alike hK, hDc.weaken (fun _ _ _ _ => trivial), hG.go hS hFc hU hW⟩⟩ rfl hn hsize rfl (lv_room hW) hdg hf) hS (fun q _ h => hFc q h) hFc (fun w t H1 locs ht hvm hw hB hz1 hk1 hS => ?_)
  obtain ⟨hP1, hK1, hD1⟩ := hB
  rw [ht] at hP1
  obtain ⟨j1, j2⟩ := lw_join hP hD hk1 hFc hP1 hD1
  exact kk w H1 locs hw j1 j2 hS
/-- a new entry comes to the front -/
theorem fr_P {D : va_G} {cl : List vw_C} {w : va_W} {x : Nat × va_E} (h : va_P D cl (w ++ [x]) H) : va_P D cl (x :: w) H := vaP_p (List.perm_append_singleton x w) h
theorem fr_D {w : va_W} {x : Nat × va_E} (h : va_D A (w ++ [x])) : va_D A (x :: w) := vaD_p (List.perm_append_singleton x w) h
/-- a new array's class is the one that the tables know -/
theorem ty_eq {t : Nat} {cA : ClassId} {ty : FieldType} (ht : t < 33) (hK : va_K (dC, dI) vwCl (cT cid) s) (hK2 : va_K (dC, dI) vwCl (cT cid ++ [(cA, ty)]) s) (he : cTy t = ty) : cA = cid t := by
  have r1 := (hK2.2 33 (cA, ty) (by rw [List.getElem?_append_right (by rw [cT_len]; decide), cT_len]; rfl)).2
  have r2 := (hK.2 t (cid t, cTy t) (cT_at ht)).2
  rw [he] at r2
  cases ty with
  | object C => exact Option.some.inj ((va_nmO r1 rfl).symm.trans (va_nmO r2 rfl))
  | _ => exact Option.some.inj (Eq.trans (Eq.symm r1) r2)
end NC2
end
section
section TL
variable {α : Type}
/-- what a loop of a constructor has left behind, the last first -/
def tl (F : Nat → α → va_W) (adr : Nat → α) : Nat → va_W
  | 0 => []
  | n + 1 => F n (adr n) ++ tl F adr n
theorem tl_lt {F : Nat → α → va_W} {adr : Nat → α} {i : Nat} {u : α} : ∀ n, n ≤ i → tl F (va_up adr i u) n = tl F adr n
  | 0, _ => rfl
  | n + 1, h => by
    show F n (va_up adr i u n) ++ tl F (va_up adr i u) n = F n (adr n) ++ tl F adr n
    rw [va_up_ne _ _ (by omega), tl_lt n (by omega)]
theorem tl_s {F : Nat → α → va_W} {adr : Nat → α} {i : Nat} {u : α} : tl F (va_up adr i u) (i + 1) = F i u ++ tl F adr i := by
  show F i (va_up adr i u i) ++ tl F (va_up adr i u) i = F i u ++ tl F adr i
  rw [va_up_self, tl_lt i (Nat.le_refl i)]
theorem fs_q {f : Nat → Option Nat} {adr : Nat → α} {i : Nat} {u : α} (pr : α → Nat) (hi : i < 2 ^ 31) (h : ∀ j, j < i → f j = some (pr (adr j))) : ∀ j, j < i + 1 → va_up f (nI i).toNatClampNeg (some (pr u)) j = some (pr (va_up adr i u j)) := by
  intro j hj
  rw [nI_clamp hi]
  by_cases e9 : j = i
  · rw [e9, va_up_self, va_up_self]
  · rw [va_up_ne _ _ e9, va_up_ne _ _ e9]; exact h j (by omega)
theorem pr_s {P : Nat → α → Prop} {adr : Nat → α} {i : Nat} {u : α} (h : ∀ j, j < i → P j (adr j)) (hu : P i u) : ∀ j, j < i + 1 → P j (va_up adr i u j) := by
  intro j hj
  by_cases e9 : j = i
  · rw [e9, va_up_self]; exact hu
  · rw [va_up_ne _ _ e9]; exact h j (by omega)
end TL
theorem fl_s {f : Nat → Int32} {x : Int32} {i : Nat} (hi : i < 2 ^ 31) (h : ∀ j, j < i → f j = x) : ∀ j, j < i + 1 → upd f (nI i).toNatClampNeg x j = x := by
  intro j hj
  rw [nI_clamp hi]
  by_cases e9 : j = i
  · rw [e9]; exact upd_at ..
  · rw [upd_ne e9]; exact h j (by omega)
section SW
variable {D : va_G} {cl : List vw_C} {H : Heap} {A : Nat → Prop} {E w T : va_W}
theorem sw_P (h : va_P D cl (w ++ (E ++ T)) H) : va_P D cl (E ++ (w ++ T)) H := vaP_p (List.perm_append_comm_assoc _ _ _) h
theorem sw_D (h : va_D A (w ++ (E ++ T))) : va_D A (E ++ (w ++ T)) := vaD_p (List.perm_append_comm_assoc _ _ _) h
end SW
theorem n_gen {p : Program} {l : Launch} {e : Env} {R : Room} {s : State} {m : MethodId} {args : Array Value} {below : List Frame} {meth : Method} {c : Code} {H : Heap} {locs : List Loc} {cells slots : Nat} {Q : State → Prop} {g : JFrame} (h : ∀ Q9, Q9 = Q → W p l e R s m args below meth c H locs cells slots Q9 g) : W p l e R s m args below meth c H locs cells slots Q g := h Q rfl
section WS
variable (ad : Nat → Nat → Nat) (cid : Nat → ClassId)
def sgW (c k : Int32) (h a : Nat) : va_W := (a, .inl (cid 27, 3, .inl (fun _ => 0))) :: (h, .inr (8, [.int c, .int k, .ref a, .int 0, .int 0, .int 0, .int 0])) :: []
def elWk (h a : Nat) : va_W := (a, .inl (cid 31, 24, .inl (fun _ => 0))) :: (h, .inr (3, [.ref a, .int 0, .int 0, .int 0, .null, .null, .null, .null, .int 0, .int 0, .int 0, .long 0, .long 0, .long 0, .int 0, .int 0, .int 0, .int 0, .null, .null, .null])) :: []
def alW (h : Nat) : va_W := (h, .inr (0, [.int 0, .ref (ad 34 0), .int 0])) :: []
def rwW (h a : Nat) : va_W := (a, .inl (cid 21, 1600, .inl (fun _ => 0))) :: (h, .inr (4, [.ref a, .int 0])) :: []
def beW (n : Int32) (h a b c : Nat) : va_W := (h, .inr (1, [.int n, .ref a, .ref b, .ref c, .null, .long 0, .long 0, .long 0, .long 0, .int 0, .int 0, .int 0, .int 0, .int 0, .int 0, .int 0, .int 0, .int 0, .int 0])) :: (alW ad c ++ (alW ad b ++ (alW ad a ++ [])))
def mkW (h wi cs rw a b f w q : Nat) : va_W := (q, .inl (cid 26, 3, .inl (fun _ => 0))) :: (w, .inl (cid 25, 960, .inl (fun _ => 0))) :: (f, .inl (cid 24, 80, .inr (.inr (.inr (.inr (fun _ => none)))))) :: (b, .inl (cid 23, 60, .inl (fun _ => 0))) :: (a, .inl (cid 22, 60, .inl (fun _ => 0))) :: (h, .inr (5, [.ref wi, .ref cs, .ref rw, .ref a, .ref b, .int 0, .ref f, .int 0, .ref w, .ref q, .null, .int 0, .int (-1)])) :: []
def sgFk (c : Int32) (k : Nat) (u : Nat × Nat × Nat × Nat) : va_W := sgW cid c (nI k) u.2.2.1 u.2.2.2 ++ sgW cid c (nI k) u.1 u.2.1
abbrev DU := (Nat × Nat × Nat × Nat) × (Nat → Nat × Nat × Nat × Nat) × ((Nat → Option Nat) × (Nat → Option Nat)) × (Nat → Int32)
def dcW (c : Int32) (u : DU) : va_W := (u.1.2.2.2, .inl (cid 30, 26, .inl u.2.2.2)) :: (u.1.2.2.1, .inl (cid 29, 4, .inr (.inr (.inr (.inr u.2.2.1.2))))) :: (u.1.2.1, .inl (cid 28, 4, .inr (.inr (.inr (.inr u.2.2.1.1))))) :: (u.1.1, .inr (2, [.ref u.1.2.1, .ref u.1.2.2.1, .int 0, .int 0, .int c, .ref u.1.2.2.2, .int 0, .null])) :: tl (sgFk cid c) u.2.1 4
def dcP (u : DU) : Prop := (∀ j, j < 4 → u.2.2.1.1 j = some (u.2.1 j).1) ∧ (∀ j, j < 4 → u.2.2.1.2 j = some (u.2.1 j).2.2.1) ∧ ∀ j, j < 26 → u.2.2.2 j = -1
def dcF (k : Nat) (u : DU) : va_W := dcW cid (nI k) u
def elF (k : Nat) (u : Nat × Nat) : va_W := elWk cid u.1 u.2
def beF (k : Nat) (u : Nat × Nat × Nat × Nat) : va_W := beW ad (nI k) u.1 u.2.1 u.2.2.1 u.2.2.2
abbrev PU := (Nat × Nat × Nat × Nat × Nat × Nat) × (Nat → Nat × Nat) × (Nat → Option Nat)
def paW (u : PU) : va_W := (u.1.2.2.2.2.2, .inl (cid 18, 1200, .inl (fun _ => 0))) :: (u.1.2.2.2.2.1, .inl (cid 17, 240, .inl (fun _ => 0))) :: (u.1.2.2.2.1, .inl (cid 16, 240, .inl (fun _ => 0))) :: (u.1.2.2.1, .inl (cid 15, 240, .inr (.inl (fun _ => 0)))) :: (u.1.2.1, .inl (cid 14, 80, .inr (.inr (.inr (.inr u.2.2))))) :: (u.1.1, .inr (6, [.ref u.1.2.1, .ref u.1.2.2.1, .ref u.1.2.2.2.1, .ref u.1.2.2.2.2.1, .ref u.1.2.2.2.2.2, .int 0, .int 0, .int 0])) :: tl (elF cid) u.2.1 80
def paP (u : PU) : Prop := ∀ j, j < 80 → u.2.2 j = some (u.2.1 j).1
abbrev WU := (Nat × Nat × Nat) × (Nat → Nat × Nat × Nat × Nat) × (Nat → Option Nat)
def wiW (pp : Nat) (u : WU) : va_W := (u.1.2.2, .inl (cid 20, 80, .inr (.inr (.inr (.inr (fun _ => none)))))) :: (u.1.2.1, .inl (cid 19, 80, .inr (.inr (.inr (.inr u.2.2))))) :: (u.1.1, .inr (10, [.ref pp, .ref u.1.2.1, .ref u.1.2.2, .int 0])) :: tl (beF ad) u.2.1 80
def wiP (u : WU) : Prop := ∀ j, j < 80 → u.2.2 j = some (u.2.1 j).1
end WS
abbrev nvJx4a65c : List Value := [.int 0, .null, .int 0]
theorem nwJx4a65c : ∀ j, j < 3 → defaultValue (tyJx4a65c j) = vp_V nvJx4a65c j := by
  intro j hj
  match j, hj with
  | 0, _ => rfl
  | 1, _ => rfl
  | 2, _ => rfl
  | n + 3, h => exact absurd h (by omega)
abbrev nvX1 : List Value := [.int 0, .null, .null, .null, .null, .long 0, .long 0, .long 0, .long 0, .int 0, .int 0, .int 0, .int 0, .int 0, .int 0, .int 0, .int 0, .int 0, .int 0]
theorem nwX1 : ∀ j, j < 19 → defaultValue (tyX1 j) = vp_V nvX1 j := by
  intro j hj
  match j, hj with
  | 0, _ => rfl
  | 1, _ => rfl
  | 2, _ => rfl
  | 3, _ => rfl
  | 4, _ => rfl
  | 5, _ => rfl
  | 6, _ => rfl
  | 7, _ => rfl
  | 8, _ => rfl
  | 9, _ => rfl
  | 10, _ => rfl
  | 11, _ => rfl
  | 12, _ => rfl
  | 13, _ => rfl
  | 14, _ => rfl
  | 15, _ => rfl
  | 16, _ => rfl
  | 17, _ => rfl
  | 18, _ => rfl
  | n + 19, h => exact absurd h (by omega)
abbrev nvX2 : List Value := [.null, .null, .int 0, .int 0, .int 0, .null, .int 0, .null]
theorem nwX2 : ∀ j, j < 8 → defaultValue (tyX2 j) = vp_V nvX2 j := by
  intro j hj
  match j, hj with
  | 0, _ => rfl
  | 1, _ => rfl
  | 2, _ => rfl
  | 3, _ => rfl
  | 4, _ => rfl
  | 5, _ => rfl
  | 6, _ => rfl
  | 7, _ => rfl
  | n + 8, h => exact absurd h (by omega)
abbrev nvX3 : List Value := [.null, .int 0, .int 0, .int 0, .null, .null, .null, .null, .int 0, .int 0, .int 0, .long 0, .long 0, .long 0, .int 0, .int 0, .int 0, .int 0, .null, .null, .null]
theorem nwX3 : ∀ j, j < 21 → defaultValue (tyX3 j) = vp_V nvX3 j := by
  intro j hj
  match j, hj with
  | 0, _ => rfl
  | 1, _ => rfl
  | 2, _ => rfl
  | 3, _ => rfl
  | 4, _ => rfl
  | 5, _ => rfl
  | 6, _ => rfl
  | 7, _ => rfl
  | 8, _ => rfl
  | 9, _ => rfl
  | 10, _ => rfl
  | 11, _ => rfl
  | 12, _ => rfl
  | 13, _ => rfl
  | 14, _ => rfl
  | 15, _ => rfl
  | 16, _ => rfl
  | 17, _ => rfl
  | 18, _ => rfl
  | 19, _ => rfl
  | 20, _ => rfl
  | n + 21, h => exact absurd h (by omega)
abbrev nvX4 : List Value := [.null, .int 0]
theorem nwX4 : ∀ j, j < 2 → defaultValue (tyX4 j) = vp_V nvX4 j := by
  intro j hj
  match j, hj with
  | 0, _ => rfl
  | 1, _ => rfl
  | n + 2, h => exact absurd h (by omega)
abbrev nvX5 : List Value := [.null, .null, .null, .null, .null, .int 0, .null, .int 0, .null, .null, .null, .int 0, .int 0]
theorem nwX5 : ∀ j, j < 13 → defaultValue (tyX5 j) = vp_V nvX5 j := by
  intro j hj
  match j, hj with
  | 0, _ => rfl
  | 1, _ => rfl
  | 2, _ => rfl
  | 3, _ => rfl
  | 4, _ => rfl
  | 5, _ => rfl
  | 6, _ => rfl
  | 7, _ => rfl
  | 8, _ => rfl
  | 9, _ => rfl
  | 10, _ => rfl
  | 11, _ => rfl
  | 12, _ => rfl
  | n + 13, h => exact absurd h (by omega)
abbrev nvX6 : List Value := [.null, .null, .null, .null, .null, .int 0, .int 0, .int 0]
theorem nwX6 : ∀ j, j < 8 → defaultValue (tyX6 j) = vp_V nvX6 j := by
  intro j hj
  match j, hj with
  | 0, _ => rfl
  | 1, _ => rfl
  | 2, _ => rfl
  | 3, _ => rfl
  | 4, _ => rfl
  | 5, _ => rfl
  | 6, _ => rfl
  | 7, _ => rfl
  | n + 8, h => exact absurd h (by omega)
abbrev nvX7 : List Value := [.null, .null, .int 0, .int 0, .int 0, .null]
theorem nwX7 : ∀ j, j < 6 → defaultValue (tyX7 j) = vp_V nvX7 j := by
  intro j hj
  match j, hj with
  | 0, _ => rfl
  | 1, _ => rfl
  | 2, _ => rfl
  | 3, _ => rfl
  | 4, _ => rfl
  | 5, _ => rfl
  | n + 6, h => exact absurd h (by omega)
abbrev nvX8 : List Value := [.int 0, .int 0, .null, .int 0, .int 0, .int 0, .int 0]
theorem nwX8 : ∀ j, j < 7 → defaultValue (tyX8 j) = vp_V nvX8 j := by
  intro j hj
  match j, hj with
  | 0, _ => rfl
  | 1, _ => rfl
  | 2, _ => rfl
  | 3, _ => rfl
  | 4, _ => rfl
  | 5, _ => rfl
  | 6, _ => rfl
  | n + 7, h => exact absurd h (by omega)
abbrev nvX9 : List Value := [.null]
theorem nwX9 : ∀ j, j < 1 → defaultValue (tyX9 j) = vp_V nvX9 j := by
  intro j hj
  match j, hj with
  | 0, _ => rfl
  | n + 1, h => exact absurd h (by omega)
abbrev nvX10 : List Value := [.null, .null, .null, .int 0]
theorem nwX10 : ∀ j, j < 4 → defaultValue (tyX10 j) = vp_V nvX10 j := by
  intro j hj
  match j, hj with
  | 0, _ => rfl
  | 1, _ => rfl
  | 2, _ => rfl
  | 3, _ => rfl
  | n + 4, h => exact absurd h (by omega)
abbrev nvX12 : List Value := [.null, .null, .null, .null, .null, .null, .null, .null, .int 0, .int 0, .int 0, .int 0]
theorem nwX12 : ∀ j, j < 12 → defaultValue (tyX12 j) = vp_V nvX12 j := by
  intro j hj
  match j, hj with
  | 0, _ => rfl
  | 1, _ => rfl
  | 2, _ => rfl
  | 3, _ => rfl
  | 4, _ => rfl
  | 5, _ => rfl
  | 6, _ => rfl
  | 7, _ => rfl
  | 8, _ => rfl
  | 9, _ => rfl
  | 10, _ => rfl
  | 11, _ => rfl
  | n + 12, h => exact absurd h (by omega)
end
section
theorem dX8_init_0g : decode cX8_init 0 = .ok (.aload_n 0, 1) ∧ decode cX8_init 1 = .ok (.invokespecial 3, 3) ∧ decode cX8_init 4 = .ok (.aload_n 0, 1) ∧ decode cX8_init 5 = .ok (.iload_n 1, 1) ∧ decode cX8_init 6 = .ok (.putfield 9, 3) ∧ decode cX8_init 9 = .ok (.aload_n 0, 1) ∧ decode cX8_init 10 = .ok (.iload_n 2, 1) ∧ decode cX8_init 11 = .ok (.putfield 15, 3) ∧ decode cX8_init 14 = .ok (.aload_n 0, 1) ∧ decode cX8_init 15 = .ok (.iconst 3, 1) ∧ decode cX8_init 16 = .ok (.newarray .int, 2) ∧ decode cX8_init 18 = .ok (.putfield 18, 3) ∧ decode cX8_init 21 = .ok (.return_, 1) := by decide +kernel
theorem dX8_init_0 : decode cX8_init 0 = .ok (.aload_n 0, 1) := dX8_init_0g.1
theorem dX8_init_1 : decode cX8_init 1 = .ok (.invokespecial 3, 3) := dX8_init_0g.2.1
theorem dX8_init_4 : decode cX8_init 4 = .ok (.aload_n 0, 1) := dX8_init_0g.2.2.1
theorem dX8_init_5 : decode cX8_init 5 = .ok (.iload_n 1, 1) := dX8_init_0g.2.2.2.1
theorem dX8_init_6 : decode cX8_init 6 = .ok (.putfield 9, 3) := dX8_init_0g.2.2.2.2.1
theorem dX8_init_9 : decode cX8_init 9 = .ok (.aload_n 0, 1) := dX8_init_0g.2.2.2.2.2.1
theorem dX8_init_10 : decode cX8_init 10 = .ok (.iload_n 2, 1) := dX8_init_0g.2.2.2.2.2.2.1
theorem dX8_init_11 : decode cX8_init 11 = .ok (.putfield 15, 3) := dX8_init_0g.2.2.2.2.2.2.2.1
theorem dX8_init_14 : decode cX8_init 14 = .ok (.aload_n 0, 1) := dX8_init_0g.2.2.2.2.2.2.2.2.1
theorem dX8_init_15 : decode cX8_init 15 = .ok (.iconst 3, 1) := dX8_init_0g.2.2.2.2.2.2.2.2.2.1
theorem dX8_init_16 : decode cX8_init 16 = .ok (.newarray .int, 2) := dX8_init_0g.2.2.2.2.2.2.2.2.2.2.1
theorem dX8_init_18 : decode cX8_init 18 = .ok (.putfield 18, 3) := dX8_init_0g.2.2.2.2.2.2.2.2.2.2.2.1
theorem dX8_init_21 : decode cX8_init 21 = .ok (.return_, 1) := dX8_init_0g.2.2.2.2.2.2.2.2.2.2.2.2

set_option maxHeartbeats 4000000 in
set_option maxRecDepth 100000 in
theorem n_X8 (l : Launch) (dC : Nat → ClassId) (dI : Nat → Nat → Nat) (ad : Nat → Nat → Nat) (cid : Nat → ClassId) (h0 : Nat) (p0 : Int32) (p1 : Int32) : NM dC dI ad cid l yX8_init wm_X8_init ({ frames := 1, cells := 1, slots := 3, locals := 20 }) [.ref h0, .int p0, .int p1] [(h0, .inr (8, [.int 0, .int 0, .null, .int 0, .int 0, .int 0, .int 0]))] (fun w => ∃ a, w = sgW cid p0 p1 h0 a) 1 3 := by
  intro sz
  refine Met.ofW (cc := cX8_init) (maxL := 3) (ret := none) (by decide) rfl ?_
  intro p e s m args below meth c s₁ B hml hv
  obtain ⟨rfl, hsz, hP, hK, hD0, hG⟩ := hv
  have hx := B.exec
  have hb := B.bytes
  have hr := B.returns
  have hts := atoms_spec (ws := wm_X8_init) B.pre
  have htb := fun (w : Cond) (h : w ∈ tb) => hts w (List.mem_cons_of_mem _ h)
  have hown : s.vm.findClass RX8 = some m.cls := findClass_of_methodNamed B.named
  have hlocks := B.notSynchronized
  have hin : meth.name = "<init>" := (name_of_methodNamed B.named B.method).1
  subst hsz
  have hD := hD0.self (sz := s.heap.size)
  generalize hAe : va_A [(h0, .inr (8, [.int 0, .int 0, .null, .int 0, .int 0, .int 0, .int 0]))] s.heap.size = A at hD hG ⊢
  have hA : ∀ q : Nat, s.heap.size ≤ q → A q := fun q h => by rw [← hAe]; exact Or.inr h
  have hS : va_S A s.heap s.heap [] := va_S.rf
  have hl := lv_entry ([.ref h0, .int p0, .int p1]) (n := 3) (Nat.le_of_ble_eq_true rfl)
  rw [lg_entry_eq]
  generalize (lg_sl ([.ref h0, .int p0, .int p1]) ++ List.replicate (3 - (lg_sl ([.ref h0, .int p0, .int p1])).length) Slot.unset).toArray = ls at hl ⊢
  have hl : lv_has ls 3 [(0, .ref h0), (1, .int p0), (2, .int p1)] := hl
  have hP : va_P (dC, dI) vwCl ((h0, .inr (8, [.int 0, .int 0, .null, .int 0, .int 0, .int 0, .int 0])) :: []) s.heap := hP
  have hD : va_D A ((h0, .inr (8, [.int 0, .int 0, .null, .int 0, .int 0, .int 0, .int 0])) :: []) := hD
  refine n_gen (fun Q eQ => ?_)
  refine lv_aload_n hx hb dX8_init_0 rfl (lv_at hl 0 rfl) ?_
  refine W.objInit hx hb hown (htb _ kw_191) (htb _ kw_181) (htb _ kw_1369) rfl (by rw [hml]; exact hl.1) rfl dX8_init_1 (Nat.le_of_ble_eq_true rfl) (Nat.le_of_ble_eq_true rfl) ?_
  refine W.eq (g2 := F0 m 4 ls []) rfl ?_
  refine lv_aload_n hx hb dX8_init_4 rfl (lv_at hl 0 rfl) ?_
  refine lv_iload_n hx hb dX8_init_5 rfl (lv_at hl 1 rfl) ?_
  refine va_putF (D := (dC, dI)) (ci := 8) (v := .int p0) (ty := tyX8 0) (C := RX8) (T := TX8) (N := 7) hx hb htb inX8 tyX8 tyX8_ok nmX8 hown hK hP hD hS 0 rfl rfl 0 (by decide) (htb _ kw_192) (fun _ h9 => h9) rfl hin rfl (tyX8_ok 0 (by decide)) rfl rfl (Nat.le_of_ble_eq_true rfl) dX8_init_6 (fun H locs hP hD hS => ?_)
  have hP : va_P (dC, dI) vwCl ((h0, .inr (8, [.int p0, .int 0, .null, .int 0, .int 0, .int 0, .int 0])) :: []) H := hP
  have hD : va_D A ((h0, .inr (8, [.int p0, .int 0, .null, .int 0, .int 0, .int 0, .int 0])) :: []) := hD
  refine lv_aload_n hx hb dX8_init_9 rfl (lv_at hl 0 rfl) ?_
  refine lv_iload_n hx hb dX8_init_10 rfl (lv_at hl 2 rfl) ?_
  refine va_putF (D := (dC, dI)) (ci := 8) (v := .int p1) (ty := tyX8 1) (C := RX8) (T := TX8) (N := 7) hx hb htb inX8 tyX8 tyX8_ok nmX8 hown hK hP hD hS 0 rfl rfl 1 (by decide) (htb _ kw_194) (fun _ h9 => h9) rfl hin rfl (tyX8_ok 1 (by decide)) rfl rfl (Nat.le_of_ble_eq_true rfl) dX8_init_11 (fun H locs hP hD hS => ?_)
  have hP : va_P (dC, dI) vwCl ((h0, .inr (8, [.int p0, .int p1, .null, .int 0, .int 0, .int 0, .int 0])) :: []) H := hP
  have hD : va_D A ((h0, .inr (8, [.int p0, .int p1, .null, .int 0, .int 0, .int 0, .int 0])) :: []) := hD
  refine lv_aload_n hx hb dX8_init_14 rfl (lv_at hl 0 rfl) ?_
  refine lv_iconst (v := 3) hx hb dX8_init_15 (by decide) ?_
  refine va_newa (D := (dC, dI)) (atype := .int) (ty := .int) (N' := 3) (a0 := (3, .inl (fun _ => 0))) hx hb (htb _ kw_205) rfl hK hP hD hS hA (fun _ => rfl) (by decide) (by decide) (by decide) (Nat.le_of_ble_eq_true rfl) (Nat.le_of_ble_eq_true rfl) dX8_init_16 (fun q_1 cA_2 H hK2 hP hD hS => ?_)
  obtain rfl : cA_2 = cid 27 := ty_eq (by decide) hK hK2 rfl
  have hP : va_P (dC, dI) vwCl ((q_1, .inl (cid 27, 3, .inl (fun _ => 0))) :: (h0, .inr (8, [.int p0, .int p1, .null, .int 0, .int 0, .int 0, .int 0])) :: []) H := fr_P hP
  have hD : va_D A ((q_1, .inl (cid 27, 3, .inl (fun _ => 0))) :: (h0, .inr (8, [.int p0, .int p1, .null, .int 0, .int 0, .int 0, .int 0])) :: []) := fr_D hD
  refine W.widen (k := 1) (n := 3) (Nat.le_of_ble_eq_true rfl) (Nat.le_of_ble_eq_true rfl) ?_
  refine va_putF (D := (dC, dI)) (ci := 8) (v := .ref q_1) (ty := tyX8 2) (C := RX8) (T := TX8) (N := 7) hx hb htb inX8 tyX8 tyX8_ok nmX8 hown hK hP hD hS 1 rfl rfl 2 (by decide) (htb _ kw_196) (fun _ h9 => h9) rfl hin rfl (tyX8_ok 2 (by decide)) rfl rfl (Nat.le_of_ble_eq_true rfl) dX8_init_18 (fun H locs hP hD hS => ?_)
  have hP : va_P (dC, dI) vwCl ((q_1, .inl (cid 27, 3, .inl (fun _ => 0))) :: (h0, .inr (8, [.int p0, .int p1, .ref q_1, .int 0, .int 0, .int 0, .int 0])) :: []) H := hP
  have hD : va_D A ((q_1, .inl (cid 27, 3, .inl (fun _ => 0))) :: (h0, .inr (8, [.int p0, .int p1, .ref q_1, .int 0, .int 0, .int 0, .int 0])) :: []) := hD
  rw [eQ]
  exact W.vret hx hb hr (fun t ht hW => ⟨⟨(q_1, .inl (cid 27, 3, .inl (fun _ => 0))) :: (h0, .inr (8, [.int p0, .int p1, .ref q_1, .int 0, .int 0, .int 0, .int 0])) :: [], rfl, ⟨_, rfl⟩, by rw [ht]; exact hP, va_K.moved hW.alike hK, hD⟩, hS.F ht⟩) hS.2.2 dX8_init_21

theorem dX3_init_0g : decode cX3_init 0 = .ok (.aload_n 0, 1) ∧ decode cX3_init 1 = .ok (.invokespecial 3, 3) ∧ decode cX3_init 4 = .ok (.aload_n 0, 1) ∧ decode cX3_init 5 = .ok (.bipush 24, 2) ∧ decode cX3_init 7 = .ok (.newarray .char, 2) ∧ decode cX3_init 9 = .ok (.putfield 11, 3) ∧ decode cX3_init 12 = .ok (.return_, 1) := by decide +kernel
theorem dX3_init_0 : decode cX3_init 0 = .ok (.aload_n 0, 1) := dX3_init_0g.1
theorem dX3_init_1 : decode cX3_init 1 = .ok (.invokespecial 3, 3) := dX3_init_0g.2.1
theorem dX3_init_4 : decode cX3_init 4 = .ok (.aload_n 0, 1) := dX3_init_0g.2.2.1
theorem dX3_init_5 : decode cX3_init 5 = .ok (.bipush 24, 2) := dX3_init_0g.2.2.2.1
theorem dX3_init_7 : decode cX3_init 7 = .ok (.newarray .char, 2) := dX3_init_0g.2.2.2.2.1
theorem dX3_init_9 : decode cX3_init 9 = .ok (.putfield 11, 3) := dX3_init_0g.2.2.2.2.2.1
theorem dX3_init_12 : decode cX3_init 12 = .ok (.return_, 1) := dX3_init_0g.2.2.2.2.2.2

set_option maxHeartbeats 4000000 in
set_option maxRecDepth 100000 in
theorem n_X3 (l : Launch) (dC : Nat → ClassId) (dI : Nat → Nat → Nat) (ad : Nat → Nat → Nat) (cid : Nat → ClassId) (h0 : Nat) : NM dC dI ad cid l yX3_init wm_X3_init ({ frames := 1, cells := 1, slots := 24, locals := 20 }) [.ref h0] [(h0, .inr (3, [.null, .int 0, .int 0, .int 0, .null, .null, .null, .null, .int 0, .int 0, .int 0, .long 0, .long 0, .long 0, .int 0, .int 0, .int 0, .int 0, .null, .null, .null]))] (fun w => ∃ a, w = elWk cid h0 a) 1 24 := by
  intro sz
  refine Met.ofW (cc := cX3_init) (maxL := 1) (ret := none) (by decide) rfl ?_
  intro p e s m args below meth c s₁ B hml hv
  obtain ⟨rfl, hsz, hP, hK, hD0, hG⟩ := hv
  have hx := B.exec
  have hb := B.bytes
  have hr := B.returns
  have hts := atoms_spec (ws := wm_X3_init) B.pre
  have htb := fun (w : Cond) (h : w ∈ tb) => hts w (List.mem_cons_of_mem _ h)
  have hown : s.vm.findClass RX3 = some m.cls := findClass_of_methodNamed B.named
  have hlocks := B.notSynchronized
  have hin : meth.name = "<init>" := (name_of_methodNamed B.named B.method).1
  subst hsz
  have hD := hD0.self (sz := s.heap.size)
  generalize hAe : va_A [(h0, .inr (3, [.null, .int 0, .int 0, .int 0, .null, .null, .null, .null, .int 0, .int 0, .int 0, .long 0, .long 0, .long 0, .int 0, .int 0, .int 0, .int 0, .null, .null, .null]))] s.heap.size = A at hD hG ⊢
  have hA : ∀ q : Nat, s.heap.size ≤ q → A q := fun q h => by rw [← hAe]; exact Or.inr h
  have hS : va_S A s.heap s.heap [] := va_S.rf
  have hl := lv_entry ([.ref h0]) (n := 1) (Nat.le_of_ble_eq_true rfl)
  rw [lg_entry_eq]
  generalize (lg_sl ([.ref h0]) ++ List.replicate (1 - (lg_sl ([.ref h0])).length) Slot.unset).toArray = ls at hl ⊢
  have hl : lv_has ls 1 [(0, .ref h0)] := hl
  have hP : va_P (dC, dI) vwCl ((h0, .inr (3, [.null, .int 0, .int 0, .int 0, .null, .null, .null, .null, .int 0, .int 0, .int 0, .long 0, .long 0, .long 0, .int 0, .int 0, .int 0, .int 0, .null, .null, .null])) :: []) s.heap := hP
  have hD : va_D A ((h0, .inr (3, [.null, .int 0, .int 0, .int 0, .null, .null, .null, .null, .int 0, .int 0, .int 0, .long 0, .long 0, .long 0, .int 0, .int 0, .int 0, .int 0, .null, .null, .null])) :: []) := hD
  refine n_gen (fun Q eQ => ?_)
  refine lv_aload_n hx hb dX3_init_0 rfl (lv_at hl 0 rfl) ?_
  refine W.objInit hx hb hown (htb _ kw_227) (htb _ kw_181) (htb _ kw_1369) rfl (by rw [hml]; exact hl.1) rfl dX3_init_1 (Nat.le_of_ble_eq_true rfl) (Nat.le_of_ble_eq_true rfl) ?_
  refine W.eq (g2 := F0 m 4 ls []) rfl ?_
  refine lv_aload_n hx hb dX3_init_4 rfl (lv_at hl 0 rfl) ?_
  refine lv_bipush (v := 24) hx hb dX3_init_5 (by decide) ?_
  refine va_newa (D := (dC, dI)) (atype := .char) (ty := .char) (N' := 24) (a0 := (24, .inl (fun _ => 0))) hx hb (htb _ kw_297) rfl hK hP hD hS hA (fun _ => rfl) (by decide) (by decide) (by decide) (Nat.le_of_ble_eq_true rfl) (Nat.le_of_ble_eq_true rfl) dX3_init_7 (fun q_1 cA_2 H hK2 hP hD hS => ?_)
  obtain rfl : cA_2 = cid 31 := ty_eq (by decide) hK hK2 rfl
  have hP : va_P (dC, dI) vwCl ((q_1, .inl (cid 31, 24, .inl (fun _ => 0))) :: (h0, .inr (3, [.null, .int 0, .int 0, .int 0, .null, .null, .null, .null, .int 0, .int 0, .int 0, .long 0, .long 0, .long 0, .int 0, .int 0, .int 0, .int 0, .null, .null, .null])) :: []) H := fr_P hP
  have hD : va_D A ((q_1, .inl (cid 31, 24, .inl (fun _ => 0))) :: (h0, .inr (3, [.null, .int 0, .int 0, .int 0, .null, .null, .null, .null, .int 0, .int 0, .int 0, .long 0, .long 0, .long 0, .int 0, .int 0, .int 0, .int 0, .null, .null, .null])) :: []) := fr_D hD
  refine W.widen (k := 1) (n := 24) (Nat.le_of_ble_eq_true rfl) (Nat.le_of_ble_eq_true rfl) ?_
  refine va_putF (D := (dC, dI)) (ci := 3) (v := .ref q_1) (ty := tyX3 0) (C := RX3) (T := TX3) (N := 21) hx hb htb inX3 tyX3 tyX3_ok nmX3 hown hK hP hD hS 1 rfl rfl 0 (by decide) (htb _ kw_228) (fun _ h9 => h9) rfl hin rfl (tyX3_ok 0 (by decide)) rfl rfl (Nat.le_of_ble_eq_true rfl) dX3_init_9 (fun H locs hP hD hS => ?_)
  have hP : va_P (dC, dI) vwCl ((q_1, .inl (cid 31, 24, .inl (fun _ => 0))) :: (h0, .inr (3, [.ref q_1, .int 0, .int 0, .int 0, .null, .null, .null, .null, .int 0, .int 0, .int 0, .long 0, .long 0, .long 0, .int 0, .int 0, .int 0, .int 0, .null, .null, .null])) :: []) H := hP
  have hD : va_D A ((q_1, .inl (cid 31, 24, .inl (fun _ => 0))) :: (h0, .inr (3, [.ref q_1, .int 0, .int 0, .int 0, .null, .null, .null, .null, .int 0, .int 0, .int 0, .long 0, .long 0, .long 0, .int 0, .int 0, .int 0, .int 0, .null, .null, .null])) :: []) := hD
  rw [eQ]
  exact W.vret hx hb hr (fun t ht hW => ⟨⟨(q_1, .inl (cid 31, 24, .inl (fun _ => 0))) :: (h0, .inr (3, [.ref q_1, .int 0, .int 0, .int 0, .null, .null, .null, .null, .int 0, .int 0, .int 0, .long 0, .long 0, .long 0, .int 0, .int 0, .int 0, .int 0, .null, .null, .null])) :: [], rfl, ⟨_, rfl⟩, by rw [ht]; exact hP, va_K.moved hW.alike hK, hD⟩, hS.F ht⟩) hS.2.2 dX3_init_12

theorem dX4_init_0g : decode cX4_init 0 = .ok (.aload_n 0, 1) ∧ decode cX4_init 1 = .ok (.invokespecial 3, 3) ∧ decode cX4_init 4 = .ok (.aload_n 0, 1) ∧ decode cX4_init 5 = .ok (.sipush 1600, 3) ∧ decode cX4_init 8 = .ok (.newarray .int, 2) ∧ decode cX4_init 10 = .ok (.putfield 11, 3) ∧ decode cX4_init 13 = .ok (.return_, 1) := by decide +kernel
theorem dX4_init_0 : decode cX4_init 0 = .ok (.aload_n 0, 1) := dX4_init_0g.1
theorem dX4_init_1 : decode cX4_init 1 = .ok (.invokespecial 3, 3) := dX4_init_0g.2.1
theorem dX4_init_4 : decode cX4_init 4 = .ok (.aload_n 0, 1) := dX4_init_0g.2.2.1
theorem dX4_init_5 : decode cX4_init 5 = .ok (.sipush 1600, 3) := dX4_init_0g.2.2.2.1
theorem dX4_init_8 : decode cX4_init 8 = .ok (.newarray .int, 2) := dX4_init_0g.2.2.2.2.1
theorem dX4_init_10 : decode cX4_init 10 = .ok (.putfield 11, 3) := dX4_init_0g.2.2.2.2.2.1
theorem dX4_init_13 : decode cX4_init 13 = .ok (.return_, 1) := dX4_init_0g.2.2.2.2.2.2

set_option maxHeartbeats 4000000 in
set_option maxRecDepth 100000 in
theorem n_X4 (l : Launch) (dC : Nat → ClassId) (dI : Nat → Nat → Nat) (ad : Nat → Nat → Nat) (cid : Nat → ClassId) (h0 : Nat) : NM dC dI ad cid l yX4_init wm_X4_init ({ frames := 1, cells := 1, slots := 1600, locals := 20 }) [.ref h0] [(h0, .inr (4, [.null, .int 0]))] (fun w => ∃ a, w = rwW cid h0 a) 1 1600 := by
  intro sz
  refine Met.ofW (cc := cX4_init) (maxL := 1) (ret := none) (by decide) rfl ?_
  intro p e s m args below meth c s₁ B hml hv
  obtain ⟨rfl, hsz, hP, hK, hD0, hG⟩ := hv
  have hx := B.exec
  have hb := B.bytes
  have hr := B.returns
  have hts := atoms_spec (ws := wm_X4_init) B.pre
  have htb := fun (w : Cond) (h : w ∈ tb) => hts w (List.mem_cons_of_mem _ h)
  have hown : s.vm.findClass RX4 = some m.cls := findClass_of_methodNamed B.named
  have hlocks := B.notSynchronized
  have hin : meth.name = "<init>" := (name_of_methodNamed B.named B.method).1
  subst hsz
  have hD := hD0.self (sz := s.heap.size)
  generalize hAe : va_A [(h0, .inr (4, [.null, .int 0]))] s.heap.size = A at hD hG ⊢
  have hA : ∀ q : Nat, s.heap.size ≤ q → A q := fun q h => by rw [← hAe]; exact Or.inr h
  have hS : va_S A s.heap s.heap [] := va_S.rf
  have hl := lv_entry ([.ref h0]) (n := 1) (Nat.le_of_ble_eq_true rfl)
  rw [lg_entry_eq]
  generalize (lg_sl ([.ref h0]) ++ List.replicate (1 - (lg_sl ([.ref h0])).length) Slot.unset).toArray = ls at hl ⊢
  have hl : lv_has ls 1 [(0, .ref h0)] := hl
  have hP : va_P (dC, dI) vwCl ((h0, .inr (4, [.null, .int 0])) :: []) s.heap := hP
  have hD : va_D A ((h0, .inr (4, [.null, .int 0])) :: []) := hD
  refine n_gen (fun Q eQ => ?_)
  refine lv_aload_n hx hb dX4_init_0 rfl (lv_at hl 0 rfl) ?_
  refine W.objInit hx hb hown (htb _ kw_395) (htb _ kw_181) (htb _ kw_1369) rfl (by rw [hml]; exact hl.1) rfl dX4_init_1 (Nat.le_of_ble_eq_true rfl) (Nat.le_of_ble_eq_true rfl) ?_
  refine W.eq (g2 := F0 m 4 ls []) rfl ?_
  refine lv_aload_n hx hb dX4_init_4 rfl (lv_at hl 0 rfl) ?_
  refine lv_sipush (v := 1600) hx hb dX4_init_5 (by decide) ?_
  refine va_newa (D := (dC, dI)) (atype := .int) (ty := .int) (N' := 1600) (a0 := (1600, .inl (fun _ => 0))) hx hb (htb _ kw_205) rfl hK hP hD hS hA (fun _ => rfl) (by decide) (by decide) (by decide) (Nat.le_of_ble_eq_true rfl) (Nat.le_of_ble_eq_true rfl) dX4_init_8 (fun q_1 cA_2 H hK2 hP hD hS => ?_)
  obtain rfl : cA_2 = cid 21 := ty_eq (by decide) hK hK2 rfl
  have hP : va_P (dC, dI) vwCl ((q_1, .inl (cid 21, 1600, .inl (fun _ => 0))) :: (h0, .inr (4, [.null, .int 0])) :: []) H := fr_P hP
  have hD : va_D A ((q_1, .inl (cid 21, 1600, .inl (fun _ => 0))) :: (h0, .inr (4, [.null, .int 0])) :: []) := fr_D hD
  refine W.widen (k := 1) (n := 1600) (Nat.le_of_ble_eq_true rfl) (Nat.le_of_ble_eq_true rfl) ?_
  refine va_putF (D := (dC, dI)) (ci := 4) (v := .ref q_1) (ty := tyX4 0) (C := RX4) (T := TX4) (N := 2) hx hb htb inX4 tyX4 tyX4_ok nmX4 hown hK hP hD hS 1 rfl rfl 0 (by decide) (htb _ kw_396) (fun _ h9 => h9) rfl hin rfl (tyX4_ok 0 (by decide)) rfl rfl (Nat.le_of_ble_eq_true rfl) dX4_init_10 (fun H locs hP hD hS => ?_)
  have hP : va_P (dC, dI) vwCl ((q_1, .inl (cid 21, 1600, .inl (fun _ => 0))) :: (h0, .inr (4, [.ref q_1, .int 0])) :: []) H := hP
  have hD : va_D A ((q_1, .inl (cid 21, 1600, .inl (fun _ => 0))) :: (h0, .inr (4, [.ref q_1, .int 0])) :: []) := hD
  rw [eQ]
  exact W.vret hx hb hr (fun t ht hW => ⟨⟨(q_1, .inl (cid 21, 1600, .inl (fun _ => 0))) :: (h0, .inr (4, [.ref q_1, .int 0])) :: [], rfl, ⟨_, rfl⟩, by rw [ht]; exact hP, va_K.moved hW.alike hK, hD⟩, hS.F ht⟩) hS.2.2 dX4_init_13

theorem dX7_init_0g : decode cX7_init 0 = .ok (.aload_n 0, 1) ∧ decode cX7_init 1 = .ok (.invokespecial 3, 3) ∧ decode cX7_init 4 = .ok (.aload_n 0, 1) ∧ decode cX7_init 5 = .ok (.aload_n 1, 1) ∧ decode cX7_init 6 = .ok (.putfield 9, 3) ∧ decode cX7_init 9 = .ok (.return_, 1) := by decide +kernel
theorem dX7_init_0 : decode cX7_init 0 = .ok (.aload_n 0, 1) := dX7_init_0g.1
theorem dX7_init_1 : decode cX7_init 1 = .ok (.invokespecial 3, 3) := dX7_init_0g.2.1
theorem dX7_init_4 : decode cX7_init 4 = .ok (.aload_n 0, 1) := dX7_init_0g.2.2.1
theorem dX7_init_5 : decode cX7_init 5 = .ok (.aload_n 1, 1) := dX7_init_0g.2.2.2.1
theorem dX7_init_6 : decode cX7_init 6 = .ok (.putfield 9, 3) := dX7_init_0g.2.2.2.2.1
theorem dX7_init_9 : decode cX7_init 9 = .ok (.return_, 1) := dX7_init_0g.2.2.2.2.2

set_option maxHeartbeats 4000000 in
set_option maxRecDepth 100000 in
theorem n_X7 (l : Launch) (dC : Nat → ClassId) (dI : Nat → Nat → Nat) (ad : Nat → Nat → Nat) (cid : Nat → ClassId) (h0 : Nat) (p1 : Nat) : NM dC dI ad cid l yX7_init wm_X7_init ({ frames := 1, cells := 0, slots := 0, locals := 20 }) [.ref h0, .ref p1] [(h0, .inr (7, [.null, .null, .int 0, .int 0, .int 0, .null]))] (fun w => w = [(h0, .inr (7, [.ref p1, .null, .int 0, .int 0, .int 0, .null]))]) 0 0 := by
  intro sz
  refine Met.ofW (cc := cX7_init) (maxL := 2) (ret := none) (by decide) rfl ?_
  intro p e s m args below meth c s₁ B hml hv
  obtain ⟨rfl, hsz, hP, hK, hD0, hG⟩ := hv
  have hx := B.exec
  have hb := B.bytes
  have hr := B.returns
  have hts := atoms_spec (ws := wm_X7_init) B.pre
  have htb := fun (w : Cond) (h : w ∈ tb) => hts w (List.mem_cons_of_mem _ h)
  have hown : s.vm.findClass RX7 = some m.cls := findClass_of_methodNamed B.named
  have hlocks := B.notSynchronized
  have hin : meth.name = "<init>" := (name_of_methodNamed B.named B.method).1
  subst hsz
  have hD := hD0.self (sz := s.heap.size)
  generalize hAe : va_A [(h0, .inr (7, [.null, .null, .int 0, .int 0, .int 0, .null]))] s.heap.size = A at hD hG ⊢
  have hA : ∀ q : Nat, s.heap.size ≤ q → A q := fun q h => by rw [← hAe]; exact Or.inr h
  have hS : va_S A s.heap s.heap [] := va_S.rf
  have hl := lv_entry ([.ref h0, .ref p1]) (n := 2) (Nat.le_of_ble_eq_true rfl)
  rw [lg_entry_eq]
  generalize (lg_sl ([.ref h0, .ref p1]) ++ List.replicate (2 - (lg_sl ([.ref h0, .ref p1])).length) Slot.unset).toArray = ls at hl ⊢
  have hl : lv_has ls 2 [(0, .ref h0), (1, .ref p1)] := hl
  have hP : va_P (dC, dI) vwCl ((h0, .inr (7, [.null, .null, .int 0, .int 0, .int 0, .null])) :: []) s.heap := hP
  have hD : va_D A ((h0, .inr (7, [.null, .null, .int 0, .int 0, .int 0, .null])) :: []) := hD
  refine n_gen (fun Q eQ => ?_)
  refine lv_aload_n hx hb dX7_init_0 rfl (lv_at hl 0 rfl) ?_
  refine W.objInit hx hb hown (htb _ kw_311) (htb _ kw_181) (htb _ kw_1369) rfl (by rw [hml]; exact hl.1) rfl dX7_init_1 (Nat.le_of_ble_eq_true rfl) (Nat.le_of_ble_eq_true rfl) ?_
  refine W.eq (g2 := F0 m 4 ls []) rfl ?_
  refine lv_aload_n hx hb dX7_init_4 rfl (lv_at hl 0 rfl) ?_
  refine lv_aload_n hx hb dX7_init_5 rfl (lv_at hl 1 rfl) ?_
  refine va_putF (D := (dC, dI)) (ci := 7) (v := .ref p1) (ty := tyX7 0) (C := RX7) (T := TX7) (N := 6) hx hb htb inX7 tyX7 tyX7_ok nmX7 hown hK hP hD hS 0 rfl rfl 0 (by decide) (htb _ kw_312) (fun _ h9 => h9) rfl hin rfl (tyX7_ok 0 (by decide)) rfl rfl (Nat.le_of_ble_eq_true rfl) dX7_init_6 (fun H locs hP hD hS => ?_)
  have hP : va_P (dC, dI) vwCl ((h0, .inr (7, [.ref p1, .null, .int 0, .int 0, .int 0, .null])) :: []) H := hP
  have hD : va_D A ((h0, .inr (7, [.ref p1, .null, .int 0, .int 0, .int 0, .null])) :: []) := hD
  rw [eQ]
  exact W.vret hx hb hr (fun t ht hW => ⟨⟨(h0, .inr (7, [.ref p1, .null, .int 0, .int 0, .int 0, .null])) :: [], rfl, rfl, by rw [ht]; exact hP, va_K.moved hW.alike hK, hD⟩, hS.F ht⟩) hS.2.2 dX7_init_9

theorem dX9_init_0g : decode cX9_init 0 = .ok (.aload_n 0, 1) ∧ decode cX9_init 1 = .ok (.invokespecial 3, 3) ∧ decode cX9_init 4 = .ok (.aload_n 0, 1) ∧ decode cX9_init 5 = .ok (.aload_n 1, 1) ∧ decode cX9_init 6 = .ok (.putfield 9, 3) ∧ decode cX9_init 9 = .ok (.return_, 1) := by decide +kernel
theorem dX9_init_0 : decode cX9_init 0 = .ok (.aload_n 0, 1) := dX9_init_0g.1
theorem dX9_init_1 : decode cX9_init 1 = .ok (.invokespecial 3, 3) := dX9_init_0g.2.1
theorem dX9_init_4 : decode cX9_init 4 = .ok (.aload_n 0, 1) := dX9_init_0g.2.2.1
theorem dX9_init_5 : decode cX9_init 5 = .ok (.aload_n 1, 1) := dX9_init_0g.2.2.2.1
theorem dX9_init_6 : decode cX9_init 6 = .ok (.putfield 9, 3) := dX9_init_0g.2.2.2.2.1
theorem dX9_init_9 : decode cX9_init 9 = .ok (.return_, 1) := dX9_init_0g.2.2.2.2.2

set_option maxHeartbeats 4000000 in
set_option maxRecDepth 100000 in
theorem n_X9 (l : Launch) (dC : Nat → ClassId) (dI : Nat → Nat → Nat) (ad : Nat → Nat → Nat) (cid : Nat → ClassId) (h0 : Nat) (p1 : Nat) : NM dC dI ad cid l yX9_init wm_X9_init ({ frames := 1, cells := 0, slots := 0, locals := 20 }) [.ref h0, .ref p1] [(h0, .inr (9, [.null]))] (fun w => w = [(h0, .inr (9, [.ref p1]))]) 0 0 := by
  intro sz
  refine Met.ofW (cc := cX9_init) (maxL := 2) (ret := none) (by decide) rfl ?_
  intro p e s m args below meth c s₁ B hml hv
  obtain ⟨rfl, hsz, hP, hK, hD0, hG⟩ := hv
  have hx := B.exec
  have hb := B.bytes
  have hr := B.returns
  have hts := atoms_spec (ws := wm_X9_init) B.pre
  have htb := fun (w : Cond) (h : w ∈ tb) => hts w (List.mem_cons_of_mem _ h)
  have hown : s.vm.findClass RX9 = some m.cls := findClass_of_methodNamed B.named
  have hlocks := B.notSynchronized
  have hin : meth.name = "<init>" := (name_of_methodNamed B.named B.method).1
  subst hsz
  have hD := hD0.self (sz := s.heap.size)
  generalize hAe : va_A [(h0, .inr (9, [.null]))] s.heap.size = A at hD hG ⊢
  have hA : ∀ q : Nat, s.heap.size ≤ q → A q := fun q h => by rw [← hAe]; exact Or.inr h
  have hS : va_S A s.heap s.heap [] := va_S.rf
  have hl := lv_entry ([.ref h0, .ref p1]) (n := 2) (Nat.le_of_ble_eq_true rfl)
  rw [lg_entry_eq]
  generalize (lg_sl ([.ref h0, .ref p1]) ++ List.replicate (2 - (lg_sl ([.ref h0, .ref p1])).length) Slot.unset).toArray = ls at hl ⊢
  have hl : lv_has ls 2 [(0, .ref h0), (1, .ref p1)] := hl
  have hP : va_P (dC, dI) vwCl ((h0, .inr (9, [.null])) :: []) s.heap := hP
  have hD : va_D A ((h0, .inr (9, [.null])) :: []) := hD
  refine n_gen (fun Q eQ => ?_)
  refine lv_aload_n hx hb dX9_init_0 rfl (lv_at hl 0 rfl) ?_
  refine W.objInit hx hb hown (htb _ kw_322) (htb _ kw_181) (htb _ kw_1369) rfl (by rw [hml]; exact hl.1) rfl dX9_init_1 (Nat.le_of_ble_eq_true rfl) (Nat.le_of_ble_eq_true rfl) ?_
  refine W.eq (g2 := F0 m 4 ls []) rfl ?_
  refine lv_aload_n hx hb dX9_init_4 rfl (lv_at hl 0 rfl) ?_
  refine lv_aload_n hx hb dX9_init_5 rfl (lv_at hl 1 rfl) ?_
  refine va_putF (D := (dC, dI)) (ci := 9) (v := .ref p1) (ty := tyX9 0) (C := RX9) (T := TX9) (N := 1) hx hb htb inX9 tyX9 tyX9_ok nmX9 hown hK hP hD hS 0 rfl rfl 0 (by decide) (htb _ kw_323) (fun _ h9 => h9) rfl hin rfl (tyX9_ok 0 (by decide)) rfl rfl (Nat.le_of_ble_eq_true rfl) dX9_init_6 (fun H locs hP hD hS => ?_)
  have hP : va_P (dC, dI) vwCl ((h0, .inr (9, [.ref p1])) :: []) H := hP
  have hD : va_D A ((h0, .inr (9, [.ref p1])) :: []) := hD
  rw [eQ]
  exact W.vret hx hb hr (fun t ht hW => ⟨⟨(h0, .inr (9, [.ref p1])) :: [], rfl, rfl, by rw [ht]; exact hP, va_K.moved hW.alike hK, hD⟩, hS.F ht⟩) hS.2.2 dX9_init_9

theorem dJxa1e45_init_da8c8_0g : decode cJxa1e45_init_da8c8 0 = .ok (.aload_n 0, 1) ∧ decode cJxa1e45_init_da8c8 1 = .ok (.invokespecial 1, 3) ∧ decode cJxa1e45_init_da8c8 4 = .ok (.return_, 1) := by decide +kernel
theorem dJxa1e45_init_da8c8_0 : decode cJxa1e45_init_da8c8 0 = .ok (.aload_n 0, 1) := dJxa1e45_init_da8c8_0g.1
theorem dJxa1e45_init_da8c8_1 : decode cJxa1e45_init_da8c8 1 = .ok (.invokespecial 1, 3) := dJxa1e45_init_da8c8_0g.2.1
theorem dJxa1e45_init_da8c8_4 : decode cJxa1e45_init_da8c8 4 = .ok (.return_, 1) := dJxa1e45_init_da8c8_0g.2.2

set_option maxHeartbeats 4000000 in
set_option maxRecDepth 100000 in
theorem n_Ja (l : Launch) (dC : Nat → ClassId) (dI : Nat → Nat → Nat) (ad : Nat → Nat → Nat) (cid : Nat → ClassId) (h0 : Nat) : NM dC dI ad cid l yJxa1e45_init_da8c8 wm_Jxa1e45_init_da8c8 ({ frames := 1, cells := 0, slots := 0, locals := 20 }) [.ref h0] [] (fun w => w = []) 0 0 := by
  intro sz
  refine Met.ofW (cc := cJxa1e45_init_da8c8) (maxL := 1) (ret := none) (by decide) rfl ?_
  intro p e s m args below meth c s₁ B hml hv
  obtain ⟨rfl, hsz, hP, hK, hD0, hG⟩ := hv
  have hx := B.exec
  have hb := B.bytes
  have hr := B.returns
  have hts := atoms_spec (ws := wm_Jxa1e45_init_da8c8) B.pre
  have htb := fun (w : Cond) (h : w ∈ tb) => hts w (List.mem_cons_of_mem _ h)
  have hown : s.vm.findClass RJxa1e45 = some m.cls := findClass_of_methodNamed B.named
  have hlocks := B.notSynchronized
  have hin : meth.name = "<init>" := (name_of_methodNamed B.named B.method).1
  subst hsz
  have hD := hD0.self (sz := s.heap.size)
  generalize hAe : va_A [] s.heap.size = A at hD hG ⊢
  have hA : ∀ q : Nat, s.heap.size ≤ q → A q := fun q h => by rw [← hAe]; exact Or.inr h
  have hS : va_S A s.heap s.heap [] := va_S.rf
  have hl := lv_entry ([.ref h0]) (n := 1) (Nat.le_of_ble_eq_true rfl)
  rw [lg_entry_eq]
  generalize (lg_sl ([.ref h0]) ++ List.replicate (1 - (lg_sl ([.ref h0])).length) Slot.unset).toArray = ls at hl ⊢
  have hl : lv_has ls 1 [(0, .ref h0)] := hl
  have hP : va_P (dC, dI) vwCl ([]) s.heap := hP
  have hD : va_D A ([]) := hD
  refine n_gen (fun Q eQ => ?_)
  refine lv_aload_n hx hb dJxa1e45_init_da8c8_0 rfl (lv_at hl 0 rfl) ?_
  refine W.objInit hx hb hown (htb _ kw_342) (htb _ kw_181) (htb _ kw_1369) rfl (by rw [hml]; exact hl.1) rfl dJxa1e45_init_da8c8_1 (Nat.le_of_ble_eq_true rfl) (Nat.le_of_ble_eq_true rfl) ?_
  refine W.eq (g2 := F0 m 4 ls []) rfl ?_
  rw [eQ]
  exact W.vret hx hb hr (fun t ht hW => ⟨⟨[], rfl, rfl, by rw [ht]; exact hP, va_K.moved hW.alike hK, hD⟩, hS.F ht⟩) hS.2.2 dJxa1e45_init_da8c8_4

theorem dJxc12de_init_da8c8_0g : decode cJxc12de_init_da8c8 0 = .ok (.aload_n 0, 1) ∧ decode cJxc12de_init_da8c8 1 = .ok (.invokespecial 1, 3) ∧ decode cJxc12de_init_da8c8 4 = .ok (.aload_n 0, 1) ∧ decode cJxc12de_init_da8c8 5 = .ok (.iconst 0, 1) ∧ decode cJxc12de_init_da8c8 6 = .ok (.putfield 7, 3) ∧ decode cJxc12de_init_da8c8 9 = .ok (.return_, 1) := by decide +kernel
theorem dJxc12de_init_da8c8_0 : decode cJxc12de_init_da8c8 0 = .ok (.aload_n 0, 1) := dJxc12de_init_da8c8_0g.1
theorem dJxc12de_init_da8c8_1 : decode cJxc12de_init_da8c8 1 = .ok (.invokespecial 1, 3) := dJxc12de_init_da8c8_0g.2.1
theorem dJxc12de_init_da8c8_4 : decode cJxc12de_init_da8c8 4 = .ok (.aload_n 0, 1) := dJxc12de_init_da8c8_0g.2.2.1
theorem dJxc12de_init_da8c8_5 : decode cJxc12de_init_da8c8 5 = .ok (.iconst 0, 1) := dJxc12de_init_da8c8_0g.2.2.2.1
theorem dJxc12de_init_da8c8_6 : decode cJxc12de_init_da8c8 6 = .ok (.putfield 7, 3) := dJxc12de_init_da8c8_0g.2.2.2.2.1
theorem dJxc12de_init_da8c8_9 : decode cJxc12de_init_da8c8 9 = .ok (.return_, 1) := dJxc12de_init_da8c8_0g.2.2.2.2.2

set_option maxHeartbeats 4000000 in
set_option maxRecDepth 100000 in
theorem n_Jc (l : Launch) (dC : Nat → ClassId) (dI : Nat → Nat → Nat) (ad : Nat → Nat → Nat) (cid : Nat → ClassId) (h0 : Nat) (v1 : Value) (v2 : Value) : NM dC dI ad cid l yJxc12de_init_da8c8 wm_Jxc12de_init_da8c8 ({ frames := 2, cells := 0, slots := 0, locals := 40 }) [.ref h0] [(h0, .inr (0, [.int 0, v1, v2]))] (fun w => w = [(h0, .inr (0, [.int 0, v1, v2]))]) 0 0 := by
  intro sz
  refine Met.ofW (cc := cJxc12de_init_da8c8) (maxL := 1) (ret := none) (by decide) rfl ?_
  intro p e s m args below meth c s₁ B hml hv
  obtain ⟨rfl, hsz, hP, hK, hD0, hG⟩ := hv
  have hx := B.exec
  have hb := B.bytes
  have hr := B.returns
  have hts := atoms_spec (ws := wm_Jxc12de_init_da8c8) B.pre
  have htb := fun (w : Cond) (h : w ∈ tb) => hts w (List.mem_cons_of_mem _ h)
  have hown : s.vm.findClass RJxc12de = some m.cls := findClass_of_methodNamed B.named
  have hlocks := B.notSynchronized
  have hin : meth.name = "<init>" := (name_of_methodNamed B.named B.method).1
  subst hsz
  have hD := hD0.self (sz := s.heap.size)
  generalize hAe : va_A [(h0, .inr (0, [.int 0, v1, v2]))] s.heap.size = A at hD hG ⊢
  have hA : ∀ q : Nat, s.heap.size ≤ q → A q := fun q h => by rw [← hAe]; exact Or.inr h
  have hS : va_S A s.heap s.heap [] := va_S.rf
  have hl := lv_entry ([.ref h0]) (n := 1) (Nat.le_of_ble_eq_true rfl)
  rw [lg_entry_eq]
  generalize (lg_sl ([.ref h0]) ++ List.replicate (1 - (lg_sl ([.ref h0])).length) Slot.unset).toArray = ls at hl ⊢
  have hl : lv_has ls 1 [(0, .ref h0)] := hl
  have hP : va_P (dC, dI) vwCl ((h0, .inr (0, [.int 0, v1, v2])) :: []) s.heap := hP
  have hD : va_D A ((h0, .inr (0, [.int 0, v1, v2])) :: []) := hD
  refine n_gen (fun Q eQ => ?_)
  refine lv_aload_n hx hb dJxc12de_init_da8c8_0 rfl (lv_at hl 0 rfl) ?_
  refine nw_call (rest := []) (r := (h0, .inr (0, [.int 0, v1, v2])) :: []) ⟨hx, hb, hml, hown, htb⟩ (n_Ja l dC dI ad cid (h0)) (cwI 0 htb (gd_c kw_1380) rfl rfl rfl (htb _ kw_155) (htb _ kw_340) (htb _ kw_341) rfl (by decide +kernel) ⟨Nat.le_of_ble_eq_true rfl, Nat.le_of_ble_eq_true rfl⟩) rfl hl.1 rfl (Nat.le_of_ble_eq_true rfl) dJxc12de_init_da8c8_1 ⟨(Nat.le_of_ble_eq_true rfl), (Nat.le_of_ble_eq_true rfl)⟩ hK hP hD hS hA hG (fun w H locs hw hP7 hD7 hS => ?_)
  obtain ⟨rfl⟩ := hw
  have hP : va_P (dC, dI) vwCl ((h0, .inr (0, [.int 0, v1, v2])) :: []) H := hP7
  have hD : va_D A ((h0, .inr (0, [.int 0, v1, v2])) :: []) := hD7
  refine W.widen (k := 0) (n := 0) (Nat.le_of_ble_eq_true rfl) (Nat.le_of_ble_eq_true rfl) ?_
  refine lv_aload_n hx hb dJxc12de_init_da8c8_4 rfl (lv_at hl 0 rfl) ?_
  refine lv_iconst (v := 0) hx hb dJxc12de_init_da8c8_5 (by decide) ?_
  refine va_put (D := (dC, dI)) (ci := 0) (v := .int 0) (ty := tyJx4a65c 0) (C := RJx4a65c) (T := TJx4a65c) (N := 3) hx hb htb inJx4a65c tyJx4a65c tyJx4a65c_ok nmJx4a65c hown hK hP hD hS 0 rfl rfl 0 (by decide) (htb _ kw_346) (fun _ h9 => h9) rfl (tyJx4a65c_ok 0 (by decide)) rfl rfl (Nat.le_of_ble_eq_true rfl) dJxc12de_init_da8c8_6 (fun H locs hP hD hS => ?_)
  have hP : va_P (dC, dI) vwCl ((h0, .inr (0, [.int 0, v1, v2])) :: []) H := hP
  have hD : va_D A ((h0, .inr (0, [.int 0, v1, v2])) :: []) := hD
  rw [eQ]
  exact W.vret hx hb hr (fun t ht hW => ⟨⟨(h0, .inr (0, [.int 0, v1, v2])) :: [], rfl, rfl, by rw [ht]; exact hP, va_K.moved hW.alike hK, hD⟩, hS.F ht⟩) hS.2.2 dJxc12de_init_da8c8_9

theorem dJx4a65c_init_da8c8_0g : decode cJx4a65c_init_da8c8 0 = .ok (.aload_n 0, 1) ∧ decode cJx4a65c_init_da8c8 1 = .ok (.invokespecial 1, 3) ∧ decode cJx4a65c_init_da8c8 4 = .ok (.aload_n 0, 1) ∧ decode cJx4a65c_init_da8c8 5 = .ok (.getstatic 39, 3) ∧ decode cJx4a65c_init_da8c8 8 = .ok (.putfield 9, 3) ∧ decode cJx4a65c_init_da8c8 11 = .ok (.return_, 1) := by decide +kernel
theorem dJx4a65c_init_da8c8_0 : decode cJx4a65c_init_da8c8 0 = .ok (.aload_n 0, 1) := dJx4a65c_init_da8c8_0g.1
theorem dJx4a65c_init_da8c8_1 : decode cJx4a65c_init_da8c8 1 = .ok (.invokespecial 1, 3) := dJx4a65c_init_da8c8_0g.2.1
theorem dJx4a65c_init_da8c8_4 : decode cJx4a65c_init_da8c8 4 = .ok (.aload_n 0, 1) := dJx4a65c_init_da8c8_0g.2.2.1
theorem dJx4a65c_init_da8c8_5 : decode cJx4a65c_init_da8c8 5 = .ok (.getstatic 39, 3) := dJx4a65c_init_da8c8_0g.2.2.2.1
theorem dJx4a65c_init_da8c8_8 : decode cJx4a65c_init_da8c8 8 = .ok (.putfield 9, 3) := dJx4a65c_init_da8c8_0g.2.2.2.2.1
theorem dJx4a65c_init_da8c8_11 : decode cJx4a65c_init_da8c8 11 = .ok (.return_, 1) := dJx4a65c_init_da8c8_0g.2.2.2.2.2

set_option maxHeartbeats 4000000 in
set_option maxRecDepth 100000 in
theorem n_AL (l : Launch) (dC : Nat → ClassId) (dI : Nat → Nat → Nat) (ad : Nat → Nat → Nat) (cid : Nat → ClassId) (h0 : Nat) : NM dC dI ad cid l yJx4a65c_init_da8c8 wm_Jx4a65c_init_da8c8 ({ frames := 3, cells := 0, slots := 0, locals := 60 }) [.ref h0] [(h0, .inr (0, [.int 0, .null, .int 0]))] (fun w => w = alW ad h0) 0 0 := by
  intro sz
  refine Met.ofW (cc := cJx4a65c_init_da8c8) (maxL := 1) (ret := none) (by decide) rfl ?_
  intro p e s m args below meth c s₁ B hml hv
  obtain ⟨rfl, hsz, hP, hK, hD0, hG⟩ := hv
  have hx := B.exec
  have hb := B.bytes
  have hr := B.returns
  have hts := atoms_spec (ws := wm_Jx4a65c_init_da8c8) B.pre
  have htb := fun (w : Cond) (h : w ∈ tb) => hts w (List.mem_cons_of_mem _ h)
  have hown : s.vm.findClass RJx4a65c = some m.cls := findClass_of_methodNamed B.named
  have hlocks := B.notSynchronized
  have hin : meth.name = "<init>" := (name_of_methodNamed B.named B.method).1
  subst hsz
  have hD := hD0.self (sz := s.heap.size)
  generalize hAe : va_A [(h0, .inr (0, [.int 0, .null, .int 0]))] s.heap.size = A at hD hG ⊢
  have hA : ∀ q : Nat, s.heap.size ≤ q → A q := fun q h => by rw [← hAe]; exact Or.inr h
  have hS : va_S A s.heap s.heap [] := va_S.rf
  have hl := lv_entry ([.ref h0]) (n := 1) (Nat.le_of_ble_eq_true rfl)
  rw [lg_entry_eq]
  generalize (lg_sl ([.ref h0]) ++ List.replicate (1 - (lg_sl ([.ref h0])).length) Slot.unset).toArray = ls at hl ⊢
  have hl : lv_has ls 1 [(0, .ref h0)] := hl
  have hP : va_P (dC, dI) vwCl ((h0, .inr (0, [.int 0, .null, .int 0])) :: []) s.heap := hP
  have hD : va_D A ((h0, .inr (0, [.int 0, .null, .int 0])) :: []) := hD
  refine n_gen (fun Q eQ => ?_)
  refine lv_aload_n hx hb dJx4a65c_init_da8c8_0 rfl (lv_at hl 0 rfl) ?_
  refine nw_call (rest := []) (r := []) ⟨hx, hb, hml, hown, htb⟩ (n_Jc l dC dI ad cid (h0) (.null) (.int 0)) (cwI 0 htb (gd_c kw_1379) rfl rfl rfl (htb _ kw_156) (htb _ kw_338) (htb _ kw_339) rfl (by decide +kernel) ⟨Nat.le_of_ble_eq_true rfl, Nat.le_of_ble_eq_true rfl⟩) rfl hl.1 rfl (Nat.le_of_ble_eq_true rfl) dJx4a65c_init_da8c8_1 ⟨(Nat.le_of_ble_eq_true rfl), (Nat.le_of_ble_eq_true rfl)⟩ hK hP hD hS hA hG (fun w H locs hw hP7 hD7 hS => ?_)
  obtain ⟨rfl⟩ := hw
  have hP : va_P (dC, dI) vwCl ((h0, .inr (0, [.int 0, .null, .int 0])) :: []) H := hP7
  have hD : va_D A ((h0, .inr (0, [.int 0, .null, .int 0])) :: []) := hD7
  refine W.widen (k := 0) (n := 0) (Nat.le_of_ble_eq_true rfl) (Nat.le_of_ble_eq_true rfl) ?_
  refine lv_aload_n hx hb dJx4a65c_init_da8c8_4 rfl (lv_at hl 0 rfl) ?_
  refine va_gets (A := A) hx hb hG.2.1.2.2.2.2.1 hS hown (htb _ kw_343) (fun _ h9 => h9) dJx4a65c_init_da8c8_5 ?_
  refine va_put (D := (dC, dI)) (ci := 0) (v := .ref (ad 34 0)) (ty := tyJx4a65c 1) (C := RJx4a65c) (T := TJx4a65c) (N := 3) hx hb htb inJx4a65c tyJx4a65c tyJx4a65c_ok nmJx4a65c hown hK hP hD hS 0 rfl rfl 1 (by decide) (htb _ kw_344) (fun _ h9 => h9) rfl (tyJx4a65c_ok 1 (by decide)) rfl rfl (Nat.le_of_ble_eq_true rfl) dJx4a65c_init_da8c8_8 (fun H locs hP hD hS => ?_)
  have hP : va_P (dC, dI) vwCl ((h0, .inr (0, [.int 0, .ref (ad 34 0), .int 0])) :: []) H := hP
  have hD : va_D A ((h0, .inr (0, [.int 0, .ref (ad 34 0), .int 0])) :: []) := hD
  rw [eQ]
  exact W.vret hx hb hr (fun t ht hW => ⟨⟨(h0, .inr (0, [.int 0, .ref (ad 34 0), .int 0])) :: [], rfl, rfl, by rw [ht]; exact hP, va_K.moved hW.alike hK, hD⟩, hS.F ht⟩) hS.2.2 dJx4a65c_init_da8c8_11

theorem dX1_init_0g : decode cX1_init 0 = .ok (.aload_n 0, 1) ∧ decode cX1_init 1 = .ok (.invokespecial 3, 3) ∧ decode cX1_init 4 = .ok (.aload_n 0, 1) ∧ decode cX1_init 5 = .ok (.iload_n 1, 1) ∧ decode cX1_init 6 = .ok (.putfield 9, 3) ∧ decode cX1_init 9 = .ok (.aload_n 0, 1) ∧ decode cX1_init 10 = .ok (.new 15, 3) ∧ decode cX1_init 13 = .ok (.dup, 1) ∧ decode cX1_init 14 = .ok (.invokespecial 17, 3) ∧ decode cX1_init 17 = .ok (.putfield 18, 3) ∧ decode cX1_init 20 = .ok (.aload_n 0, 1) ∧ decode cX1_init 21 = .ok (.new 15, 3) ∧ decode cX1_init 24 = .ok (.dup, 1) ∧ decode cX1_init 25 = .ok (.invokespecial 17, 3) ∧ decode cX1_init 28 = .ok (.putfield 22, 3) ∧ decode cX1_init 31 = .ok (.aload_n 0, 1) := by decide +kernel
theorem dX1_init_0 : decode cX1_init 0 = .ok (.aload_n 0, 1) := dX1_init_0g.1
theorem dX1_init_1 : decode cX1_init 1 = .ok (.invokespecial 3, 3) := dX1_init_0g.2.1
theorem dX1_init_4 : decode cX1_init 4 = .ok (.aload_n 0, 1) := dX1_init_0g.2.2.1
theorem dX1_init_5 : decode cX1_init 5 = .ok (.iload_n 1, 1) := dX1_init_0g.2.2.2.1
theorem dX1_init_6 : decode cX1_init 6 = .ok (.putfield 9, 3) := dX1_init_0g.2.2.2.2.1
theorem dX1_init_9 : decode cX1_init 9 = .ok (.aload_n 0, 1) := dX1_init_0g.2.2.2.2.2.1
theorem dX1_init_10 : decode cX1_init 10 = .ok (.new 15, 3) := dX1_init_0g.2.2.2.2.2.2.1
theorem dX1_init_13 : decode cX1_init 13 = .ok (.dup, 1) := dX1_init_0g.2.2.2.2.2.2.2.1
theorem dX1_init_14 : decode cX1_init 14 = .ok (.invokespecial 17, 3) := dX1_init_0g.2.2.2.2.2.2.2.2.1
theorem dX1_init_17 : decode cX1_init 17 = .ok (.putfield 18, 3) := dX1_init_0g.2.2.2.2.2.2.2.2.2.1
theorem dX1_init_20 : decode cX1_init 20 = .ok (.aload_n 0, 1) := dX1_init_0g.2.2.2.2.2.2.2.2.2.2.1
theorem dX1_init_21 : decode cX1_init 21 = .ok (.new 15, 3) := dX1_init_0g.2.2.2.2.2.2.2.2.2.2.2.1
theorem dX1_init_24 : decode cX1_init 24 = .ok (.dup, 1) := dX1_init_0g.2.2.2.2.2.2.2.2.2.2.2.2.1
theorem dX1_init_25 : decode cX1_init 25 = .ok (.invokespecial 17, 3) := dX1_init_0g.2.2.2.2.2.2.2.2.2.2.2.2.2.1
theorem dX1_init_28 : decode cX1_init 28 = .ok (.putfield 22, 3) := dX1_init_0g.2.2.2.2.2.2.2.2.2.2.2.2.2.2.1
theorem dX1_init_31 : decode cX1_init 31 = .ok (.aload_n 0, 1) := dX1_init_0g.2.2.2.2.2.2.2.2.2.2.2.2.2.2.2
theorem dX1_init_32g : decode cX1_init 32 = .ok (.new 15, 3) ∧ decode cX1_init 35 = .ok (.dup, 1) ∧ decode cX1_init 36 = .ok (.invokespecial 17, 3) ∧ decode cX1_init 39 = .ok (.putfield 25, 3) ∧ decode cX1_init 42 = .ok (.return_, 1) := by decide +kernel
theorem dX1_init_32 : decode cX1_init 32 = .ok (.new 15, 3) := dX1_init_32g.1
theorem dX1_init_35 : decode cX1_init 35 = .ok (.dup, 1) := dX1_init_32g.2.1
theorem dX1_init_36 : decode cX1_init 36 = .ok (.invokespecial 17, 3) := dX1_init_32g.2.2.1
theorem dX1_init_39 : decode cX1_init 39 = .ok (.putfield 25, 3) := dX1_init_32g.2.2.2.1
theorem dX1_init_42 : decode cX1_init 42 = .ok (.return_, 1) := dX1_init_32g.2.2.2.2

set_option maxHeartbeats 4000000 in
set_option maxRecDepth 100000 in
theorem n_X1 (l : Launch) (dC : Nat → ClassId) (dI : Nat → Nat → Nat) (ad : Nat → Nat → Nat) (cid : Nat → ClassId) (h0 : Nat) (p0 : Int32) : NM dC dI ad cid l yX1_init wm_X1_init ({ frames := 4, cells := 3, slots := 9, locals := 80 }) [.ref h0, .int p0] [(h0, .inr (1, [.int 0, .null, .null, .null, .null, .long 0, .long 0, .long 0, .long 0, .int 0, .int 0, .int 0, .int 0, .int 0, .int 0, .int 0, .int 0, .int 0, .int 0]))] (fun w => ∃ a b c, w = beW ad p0 h0 a b c) 3 9 := by
  intro sz
  refine Met.ofW (cc := cX1_init) (maxL := 2) (ret := none) (by decide) rfl ?_
  intro p e s m args below meth c s₁ B hml hv
  obtain ⟨rfl, hsz, hP, hK, hD0, hG⟩ := hv
  have hx := B.exec
  have hb := B.bytes
  have hr := B.returns
  have hts := atoms_spec (ws := wm_X1_init) B.pre
  have htb := fun (w : Cond) (h : w ∈ tb) => hts w (List.mem_cons_of_mem _ h)
  have hown : s.vm.findClass RX1 = some m.cls := findClass_of_methodNamed B.named
  have hlocks := B.notSynchronized
  have hin : meth.name = "<init>" := (name_of_methodNamed B.named B.method).1
  subst hsz
  have hD := hD0.self (sz := s.heap.size)
  generalize hAe : va_A [(h0, .inr (1, [.int 0, .null, .null, .null, .null, .long 0, .long 0, .long 0, .long 0, .int 0, .int 0, .int 0, .int 0, .int 0, .int 0, .int 0, .int 0, .int 0, .int 0]))] s.heap.size = A at hD hG ⊢
  have hA : ∀ q : Nat, s.heap.size ≤ q → A q := fun q h => by rw [← hAe]; exact Or.inr h
  have hS : va_S A s.heap s.heap [] := va_S.rf
  have hl := lv_entry ([.ref h0, .int p0]) (n := 2) (Nat.le_of_ble_eq_true rfl)
  rw [lg_entry_eq]
  generalize (lg_sl ([.ref h0, .int p0]) ++ List.replicate (2 - (lg_sl ([.ref h0, .int p0])).length) Slot.unset).toArray = ls at hl ⊢
  have hl : lv_has ls 2 [(0, .ref h0), (1, .int p0)] := hl
  have hP : va_P (dC, dI) vwCl ((h0, .inr (1, [.int 0, .null, .null, .null, .null, .long 0, .long 0, .long 0, .long 0, .int 0, .int 0, .int 0, .int 0, .int 0, .int 0, .int 0, .int 0, .int 0, .int 0])) :: []) s.heap := hP
  have hD : va_D A ((h0, .inr (1, [.int 0, .null, .null, .null, .null, .long 0, .long 0, .long 0, .long 0, .int 0, .int 0, .int 0, .int 0, .int 0, .int 0, .int 0, .int 0, .int 0, .int 0])) :: []) := hD
  refine n_gen (fun Q eQ => ?_)
  refine lv_aload_n hx hb dX1_init_0 rfl (lv_at hl 0 rfl) ?_
  refine W.objInit hx hb hown (htb _ kw_333) (htb _ kw_181) (htb _ kw_1369) rfl (by rw [hml]; exact hl.1) rfl dX1_init_1 (Nat.le_of_ble_eq_true rfl) (Nat.le_of_ble_eq_true rfl) ?_
  refine W.eq (g2 := F0 m 4 ls []) rfl ?_
  refine lv_aload_n hx hb dX1_init_4 rfl (lv_at hl 0 rfl) ?_
  refine lv_iload_n hx hb dX1_init_5 rfl (lv_at hl 1 rfl) ?_
  refine va_putF (D := (dC, dI)) (ci := 1) (v := .int p0) (ty := tyX1 0) (C := RX1) (T := TX1) (N := 19) hx hb htb inX1 tyX1 tyX1_ok nmX1 hown hK hP hD hS 0 rfl rfl 0 (by decide) (htb _ kw_349) (fun _ h9 => h9) rfl hin rfl (tyX1_ok 0 (by decide)) rfl rfl (Nat.le_of_ble_eq_true rfl) dX1_init_6 (fun H locs hP hD hS => ?_)
  have hP : va_P (dC, dI) vwCl ((h0, .inr (1, [.int p0, .null, .null, .null, .null, .long 0, .long 0, .long 0, .long 0, .int 0, .int 0, .int 0, .int 0, .int 0, .int 0, .int 0, .int 0, .int 0, .int 0])) :: []) H := hP
  have hD : va_D A ((h0, .inr (1, [.int p0, .null, .null, .null, .null, .long 0, .long 0, .long 0, .long 0, .int 0, .int 0, .int 0, .int 0, .int 0, .int 0, .int 0, .int 0, .int 0, .int 0])) :: []) := hD
  refine lv_aload_n hx hb dX1_init_9 rfl (lv_at hl 0 rfl) ?_
  refine va_new (ci := 0) (fs := nvJx4a65c) (C := RJx4a65c) (T := TJx4a65c) (N := 3) hx hb htb inJx4a65c tyJx4a65c tyJx4a65c_ok hown (htb _ kw_334) (htb _ kw_335) (htb _ kw_157) hK hP hD hS hA rfl nwJx4a65c (Nat.le_of_ble_eq_true rfl) (Nat.le_of_ble_eq_true rfl) dX1_init_10 (fun q_1 H hP hD hS => ?_)
  have hP : va_P (dC, dI) vwCl ((q_1, .inr (0, [.int 0, .null, .int 0])) :: (h0, .inr (1, [.int p0, .null, .null, .null, .null, .long 0, .long 0, .long 0, .long 0, .int 0, .int 0, .int 0, .int 0, .int 0, .int 0, .int 0, .int 0, .int 0, .int 0])) :: []) H := fr_P hP
  have hD : va_D A ((q_1, .inr (0, [.int 0, .null, .int 0])) :: (h0, .inr (1, [.int p0, .null, .null, .null, .null, .long 0, .long 0, .long 0, .long 0, .int 0, .int 0, .int 0, .int 0, .int 0, .int 0, .int 0, .int 0, .int 0, .int 0])) :: []) := fr_D hD
  refine W.widen (k := 1) (n := 3) (Nat.le_of_ble_eq_true rfl) (Nat.le_of_ble_eq_true rfl) ?_
  refine lv_dup hx hb dX1_init_13 rfl ?_
  refine nw_call (rest := [.ref q_1, .ref h0]) (r := (h0, .inr (1, [.int p0, .null, .null, .null, .null, .long 0, .long 0, .long 0, .long 0, .int 0, .int 0, .int 0, .int 0, .int 0, .int 0, .int 0, .int 0, .int 0, .int 0])) :: []) ⟨hx, hb, hml, hown, htb⟩ (n_AL l dC dI ad cid (q_1)) (cwI 0 htb (gd_c kw_1378) rfl rfl rfl (htb _ kw_157) (htb _ kw_336) (htb _ kw_337) rfl (by decide +kernel) ⟨Nat.le_of_ble_eq_true rfl, Nat.le_of_ble_eq_true rfl⟩) rfl hl.1 rfl (Nat.le_of_ble_eq_true rfl) dX1_init_14 ⟨(Nat.le_of_ble_eq_true rfl), (Nat.le_of_ble_eq_true rfl)⟩ hK hP hD hS hA hG (fun w H locs hw hP7 hD7 hS => ?_)
  obtain ⟨rfl⟩ := hw
  have hP : va_P (dC, dI) vwCl ((h0, .inr (1, [.int p0, .null, .null, .null, .null, .long 0, .long 0, .long 0, .long 0, .int 0, .int 0, .int 0, .int 0, .int 0, .int 0, .int 0, .int 0, .int 0, .int 0])) :: (alW ad q_1 ++ [])) H := sw_P (E := [(h0, .inr (1, [.int p0, .null, .null, .null, .null, .long 0, .long 0, .long 0, .long 0, .int 0, .int 0, .int 0, .int 0, .int 0, .int 0, .int 0, .int 0, .int 0, .int 0]))]) (w := alW ad q_1) (T := []) hP7
  have hD : va_D A ((h0, .inr (1, [.int p0, .null, .null, .null, .null, .long 0, .long 0, .long 0, .long 0, .int 0, .int 0, .int 0, .int 0, .int 0, .int 0, .int 0, .int 0, .int 0, .int 0])) :: (alW ad q_1 ++ [])) := sw_D (E := [(h0, .inr (1, [.int p0, .null, .null, .null, .null, .long 0, .long 0, .long 0, .long 0, .int 0, .int 0, .int 0, .int 0, .int 0, .int 0, .int 0, .int 0, .int 0, .int 0]))]) (w := alW ad q_1) (T := []) hD7
  refine W.widen (k := 1) (n := 3) (Nat.le_of_ble_eq_true rfl) (Nat.le_of_ble_eq_true rfl) ?_
  refine va_putF (D := (dC, dI)) (ci := 1) (v := .ref q_1) (ty := tyX1 1) (C := RX1) (T := TX1) (N := 19) hx hb htb inX1 tyX1 tyX1_ok nmX1 hown hK hP hD hS 0 rfl rfl 1 (by decide) (htb _ kw_351) (fun _ h9 => h9) rfl hin rfl (tyX1_ok 1 (by decide)) rfl rfl (Nat.le_of_ble_eq_true rfl) dX1_init_17 (fun H locs hP hD hS => ?_)
  have hP : va_P (dC, dI) vwCl ((h0, .inr (1, [.int p0, .ref q_1, .null, .null, .null, .long 0, .long 0, .long 0, .long 0, .int 0, .int 0, .int 0, .int 0, .int 0, .int 0, .int 0, .int 0, .int 0, .int 0])) :: (alW ad q_1 ++ [])) H := hP
  have hD : va_D A ((h0, .inr (1, [.int p0, .ref q_1, .null, .null, .null, .long 0, .long 0, .long 0, .long 0, .int 0, .int 0, .int 0, .int 0, .int 0, .int 0, .int 0, .int 0, .int 0, .int 0])) :: (alW ad q_1 ++ [])) := hD
  refine lv_aload_n hx hb dX1_init_20 rfl (lv_at hl 0 rfl) ?_
  refine va_new (ci := 0) (fs := nvJx4a65c) (C := RJx4a65c) (T := TJx4a65c) (N := 3) hx hb htb inJx4a65c tyJx4a65c tyJx4a65c_ok hown (htb _ kw_334) (htb _ kw_335) (htb _ kw_157) hK hP hD hS hA rfl nwJx4a65c (Nat.le_of_ble_eq_true rfl) (Nat.le_of_ble_eq_true rfl) dX1_init_21 (fun q_2 H hP hD hS => ?_)
  have hP : va_P (dC, dI) vwCl ((q_2, .inr (0, [.int 0, .null, .int 0])) :: (h0, .inr (1, [.int p0, .ref q_1, .null, .null, .null, .long 0, .long 0, .long 0, .long 0, .int 0, .int 0, .int 0, .int 0, .int 0, .int 0, .int 0, .int 0, .int 0, .int 0])) :: (alW ad q_1 ++ [])) H := fr_P hP
  have hD : va_D A ((q_2, .inr (0, [.int 0, .null, .int 0])) :: (h0, .inr (1, [.int p0, .ref q_1, .null, .null, .null, .long 0, .long 0, .long 0, .long 0, .int 0, .int 0, .int 0, .int 0, .int 0, .int 0, .int 0, .int 0, .int 0, .int 0])) :: (alW ad q_1 ++ [])) := fr_D hD
  refine W.widen (k := 2) (n := 6) (Nat.le_of_ble_eq_true rfl) (Nat.le_of_ble_eq_true rfl) ?_
  refine lv_dup hx hb dX1_init_24 rfl ?_
  refine nw_call (rest := [.ref q_2, .ref h0]) (r := (h0, .inr (1, [.int p0, .ref q_1, .null, .null, .null, .long 0, .long 0, .long 0, .long 0, .int 0, .int 0, .int 0, .int 0, .int 0, .int 0, .int 0, .int 0, .int 0, .int 0])) :: (alW ad q_1 ++ [])) ⟨hx, hb, hml, hown, htb⟩ (n_AL l dC dI ad cid (q_2)) (cwI 0 htb (gd_c kw_1378) rfl rfl rfl (htb _ kw_157) (htb _ kw_336) (htb _ kw_337) rfl (by decide +kernel) ⟨Nat.le_of_ble_eq_true rfl, Nat.le_of_ble_eq_true rfl⟩) rfl hl.1 rfl (Nat.le_of_ble_eq_true rfl) dX1_init_25 ⟨(Nat.le_of_ble_eq_true rfl), (Nat.le_of_ble_eq_true rfl)⟩ hK hP hD hS hA hG (fun w H locs hw hP7 hD7 hS => ?_)
  obtain ⟨rfl⟩ := hw
  have hP : va_P (dC, dI) vwCl ((h0, .inr (1, [.int p0, .ref q_1, .null, .null, .null, .long 0, .long 0, .long 0, .long 0, .int 0, .int 0, .int 0, .int 0, .int 0, .int 0, .int 0, .int 0, .int 0, .int 0])) :: (alW ad q_2 ++ (alW ad q_1 ++ []))) H := sw_P (E := [(h0, .inr (1, [.int p0, .ref q_1, .null, .null, .null, .long 0, .long 0, .long 0, .long 0, .int 0, .int 0, .int 0, .int 0, .int 0, .int 0, .int 0, .int 0, .int 0, .int 0]))]) (w := alW ad q_2) (T := (alW ad q_1 ++ [])) hP7
  have hD : va_D A ((h0, .inr (1, [.int p0, .ref q_1, .null, .null, .null, .long 0, .long 0, .long 0, .long 0, .int 0, .int 0, .int 0, .int 0, .int 0, .int 0, .int 0, .int 0, .int 0, .int 0])) :: (alW ad q_2 ++ (alW ad q_1 ++ []))) := sw_D (E := [(h0, .inr (1, [.int p0, .ref q_1, .null, .null, .null, .long 0, .long 0, .long 0, .long 0, .int 0, .int 0, .int 0, .int 0, .int 0, .int 0, .int 0, .int 0, .int 0, .int 0]))]) (w := alW ad q_2) (T := (alW ad q_1 ++ [])) hD7
  refine W.widen (k := 2) (n := 6) (Nat.le_of_ble_eq_true rfl) (Nat.le_of_ble_eq_true rfl) ?_
  refine va_putF (D := (dC, dI)) (ci := 1) (v := .ref q_2) (ty := tyX1 2) (C := RX1) (T := TX1) (N := 19) hx hb htb inX1 tyX1 tyX1_ok nmX1 hown hK hP hD hS 0 rfl rfl 2 (by decide) (htb _ kw_353) (fun _ h9 => h9) rfl hin rfl (tyX1_ok 2 (by decide)) rfl rfl (Nat.le_of_ble_eq_true rfl) dX1_init_28 (fun H locs hP hD hS => ?_)
  have hP : va_P (dC, dI) vwCl ((h0, .inr (1, [.int p0, .ref q_1, .ref q_2, .null, .null, .long 0, .long 0, .long 0, .long 0, .int 0, .int 0, .int 0, .int 0, .int 0, .int 0, .int 0, .int 0, .int 0, .int 0])) :: (alW ad q_2 ++ (alW ad q_1 ++ []))) H := hP
  have hD : va_D A ((h0, .inr (1, [.int p0, .ref q_1, .ref q_2, .null, .null, .long 0, .long 0, .long 0, .long 0, .int 0, .int 0, .int 0, .int 0, .int 0, .int 0, .int 0, .int 0, .int 0, .int 0])) :: (alW ad q_2 ++ (alW ad q_1 ++ []))) := hD
  refine lv_aload_n hx hb dX1_init_31 rfl (lv_at hl 0 rfl) ?_
  refine va_new (ci := 0) (fs := nvJx4a65c) (C := RJx4a65c) (T := TJx4a65c) (N := 3) hx hb htb inJx4a65c tyJx4a65c tyJx4a65c_ok hown (htb _ kw_334) (htb _ kw_335) (htb _ kw_157) hK hP hD hS hA rfl nwJx4a65c (Nat.le_of_ble_eq_true rfl) (Nat.le_of_ble_eq_true rfl) dX1_init_32 (fun q_3 H hP hD hS => ?_)
  have hP : va_P (dC, dI) vwCl ((q_3, .inr (0, [.int 0, .null, .int 0])) :: (h0, .inr (1, [.int p0, .ref q_1, .ref q_2, .null, .null, .long 0, .long 0, .long 0, .long 0, .int 0, .int 0, .int 0, .int 0, .int 0, .int 0, .int 0, .int 0, .int 0, .int 0])) :: (alW ad q_2 ++ (alW ad q_1 ++ []))) H := fr_P hP
  have hD : va_D A ((q_3, .inr (0, [.int 0, .null, .int 0])) :: (h0, .inr (1, [.int p0, .ref q_1, .ref q_2, .null, .null, .long 0, .long 0, .long 0, .long 0, .int 0, .int 0, .int 0, .int 0, .int 0, .int 0, .int 0, .int 0, .int 0, .int 0])) :: (alW ad q_2 ++ (alW ad q_1 ++ []))) := fr_D hD
  refine W.widen (k := 3) (n := 9) (Nat.le_of_ble_eq_true rfl) (Nat.le_of_ble_eq_true rfl) ?_
  refine lv_dup hx hb dX1_init_35 rfl ?_
  refine nw_call (rest := [.ref q_3, .ref h0]) (r := (h0, .inr (1, [.int p0, .ref q_1, .ref q_2, .null, .null, .long 0, .long 0, .long 0, .long 0, .int 0, .int 0, .int 0, .int 0, .int 0, .int 0, .int 0, .int 0, .int 0, .int 0])) :: (alW ad q_2 ++ (alW ad q_1 ++ []))) ⟨hx, hb, hml, hown, htb⟩ (n_AL l dC dI ad cid (q_3)) (cwI 0 htb (gd_c kw_1378) rfl rfl rfl (htb _ kw_157) (htb _ kw_336) (htb _ kw_337) rfl (by decide +kernel) ⟨Nat.le_of_ble_eq_true rfl, Nat.le_of_ble_eq_true rfl⟩) rfl hl.1 rfl (Nat.le_of_ble_eq_true rfl) dX1_init_36 ⟨(Nat.le_of_ble_eq_true rfl), (Nat.le_of_ble_eq_true rfl)⟩ hK hP hD hS hA hG (fun w H locs hw hP7 hD7 hS => ?_)
  obtain ⟨rfl⟩ := hw
  have hP : va_P (dC, dI) vwCl ((h0, .inr (1, [.int p0, .ref q_1, .ref q_2, .null, .null, .long 0, .long 0, .long 0, .long 0, .int 0, .int 0, .int 0, .int 0, .int 0, .int 0, .int 0, .int 0, .int 0, .int 0])) :: (alW ad q_3 ++ (alW ad q_2 ++ (alW ad q_1 ++ [])))) H := sw_P (E := [(h0, .inr (1, [.int p0, .ref q_1, .ref q_2, .null, .null, .long 0, .long 0, .long 0, .long 0, .int 0, .int 0, .int 0, .int 0, .int 0, .int 0, .int 0, .int 0, .int 0, .int 0]))]) (w := alW ad q_3) (T := (alW ad q_2 ++ (alW ad q_1 ++ []))) hP7
  have hD : va_D A ((h0, .inr (1, [.int p0, .ref q_1, .ref q_2, .null, .null, .long 0, .long 0, .long 0, .long 0, .int 0, .int 0, .int 0, .int 0, .int 0, .int 0, .int 0, .int 0, .int 0, .int 0])) :: (alW ad q_3 ++ (alW ad q_2 ++ (alW ad q_1 ++ [])))) := sw_D (E := [(h0, .inr (1, [.int p0, .ref q_1, .ref q_2, .null, .null, .long 0, .long 0, .long 0, .long 0, .int 0, .int 0, .int 0, .int 0, .int 0, .int 0, .int 0, .int 0, .int 0, .int 0]))]) (w := alW ad q_3) (T := (alW ad q_2 ++ (alW ad q_1 ++ []))) hD7
  refine W.widen (k := 3) (n := 9) (Nat.le_of_ble_eq_true rfl) (Nat.le_of_ble_eq_true rfl) ?_
  refine va_putF (D := (dC, dI)) (ci := 1) (v := .ref q_3) (ty := tyX1 3) (C := RX1) (T := TX1) (N := 19) hx hb htb inX1 tyX1 tyX1_ok nmX1 hown hK hP hD hS 0 rfl rfl 3 (by decide) (htb _ kw_355) (fun _ h9 => h9) rfl hin rfl (tyX1_ok 3 (by decide)) rfl rfl (Nat.le_of_ble_eq_true rfl) dX1_init_39 (fun H locs hP hD hS => ?_)
  have hP : va_P (dC, dI) vwCl ((h0, .inr (1, [.int p0, .ref q_1, .ref q_2, .ref q_3, .null, .long 0, .long 0, .long 0, .long 0, .int 0, .int 0, .int 0, .int 0, .int 0, .int 0, .int 0, .int 0, .int 0, .int 0])) :: (alW ad q_3 ++ (alW ad q_2 ++ (alW ad q_1 ++ [])))) H := hP
  have hD : va_D A ((h0, .inr (1, [.int p0, .ref q_1, .ref q_2, .ref q_3, .null, .long 0, .long 0, .long 0, .long 0, .int 0, .int 0, .int 0, .int 0, .int 0, .int 0, .int 0, .int 0, .int 0, .int 0])) :: (alW ad q_3 ++ (alW ad q_2 ++ (alW ad q_1 ++ [])))) := hD
  rw [eQ]
  exact W.vret hx hb hr (fun t ht hW => ⟨⟨(h0, .inr (1, [.int p0, .ref q_1, .ref q_2, .ref q_3, .null, .long 0, .long 0, .long 0, .long 0, .int 0, .int 0, .int 0, .int 0, .int 0, .int 0, .int 0, .int 0, .int 0, .int 0])) :: (alW ad q_3 ++ (alW ad q_2 ++ (alW ad q_1 ++ []))), rfl, ⟨_, _, _, rfl⟩, by rw [ht]; exact hP, va_K.moved hW.alike hK, hD⟩, hS.F ht⟩) hS.2.2 dX1_init_42

theorem dX5_init_0g : decode cX5_init 0 = .ok (.aload_n 0, 1) ∧ decode cX5_init 1 = .ok (.invokespecial 7, 3) ∧ decode cX5_init 4 = .ok (.aload_n 0, 1) ∧ decode cX5_init 5 = .ok (.aload_n 1, 1) ∧ decode cX5_init 6 = .ok (.putfield 13, 3) ∧ decode cX5_init 9 = .ok (.aload_n 0, 1) ∧ decode cX5_init 10 = .ok (.aload_n 2, 1) ∧ decode cX5_init 11 = .ok (.putfield 17, 3) ∧ decode cX5_init 14 = .ok (.aload_n 0, 1) ∧ decode cX5_init 15 = .ok (.aload_n 3, 1) ∧ decode cX5_init 16 = .ok (.putfield 21, 3) ∧ decode cX5_init 19 = .ok (.aload_n 0, 1) ∧ decode cX5_init 20 = .ok (.bipush 60, 2) ∧ decode cX5_init 22 = .ok (.newarray .int, 2) ∧ decode cX5_init 24 = .ok (.putfield 25, 3) ∧ decode cX5_init 27 = .ok (.aload_n 0, 1) := by decide +kernel
theorem dX5_init_0 : decode cX5_init 0 = .ok (.aload_n 0, 1) := dX5_init_0g.1
theorem dX5_init_1 : decode cX5_init 1 = .ok (.invokespecial 7, 3) := dX5_init_0g.2.1
theorem dX5_init_4 : decode cX5_init 4 = .ok (.aload_n 0, 1) := dX5_init_0g.2.2.1
theorem dX5_init_5 : decode cX5_init 5 = .ok (.aload_n 1, 1) := dX5_init_0g.2.2.2.1
theorem dX5_init_6 : decode cX5_init 6 = .ok (.putfield 13, 3) := dX5_init_0g.2.2.2.2.1
theorem dX5_init_9 : decode cX5_init 9 = .ok (.aload_n 0, 1) := dX5_init_0g.2.2.2.2.2.1
theorem dX5_init_10 : decode cX5_init 10 = .ok (.aload_n 2, 1) := dX5_init_0g.2.2.2.2.2.2.1
theorem dX5_init_11 : decode cX5_init 11 = .ok (.putfield 17, 3) := dX5_init_0g.2.2.2.2.2.2.2.1
theorem dX5_init_14 : decode cX5_init 14 = .ok (.aload_n 0, 1) := dX5_init_0g.2.2.2.2.2.2.2.2.1
theorem dX5_init_15 : decode cX5_init 15 = .ok (.aload_n 3, 1) := dX5_init_0g.2.2.2.2.2.2.2.2.2.1
theorem dX5_init_16 : decode cX5_init 16 = .ok (.putfield 21, 3) := dX5_init_0g.2.2.2.2.2.2.2.2.2.2.1
theorem dX5_init_19 : decode cX5_init 19 = .ok (.aload_n 0, 1) := dX5_init_0g.2.2.2.2.2.2.2.2.2.2.2.1
theorem dX5_init_20 : decode cX5_init 20 = .ok (.bipush 60, 2) := dX5_init_0g.2.2.2.2.2.2.2.2.2.2.2.2.1
theorem dX5_init_22 : decode cX5_init 22 = .ok (.newarray .int, 2) := dX5_init_0g.2.2.2.2.2.2.2.2.2.2.2.2.2.1
theorem dX5_init_24 : decode cX5_init 24 = .ok (.putfield 25, 3) := dX5_init_0g.2.2.2.2.2.2.2.2.2.2.2.2.2.2.1
theorem dX5_init_27 : decode cX5_init 27 = .ok (.aload_n 0, 1) := dX5_init_0g.2.2.2.2.2.2.2.2.2.2.2.2.2.2.2
theorem dX5_init_28g : decode cX5_init 28 = .ok (.bipush 60, 2) ∧ decode cX5_init 30 = .ok (.newarray .int, 2) ∧ decode cX5_init 32 = .ok (.putfield 29, 3) ∧ decode cX5_init 35 = .ok (.aload_n 0, 1) ∧ decode cX5_init 36 = .ok (.bipush 80, 2) ∧ decode cX5_init 38 = .ok (.anewarray 34, 3) ∧ decode cX5_init 41 = .ok (.putfield 36, 3) ∧ decode cX5_init 44 = .ok (.aload_n 0, 1) ∧ decode cX5_init 45 = .ok (.sipush 960, 3) ∧ decode cX5_init 48 = .ok (.newarray .int, 2) ∧ decode cX5_init 50 = .ok (.putfield 40, 3) ∧ decode cX5_init 53 = .ok (.aload_n 0, 1) ∧ decode cX5_init 54 = .ok (.iconst 3, 1) ∧ decode cX5_init 55 = .ok (.newarray .int, 2) ∧ decode cX5_init 57 = .ok (.putfield 43, 3) ∧ decode cX5_init 60 = .ok (.aload_n 0, 1) := by decide +kernel
theorem dX5_init_28 : decode cX5_init 28 = .ok (.bipush 60, 2) := dX5_init_28g.1
theorem dX5_init_30 : decode cX5_init 30 = .ok (.newarray .int, 2) := dX5_init_28g.2.1
theorem dX5_init_32 : decode cX5_init 32 = .ok (.putfield 29, 3) := dX5_init_28g.2.2.1
theorem dX5_init_35 : decode cX5_init 35 = .ok (.aload_n 0, 1) := dX5_init_28g.2.2.2.1
theorem dX5_init_36 : decode cX5_init 36 = .ok (.bipush 80, 2) := dX5_init_28g.2.2.2.2.1
theorem dX5_init_38 : decode cX5_init 38 = .ok (.anewarray 34, 3) := dX5_init_28g.2.2.2.2.2.1
theorem dX5_init_41 : decode cX5_init 41 = .ok (.putfield 36, 3) := dX5_init_28g.2.2.2.2.2.2.1
theorem dX5_init_44 : decode cX5_init 44 = .ok (.aload_n 0, 1) := dX5_init_28g.2.2.2.2.2.2.2.1
theorem dX5_init_45 : decode cX5_init 45 = .ok (.sipush 960, 3) := dX5_init_28g.2.2.2.2.2.2.2.2.1
theorem dX5_init_48 : decode cX5_init 48 = .ok (.newarray .int, 2) := dX5_init_28g.2.2.2.2.2.2.2.2.2.1
theorem dX5_init_50 : decode cX5_init 50 = .ok (.putfield 40, 3) := dX5_init_28g.2.2.2.2.2.2.2.2.2.2.1
theorem dX5_init_53 : decode cX5_init 53 = .ok (.aload_n 0, 1) := dX5_init_28g.2.2.2.2.2.2.2.2.2.2.2.1
theorem dX5_init_54 : decode cX5_init 54 = .ok (.iconst 3, 1) := dX5_init_28g.2.2.2.2.2.2.2.2.2.2.2.2.1
theorem dX5_init_55 : decode cX5_init 55 = .ok (.newarray .int, 2) := dX5_init_28g.2.2.2.2.2.2.2.2.2.2.2.2.2.1
theorem dX5_init_57 : decode cX5_init 57 = .ok (.putfield 43, 3) := dX5_init_28g.2.2.2.2.2.2.2.2.2.2.2.2.2.2.1
theorem dX5_init_60 : decode cX5_init 60 = .ok (.aload_n 0, 1) := dX5_init_28g.2.2.2.2.2.2.2.2.2.2.2.2.2.2.2
theorem dX5_init_61g : decode cX5_init 61 = .ok (.iconst (-1), 1) ∧ decode cX5_init 62 = .ok (.putfield 46, 3) ∧ decode cX5_init 65 = .ok (.return_, 1) := by decide +kernel
theorem dX5_init_61 : decode cX5_init 61 = .ok (.iconst (-1), 1) := dX5_init_61g.1
theorem dX5_init_62 : decode cX5_init 62 = .ok (.putfield 46, 3) := dX5_init_61g.2.1
theorem dX5_init_65 : decode cX5_init 65 = .ok (.return_, 1) := dX5_init_61g.2.2

set_option maxHeartbeats 4000000 in
set_option maxRecDepth 100000 in
theorem n_X5 (l : Launch) (dC : Nat → ClassId) (dI : Nat → Nat → Nat) (ad : Nat → Nat → Nat) (cid : Nat → ClassId) (h0 : Nat) (p1 : Nat) (p2 : Nat) (p3 : Nat) : NM dC dI ad cid l yX5_init wm_X5_init ({ frames := 1, cells := 5, slots := 1163, locals := 20 }) [.ref h0, .ref p1, .ref p2, .ref p3] [(h0, .inr (5, [.null, .null, .null, .null, .null, .int 0, .null, .int 0, .null, .null, .null, .int 0, .int 0]))] (fun w => ∃ a b f x q, w = mkW cid h0 p1 p2 p3 a b f x q) 5 1163 := by
  intro sz
  refine Met.ofW (cc := cX5_init) (maxL := 4) (ret := none) (by decide) rfl ?_
  intro p e s m args below meth c s₁ B hml hv
  obtain ⟨rfl, hsz, hP, hK, hD0, hG⟩ := hv
  have hx := B.exec
  have hb := B.bytes
  have hr := B.returns
  have hts := atoms_spec (ws := wm_X5_init) B.pre
  have htb := fun (w : Cond) (h : w ∈ tb) => hts w (List.mem_cons_of_mem _ h)
  have hown : s.vm.findClass RX5 = some m.cls := findClass_of_methodNamed B.named
  have hlocks := B.notSynchronized
  have hin : meth.name = "<init>" := (name_of_methodNamed B.named B.method).1
  subst hsz
  have hD := hD0.self (sz := s.heap.size)
  generalize hAe : va_A [(h0, .inr (5, [.null, .null, .null, .null, .null, .int 0, .null, .int 0, .null, .null, .null, .int 0, .int 0]))] s.heap.size = A at hD hG ⊢
  have hA : ∀ q : Nat, s.heap.size ≤ q → A q := fun q h => by rw [← hAe]; exact Or.inr h
  have hS : va_S A s.heap s.heap [] := va_S.rf
  have hl := lv_entry ([.ref h0, .ref p1, .ref p2, .ref p3]) (n := 4) (Nat.le_of_ble_eq_true rfl)
  rw [lg_entry_eq]
  generalize (lg_sl ([.ref h0, .ref p1, .ref p2, .ref p3]) ++ List.replicate (4 - (lg_sl ([.ref h0, .ref p1, .ref p2, .ref p3])).length) Slot.unset).toArray = ls at hl ⊢
  have hl : lv_has ls 4 [(0, .ref h0), (1, .ref p1), (2, .ref p2), (3, .ref p3)] := hl
  have hP : va_P (dC, dI) vwCl ((h0, .inr (5, [.null, .null, .null, .null, .null, .int 0, .null, .int 0, .null, .null, .null, .int 0, .int 0])) :: []) s.heap := hP
  have hD : va_D A ((h0, .inr (5, [.null, .null, .null, .null, .null, .int 0, .null, .int 0, .null, .null, .null, .int 0, .int 0])) :: []) := hD
  refine n_gen (fun Q eQ => ?_)
  refine lv_aload_n hx hb dX5_init_0 rfl (lv_at hl 0 rfl) ?_
  refine W.objInit hx hb hown (htb _ kw_402) (htb _ kw_181) (htb _ kw_1369) rfl (by rw [hml]; exact hl.1) rfl dX5_init_1 (Nat.le_of_ble_eq_true rfl) (Nat.le_of_ble_eq_true rfl) ?_
  refine W.eq (g2 := F0 m 4 ls []) rfl ?_
  refine lv_aload_n hx hb dX5_init_4 rfl (lv_at hl 0 rfl) ?_
  refine lv_aload_n hx hb dX5_init_5 rfl (lv_at hl 1 rfl) ?_
  refine va_putF (D := (dC, dI)) (ci := 5) (v := .ref p1) (ty := tyX5 0) (C := RX5) (T := TX5) (N := 13) hx hb htb inX5 tyX5 tyX5_ok nmX5 hown hK hP hD hS 0 rfl rfl 0 (by decide) (htb _ kw_404) (fun _ h9 => h9) rfl hin rfl (tyX5_ok 0 (by decide)) rfl rfl (Nat.le_of_ble_eq_true rfl) dX5_init_6 (fun H locs hP hD hS => ?_)
  have hP : va_P (dC, dI) vwCl ((h0, .inr (5, [.ref p1, .null, .null, .null, .null, .int 0, .null, .int 0, .null, .null, .null, .int 0, .int 0])) :: []) H := hP
  have hD : va_D A ((h0, .inr (5, [.ref p1, .null, .null, .null, .null, .int 0, .null, .int 0, .null, .null, .null, .int 0, .int 0])) :: []) := hD
  refine lv_aload_n hx hb dX5_init_9 rfl (lv_at hl 0 rfl) ?_
  refine lv_aload_n hx hb dX5_init_10 rfl (lv_at hl 2 rfl) ?_
  refine va_putF (D := (dC, dI)) (ci := 5) (v := .ref p2) (ty := tyX5 1) (C := RX5) (T := TX5) (N := 13) hx hb htb inX5 tyX5 tyX5_ok nmX5 hown hK hP hD hS 0 rfl rfl 1 (by decide) (htb _ kw_405) (fun _ h9 => h9) rfl hin rfl (tyX5_ok 1 (by decide)) rfl rfl (Nat.le_of_ble_eq_true rfl) dX5_init_11 (fun H locs hP hD hS => ?_)
  have hP : va_P (dC, dI) vwCl ((h0, .inr (5, [.ref p1, .ref p2, .null, .null, .null, .int 0, .null, .int 0, .null, .null, .null, .int 0, .int 0])) :: []) H := hP
  have hD : va_D A ((h0, .inr (5, [.ref p1, .ref p2, .null, .null, .null, .int 0, .null, .int 0, .null, .null, .null, .int 0, .int 0])) :: []) := hD
  refine lv_aload_n hx hb dX5_init_14 rfl (lv_at hl 0 rfl) ?_
  refine lv_aload_n hx hb dX5_init_15 rfl (lv_at hl 3 rfl) ?_
  refine va_putF (D := (dC, dI)) (ci := 5) (v := .ref p3) (ty := tyX5 2) (C := RX5) (T := TX5) (N := 13) hx hb htb inX5 tyX5 tyX5_ok nmX5 hown hK hP hD hS 0 rfl rfl 2 (by decide) (htb _ kw_406) (fun _ h9 => h9) rfl hin rfl (tyX5_ok 2 (by decide)) rfl rfl (Nat.le_of_ble_eq_true rfl) dX5_init_16 (fun H locs hP hD hS => ?_)
  have hP : va_P (dC, dI) vwCl ((h0, .inr (5, [.ref p1, .ref p2, .ref p3, .null, .null, .int 0, .null, .int 0, .null, .null, .null, .int 0, .int 0])) :: []) H := hP
  have hD : va_D A ((h0, .inr (5, [.ref p1, .ref p2, .ref p3, .null, .null, .int 0, .null, .int 0, .null, .null, .null, .int 0, .int 0])) :: []) := hD
  refine lv_aload_n hx hb dX5_init_19 rfl (lv_at hl 0 rfl) ?_
  refine lv_bipush (v := 60) hx hb dX5_init_20 (by decide) ?_
  refine va_newa (D := (dC, dI)) (atype := .int) (ty := .int) (N' := 60) (a0 := (60, .inl (fun _ => 0))) hx hb (htb _ kw_205) rfl hK hP hD hS hA (fun _ => rfl) (by decide) (by decide) (by decide) (Nat.le_of_ble_eq_true rfl) (Nat.le_of_ble_eq_true rfl) dX5_init_22 (fun q_1 cA_2 H hK2 hP hD hS => ?_)
  obtain rfl : cA_2 = cid 22 := ty_eq (by decide) hK hK2 rfl
  have hP : va_P (dC, dI) vwCl ((q_1, .inl (cid 22, 60, .inl (fun _ => 0))) :: (h0, .inr (5, [.ref p1, .ref p2, .ref p3, .null, .null, .int 0, .null, .int 0, .null, .null, .null, .int 0, .int 0])) :: []) H := fr_P hP
  have hD : va_D A ((q_1, .inl (cid 22, 60, .inl (fun _ => 0))) :: (h0, .inr (5, [.ref p1, .ref p2, .ref p3, .null, .null, .int 0, .null, .int 0, .null, .null, .null, .int 0, .int 0])) :: []) := fr_D hD
  refine W.widen (k := 1) (n := 60) (Nat.le_of_ble_eq_true rfl) (Nat.le_of_ble_eq_true rfl) ?_
  refine va_putF (D := (dC, dI)) (ci := 5) (v := .ref q_1) (ty := tyX5 3) (C := RX5) (T := TX5) (N := 13) hx hb htb inX5 tyX5 tyX5_ok nmX5 hown hK hP hD hS 1 rfl rfl 3 (by decide) (htb _ kw_407) (fun _ h9 => h9) rfl hin rfl (tyX5_ok 3 (by decide)) rfl rfl (Nat.le_of_ble_eq_true rfl) dX5_init_24 (fun H locs hP hD hS => ?_)
  have hP : va_P (dC, dI) vwCl ((q_1, .inl (cid 22, 60, .inl (fun _ => 0))) :: (h0, .inr (5, [.ref p1, .ref p2, .ref p3, .ref q_1, .null, .int 0, .null, .int 0, .null, .null, .null, .int 0, .int 0])) :: []) H := hP
  have hD : va_D A ((q_1, .inl (cid 22, 60, .inl (fun _ => 0))) :: (h0, .inr (5, [.ref p1, .ref p2, .ref p3, .ref q_1, .null, .int 0, .null, .int 0, .null, .null, .null, .int 0, .int 0])) :: []) := hD
  refine lv_aload_n hx hb dX5_init_27 rfl (lv_at hl 0 rfl) ?_
  refine lv_bipush (v := 60) hx hb dX5_init_28 (by decide) ?_
  refine va_newa (D := (dC, dI)) (atype := .int) (ty := .int) (N' := 60) (a0 := (60, .inl (fun _ => 0))) hx hb (htb _ kw_205) rfl hK hP hD hS hA (fun _ => rfl) (by decide) (by decide) (by decide) (Nat.le_of_ble_eq_true rfl) (Nat.le_of_ble_eq_true rfl) dX5_init_30 (fun q_3 cA_4 H hK2 hP hD hS => ?_)
  obtain rfl : cA_4 = cid 23 := ty_eq (by decide) hK hK2 rfl
  have hP : va_P (dC, dI) vwCl ((q_3, .inl (cid 23, 60, .inl (fun _ => 0))) :: (q_1, .inl (cid 22, 60, .inl (fun _ => 0))) :: (h0, .inr (5, [.ref p1, .ref p2, .ref p3, .ref q_1, .null, .int 0, .null, .int 0, .null, .null, .null, .int 0, .int 0])) :: []) H := fr_P hP
  have hD : va_D A ((q_3, .inl (cid 23, 60, .inl (fun _ => 0))) :: (q_1, .inl (cid 22, 60, .inl (fun _ => 0))) :: (h0, .inr (5, [.ref p1, .ref p2, .ref p3, .ref q_1, .null, .int 0, .null, .int 0, .null, .null, .null, .int 0, .int 0])) :: []) := fr_D hD
  refine W.widen (k := 2) (n := 120) (Nat.le_of_ble_eq_true rfl) (Nat.le_of_ble_eq_true rfl) ?_
  refine va_putF (D := (dC, dI)) (ci := 5) (v := .ref q_3) (ty := tyX5 4) (C := RX5) (T := TX5) (N := 13) hx hb htb inX5 tyX5 tyX5_ok nmX5 hown hK hP hD hS 2 rfl rfl 4 (by decide) (htb _ kw_408) (fun _ h9 => h9) rfl hin rfl (tyX5_ok 4 (by decide)) rfl rfl (Nat.le_of_ble_eq_true rfl) dX5_init_32 (fun H locs hP hD hS => ?_)
  have hP : va_P (dC, dI) vwCl ((q_3, .inl (cid 23, 60, .inl (fun _ => 0))) :: (q_1, .inl (cid 22, 60, .inl (fun _ => 0))) :: (h0, .inr (5, [.ref p1, .ref p2, .ref p3, .ref q_1, .ref q_3, .int 0, .null, .int 0, .null, .null, .null, .int 0, .int 0])) :: []) H := hP
  have hD : va_D A ((q_3, .inl (cid 23, 60, .inl (fun _ => 0))) :: (q_1, .inl (cid 22, 60, .inl (fun _ => 0))) :: (h0, .inr (5, [.ref p1, .ref p2, .ref p3, .ref q_1, .ref q_3, .int 0, .null, .int 0, .null, .null, .null, .int 0, .int 0])) :: []) := hD
  refine lv_aload_n hx hb dX5_init_35 rfl (lv_at hl 0 rfl) ?_
  refine lv_bipush (v := 80) hx hb dX5_init_36 (by decide) ?_
  refine va_newq (D := (dC, dI)) (N' := 80) (C := RX1) hx hb hown (htb _ kw_403) hG.1.1.2.2.2 hK hP hD hS hA (by decide) (by decide) (by decide) (Nat.le_of_ble_eq_true rfl) (Nat.le_of_ble_eq_true rfl) dX5_init_38 (fun q_5 cA_6 H hK2 hP hD hS => ?_)
  obtain rfl : cA_6 = cid 24 := ty_eq (by decide) hK hK2 rfl
  have hP : va_P (dC, dI) vwCl ((q_5, .inl (cid 24, 80, .inr (.inr (.inr (.inr (fun _ => none)))))) :: (q_3, .inl (cid 23, 60, .inl (fun _ => 0))) :: (q_1, .inl (cid 22, 60, .inl (fun _ => 0))) :: (h0, .inr (5, [.ref p1, .ref p2, .ref p3, .ref q_1, .ref q_3, .int 0, .null, .int 0, .null, .null, .null, .int 0, .int 0])) :: []) H := fr_P hP
  have hD : va_D A ((q_5, .inl (cid 24, 80, .inr (.inr (.inr (.inr (fun _ => none)))))) :: (q_3, .inl (cid 23, 60, .inl (fun _ => 0))) :: (q_1, .inl (cid 22, 60, .inl (fun _ => 0))) :: (h0, .inr (5, [.ref p1, .ref p2, .ref p3, .ref q_1, .ref q_3, .int 0, .null, .int 0, .null, .null, .null, .int 0, .int 0])) :: []) := fr_D hD
  refine W.widen (k := 3) (n := 200) (Nat.le_of_ble_eq_true rfl) (Nat.le_of_ble_eq_true rfl) ?_
  refine va_putF (D := (dC, dI)) (ci := 5) (v := .ref q_5) (ty := tyX5 6) (C := RX5) (T := TX5) (N := 13) hx hb htb inX5 tyX5 tyX5_ok nmX5 hown hK hP hD hS 3 rfl rfl 6 (by decide) (htb _ kw_410) (fun _ h9 => h9) rfl hin rfl (tyX5_ok 6 (by decide)) rfl rfl (Nat.le_of_ble_eq_true rfl) dX5_init_41 (fun H locs hP hD hS => ?_)
  have hP : va_P (dC, dI) vwCl ((q_5, .inl (cid 24, 80, .inr (.inr (.inr (.inr (fun _ => none)))))) :: (q_3, .inl (cid 23, 60, .inl (fun _ => 0))) :: (q_1, .inl (cid 22, 60, .inl (fun _ => 0))) :: (h0, .inr (5, [.ref p1, .ref p2, .ref p3, .ref q_1, .ref q_3, .int 0, .ref q_5, .int 0, .null, .null, .null, .int 0, .int 0])) :: []) H := hP
  have hD : va_D A ((q_5, .inl (cid 24, 80, .inr (.inr (.inr (.inr (fun _ => none)))))) :: (q_3, .inl (cid 23, 60, .inl (fun _ => 0))) :: (q_1, .inl (cid 22, 60, .inl (fun _ => 0))) :: (h0, .inr (5, [.ref p1, .ref p2, .ref p3, .ref q_1, .ref q_3, .int 0, .ref q_5, .int 0, .null, .null, .null, .int 0, .int 0])) :: []) := hD
  refine lv_aload_n hx hb dX5_init_44 rfl (lv_at hl 0 rfl) ?_
  refine lv_sipush (v := 960) hx hb dX5_init_45 (by decide) ?_
  refine va_newa (D := (dC, dI)) (atype := .int) (ty := .int) (N' := 960) (a0 := (960, .inl (fun _ => 0))) hx hb (htb _ kw_205) rfl hK hP hD hS hA (fun _ => rfl) (by decide) (by decide) (by decide) (Nat.le_of_ble_eq_true rfl) (Nat.le_of_ble_eq_true rfl) dX5_init_48 (fun q_7 cA_8 H hK2 hP hD hS => ?_)
  obtain rfl : cA_8 = cid 25 := ty_eq (by decide) hK hK2 rfl
  have hP : va_P (dC, dI) vwCl ((q_7, .inl (cid 25, 960, .inl (fun _ => 0))) :: (q_5, .inl (cid 24, 80, .inr (.inr (.inr (.inr (fun _ => none)))))) :: (q_3, .inl (cid 23, 60, .inl (fun _ => 0))) :: (q_1, .inl (cid 22, 60, .inl (fun _ => 0))) :: (h0, .inr (5, [.ref p1, .ref p2, .ref p3, .ref q_1, .ref q_3, .int 0, .ref q_5, .int 0, .null, .null, .null, .int 0, .int 0])) :: []) H := fr_P hP
  have hD : va_D A ((q_7, .inl (cid 25, 960, .inl (fun _ => 0))) :: (q_5, .inl (cid 24, 80, .inr (.inr (.inr (.inr (fun _ => none)))))) :: (q_3, .inl (cid 23, 60, .inl (fun _ => 0))) :: (q_1, .inl (cid 22, 60, .inl (fun _ => 0))) :: (h0, .inr (5, [.ref p1, .ref p2, .ref p3, .ref q_1, .ref q_3, .int 0, .ref q_5, .int 0, .null, .null, .null, .int 0, .int 0])) :: []) := fr_D hD
  refine W.widen (k := 4) (n := 1160) (Nat.le_of_ble_eq_true rfl) (Nat.le_of_ble_eq_true rfl) ?_
  refine va_putF (D := (dC, dI)) (ci := 5) (v := .ref q_7) (ty := tyX5 8) (C := RX5) (T := TX5) (N := 13) hx hb htb inX5 tyX5 tyX5_ok nmX5 hown hK hP hD hS 4 rfl rfl 8 (by decide) (htb _ kw_412) (fun _ h9 => h9) rfl hin rfl (tyX5_ok 8 (by decide)) rfl rfl (Nat.le_of_ble_eq_true rfl) dX5_init_50 (fun H locs hP hD hS => ?_)
  have hP : va_P (dC, dI) vwCl ((q_7, .inl (cid 25, 960, .inl (fun _ => 0))) :: (q_5, .inl (cid 24, 80, .inr (.inr (.inr (.inr (fun _ => none)))))) :: (q_3, .inl (cid 23, 60, .inl (fun _ => 0))) :: (q_1, .inl (cid 22, 60, .inl (fun _ => 0))) :: (h0, .inr (5, [.ref p1, .ref p2, .ref p3, .ref q_1, .ref q_3, .int 0, .ref q_5, .int 0, .ref q_7, .null, .null, .int 0, .int 0])) :: []) H := hP
  have hD : va_D A ((q_7, .inl (cid 25, 960, .inl (fun _ => 0))) :: (q_5, .inl (cid 24, 80, .inr (.inr (.inr (.inr (fun _ => none)))))) :: (q_3, .inl (cid 23, 60, .inl (fun _ => 0))) :: (q_1, .inl (cid 22, 60, .inl (fun _ => 0))) :: (h0, .inr (5, [.ref p1, .ref p2, .ref p3, .ref q_1, .ref q_3, .int 0, .ref q_5, .int 0, .ref q_7, .null, .null, .int 0, .int 0])) :: []) := hD
  refine lv_aload_n hx hb dX5_init_53 rfl (lv_at hl 0 rfl) ?_
  refine lv_iconst (v := 3) hx hb dX5_init_54 (by decide) ?_
  refine va_newa (D := (dC, dI)) (atype := .int) (ty := .int) (N' := 3) (a0 := (3, .inl (fun _ => 0))) hx hb (htb _ kw_205) rfl hK hP hD hS hA (fun _ => rfl) (by decide) (by decide) (by decide) (Nat.le_of_ble_eq_true rfl) (Nat.le_of_ble_eq_true rfl) dX5_init_55 (fun q_9 cA_10 H hK2 hP hD hS => ?_)
  obtain rfl : cA_10 = cid 26 := ty_eq (by decide) hK hK2 rfl
  have hP : va_P (dC, dI) vwCl ((q_9, .inl (cid 26, 3, .inl (fun _ => 0))) :: (q_7, .inl (cid 25, 960, .inl (fun _ => 0))) :: (q_5, .inl (cid 24, 80, .inr (.inr (.inr (.inr (fun _ => none)))))) :: (q_3, .inl (cid 23, 60, .inl (fun _ => 0))) :: (q_1, .inl (cid 22, 60, .inl (fun _ => 0))) :: (h0, .inr (5, [.ref p1, .ref p2, .ref p3, .ref q_1, .ref q_3, .int 0, .ref q_5, .int 0, .ref q_7, .null, .null, .int 0, .int 0])) :: []) H := fr_P hP
  have hD : va_D A ((q_9, .inl (cid 26, 3, .inl (fun _ => 0))) :: (q_7, .inl (cid 25, 960, .inl (fun _ => 0))) :: (q_5, .inl (cid 24, 80, .inr (.inr (.inr (.inr (fun _ => none)))))) :: (q_3, .inl (cid 23, 60, .inl (fun _ => 0))) :: (q_1, .inl (cid 22, 60, .inl (fun _ => 0))) :: (h0, .inr (5, [.ref p1, .ref p2, .ref p3, .ref q_1, .ref q_3, .int 0, .ref q_5, .int 0, .ref q_7, .null, .null, .int 0, .int 0])) :: []) := fr_D hD
  refine W.widen (k := 5) (n := 1163) (Nat.le_of_ble_eq_true rfl) (Nat.le_of_ble_eq_true rfl) ?_
  refine va_putF (D := (dC, dI)) (ci := 5) (v := .ref q_9) (ty := tyX5 9) (C := RX5) (T := TX5) (N := 13) hx hb htb inX5 tyX5 tyX5_ok nmX5 hown hK hP hD hS 5 rfl rfl 9 (by decide) (htb _ kw_413) (fun _ h9 => h9) rfl hin rfl (tyX5_ok 9 (by decide)) rfl rfl (Nat.le_of_ble_eq_true rfl) dX5_init_57 (fun H locs hP hD hS => ?_)
  have hP : va_P (dC, dI) vwCl ((q_9, .inl (cid 26, 3, .inl (fun _ => 0))) :: (q_7, .inl (cid 25, 960, .inl (fun _ => 0))) :: (q_5, .inl (cid 24, 80, .inr (.inr (.inr (.inr (fun _ => none)))))) :: (q_3, .inl (cid 23, 60, .inl (fun _ => 0))) :: (q_1, .inl (cid 22, 60, .inl (fun _ => 0))) :: (h0, .inr (5, [.ref p1, .ref p2, .ref p3, .ref q_1, .ref q_3, .int 0, .ref q_5, .int 0, .ref q_7, .ref q_9, .null, .int 0, .int 0])) :: []) H := hP
  have hD : va_D A ((q_9, .inl (cid 26, 3, .inl (fun _ => 0))) :: (q_7, .inl (cid 25, 960, .inl (fun _ => 0))) :: (q_5, .inl (cid 24, 80, .inr (.inr (.inr (.inr (fun _ => none)))))) :: (q_3, .inl (cid 23, 60, .inl (fun _ => 0))) :: (q_1, .inl (cid 22, 60, .inl (fun _ => 0))) :: (h0, .inr (5, [.ref p1, .ref p2, .ref p3, .ref q_1, .ref q_3, .int 0, .ref q_5, .int 0, .ref q_7, .ref q_9, .null, .int 0, .int 0])) :: []) := hD
  refine lv_aload_n hx hb dX5_init_60 rfl (lv_at hl 0 rfl) ?_
  refine lv_iconst (v := (-1)) hx hb dX5_init_61 (by decide) ?_
  refine va_put (D := (dC, dI)) (ci := 5) (v := .int (-1)) (ty := tyX5 12) (C := RX5) (T := TX5) (N := 13) hx hb htb inX5 tyX5 tyX5_ok nmX5 hown hK hP hD hS 5 rfl rfl 12 (by decide) (htb _ kw_416) (fun _ h9 => h9) rfl (tyX5_ok 12 (by decide)) rfl rfl (Nat.le_of_ble_eq_true rfl) dX5_init_62 (fun H locs hP hD hS => ?_)
  have hP : va_P (dC, dI) vwCl ((q_9, .inl (cid 26, 3, .inl (fun _ => 0))) :: (q_7, .inl (cid 25, 960, .inl (fun _ => 0))) :: (q_5, .inl (cid 24, 80, .inr (.inr (.inr (.inr (fun _ => none)))))) :: (q_3, .inl (cid 23, 60, .inl (fun _ => 0))) :: (q_1, .inl (cid 22, 60, .inl (fun _ => 0))) :: (h0, .inr (5, [.ref p1, .ref p2, .ref p3, .ref q_1, .ref q_3, .int 0, .ref q_5, .int 0, .ref q_7, .ref q_9, .null, .int 0, .int (-1)])) :: []) H := hP
  have hD : va_D A ((q_9, .inl (cid 26, 3, .inl (fun _ => 0))) :: (q_7, .inl (cid 25, 960, .inl (fun _ => 0))) :: (q_5, .inl (cid 24, 80, .inr (.inr (.inr (.inr (fun _ => none)))))) :: (q_3, .inl (cid 23, 60, .inl (fun _ => 0))) :: (q_1, .inl (cid 22, 60, .inl (fun _ => 0))) :: (h0, .inr (5, [.ref p1, .ref p2, .ref p3, .ref q_1, .ref q_3, .int 0, .ref q_5, .int 0, .ref q_7, .ref q_9, .null, .int 0, .int (-1)])) :: []) := hD
  rw [eQ]
  exact W.vret hx hb hr (fun t ht hW => ⟨⟨(q_9, .inl (cid 26, 3, .inl (fun _ => 0))) :: (q_7, .inl (cid 25, 960, .inl (fun _ => 0))) :: (q_5, .inl (cid 24, 80, .inr (.inr (.inr (.inr (fun _ => none)))))) :: (q_3, .inl (cid 23, 60, .inl (fun _ => 0))) :: (q_1, .inl (cid 22, 60, .inl (fun _ => 0))) :: (h0, .inr (5, [.ref p1, .ref p2, .ref p3, .ref q_1, .ref q_3, .int 0, .ref q_5, .int 0, .ref q_7, .ref q_9, .null, .int 0, .int (-1)])) :: [], rfl, ⟨_, _, _, _, _, rfl⟩, by rw [ht]; exact hP, va_K.moved hW.alike hK, hD⟩, hS.F ht⟩) hS.2.2 dX5_init_65
end
section
theorem dX6_init_0g : decode cX6_init 0 = .ok (.aload_n 0, 1) ∧ decode cX6_init 1 = .ok (.invokespecial 3, 3) ∧ decode cX6_init 4 = .ok (.aload_n 0, 1) ∧ decode cX6_init 5 = .ok (.bipush 80, 2) ∧ decode cX6_init 7 = .ok (.anewarray 11, 3) ∧ decode cX6_init 10 = .ok (.putfield 13, 3) ∧ decode cX6_init 13 = .ok (.iconst 0, 1) ∧ decode cX6_init 14 = .ok (.istore_n 2, 1) ∧ decode cX6_init 15 = .ok (.iload_n 2, 1) ∧ decode cX6_init 16 = .ok (.bipush 80, 2) ∧ decode cX6_init 18 = .ok (.if_icmp .ge 22, 3) ∧ decode cX6_init 21 = .ok (.aload_n 0, 1) ∧ decode cX6_init 22 = .ok (.getfield 13, 3) ∧ decode cX6_init 25 = .ok (.iload_n 2, 1) ∧ decode cX6_init 26 = .ok (.new 11, 3) ∧ decode cX6_init 29 = .ok (.dup, 1) := by decide +kernel
theorem dX6_init_0 : decode cX6_init 0 = .ok (.aload_n 0, 1) := dX6_init_0g.1
theorem dX6_init_1 : decode cX6_init 1 = .ok (.invokespecial 3, 3) := dX6_init_0g.2.1
theorem dX6_init_4 : decode cX6_init 4 = .ok (.aload_n 0, 1) := dX6_init_0g.2.2.1
theorem dX6_init_5 : decode cX6_init 5 = .ok (.bipush 80, 2) := dX6_init_0g.2.2.2.1
theorem dX6_init_7 : decode cX6_init 7 = .ok (.anewarray 11, 3) := dX6_init_0g.2.2.2.2.1
theorem dX6_init_10 : decode cX6_init 10 = .ok (.putfield 13, 3) := dX6_init_0g.2.2.2.2.2.1
theorem dX6_init_13 : decode cX6_init 13 = .ok (.iconst 0, 1) := dX6_init_0g.2.2.2.2.2.2.1
theorem dX6_init_14 : decode cX6_init 14 = .ok (.istore_n 2, 1) := dX6_init_0g.2.2.2.2.2.2.2.1
theorem dX6_init_15 : decode cX6_init 15 = .ok (.iload_n 2, 1) := dX6_init_0g.2.2.2.2.2.2.2.2.1
theorem dX6_init_16 : decode cX6_init 16 = .ok (.bipush 80, 2) := dX6_init_0g.2.2.2.2.2.2.2.2.2.1
theorem dX6_init_18 : decode cX6_init 18 = .ok (.if_icmp .ge 22, 3) := dX6_init_0g.2.2.2.2.2.2.2.2.2.2.1
theorem dX6_init_21 : decode cX6_init 21 = .ok (.aload_n 0, 1) := dX6_init_0g.2.2.2.2.2.2.2.2.2.2.2.1
theorem dX6_init_22 : decode cX6_init 22 = .ok (.getfield 13, 3) := dX6_init_0g.2.2.2.2.2.2.2.2.2.2.2.2.1
theorem dX6_init_25 : decode cX6_init 25 = .ok (.iload_n 2, 1) := dX6_init_0g.2.2.2.2.2.2.2.2.2.2.2.2.2.1
theorem dX6_init_26 : decode cX6_init 26 = .ok (.new 11, 3) := dX6_init_0g.2.2.2.2.2.2.2.2.2.2.2.2.2.2.1
theorem dX6_init_29 : decode cX6_init 29 = .ok (.dup, 1) := dX6_init_0g.2.2.2.2.2.2.2.2.2.2.2.2.2.2.2
theorem dX6_init_30g : decode cX6_init 30 = .ok (.invokespecial 17, 3) ∧ decode cX6_init 33 = .ok (.aastore, 1) ∧ decode cX6_init 34 = .ok (.iinc 2 1, 3) ∧ decode cX6_init 37 = .ok (.goto (-22), 3) ∧ decode cX6_init 40 = .ok (.aload_n 0, 1) ∧ decode cX6_init 41 = .ok (.iload_n 1, 1) ∧ decode cX6_init 42 = .ok (.iconst 5, 1) ∧ decode cX6_init 43 = .ok (.idiv, 1) ∧ decode cX6_init 44 = .ok (.newarray .long, 2) ∧ decode cX6_init 46 = .ok (.putfield 18, 3) ∧ decode cX6_init 49 = .ok (.aload_n 0, 1) ∧ decode cX6_init 50 = .ok (.iload_n 1, 1) ∧ decode cX6_init 51 = .ok (.iconst 5, 1) ∧ decode cX6_init 52 = .ok (.idiv, 1) ∧ decode cX6_init 53 = .ok (.newarray .int, 2) ∧ decode cX6_init 55 = .ok (.putfield 22, 3) := by decide +kernel
theorem dX6_init_30 : decode cX6_init 30 = .ok (.invokespecial 17, 3) := dX6_init_30g.1
theorem dX6_init_33 : decode cX6_init 33 = .ok (.aastore, 1) := dX6_init_30g.2.1
theorem dX6_init_34 : decode cX6_init 34 = .ok (.iinc 2 1, 3) := dX6_init_30g.2.2.1
theorem dX6_init_37 : decode cX6_init 37 = .ok (.goto (-22), 3) := dX6_init_30g.2.2.2.1
theorem dX6_init_40 : decode cX6_init 40 = .ok (.aload_n 0, 1) := dX6_init_30g.2.2.2.2.1
theorem dX6_init_41 : decode cX6_init 41 = .ok (.iload_n 1, 1) := dX6_init_30g.2.2.2.2.2.1
theorem dX6_init_42 : decode cX6_init 42 = .ok (.iconst 5, 1) := dX6_init_30g.2.2.2.2.2.2.1
theorem dX6_init_43 : decode cX6_init 43 = .ok (.idiv, 1) := dX6_init_30g.2.2.2.2.2.2.2.1
theorem dX6_init_44 : decode cX6_init 44 = .ok (.newarray .long, 2) := dX6_init_30g.2.2.2.2.2.2.2.2.1
theorem dX6_init_46 : decode cX6_init 46 = .ok (.putfield 18, 3) := dX6_init_30g.2.2.2.2.2.2.2.2.2.1
theorem dX6_init_49 : decode cX6_init 49 = .ok (.aload_n 0, 1) := dX6_init_30g.2.2.2.2.2.2.2.2.2.2.1
theorem dX6_init_50 : decode cX6_init 50 = .ok (.iload_n 1, 1) := dX6_init_30g.2.2.2.2.2.2.2.2.2.2.2.1
theorem dX6_init_51 : decode cX6_init 51 = .ok (.iconst 5, 1) := dX6_init_30g.2.2.2.2.2.2.2.2.2.2.2.2.1
theorem dX6_init_52 : decode cX6_init 52 = .ok (.idiv, 1) := dX6_init_30g.2.2.2.2.2.2.2.2.2.2.2.2.2.1
theorem dX6_init_53 : decode cX6_init 53 = .ok (.newarray .int, 2) := dX6_init_30g.2.2.2.2.2.2.2.2.2.2.2.2.2.2.1
theorem dX6_init_55 : decode cX6_init 55 = .ok (.putfield 22, 3) := dX6_init_30g.2.2.2.2.2.2.2.2.2.2.2.2.2.2.2
theorem dX6_init_58g : decode cX6_init 58 = .ok (.aload_n 0, 1) ∧ decode cX6_init 59 = .ok (.iload_n 1, 1) ∧ decode cX6_init 60 = .ok (.iconst 5, 1) ∧ decode cX6_init 61 = .ok (.idiv, 1) ∧ decode cX6_init 62 = .ok (.newarray .int, 2) ∧ decode cX6_init 64 = .ok (.putfield 26, 3) ∧ decode cX6_init 67 = .ok (.aload_n 0, 1) ∧ decode cX6_init 68 = .ok (.iload_n 1, 1) ∧ decode cX6_init 69 = .ok (.newarray .char, 2) ∧ decode cX6_init 71 = .ok (.putfield 29, 3) ∧ decode cX6_init 74 = .ok (.return_, 1) := by decide +kernel
theorem dX6_init_58 : decode cX6_init 58 = .ok (.aload_n 0, 1) := dX6_init_58g.1
theorem dX6_init_59 : decode cX6_init 59 = .ok (.iload_n 1, 1) := dX6_init_58g.2.1
theorem dX6_init_60 : decode cX6_init 60 = .ok (.iconst 5, 1) := dX6_init_58g.2.2.1
theorem dX6_init_61 : decode cX6_init 61 = .ok (.idiv, 1) := dX6_init_58g.2.2.2.1
theorem dX6_init_62 : decode cX6_init 62 = .ok (.newarray .int, 2) := dX6_init_58g.2.2.2.2.1
theorem dX6_init_64 : decode cX6_init 64 = .ok (.putfield 26, 3) := dX6_init_58g.2.2.2.2.2.1
theorem dX6_init_67 : decode cX6_init 67 = .ok (.aload_n 0, 1) := dX6_init_58g.2.2.2.2.2.2.1
theorem dX6_init_68 : decode cX6_init 68 = .ok (.iload_n 1, 1) := dX6_init_58g.2.2.2.2.2.2.2.1
theorem dX6_init_69 : decode cX6_init 69 = .ok (.newarray .char, 2) := dX6_init_58g.2.2.2.2.2.2.2.2.1
theorem dX6_init_71 : decode cX6_init 71 = .ok (.putfield 29, 3) := dX6_init_58g.2.2.2.2.2.2.2.2.2.1
theorem dX6_init_74 : decode cX6_init 74 = .ok (.return_, 1) := dX6_init_58g.2.2.2.2.2.2.2.2.2.2

set_option maxHeartbeats 4000000 in
set_option maxRecDepth 100000 in
theorem n_X6 (l : Launch) (dC : Nat → ClassId) (dI : Nat → Nat → Nat) (ad : Nat → Nat → Nat) (cid : Nat → ClassId) (h0 : Nat) : NM dC dI ad cid l yX6_init wm_X6_init ({ frames := 2, cells := 165, slots := 5600, locals := 40 }) [.ref h0, .int 1200] [(h0, .inr (6, [.null, .null, .null, .null, .null, .int 0, .int 0, .int 0]))] (fun w => ∃ u : PU, u.1.1 = h0 ∧ w = paW cid u ∧ paP u) 165 5600 := by
  intro sz
  refine Met.ofW (cc := cX6_init) (maxL := 3) (ret := none) (by decide) rfl ?_
  intro p e s m args below meth c s₁ B hml hv
  obtain ⟨rfl, hsz, hP, hK, hD0, hG⟩ := hv
  have hx := B.exec
  have hb := B.bytes
  have hr := B.returns
  have hts := atoms_spec (ws := wm_X6_init) B.pre
  have htb := fun (w : Cond) (h : w ∈ tb) => hts w (List.mem_cons_of_mem _ h)
  have hown : s.vm.findClass RX6 = some m.cls := findClass_of_methodNamed B.named
  have hlocks := B.notSynchronized
  have hin : meth.name = "<init>" := (name_of_methodNamed B.named B.method).1
  subst hsz
  have hD := hD0.self (sz := s.heap.size)
  generalize hAe : va_A [(h0, .inr (6, [.null, .null, .null, .null, .null, .int 0, .int 0, .int 0]))] s.heap.size = A at hD hG ⊢
  have hA : ∀ q : Nat, s.heap.size ≤ q → A q := fun q h => by rw [← hAe]; exact Or.inr h
  have hS : va_S A s.heap s.heap [] := va_S.rf
  have hl := lv_entry ([.ref h0, .int 1200]) (n := 3) (Nat.le_of_ble_eq_true rfl)
  rw [lg_entry_eq]
  generalize (lg_sl ([.ref h0, .int 1200]) ++ List.replicate (3 - (lg_sl ([.ref h0, .int 1200])).length) Slot.unset).toArray = ls at hl ⊢
  have hl : lv_has ls 3 [(0, .ref h0), (1, .int 1200)] := hl
  have hP : va_P (dC, dI) vwCl ((h0, .inr (6, [.null, .null, .null, .null, .null, .int 0, .int 0, .int 0])) :: []) s.heap := hP
  have hD : va_D A ((h0, .inr (6, [.null, .null, .null, .null, .null, .int 0, .int 0, .int 0])) :: []) := hD
  refine n_gen (fun Q eQ => ?_)
  refine lv_aload_n hx hb dX6_init_0 rfl (lv_at hl 0 rfl) ?_
  refine W.objInit hx hb hown (htb _ kw_222) (htb _ kw_181) (htb _ kw_1369) rfl (by rw [hml]; exact hl.1) rfl dX6_init_1 (Nat.le_of_ble_eq_true rfl) (Nat.le_of_ble_eq_true rfl) ?_
  refine W.eq (g2 := F0 m 4 ls []) rfl ?_
  refine lv_aload_n hx hb dX6_init_4 rfl (lv_at hl 0 rfl) ?_
  refine lv_bipush (v := 80) hx hb dX6_init_5 (by decide) ?_
  refine va_newq (D := (dC, dI)) (N' := 80) (C := RX3) hx hb hown (htb _ kw_223) hG.1.1.2.2.1 hK hP hD hS hA (by decide) (by decide) (by decide) (Nat.le_of_ble_eq_true rfl) (Nat.le_of_ble_eq_true rfl) dX6_init_7 (fun q_1 cA_2 H hK2 hP hD hS => ?_)
  obtain rfl : cA_2 = cid 14 := ty_eq (by decide) hK hK2 rfl
  have hP : va_P (dC, dI) vwCl ((q_1, .inl (cid 14, 80, .inr (.inr (.inr (.inr (fun _ => none)))))) :: (h0, .inr (6, [.null, .null, .null, .null, .null, .int 0, .int 0, .int 0])) :: []) H := fr_P hP
  have hD : va_D A ((q_1, .inl (cid 14, 80, .inr (.inr (.inr (.inr (fun _ => none)))))) :: (h0, .inr (6, [.null, .null, .null, .null, .null, .int 0, .int 0, .int 0])) :: []) := fr_D hD
  refine W.widen (k := 1) (n := 80) (Nat.le_of_ble_eq_true rfl) (Nat.le_of_ble_eq_true rfl) ?_
  refine va_putF (D := (dC, dI)) (ci := 6) (v := .ref q_1) (ty := tyX6 0) (C := RX6) (T := TX6) (N := 8) hx hb htb inX6 tyX6 tyX6_ok nmX6 hown hK hP hD hS 1 rfl rfl 0 (by decide) (htb _ kw_298) (fun _ h9 => h9) rfl hin rfl (tyX6_ok 0 (by decide)) rfl rfl (Nat.le_of_ble_eq_true rfl) dX6_init_10 (fun H locs hP hD hS => ?_)
  have hP : va_P (dC, dI) vwCl ((q_1, .inl (cid 14, 80, .inr (.inr (.inr (.inr (fun _ => none)))))) :: (h0, .inr (6, [.ref q_1, .null, .null, .null, .null, .int 0, .int 0, .int 0])) :: []) H := hP
  have hD : va_D A ((q_1, .inl (cid 14, 80, .inr (.inr (.inr (.inr (fun _ => none)))))) :: (h0, .inr (6, [.ref q_1, .null, .null, .null, .null, .int 0, .int 0, .int 0])) :: []) := hD
  refine lv_iconst (v := 0) hx hb dX6_init_13 (by decide) ?_
  refine lv_istore_n (lv' := [(2, .int 0), (0, .ref h0), (1, .int 1200)]) hx hb dX6_init_14 rfl hl (by decide) rfl (fun ls hl => ?_)
  have hloop : ∀ (n i : Nat) (adr : Nat → Nat × Nat) (f4 : Nat → Option Nat) (H : Heap) (locs : List Loc) (ls : Array Slot), i + n = 80 → (∀ j, j < i → f4 j = some (adr j).1) → va_P (dC, dI) vwCl ((q_1, .inl (cid 14, 80, .inr (.inr (.inr (.inr f4))))) :: (h0, .inr (6, [.ref q_1, .null, .null, .null, .null, .int 0, .int 0, .int 0])) :: tl (elF cid) adr i) H → va_D A ((q_1, .inl (cid 14, 80, .inr (.inr (.inr (.inr f4))))) :: (h0, .inr (6, [.ref q_1, .null, .null, .null, .null, .int 0, .int 0, .int 0])) :: tl (elF cid) adr i) → va_S A s.heap H locs → lv_has ls 3 [(2, .int (nI i)), (0, .ref h0), (1, .int 1200)] → W p l e (headSpec wm_X6_init ({ frames := 2, cells := 165, slots := 5600, locals := 40 })).room s m ([.ref h0, .int 1200] : List Value).toArray below meth c H locs (i * 2 + 1) (i * 45 + 80) Q (F0 m 15 ls []) := by
    intro n
    induction n with
    | zero =>
      intro i adr f4 H locs ls hi9 hf4 hP hD hS hl
      obtain rfl : i = 80 := by omega
      have hl : lv_has ls 3 [(2, .int 80), (0, .ref h0), (1, .int 1200)] := hl
      refine W.widen (k := 161) (n := 3680) (Nat.le_of_ble_eq_true rfl) (Nat.le_of_ble_eq_true rfl) ?_
      refine lv_iload_n hx hb dX6_init_15 rfl (lv_at hl 0 rfl) ?_
      refine lv_bipush (v := 80) hx hb dX6_init_16 (by decide) ?_
      refine lv_icmp_ge (tgt := 40) hx hb dX6_init_18 (by decide) (fun _ => ?_) (fun c9 => absurd (by decide) c9)
      refine lv_aload_n hx hb dX6_init_40 rfl (lv_at hl 1 rfl) ?_
      refine lv_iload_n hx hb dX6_init_41 rfl (lv_at hl 2 rfl) ?_
      refine lv_iconst (v := 5) hx hb dX6_init_42 (by decide) ?_
      refine lv_idiv hx hb dX6_init_43 (by decide) ?_
      refine lv_topi (fun z_3 ez_3 => ?_)
      obtain rfl : z_3 = 240 := ez_3.trans (by decide)
      refine va_newa (D := (dC, dI)) (atype := .long) (ty := .long) (N' := 240) (a0 := (240, .inr (.inl (fun _ => 0)))) hx hb (htb _ kw_306) rfl hK hP hD hS hA (fun _ => rfl) (by decide) (by decide) (by decide) (Nat.le_of_ble_eq_true rfl) (Nat.le_of_ble_eq_true rfl) dX6_init_44 (fun q_4 cA_5 H hK2 hP hD hS => ?_)
      obtain rfl : cA_5 = cid 15 := ty_eq (by decide) hK hK2 rfl
      have hP : va_P (dC, dI) vwCl ((q_4, .inl (cid 15, 240, .inr (.inl (fun _ => 0)))) :: (q_1, .inl (cid 14, 80, .inr (.inr (.inr (.inr f4))))) :: (h0, .inr (6, [.ref q_1, .null, .null, .null, .null, .int 0, .int 0, .int 0])) :: tl (elF cid) adr 80) H := fr_P hP
      have hD : va_D A ((q_4, .inl (cid 15, 240, .inr (.inl (fun _ => 0)))) :: (q_1, .inl (cid 14, 80, .inr (.inr (.inr (.inr f4))))) :: (h0, .inr (6, [.ref q_1, .null, .null, .null, .null, .int 0, .int 0, .int 0])) :: tl (elF cid) adr 80) := fr_D hD
      refine W.widen (k := 162) (n := 3920) (Nat.le_of_ble_eq_true rfl) (Nat.le_of_ble_eq_true rfl) ?_
      refine va_putF (D := (dC, dI)) (ci := 6) (v := .ref q_4) (ty := tyX6 1) (C := RX6) (T := TX6) (N := 8) hx hb htb inX6 tyX6 tyX6_ok nmX6 hown hK hP hD hS 2 rfl rfl 1 (by decide) (htb _ kw_299) (fun _ h9 => h9) rfl hin rfl (tyX6_ok 1 (by decide)) rfl rfl (Nat.le_of_ble_eq_true rfl) dX6_init_46 (fun H locs hP hD hS => ?_)
      have hP : va_P (dC, dI) vwCl ((q_4, .inl (cid 15, 240, .inr (.inl (fun _ => 0)))) :: (q_1, .inl (cid 14, 80, .inr (.inr (.inr (.inr f4))))) :: (h0, .inr (6, [.ref q_1, .ref q_4, .null, .null, .null, .int 0, .int 0, .int 0])) :: tl (elF cid) adr 80) H := hP
      have hD : va_D A ((q_4, .inl (cid 15, 240, .inr (.inl (fun _ => 0)))) :: (q_1, .inl (cid 14, 80, .inr (.inr (.inr (.inr f4))))) :: (h0, .inr (6, [.ref q_1, .ref q_4, .null, .null, .null, .int 0, .int 0, .int 0])) :: tl (elF cid) adr 80) := hD
      refine lv_aload_n hx hb dX6_init_49 rfl (lv_at hl 1 rfl) ?_
      refine lv_iload_n hx hb dX6_init_50 rfl (lv_at hl 2 rfl) ?_
      refine lv_iconst (v := 5) hx hb dX6_init_51 (by decide) ?_
      refine lv_idiv hx hb dX6_init_52 (by decide) ?_
      refine lv_topi (fun z_6 ez_6 => ?_)
      obtain rfl : z_6 = 240 := ez_6.trans (by decide)
      refine va_newa (D := (dC, dI)) (atype := .int) (ty := .int) (N' := 240) (a0 := (240, .inl (fun _ => 0))) hx hb (htb _ kw_205) rfl hK hP hD hS hA (fun _ => rfl) (by decide) (by decide) (by decide) (Nat.le_of_ble_eq_true rfl) (Nat.le_of_ble_eq_true rfl) dX6_init_53 (fun q_7 cA_8 H hK2 hP hD hS => ?_)
      obtain rfl : cA_8 = cid 16 := ty_eq (by decide) hK hK2 rfl
      have hP : va_P (dC, dI) vwCl ((q_7, .inl (cid 16, 240, .inl (fun _ => 0))) :: (q_4, .inl (cid 15, 240, .inr (.inl (fun _ => 0)))) :: (q_1, .inl (cid 14, 80, .inr (.inr (.inr (.inr f4))))) :: (h0, .inr (6, [.ref q_1, .ref q_4, .null, .null, .null, .int 0, .int 0, .int 0])) :: tl (elF cid) adr 80) H := fr_P hP
      have hD : va_D A ((q_7, .inl (cid 16, 240, .inl (fun _ => 0))) :: (q_4, .inl (cid 15, 240, .inr (.inl (fun _ => 0)))) :: (q_1, .inl (cid 14, 80, .inr (.inr (.inr (.inr f4))))) :: (h0, .inr (6, [.ref q_1, .ref q_4, .null, .null, .null, .int 0, .int 0, .int 0])) :: tl (elF cid) adr 80) := fr_D hD
      refine W.widen (k := 163) (n := 4160) (Nat.le_of_ble_eq_true rfl) (Nat.le_of_ble_eq_true rfl) ?_
      refine va_putF (D := (dC, dI)) (ci := 6) (v := .ref q_7) (ty := tyX6 2) (C := RX6) (T := TX6) (N := 8) hx hb htb inX6 tyX6 tyX6_ok nmX6 hown hK hP hD hS 3 rfl rfl 2 (by decide) (htb _ kw_300) (fun _ h9 => h9) rfl hin rfl (tyX6_ok 2 (by decide)) rfl rfl (Nat.le_of_ble_eq_true rfl) dX6_init_55 (fun H locs hP hD hS => ?_)
      have hP : va_P (dC, dI) vwCl ((q_7, .inl (cid 16, 240, .inl (fun _ => 0))) :: (q_4, .inl (cid 15, 240, .inr (.inl (fun _ => 0)))) :: (q_1, .inl (cid 14, 80, .inr (.inr (.inr (.inr f4))))) :: (h0, .inr (6, [.ref q_1, .ref q_4, .ref q_7, .null, .null, .int 0, .int 0, .int 0])) :: tl (elF cid) adr 80) H := hP
      have hD : va_D A ((q_7, .inl (cid 16, 240, .inl (fun _ => 0))) :: (q_4, .inl (cid 15, 240, .inr (.inl (fun _ => 0)))) :: (q_1, .inl (cid 14, 80, .inr (.inr (.inr (.inr f4))))) :: (h0, .inr (6, [.ref q_1, .ref q_4, .ref q_7, .null, .null, .int 0, .int 0, .int 0])) :: tl (elF cid) adr 80) := hD
      refine lv_aload_n hx hb dX6_init_58 rfl (lv_at hl 1 rfl) ?_
      refine lv_iload_n hx hb dX6_init_59 rfl (lv_at hl 2 rfl) ?_
      refine lv_iconst (v := 5) hx hb dX6_init_60 (by decide) ?_
      refine lv_idiv hx hb dX6_init_61 (by decide) ?_
      refine lv_topi (fun z_9 ez_9 => ?_)
      obtain rfl : z_9 = 240 := ez_9.trans (by decide)
      refine va_newa (D := (dC, dI)) (atype := .int) (ty := .int) (N' := 240) (a0 := (240, .inl (fun _ => 0))) hx hb (htb _ kw_205) rfl hK hP hD hS hA (fun _ => rfl) (by decide) (by decide) (by decide) (Nat.le_of_ble_eq_true rfl) (Nat.le_of_ble_eq_true rfl) dX6_init_62 (fun q_10 cA_11 H hK2 hP hD hS => ?_)
      obtain rfl : cA_11 = cid 17 := ty_eq (by decide) hK hK2 rfl
      have hP : va_P (dC, dI) vwCl ((q_10, .inl (cid 17, 240, .inl (fun _ => 0))) :: (q_7, .inl (cid 16, 240, .inl (fun _ => 0))) :: (q_4, .inl (cid 15, 240, .inr (.inl (fun _ => 0)))) :: (q_1, .inl (cid 14, 80, .inr (.inr (.inr (.inr f4))))) :: (h0, .inr (6, [.ref q_1, .ref q_4, .ref q_7, .null, .null, .int 0, .int 0, .int 0])) :: tl (elF cid) adr 80) H := fr_P hP
      have hD : va_D A ((q_10, .inl (cid 17, 240, .inl (fun _ => 0))) :: (q_7, .inl (cid 16, 240, .inl (fun _ => 0))) :: (q_4, .inl (cid 15, 240, .inr (.inl (fun _ => 0)))) :: (q_1, .inl (cid 14, 80, .inr (.inr (.inr (.inr f4))))) :: (h0, .inr (6, [.ref q_1, .ref q_4, .ref q_7, .null, .null, .int 0, .int 0, .int 0])) :: tl (elF cid) adr 80) := fr_D hD
      refine W.widen (k := 164) (n := 4400) (Nat.le_of_ble_eq_true rfl) (Nat.le_of_ble_eq_true rfl) ?_
      refine va_putF (D := (dC, dI)) (ci := 6) (v := .ref q_10) (ty := tyX6 3) (C := RX6) (T := TX6) (N := 8) hx hb htb inX6 tyX6 tyX6_ok nmX6 hown hK hP hD hS 4 rfl rfl 3 (by decide) (htb _ kw_301) (fun _ h9 => h9) rfl hin rfl (tyX6_ok 3 (by decide)) rfl rfl (Nat.le_of_ble_eq_true rfl) dX6_init_64 (fun H locs hP hD hS => ?_)
      have hP : va_P (dC, dI) vwCl ((q_10, .inl (cid 17, 240, .inl (fun _ => 0))) :: (q_7, .inl (cid 16, 240, .inl (fun _ => 0))) :: (q_4, .inl (cid 15, 240, .inr (.inl (fun _ => 0)))) :: (q_1, .inl (cid 14, 80, .inr (.inr (.inr (.inr f4))))) :: (h0, .inr (6, [.ref q_1, .ref q_4, .ref q_7, .ref q_10, .null, .int 0, .int 0, .int 0])) :: tl (elF cid) adr 80) H := hP
      have hD : va_D A ((q_10, .inl (cid 17, 240, .inl (fun _ => 0))) :: (q_7, .inl (cid 16, 240, .inl (fun _ => 0))) :: (q_4, .inl (cid 15, 240, .inr (.inl (fun _ => 0)))) :: (q_1, .inl (cid 14, 80, .inr (.inr (.inr (.inr f4))))) :: (h0, .inr (6, [.ref q_1, .ref q_4, .ref q_7, .ref q_10, .null, .int 0, .int 0, .int 0])) :: tl (elF cid) adr 80) := hD
      refine lv_aload_n hx hb dX6_init_67 rfl (lv_at hl 1 rfl) ?_
      refine lv_iload_n hx hb dX6_init_68 rfl (lv_at hl 2 rfl) ?_
      refine va_newa (D := (dC, dI)) (atype := .char) (ty := .char) (N' := 1200) (a0 := (1200, .inl (fun _ => 0))) hx hb (htb _ kw_297) rfl hK hP hD hS hA (fun _ => rfl) (by decide) (by decide) (by decide) (Nat.le_of_ble_eq_true rfl) (Nat.le_of_ble_eq_true rfl) dX6_init_69 (fun q_12 cA_13 H hK2 hP hD hS => ?_)
      obtain rfl : cA_13 = cid 18 := ty_eq (by decide) hK hK2 rfl
      have hP : va_P (dC, dI) vwCl ((q_12, .inl (cid 18, 1200, .inl (fun _ => 0))) :: (q_10, .inl (cid 17, 240, .inl (fun _ => 0))) :: (q_7, .inl (cid 16, 240, .inl (fun _ => 0))) :: (q_4, .inl (cid 15, 240, .inr (.inl (fun _ => 0)))) :: (q_1, .inl (cid 14, 80, .inr (.inr (.inr (.inr f4))))) :: (h0, .inr (6, [.ref q_1, .ref q_4, .ref q_7, .ref q_10, .null, .int 0, .int 0, .int 0])) :: tl (elF cid) adr 80) H := fr_P hP
      have hD : va_D A ((q_12, .inl (cid 18, 1200, .inl (fun _ => 0))) :: (q_10, .inl (cid 17, 240, .inl (fun _ => 0))) :: (q_7, .inl (cid 16, 240, .inl (fun _ => 0))) :: (q_4, .inl (cid 15, 240, .inr (.inl (fun _ => 0)))) :: (q_1, .inl (cid 14, 80, .inr (.inr (.inr (.inr f4))))) :: (h0, .inr (6, [.ref q_1, .ref q_4, .ref q_7, .ref q_10, .null, .int 0, .int 0, .int 0])) :: tl (elF cid) adr 80) := fr_D hD
      refine W.widen (k := 165) (n := 5600) (Nat.le_of_ble_eq_true rfl) (Nat.le_of_ble_eq_true rfl) ?_
      refine va_putF (D := (dC, dI)) (ci := 6) (v := .ref q_12) (ty := tyX6 4) (C := RX6) (T := TX6) (N := 8) hx hb htb inX6 tyX6 tyX6_ok nmX6 hown hK hP hD hS 5 rfl rfl 4 (by decide) (htb _ kw_302) (fun _ h9 => h9) rfl hin rfl (tyX6_ok 4 (by decide)) rfl rfl (Nat.le_of_ble_eq_true rfl) dX6_init_71 (fun H locs hP hD hS => ?_)
      have hP : va_P (dC, dI) vwCl ((q_12, .inl (cid 18, 1200, .inl (fun _ => 0))) :: (q_10, .inl (cid 17, 240, .inl (fun _ => 0))) :: (q_7, .inl (cid 16, 240, .inl (fun _ => 0))) :: (q_4, .inl (cid 15, 240, .inr (.inl (fun _ => 0)))) :: (q_1, .inl (cid 14, 80, .inr (.inr (.inr (.inr f4))))) :: (h0, .inr (6, [.ref q_1, .ref q_4, .ref q_7, .ref q_10, .ref q_12, .int 0, .int 0, .int 0])) :: tl (elF cid) adr 80) H := hP
      have hD : va_D A ((q_12, .inl (cid 18, 1200, .inl (fun _ => 0))) :: (q_10, .inl (cid 17, 240, .inl (fun _ => 0))) :: (q_7, .inl (cid 16, 240, .inl (fun _ => 0))) :: (q_4, .inl (cid 15, 240, .inr (.inl (fun _ => 0)))) :: (q_1, .inl (cid 14, 80, .inr (.inr (.inr (.inr f4))))) :: (h0, .inr (6, [.ref q_1, .ref q_4, .ref q_7, .ref q_10, .ref q_12, .int 0, .int 0, .int 0])) :: tl (elF cid) adr 80) := hD
      rw [eQ]
      exact W.vret hx hb hr (fun t ht hW => ⟨⟨(q_12, .inl (cid 18, 1200, .inl (fun _ => 0))) :: (q_10, .inl (cid 17, 240, .inl (fun _ => 0))) :: (q_7, .inl (cid 16, 240, .inl (fun _ => 0))) :: (q_4, .inl (cid 15, 240, .inr (.inl (fun _ => 0)))) :: (q_1, .inl (cid 14, 80, .inr (.inr (.inr (.inr f4))))) :: (h0, .inr (6, [.ref q_1, .ref q_4, .ref q_7, .ref q_10, .ref q_12, .int 0, .int 0, .int 0])) :: tl (elF cid) adr 80, rfl, ⟨((h0, q_1, q_4, q_7, q_10, q_12), adr, f4), rfl, rfl, hf4⟩, by rw [ht]; exact hP, va_K.moved hW.alike hK, hD⟩, hS.F ht⟩) hS.2.2 dX6_init_74
    | succ n ih =>
      intro i adr f4 H locs ls hi9 hf4 hP hD hS hl
      have hlt : i < 80 := by omega
      refine lv_iload_n hx hb dX6_init_15 rfl (lv_at hl 0 rfl) ?_
      refine lv_bipush (v := 80) hx hb dX6_init_16 (by decide) ?_
      refine lv_icmp_ge (tgt := 40) hx hb dX6_init_18 (by decide) (fun c9 => absurd c9 (nI_ge hlt (by decide))) (fun _ => ?_)
      refine lv_aload_n hx hb dX6_init_21 rfl (lv_at hl 1 rfl) ?_
      refine va_get (D := (dC, dI)) (ci := 6) (v := .ref q_1) (C := RX6) (T := TX6) (N := 8) hx hb htb inX6 hown hK hP 1 rfl rfl 0 (by decide) (htb _ kw_298) (fun _ h9 => h9) rfl dX6_init_22 ?_
      refine lv_iload_n hx hb dX6_init_25 rfl (lv_at hl 0 rfl) ?_
      refine va_new (ci := 3) (fs := nvX3) (C := RX3) (T := TX3) (N := 21) hx hb htb inX3 tyX3 tyX3_ok hown (htb _ kw_223) (htb _ kw_224) (htb _ kw_150) hK hP hD hS hA rfl nwX3 (by show (i * 2 + 1) + 1 ≤ 165; omega) (by show (i * 45 + 80) + 21 ≤ 5600; omega) dX6_init_26 (fun q_14 H hP hD hS => ?_)
      have hP : va_P (dC, dI) vwCl ((q_14, .inr (3, [.null, .int 0, .int 0, .int 0, .null, .null, .null, .null, .int 0, .int 0, .int 0, .long 0, .long 0, .long 0, .int 0, .int 0, .int 0, .int 0, .null, .null, .null])) :: (q_1, .inl (cid 14, 80, .inr (.inr (.inr (.inr f4))))) :: (h0, .inr (6, [.ref q_1, .null, .null, .null, .null, .int 0, .int 0, .int 0])) :: tl (elF cid) adr i) H := fr_P hP
      have hD : va_D A ((q_14, .inr (3, [.null, .int 0, .int 0, .int 0, .null, .null, .null, .null, .int 0, .int 0, .int 0, .long 0, .long 0, .long 0, .int 0, .int 0, .int 0, .int 0, .null, .null, .null])) :: (q_1, .inl (cid 14, 80, .inr (.inr (.inr (.inr f4))))) :: (h0, .inr (6, [.ref q_1, .null, .null, .null, .null, .int 0, .int 0, .int 0])) :: tl (elF cid) adr i) := fr_D hD
      refine W.widen (k := i * 2 + 2) (n := i * 45 + 101) (by omega) (by omega) ?_
      refine lv_dup hx hb dX6_init_29 rfl ?_
      refine nw_call (rest := [.ref q_14, .int (nI i), .ref q_1]) (r := (q_1, .inl (cid 14, 80, .inr (.inr (.inr (.inr f4))))) :: (h0, .inr (6, [.ref q_1, .null, .null, .null, .null, .int 0, .int 0, .int 0])) :: tl (elF cid) adr i) ⟨hx, hb, hml, hown, htb⟩ (n_X3 l dC dI ad cid (q_14)) (cwI 0 htb (gd_c kw_1373) rfl rfl rfl (htb _ kw_150) (htb _ kw_225) (htb _ kw_226) rfl (by decide +kernel) ⟨Nat.le_of_ble_eq_true rfl, Nat.le_of_ble_eq_true rfl⟩) rfl hl.1 rfl (Nat.le_of_ble_eq_true rfl) dX6_init_30 ⟨(by show (i * 2 + 2) + 1 ≤ 165; omega), (by show (i * 45 + 101) + 24 ≤ 5600; omega)⟩ hK hP hD hS hA hG (fun w H locs hw hP7 hD7 hS => ?_)
      obtain ⟨a_15, rfl⟩ := hw
      have hP : va_P (dC, dI) vwCl ((q_1, .inl (cid 14, 80, .inr (.inr (.inr (.inr f4))))) :: (h0, .inr (6, [.ref q_1, .null, .null, .null, .null, .int 0, .int 0, .int 0])) :: (elWk cid q_14 a_15 ++ tl (elF cid) adr i)) H := sw_P (E := [(q_1, .inl (cid 14, 80, .inr (.inr (.inr (.inr f4))))), (h0, .inr (6, [.ref q_1, .null, .null, .null, .null, .int 0, .int 0, .int 0]))]) (w := elWk cid q_14 a_15) (T := tl (elF cid) adr i) hP7
      have hD : va_D A ((q_1, .inl (cid 14, 80, .inr (.inr (.inr (.inr f4))))) :: (h0, .inr (6, [.ref q_1, .null, .null, .null, .null, .int 0, .int 0, .int 0])) :: (elWk cid q_14 a_15 ++ tl (elF cid) adr i)) := sw_D (E := [(q_1, .inl (cid 14, 80, .inr (.inr (.inr (.inr f4))))), (h0, .inr (6, [.ref q_1, .null, .null, .null, .null, .int 0, .int 0, .int 0]))]) (w := elWk cid q_14 a_15) (T := tl (elF cid) adr i) hD7
      refine W.widen (k := i * 2 + 3) (n := i * 45 + 125) (by omega) (by omega) ?_
      refine va_astq (D := (dC, dI)) (r := (RX3, TX3, 21)) hx hb hK hP hD hS 0 14 3 3 rfl rfl rfl rfl (vp_in_nI hlt (by decide)) dX6_init_33 (fun H locs hP hD hS => ?_)
      have hP : va_P (dC, dI) vwCl ((q_1, .inl (cid 14, 80, .inr (.inr (.inr (.inr (va_up f4 (nI i).toNatClampNeg (some q_14))))))) :: (h0, .inr (6, [.ref q_1, .null, .null, .null, .null, .int 0, .int 0, .int 0])) :: (elWk cid q_14 a_15 ++ tl (elF cid) adr i)) H := hP
      have hD : va_D A ((q_1, .inl (cid 14, 80, .inr (.inr (.inr (.inr (va_up f4 (nI i).toNatClampNeg (some q_14))))))) :: (h0, .inr (6, [.ref q_1, .null, .null, .null, .null, .int 0, .int 0, .int 0])) :: (elWk cid q_14 a_15 ++ tl (elF cid) adr i)) := hD
      refine lv_iinc (v := nI (i + 1)) (lv' := [(2, .int (nI (i + 1))), (0, .ref h0), (1, .int 1200)]) hx hb dX6_init_34 hl (k := 0) rfl (nI_1 i) (by decide) rfl (fun ls hl => ?_)
      refine lv_goto (tgt := 15) hx hb dX6_init_37 (by decide) ?_
      refine W.widen (k := (i + 1) * 2 + 1) (n := (i + 1) * 45 + 80) (by omega) (by omega) ?_
      have et9 := tl_s (F := elF cid) (adr := adr) (i := i) (u := (q_14, a_15))
      have hP : va_P (dC, dI) vwCl ((q_1, .inl (cid 14, 80, .inr (.inr (.inr (.inr (va_up f4 (nI i).toNatClampNeg (some q_14))))))) :: (h0, .inr (6, [.ref q_1, .null, .null, .null, .null, .int 0, .int 0, .int 0])) :: tl (elF cid) (va_up adr i (q_14, a_15)) (i + 1)) H := by rw [et9]; exact hP
      have hD : va_D A ((q_1, .inl (cid 14, 80, .inr (.inr (.inr (.inr (va_up f4 (nI i).toNatClampNeg (some q_14))))))) :: (h0, .inr (6, [.ref q_1, .null, .null, .null, .null, .int 0, .int 0, .int 0])) :: tl (elF cid) (va_up adr i (q_14, a_15)) (i + 1)) := by rw [et9]; exact hD
      exact ih (i + 1) (va_up adr i (q_14, a_15)) (va_up f4 (nI i).toNatClampNeg (some q_14)) _ _ _ (by omega) (fs_q (α := Nat × Nat) (u := (q_14, a_15)) (fun x => x.1) (by omega) hf4) hP hD hS hl
  exact hloop 80 0 (fun _ => (0, 0)) (fun _ => none) _ _ _ rfl (fun j hj => absurd hj (Nat.not_lt_zero j)) hP hD hS hl

theorem dX10_init_0g : decode cX10_init 0 = .ok (.aload_n 0, 1) ∧ decode cX10_init 1 = .ok (.invokespecial 3, 3) ∧ decode cX10_init 4 = .ok (.aload_n 0, 1) ∧ decode cX10_init 5 = .ok (.aload_n 1, 1) ∧ decode cX10_init 6 = .ok (.putfield 9, 3) ∧ decode cX10_init 9 = .ok (.aload_n 0, 1) ∧ decode cX10_init 10 = .ok (.bipush 80, 2) ∧ decode cX10_init 12 = .ok (.anewarray 17, 3) ∧ decode cX10_init 15 = .ok (.putfield 19, 3) ∧ decode cX10_init 18 = .ok (.iconst 0, 1) ∧ decode cX10_init 19 = .ok (.istore_n 2, 1) ∧ decode cX10_init 20 = .ok (.iload_n 2, 1) ∧ decode cX10_init 21 = .ok (.aload_n 0, 1) ∧ decode cX10_init 22 = .ok (.getfield 19, 3) ∧ decode cX10_init 25 = .ok (.arraylength, 1) ∧ decode cX10_init 26 = .ok (.if_icmp .ge 23, 3) := by decide +kernel
theorem dX10_init_0 : decode cX10_init 0 = .ok (.aload_n 0, 1) := dX10_init_0g.1
theorem dX10_init_1 : decode cX10_init 1 = .ok (.invokespecial 3, 3) := dX10_init_0g.2.1
theorem dX10_init_4 : decode cX10_init 4 = .ok (.aload_n 0, 1) := dX10_init_0g.2.2.1
theorem dX10_init_5 : decode cX10_init 5 = .ok (.aload_n 1, 1) := dX10_init_0g.2.2.2.1
theorem dX10_init_6 : decode cX10_init 6 = .ok (.putfield 9, 3) := dX10_init_0g.2.2.2.2.1
theorem dX10_init_9 : decode cX10_init 9 = .ok (.aload_n 0, 1) := dX10_init_0g.2.2.2.2.2.1
theorem dX10_init_10 : decode cX10_init 10 = .ok (.bipush 80, 2) := dX10_init_0g.2.2.2.2.2.2.1
theorem dX10_init_12 : decode cX10_init 12 = .ok (.anewarray 17, 3) := dX10_init_0g.2.2.2.2.2.2.2.1
theorem dX10_init_15 : decode cX10_init 15 = .ok (.putfield 19, 3) := dX10_init_0g.2.2.2.2.2.2.2.2.1
theorem dX10_init_18 : decode cX10_init 18 = .ok (.iconst 0, 1) := dX10_init_0g.2.2.2.2.2.2.2.2.2.1
theorem dX10_init_19 : decode cX10_init 19 = .ok (.istore_n 2, 1) := dX10_init_0g.2.2.2.2.2.2.2.2.2.2.1
theorem dX10_init_20 : decode cX10_init 20 = .ok (.iload_n 2, 1) := dX10_init_0g.2.2.2.2.2.2.2.2.2.2.2.1
theorem dX10_init_21 : decode cX10_init 21 = .ok (.aload_n 0, 1) := dX10_init_0g.2.2.2.2.2.2.2.2.2.2.2.2.1
theorem dX10_init_22 : decode cX10_init 22 = .ok (.getfield 19, 3) := dX10_init_0g.2.2.2.2.2.2.2.2.2.2.2.2.2.1
theorem dX10_init_25 : decode cX10_init 25 = .ok (.arraylength, 1) := dX10_init_0g.2.2.2.2.2.2.2.2.2.2.2.2.2.2.1
theorem dX10_init_26 : decode cX10_init 26 = .ok (.if_icmp .ge 23, 3) := dX10_init_0g.2.2.2.2.2.2.2.2.2.2.2.2.2.2.2
theorem dX10_init_29g : decode cX10_init 29 = .ok (.aload_n 0, 1) ∧ decode cX10_init 30 = .ok (.getfield 19, 3) ∧ decode cX10_init 33 = .ok (.iload_n 2, 1) ∧ decode cX10_init 34 = .ok (.new 17, 3) ∧ decode cX10_init 37 = .ok (.dup, 1) ∧ decode cX10_init 38 = .ok (.iload_n 2, 1) ∧ decode cX10_init 39 = .ok (.invokespecial 23, 3) ∧ decode cX10_init 42 = .ok (.aastore, 1) ∧ decode cX10_init 43 = .ok (.iinc 2 1, 3) ∧ decode cX10_init 46 = .ok (.goto (-26), 3) ∧ decode cX10_init 49 = .ok (.aload_n 0, 1) ∧ decode cX10_init 50 = .ok (.bipush 80, 2) ∧ decode cX10_init 52 = .ok (.anewarray 17, 3) ∧ decode cX10_init 55 = .ok (.putfield 26, 3) ∧ decode cX10_init 58 = .ok (.return_, 1) := by decide +kernel
theorem dX10_init_29 : decode cX10_init 29 = .ok (.aload_n 0, 1) := dX10_init_29g.1
theorem dX10_init_30 : decode cX10_init 30 = .ok (.getfield 19, 3) := dX10_init_29g.2.1
theorem dX10_init_33 : decode cX10_init 33 = .ok (.iload_n 2, 1) := dX10_init_29g.2.2.1
theorem dX10_init_34 : decode cX10_init 34 = .ok (.new 17, 3) := dX10_init_29g.2.2.2.1
theorem dX10_init_37 : decode cX10_init 37 = .ok (.dup, 1) := dX10_init_29g.2.2.2.2.1
theorem dX10_init_38 : decode cX10_init 38 = .ok (.iload_n 2, 1) := dX10_init_29g.2.2.2.2.2.1
theorem dX10_init_39 : decode cX10_init 39 = .ok (.invokespecial 23, 3) := dX10_init_29g.2.2.2.2.2.2.1
theorem dX10_init_42 : decode cX10_init 42 = .ok (.aastore, 1) := dX10_init_29g.2.2.2.2.2.2.2.1
theorem dX10_init_43 : decode cX10_init 43 = .ok (.iinc 2 1, 3) := dX10_init_29g.2.2.2.2.2.2.2.2.1
theorem dX10_init_46 : decode cX10_init 46 = .ok (.goto (-26), 3) := dX10_init_29g.2.2.2.2.2.2.2.2.2.1
theorem dX10_init_49 : decode cX10_init 49 = .ok (.aload_n 0, 1) := dX10_init_29g.2.2.2.2.2.2.2.2.2.2.1
theorem dX10_init_50 : decode cX10_init 50 = .ok (.bipush 80, 2) := dX10_init_29g.2.2.2.2.2.2.2.2.2.2.2.1
theorem dX10_init_52 : decode cX10_init 52 = .ok (.anewarray 17, 3) := dX10_init_29g.2.2.2.2.2.2.2.2.2.2.2.2.1
theorem dX10_init_55 : decode cX10_init 55 = .ok (.putfield 26, 3) := dX10_init_29g.2.2.2.2.2.2.2.2.2.2.2.2.2.1
theorem dX10_init_58 : decode cX10_init 58 = .ok (.return_, 1) := dX10_init_29g.2.2.2.2.2.2.2.2.2.2.2.2.2.2

set_option maxHeartbeats 4000000 in
set_option maxRecDepth 100000 in
theorem n_X10 (l : Launch) (dC : Nat → ClassId) (dI : Nat → Nat → Nat) (ad : Nat → Nat → Nat) (cid : Nat → ClassId) (h0 : Nat) (p1 : Nat) : NM dC dI ad cid l yX10_init wm_X10_init ({ frames := 5, cells := 322, slots := 2400, locals := 101 }) [.ref h0, .ref p1] [(h0, .inr (10, [.null, .null, .null, .int 0]))] (fun w => ∃ u : WU, u.1.1 = h0 ∧ w = wiW ad cid p1 u ∧ wiP u) 322 2400 := by
  intro sz
  refine Met.ofW (cc := cX10_init) (maxL := 3) (ret := none) (by decide) rfl ?_
  intro p e s m args below meth c s₁ B hml hv
  obtain ⟨rfl, hsz, hP, hK, hD0, hG⟩ := hv
  have hx := B.exec
  have hb := B.bytes
  have hr := B.returns
  have hts := atoms_spec (ws := wm_X10_init) B.pre
  have htb := fun (w : Cond) (h : w ∈ tb) => hts w (List.mem_cons_of_mem _ h)
  have hown : s.vm.findClass RX10 = some m.cls := findClass_of_methodNamed B.named
  have hlocks := B.notSynchronized
  have hin : meth.name = "<init>" := (name_of_methodNamed B.named B.method).1
  subst hsz
  have hD := hD0.self (sz := s.heap.size)
  generalize hAe : va_A [(h0, .inr (10, [.null, .null, .null, .int 0]))] s.heap.size = A at hD hG ⊢
  have hA : ∀ q : Nat, s.heap.size ≤ q → A q := fun q h => by rw [← hAe]; exact Or.inr h
  have hS : va_S A s.heap s.heap [] := va_S.rf
  have hl := lv_entry ([.ref h0, .ref p1]) (n := 3) (Nat.le_of_ble_eq_true rfl)
  rw [lg_entry_eq]
  generalize (lg_sl ([.ref h0, .ref p1]) ++ List.replicate (3 - (lg_sl ([.ref h0, .ref p1])).length) Slot.unset).toArray = ls at hl ⊢
  have hl : lv_has ls 3 [(0, .ref h0), (1, .ref p1)] := hl
  have hP : va_P (dC, dI) vwCl ((h0, .inr (10, [.null, .null, .null, .int 0])) :: []) s.heap := hP
  have hD : va_D A ((h0, .inr (10, [.null, .null, .null, .int 0])) :: []) := hD
  refine n_gen (fun Q eQ => ?_)
  refine lv_aload_n hx hb dX10_init_0 rfl (lv_at hl 0 rfl) ?_
  refine W.objInit hx hb hown (htb _ kw_328) (htb _ kw_181) (htb _ kw_1369) rfl (by rw [hml]; exact hl.1) rfl dX10_init_1 (Nat.le_of_ble_eq_true rfl) (Nat.le_of_ble_eq_true rfl) ?_
  refine W.eq (g2 := F0 m 4 ls []) rfl ?_
  refine lv_aload_n hx hb dX10_init_4 rfl (lv_at hl 0 rfl) ?_
  refine lv_aload_n hx hb dX10_init_5 rfl (lv_at hl 1 rfl) ?_
  refine va_putF (D := (dC, dI)) (ci := 10) (v := .ref p1) (ty := tyX10 0) (C := RX10) (T := TX10) (N := 4) hx hb htb inX10 tyX10 tyX10_ok nmX10 hown hK hP hD hS 0 rfl rfl 0 (by decide) (htb _ kw_387) (fun _ h9 => h9) rfl hin rfl (tyX10_ok 0 (by decide)) rfl rfl (Nat.le_of_ble_eq_true rfl) dX10_init_6 (fun H locs hP hD hS => ?_)
  have hP : va_P (dC, dI) vwCl ((h0, .inr (10, [.ref p1, .null, .null, .int 0])) :: []) H := hP
  have hD : va_D A ((h0, .inr (10, [.ref p1, .null, .null, .int 0])) :: []) := hD
  refine lv_aload_n hx hb dX10_init_9 rfl (lv_at hl 0 rfl) ?_
  refine lv_bipush (v := 80) hx hb dX10_init_10 (by decide) ?_
  refine va_newq (D := (dC, dI)) (N' := 80) (C := RX1) hx hb hown (htb _ kw_329) hG.1.1.2.2.2 hK hP hD hS hA (by decide) (by decide) (by decide) (Nat.le_of_ble_eq_true rfl) (Nat.le_of_ble_eq_true rfl) dX10_init_12 (fun q_1 cA_2 H hK2 hP hD hS => ?_)
  obtain rfl : cA_2 = cid 19 := ty_eq (by decide) hK hK2 rfl
  have hP : va_P (dC, dI) vwCl ((q_1, .inl (cid 19, 80, .inr (.inr (.inr (.inr (fun _ => none)))))) :: (h0, .inr (10, [.ref p1, .null, .null, .int 0])) :: []) H := fr_P hP
  have hD : va_D A ((q_1, .inl (cid 19, 80, .inr (.inr (.inr (.inr (fun _ => none)))))) :: (h0, .inr (10, [.ref p1, .null, .null, .int 0])) :: []) := fr_D hD
  refine W.widen (k := 1) (n := 80) (Nat.le_of_ble_eq_true rfl) (Nat.le_of_ble_eq_true rfl) ?_
  refine va_putF (D := (dC, dI)) (ci := 10) (v := .ref q_1) (ty := tyX10 1) (C := RX10) (T := TX10) (N := 4) hx hb htb inX10 tyX10 tyX10_ok nmX10 hown hK hP hD hS 1 rfl rfl 1 (by decide) (htb _ kw_388) (fun _ h9 => h9) rfl hin rfl (tyX10_ok 1 (by decide)) rfl rfl (Nat.le_of_ble_eq_true rfl) dX10_init_15 (fun H locs hP hD hS => ?_)
  have hP : va_P (dC, dI) vwCl ((q_1, .inl (cid 19, 80, .inr (.inr (.inr (.inr (fun _ => none)))))) :: (h0, .inr (10, [.ref p1, .ref q_1, .null, .int 0])) :: []) H := hP
  have hD : va_D A ((q_1, .inl (cid 19, 80, .inr (.inr (.inr (.inr (fun _ => none)))))) :: (h0, .inr (10, [.ref p1, .ref q_1, .null, .int 0])) :: []) := hD
  refine lv_iconst (v := 0) hx hb dX10_init_18 (by decide) ?_
  refine lv_istore_n (lv' := [(2, .int 0), (0, .ref h0), (1, .ref p1)]) hx hb dX10_init_19 rfl hl (by decide) rfl (fun ls hl => ?_)
  have hloop : ∀ (n i : Nat) (adr : Nat → Nat × Nat × Nat × Nat) (f9 : Nat → Option Nat) (H : Heap) (locs : List Loc) (ls : Array Slot), i + n = 80 → (∀ j, j < i → f9 j = some (adr j).1) → va_P (dC, dI) vwCl ((q_1, .inl (cid 19, 80, .inr (.inr (.inr (.inr f9))))) :: (h0, .inr (10, [.ref p1, .ref q_1, .null, .int 0])) :: tl (beF ad) adr i) H → va_D A ((q_1, .inl (cid 19, 80, .inr (.inr (.inr (.inr f9))))) :: (h0, .inr (10, [.ref p1, .ref q_1, .null, .int 0])) :: tl (beF ad) adr i) → va_S A s.heap H locs → lv_has ls 3 [(2, .int (nI i)), (0, .ref h0), (1, .ref p1)] → W p l e (headSpec wm_X10_init ({ frames := 5, cells := 322, slots := 2400, locals := 101 })).room s m ([.ref h0, .ref p1] : List Value).toArray below meth c H locs (i * 4 + 1) (i * 28 + 80) Q (F0 m 20 ls []) := by
    intro n
    induction n with
    | zero =>
      intro i adr f9 H locs ls hi9 hf9 hP hD hS hl
      obtain rfl : i = 80 := by omega
      have hl : lv_has ls 3 [(2, .int 80), (0, .ref h0), (1, .ref p1)] := hl
      refine W.widen (k := 321) (n := 2320) (Nat.le_of_ble_eq_true rfl) (Nat.le_of_ble_eq_true rfl) ?_
      refine lv_iload_n hx hb dX10_init_20 rfl (lv_at hl 0 rfl) ?_
      refine lv_aload_n hx hb dX10_init_21 rfl (lv_at hl 1 rfl) ?_
      refine va_get (D := (dC, dI)) (ci := 10) (v := .ref q_1) (C := RX10) (T := TX10) (N := 4) hx hb htb inX10 hown hK hP 1 rfl rfl 1 (by decide) (htb _ kw_388) (fun _ h9 => h9) rfl dX10_init_22 ?_
      refine va_alen (D := (dC, dI)) (v := 80) hx hb hK hP 0 19 rfl rfl rfl dX10_init_25 ?_
      refine lv_icmp_ge (tgt := 49) hx hb dX10_init_26 (by decide) (fun _ => ?_) (fun c9 => absurd (by decide) c9)
      refine lv_aload_n hx hb dX10_init_49 rfl (lv_at hl 1 rfl) ?_
      refine lv_bipush (v := 80) hx hb dX10_init_50 (by decide) ?_
      refine va_newq (D := (dC, dI)) (N' := 80) (C := RX1) hx hb hown (htb _ kw_329) hG.1.1.2.2.2 hK hP hD hS hA (by decide) (by decide) (by decide) (Nat.le_of_ble_eq_true rfl) (Nat.le_of_ble_eq_true rfl) dX10_init_52 (fun q_3 cA_4 H hK2 hP hD hS => ?_)
      obtain rfl : cA_4 = cid 20 := ty_eq (by decide) hK hK2 rfl
      have hP : va_P (dC, dI) vwCl ((q_3, .inl (cid 20, 80, .inr (.inr (.inr (.inr (fun _ => none)))))) :: (q_1, .inl (cid 19, 80, .inr (.inr (.inr (.inr f9))))) :: (h0, .inr (10, [.ref p1, .ref q_1, .null, .int 0])) :: tl (beF ad) adr 80) H := fr_P hP
      have hD : va_D A ((q_3, .inl (cid 20, 80, .inr (.inr (.inr (.inr (fun _ => none)))))) :: (q_1, .inl (cid 19, 80, .inr (.inr (.inr (.inr f9))))) :: (h0, .inr (10, [.ref p1, .ref q_1, .null, .int 0])) :: tl (beF ad) adr 80) := fr_D hD
      refine W.widen (k := 322) (n := 2400) (Nat.le_of_ble_eq_true rfl) (Nat.le_of_ble_eq_true rfl) ?_
      refine va_putF (D := (dC, dI)) (ci := 10) (v := .ref q_3) (ty := tyX10 2) (C := RX10) (T := TX10) (N := 4) hx hb htb inX10 tyX10 tyX10_ok nmX10 hown hK hP hD hS 2 rfl rfl 2 (by decide) (htb _ kw_389) (fun _ h9 => h9) rfl hin rfl (tyX10_ok 2 (by decide)) rfl rfl (Nat.le_of_ble_eq_true rfl) dX10_init_55 (fun H locs hP hD hS => ?_)
      have hP : va_P (dC, dI) vwCl ((q_3, .inl (cid 20, 80, .inr (.inr (.inr (.inr (fun _ => none)))))) :: (q_1, .inl (cid 19, 80, .inr (.inr (.inr (.inr f9))))) :: (h0, .inr (10, [.ref p1, .ref q_1, .ref q_3, .int 0])) :: tl (beF ad) adr 80) H := hP
      have hD : va_D A ((q_3, .inl (cid 20, 80, .inr (.inr (.inr (.inr (fun _ => none)))))) :: (q_1, .inl (cid 19, 80, .inr (.inr (.inr (.inr f9))))) :: (h0, .inr (10, [.ref p1, .ref q_1, .ref q_3, .int 0])) :: tl (beF ad) adr 80) := hD
      rw [eQ]
      exact W.vret hx hb hr (fun t ht hW => ⟨⟨(q_3, .inl (cid 20, 80, .inr (.inr (.inr (.inr (fun _ => none)))))) :: (q_1, .inl (cid 19, 80, .inr (.inr (.inr (.inr f9))))) :: (h0, .inr (10, [.ref p1, .ref q_1, .ref q_3, .int 0])) :: tl (beF ad) adr 80, rfl, ⟨((h0, q_1, q_3), adr, f9), rfl, rfl, hf9⟩, by rw [ht]; exact hP, va_K.moved hW.alike hK, hD⟩, hS.F ht⟩) hS.2.2 dX10_init_58
    | succ n ih =>
      intro i adr f9 H locs ls hi9 hf9 hP hD hS hl
      have hlt : i < 80 := by omega
      refine lv_iload_n hx hb dX10_init_20 rfl (lv_at hl 0 rfl) ?_
      refine lv_aload_n hx hb dX10_init_21 rfl (lv_at hl 1 rfl) ?_
      refine va_get (D := (dC, dI)) (ci := 10) (v := .ref q_1) (C := RX10) (T := TX10) (N := 4) hx hb htb inX10 hown hK hP 1 rfl rfl 1 (by decide) (htb _ kw_388) (fun _ h9 => h9) rfl dX10_init_22 ?_
      refine va_alen (D := (dC, dI)) (v := 80) hx hb hK hP 0 19 rfl rfl rfl dX10_init_25 ?_
      refine lv_icmp_ge (tgt := 49) hx hb dX10_init_26 (by decide) (fun c9 => absurd c9 (nI_ge hlt (by decide))) (fun _ => ?_)
      refine lv_aload_n hx hb dX10_init_29 rfl (lv_at hl 1 rfl) ?_
      refine va_get (D := (dC, dI)) (ci := 10) (v := .ref q_1) (C := RX10) (T := TX10) (N := 4) hx hb htb inX10 hown hK hP 1 rfl rfl 1 (by decide) (htb _ kw_388) (fun _ h9 => h9) rfl dX10_init_30 ?_
      refine lv_iload_n hx hb dX10_init_33 rfl (lv_at hl 0 rfl) ?_
      refine va_new (ci := 1) (fs := nvX1) (C := RX1) (T := TX1) (N := 19) hx hb htb inX1 tyX1 tyX1_ok hown (htb _ kw_329) (htb _ kw_330) (htb _ kw_154) hK hP hD hS hA rfl nwX1 (by show (i * 4 + 1) + 1 ≤ 322; omega) (by show (i * 28 + 80) + 19 ≤ 2400; omega) dX10_init_34 (fun q_5 H hP hD hS => ?_)
      have hP : va_P (dC, dI) vwCl ((q_5, .inr (1, [.int 0, .null, .null, .null, .null, .long 0, .long 0, .long 0, .long 0, .int 0, .int 0, .int 0, .int 0, .int 0, .int 0, .int 0, .int 0, .int 0, .int 0])) :: (q_1, .inl (cid 19, 80, .inr (.inr (.inr (.inr f9))))) :: (h0, .inr (10, [.ref p1, .ref q_1, .null, .int 0])) :: tl (beF ad) adr i) H := fr_P hP
      have hD : va_D A ((q_5, .inr (1, [.int 0, .null, .null, .null, .null, .long 0, .long 0, .long 0, .long 0, .int 0, .int 0, .int 0, .int 0, .int 0, .int 0, .int 0, .int 0, .int 0, .int 0])) :: (q_1, .inl (cid 19, 80, .inr (.inr (.inr (.inr f9))))) :: (h0, .inr (10, [.ref p1, .ref q_1, .null, .int 0])) :: tl (beF ad) adr i) := fr_D hD
      refine W.widen (k := i * 4 + 2) (n := i * 28 + 99) (by omega) (by omega) ?_
      refine lv_dup hx hb dX10_init_37 rfl ?_
      refine lv_iload_n hx hb dX10_init_38 rfl (lv_at hl 0 rfl) ?_
      refine nw_call (rest := [.ref q_5, .int (nI i), .ref q_1]) (r := (q_1, .inl (cid 19, 80, .inr (.inr (.inr (.inr f9))))) :: (h0, .inr (10, [.ref p1, .ref q_1, .null, .int 0])) :: tl (beF ad) adr i) ⟨hx, hb, hml, hown, htb⟩ (n_X1 l dC dI ad cid (q_5) ((nI i))) (cwI 1 htb (gd_c kw_1377) rfl rfl rfl (htb _ kw_154) (htb _ kw_331) (htb _ kw_332) rfl (by decide +kernel) ⟨Nat.le_of_ble_eq_true rfl, Nat.le_of_ble_eq_true rfl⟩) rfl hl.1 rfl (Nat.le_of_ble_eq_true rfl) dX10_init_39 ⟨(by show (i * 4 + 2) + 3 ≤ 322; omega), (by show (i * 28 + 99) + 9 ≤ 2400; omega)⟩ hK hP hD hS hA hG (fun w H locs hw hP7 hD7 hS => ?_)
      obtain ⟨a_6, a_7, a_8, rfl⟩ := hw
      have hP : va_P (dC, dI) vwCl ((q_1, .inl (cid 19, 80, .inr (.inr (.inr (.inr f9))))) :: (h0, .inr (10, [.ref p1, .ref q_1, .null, .int 0])) :: (beW ad ((nI i)) q_5 a_6 a_7 a_8 ++ tl (beF ad) adr i)) H := sw_P (E := [(q_1, .inl (cid 19, 80, .inr (.inr (.inr (.inr f9))))), (h0, .inr (10, [.ref p1, .ref q_1, .null, .int 0]))]) (w := beW ad ((nI i)) q_5 a_6 a_7 a_8) (T := tl (beF ad) adr i) hP7
      have hD : va_D A ((q_1, .inl (cid 19, 80, .inr (.inr (.inr (.inr f9))))) :: (h0, .inr (10, [.ref p1, .ref q_1, .null, .int 0])) :: (beW ad ((nI i)) q_5 a_6 a_7 a_8 ++ tl (beF ad) adr i)) := sw_D (E := [(q_1, .inl (cid 19, 80, .inr (.inr (.inr (.inr f9))))), (h0, .inr (10, [.ref p1, .ref q_1, .null, .int 0]))]) (w := beW ad ((nI i)) q_5 a_6 a_7 a_8) (T := tl (beF ad) adr i) hD7
      refine W.widen (k := i * 4 + 5) (n := i * 28 + 108) (by omega) (by omega) ?_
      refine va_astq (D := (dC, dI)) (r := (RX1, TX1, 19)) hx hb hK hP hD hS 0 19 2 1 rfl rfl rfl rfl (vp_in_nI hlt (by decide)) dX10_init_42 (fun H locs hP hD hS => ?_)
      have hP : va_P (dC, dI) vwCl ((q_1, .inl (cid 19, 80, .inr (.inr (.inr (.inr (va_up f9 (nI i).toNatClampNeg (some q_5))))))) :: (h0, .inr (10, [.ref p1, .ref q_1, .null, .int 0])) :: (beW ad ((nI i)) q_5 a_6 a_7 a_8 ++ tl (beF ad) adr i)) H := hP
      have hD : va_D A ((q_1, .inl (cid 19, 80, .inr (.inr (.inr (.inr (va_up f9 (nI i).toNatClampNeg (some q_5))))))) :: (h0, .inr (10, [.ref p1, .ref q_1, .null, .int 0])) :: (beW ad ((nI i)) q_5 a_6 a_7 a_8 ++ tl (beF ad) adr i)) := hD
      refine lv_iinc (v := nI (i + 1)) (lv' := [(2, .int (nI (i + 1))), (0, .ref h0), (1, .ref p1)]) hx hb dX10_init_43 hl (k := 0) rfl (nI_1 i) (by decide) rfl (fun ls hl => ?_)
      refine lv_goto (tgt := 20) hx hb dX10_init_46 (by decide) ?_
      refine W.widen (k := (i + 1) * 4 + 1) (n := (i + 1) * 28 + 80) (by omega) (by omega) ?_
      have et9 := tl_s (F := beF ad) (adr := adr) (i := i) (u := (q_5, a_6, a_7, a_8))
      have hP : va_P (dC, dI) vwCl ((q_1, .inl (cid 19, 80, .inr (.inr (.inr (.inr (va_up f9 (nI i).toNatClampNeg (some q_5))))))) :: (h0, .inr (10, [.ref p1, .ref q_1, .null, .int 0])) :: tl (beF ad) (va_up adr i (q_5, a_6, a_7, a_8)) (i + 1)) H := by rw [et9]; exact hP
      have hD : va_D A ((q_1, .inl (cid 19, 80, .inr (.inr (.inr (.inr (va_up f9 (nI i).toNatClampNeg (some q_5))))))) :: (h0, .inr (10, [.ref p1, .ref q_1, .null, .int 0])) :: tl (beF ad) (va_up adr i (q_5, a_6, a_7, a_8)) (i + 1)) := by rw [et9]; exact hD
      exact ih (i + 1) (va_up adr i (q_5, a_6, a_7, a_8)) (va_up f9 (nI i).toNatClampNeg (some q_5)) _ _ _ (by omega) (fs_q (α := Nat × Nat × Nat × Nat) (u := (q_5, a_6, a_7, a_8)) (fun x => x.1) (by omega) hf9) hP hD hS hl
  exact hloop 80 0 (fun _ => (0, 0, 0, 0)) (fun _ => none) _ _ _ rfl (fun j hj => absurd hj (Nat.not_lt_zero j)) hP hD hS hl

theorem dX2_init_0g : decode cX2_init 0 = .ok (.aload_n 0, 1) ∧ decode cX2_init 1 = .ok (.invokespecial 3, 3) ∧ decode cX2_init 4 = .ok (.aload_n 0, 1) ∧ decode cX2_init 5 = .ok (.iload_n 1, 1) ∧ decode cX2_init 6 = .ok (.putfield 9, 3) ∧ decode cX2_init 9 = .ok (.aload_n 0, 1) ∧ decode cX2_init 10 = .ok (.iconst 4, 1) ∧ decode cX2_init 11 = .ok (.anewarray 15, 3) ∧ decode cX2_init 14 = .ok (.putfield 17, 3) ∧ decode cX2_init 17 = .ok (.aload_n 0, 1) ∧ decode cX2_init 18 = .ok (.iconst 4, 1) ∧ decode cX2_init 19 = .ok (.anewarray 15, 3) ∧ decode cX2_init 22 = .ok (.putfield 21, 3) ∧ decode cX2_init 25 = .ok (.iconst 0, 1) ∧ decode cX2_init 26 = .ok (.istore_n 2, 1) ∧ decode cX2_init 27 = .ok (.iload_n 2, 1) := by decide +kernel
theorem dX2_init_0 : decode cX2_init 0 = .ok (.aload_n 0, 1) := dX2_init_0g.1
theorem dX2_init_1 : decode cX2_init 1 = .ok (.invokespecial 3, 3) := dX2_init_0g.2.1
theorem dX2_init_4 : decode cX2_init 4 = .ok (.aload_n 0, 1) := dX2_init_0g.2.2.1
theorem dX2_init_5 : decode cX2_init 5 = .ok (.iload_n 1, 1) := dX2_init_0g.2.2.2.1
theorem dX2_init_6 : decode cX2_init 6 = .ok (.putfield 9, 3) := dX2_init_0g.2.2.2.2.1
theorem dX2_init_9 : decode cX2_init 9 = .ok (.aload_n 0, 1) := dX2_init_0g.2.2.2.2.2.1
theorem dX2_init_10 : decode cX2_init 10 = .ok (.iconst 4, 1) := dX2_init_0g.2.2.2.2.2.2.1
theorem dX2_init_11 : decode cX2_init 11 = .ok (.anewarray 15, 3) := dX2_init_0g.2.2.2.2.2.2.2.1
theorem dX2_init_14 : decode cX2_init 14 = .ok (.putfield 17, 3) := dX2_init_0g.2.2.2.2.2.2.2.2.1
theorem dX2_init_17 : decode cX2_init 17 = .ok (.aload_n 0, 1) := dX2_init_0g.2.2.2.2.2.2.2.2.2.1
theorem dX2_init_18 : decode cX2_init 18 = .ok (.iconst 4, 1) := dX2_init_0g.2.2.2.2.2.2.2.2.2.2.1
theorem dX2_init_19 : decode cX2_init 19 = .ok (.anewarray 15, 3) := dX2_init_0g.2.2.2.2.2.2.2.2.2.2.2.1
theorem dX2_init_22 : decode cX2_init 22 = .ok (.putfield 21, 3) := dX2_init_0g.2.2.2.2.2.2.2.2.2.2.2.2.1
theorem dX2_init_25 : decode cX2_init 25 = .ok (.iconst 0, 1) := dX2_init_0g.2.2.2.2.2.2.2.2.2.2.2.2.2.1
theorem dX2_init_26 : decode cX2_init 26 = .ok (.istore_n 2, 1) := dX2_init_0g.2.2.2.2.2.2.2.2.2.2.2.2.2.2.1
theorem dX2_init_27 : decode cX2_init 27 = .ok (.iload_n 2, 1) := dX2_init_0g.2.2.2.2.2.2.2.2.2.2.2.2.2.2.2
theorem dX2_init_28g : decode cX2_init 28 = .ok (.iconst 4, 1) ∧ decode cX2_init 29 = .ok (.if_icmp .ge 39, 3) ∧ decode cX2_init 32 = .ok (.aload_n 0, 1) ∧ decode cX2_init 33 = .ok (.getfield 17, 3) ∧ decode cX2_init 36 = .ok (.iload_n 2, 1) ∧ decode cX2_init 37 = .ok (.new 15, 3) ∧ decode cX2_init 40 = .ok (.dup, 1) ∧ decode cX2_init 41 = .ok (.iload_n 1, 1) ∧ decode cX2_init 42 = .ok (.iload_n 2, 1) ∧ decode cX2_init 43 = .ok (.invokespecial 24, 3) ∧ decode cX2_init 46 = .ok (.aastore, 1) ∧ decode cX2_init 47 = .ok (.aload_n 0, 1) ∧ decode cX2_init 48 = .ok (.getfield 21, 3) ∧ decode cX2_init 51 = .ok (.iload_n 2, 1) ∧ decode cX2_init 52 = .ok (.new 15, 3) ∧ decode cX2_init 55 = .ok (.dup, 1) := by decide +kernel
theorem dX2_init_28 : decode cX2_init 28 = .ok (.iconst 4, 1) := dX2_init_28g.1
theorem dX2_init_29 : decode cX2_init 29 = .ok (.if_icmp .ge 39, 3) := dX2_init_28g.2.1
theorem dX2_init_32 : decode cX2_init 32 = .ok (.aload_n 0, 1) := dX2_init_28g.2.2.1
theorem dX2_init_33 : decode cX2_init 33 = .ok (.getfield 17, 3) := dX2_init_28g.2.2.2.1
theorem dX2_init_36 : decode cX2_init 36 = .ok (.iload_n 2, 1) := dX2_init_28g.2.2.2.2.1
theorem dX2_init_37 : decode cX2_init 37 = .ok (.new 15, 3) := dX2_init_28g.2.2.2.2.2.1
theorem dX2_init_40 : decode cX2_init 40 = .ok (.dup, 1) := dX2_init_28g.2.2.2.2.2.2.1
theorem dX2_init_41 : decode cX2_init 41 = .ok (.iload_n 1, 1) := dX2_init_28g.2.2.2.2.2.2.2.1
theorem dX2_init_42 : decode cX2_init 42 = .ok (.iload_n 2, 1) := dX2_init_28g.2.2.2.2.2.2.2.2.1
theorem dX2_init_43 : decode cX2_init 43 = .ok (.invokespecial 24, 3) := dX2_init_28g.2.2.2.2.2.2.2.2.2.1
theorem dX2_init_46 : decode cX2_init 46 = .ok (.aastore, 1) := dX2_init_28g.2.2.2.2.2.2.2.2.2.2.1
theorem dX2_init_47 : decode cX2_init 47 = .ok (.aload_n 0, 1) := dX2_init_28g.2.2.2.2.2.2.2.2.2.2.2.1
theorem dX2_init_48 : decode cX2_init 48 = .ok (.getfield 21, 3) := dX2_init_28g.2.2.2.2.2.2.2.2.2.2.2.2.1
theorem dX2_init_51 : decode cX2_init 51 = .ok (.iload_n 2, 1) := dX2_init_28g.2.2.2.2.2.2.2.2.2.2.2.2.2.1
theorem dX2_init_52 : decode cX2_init 52 = .ok (.new 15, 3) := dX2_init_28g.2.2.2.2.2.2.2.2.2.2.2.2.2.2.1
theorem dX2_init_55 : decode cX2_init 55 = .ok (.dup, 1) := dX2_init_28g.2.2.2.2.2.2.2.2.2.2.2.2.2.2.2
theorem dX2_init_56g : decode cX2_init 56 = .ok (.iload_n 1, 1) ∧ decode cX2_init 57 = .ok (.iload_n 2, 1) ∧ decode cX2_init 58 = .ok (.invokespecial 24, 3) ∧ decode cX2_init 61 = .ok (.aastore, 1) ∧ decode cX2_init 62 = .ok (.iinc 2 1, 3) ∧ decode cX2_init 65 = .ok (.goto (-38), 3) ∧ decode cX2_init 68 = .ok (.aload_n 0, 1) ∧ decode cX2_init 69 = .ok (.bipush 26, 2) ∧ decode cX2_init 71 = .ok (.newarray .int, 2) ∧ decode cX2_init 73 = .ok (.putfield 27, 3) ∧ decode cX2_init 76 = .ok (.iconst 0, 1) ∧ decode cX2_init 77 = .ok (.istore_n 2, 1) ∧ decode cX2_init 78 = .ok (.iload_n 2, 1) ∧ decode cX2_init 79 = .ok (.bipush 26, 2) ∧ decode cX2_init 81 = .ok (.if_icmp .ge 16, 3) ∧ decode cX2_init 84 = .ok (.aload_n 0, 1) := by decide +kernel
theorem dX2_init_56 : decode cX2_init 56 = .ok (.iload_n 1, 1) := dX2_init_56g.1
theorem dX2_init_57 : decode cX2_init 57 = .ok (.iload_n 2, 1) := dX2_init_56g.2.1
theorem dX2_init_58 : decode cX2_init 58 = .ok (.invokespecial 24, 3) := dX2_init_56g.2.2.1
theorem dX2_init_61 : decode cX2_init 61 = .ok (.aastore, 1) := dX2_init_56g.2.2.2.1
theorem dX2_init_62 : decode cX2_init 62 = .ok (.iinc 2 1, 3) := dX2_init_56g.2.2.2.2.1
theorem dX2_init_65 : decode cX2_init 65 = .ok (.goto (-38), 3) := dX2_init_56g.2.2.2.2.2.1
theorem dX2_init_68 : decode cX2_init 68 = .ok (.aload_n 0, 1) := dX2_init_56g.2.2.2.2.2.2.1
theorem dX2_init_69 : decode cX2_init 69 = .ok (.bipush 26, 2) := dX2_init_56g.2.2.2.2.2.2.2.1
theorem dX2_init_71 : decode cX2_init 71 = .ok (.newarray .int, 2) := dX2_init_56g.2.2.2.2.2.2.2.2.1
theorem dX2_init_73 : decode cX2_init 73 = .ok (.putfield 27, 3) := dX2_init_56g.2.2.2.2.2.2.2.2.2.1
theorem dX2_init_76 : decode cX2_init 76 = .ok (.iconst 0, 1) := dX2_init_56g.2.2.2.2.2.2.2.2.2.2.1
theorem dX2_init_77 : decode cX2_init 77 = .ok (.istore_n 2, 1) := dX2_init_56g.2.2.2.2.2.2.2.2.2.2.2.1
theorem dX2_init_78 : decode cX2_init 78 = .ok (.iload_n 2, 1) := dX2_init_56g.2.2.2.2.2.2.2.2.2.2.2.2.1
theorem dX2_init_79 : decode cX2_init 79 = .ok (.bipush 26, 2) := dX2_init_56g.2.2.2.2.2.2.2.2.2.2.2.2.2.1
theorem dX2_init_81 : decode cX2_init 81 = .ok (.if_icmp .ge 16, 3) := dX2_init_56g.2.2.2.2.2.2.2.2.2.2.2.2.2.2.1
theorem dX2_init_84 : decode cX2_init 84 = .ok (.aload_n 0, 1) := dX2_init_56g.2.2.2.2.2.2.2.2.2.2.2.2.2.2.2
theorem dX2_init_85g : decode cX2_init 85 = .ok (.getfield 27, 3) ∧ decode cX2_init 88 = .ok (.iload_n 2, 1) ∧ decode cX2_init 89 = .ok (.iconst (-1), 1) ∧ decode cX2_init 90 = .ok (.iastore, 1) ∧ decode cX2_init 91 = .ok (.iinc 2 1, 3) ∧ decode cX2_init 94 = .ok (.goto (-16), 3) ∧ decode cX2_init 97 = .ok (.return_, 1) := by decide +kernel
theorem dX2_init_85 : decode cX2_init 85 = .ok (.getfield 27, 3) := dX2_init_85g.1
theorem dX2_init_88 : decode cX2_init 88 = .ok (.iload_n 2, 1) := dX2_init_85g.2.1
theorem dX2_init_89 : decode cX2_init 89 = .ok (.iconst (-1), 1) := dX2_init_85g.2.2.1
theorem dX2_init_90 : decode cX2_init 90 = .ok (.iastore, 1) := dX2_init_85g.2.2.2.1
theorem dX2_init_91 : decode cX2_init 91 = .ok (.iinc 2 1, 3) := dX2_init_85g.2.2.2.2.1
theorem dX2_init_94 : decode cX2_init 94 = .ok (.goto (-16), 3) := dX2_init_85g.2.2.2.2.2.1
theorem dX2_init_97 : decode cX2_init 97 = .ok (.return_, 1) := dX2_init_85g.2.2.2.2.2.2

set_option maxHeartbeats 4000000 in
set_option maxRecDepth 100000 in
theorem n_X2 (l : Launch) (dC : Nat → ClassId) (dI : Nat → Nat → Nat) (ad : Nat → Nat → Nat) (cid : Nat → ClassId) (h0 : Nat) (p0 : Int32) : NM dC dI ad cid l yX2_init wm_X2_init ({ frames := 2, cells := 19, slots := 114, locals := 42 }) [.ref h0, .int p0] [(h0, .inr (2, [.null, .null, .int 0, .int 0, .int 0, .null, .int 0, .null]))] (fun w => ∃ u : DU, u.1.1 = h0 ∧ w = dcW cid p0 u ∧ dcP u) 19 114 := by
  intro sz
  refine Met.ofW (cc := cX2_init) (maxL := 3) (ret := none) (by decide) rfl ?_
  intro p e s m args below meth c s₁ B hml hv
  obtain ⟨rfl, hsz, hP, hK, hD0, hG⟩ := hv
  have hx := B.exec
  have hb := B.bytes
  have hr := B.returns
  have hts := atoms_spec (ws := wm_X2_init) B.pre
  have htb := fun (w : Cond) (h : w ∈ tb) => hts w (List.mem_cons_of_mem _ h)
  have hown : s.vm.findClass RX2 = some m.cls := findClass_of_methodNamed B.named
  have hlocks := B.notSynchronized
  have hin : meth.name = "<init>" := (name_of_methodNamed B.named B.method).1
  subst hsz
  have hD := hD0.self (sz := s.heap.size)
  generalize hAe : va_A [(h0, .inr (2, [.null, .null, .int 0, .int 0, .int 0, .null, .int 0, .null]))] s.heap.size = A at hD hG ⊢
  have hA : ∀ q : Nat, s.heap.size ≤ q → A q := fun q h => by rw [← hAe]; exact Or.inr h
  have hS : va_S A s.heap s.heap [] := va_S.rf
  have hl := lv_entry ([.ref h0, .int p0]) (n := 3) (Nat.le_of_ble_eq_true rfl)
  rw [lg_entry_eq]
  generalize (lg_sl ([.ref h0, .int p0]) ++ List.replicate (3 - (lg_sl ([.ref h0, .int p0])).length) Slot.unset).toArray = ls at hl ⊢
  have hl : lv_has ls 3 [(0, .ref h0), (1, .int p0)] := hl
  have hP : va_P (dC, dI) vwCl ((h0, .inr (2, [.null, .null, .int 0, .int 0, .int 0, .null, .int 0, .null])) :: []) s.heap := hP
  have hD : va_D A ((h0, .inr (2, [.null, .null, .int 0, .int 0, .int 0, .null, .int 0, .null])) :: []) := hD
  refine n_gen (fun Q eQ => ?_)
  refine lv_aload_n hx hb dX2_init_0 rfl (lv_at hl 0 rfl) ?_
  refine W.objInit hx hb hown (htb _ kw_186) (htb _ kw_181) (htb _ kw_1369) rfl (by rw [hml]; exact hl.1) rfl dX2_init_1 (Nat.le_of_ble_eq_true rfl) (Nat.le_of_ble_eq_true rfl) ?_
  refine W.eq (g2 := F0 m 4 ls []) rfl ?_
  refine lv_aload_n hx hb dX2_init_4 rfl (lv_at hl 0 rfl) ?_
  refine lv_iload_n hx hb dX2_init_5 rfl (lv_at hl 1 rfl) ?_
  refine va_putF (D := (dC, dI)) (ci := 2) (v := .int p0) (ty := tyX2 4) (C := RX2) (T := TX2) (N := 8) hx hb htb inX2 tyX2 tyX2_ok nmX2 hown hK hP hD hS 0 rfl rfl 4 (by decide) (htb _ kw_214) (fun _ h9 => h9) rfl hin rfl (tyX2_ok 4 (by decide)) rfl rfl (Nat.le_of_ble_eq_true rfl) dX2_init_6 (fun H locs hP hD hS => ?_)
  have hP : va_P (dC, dI) vwCl ((h0, .inr (2, [.null, .null, .int 0, .int 0, .int p0, .null, .int 0, .null])) :: []) H := hP
  have hD : va_D A ((h0, .inr (2, [.null, .null, .int 0, .int 0, .int p0, .null, .int 0, .null])) :: []) := hD
  refine lv_aload_n hx hb dX2_init_9 rfl (lv_at hl 0 rfl) ?_
  refine lv_iconst (v := 4) hx hb dX2_init_10 (by decide) ?_
  refine va_newq (D := (dC, dI)) (N' := 4) (C := RX8) hx hb hown (htb _ kw_187) hG.1.1.2.1 hK hP hD hS hA (by decide) (by decide) (by decide) (Nat.le_of_ble_eq_true rfl) (Nat.le_of_ble_eq_true rfl) dX2_init_11 (fun q_1 cA_2 H hK2 hP hD hS => ?_)
  obtain rfl : cA_2 = cid 28 := ty_eq (by decide) hK hK2 rfl
  have hP : va_P (dC, dI) vwCl ((q_1, .inl (cid 28, 4, .inr (.inr (.inr (.inr (fun _ => none)))))) :: (h0, .inr (2, [.null, .null, .int 0, .int 0, .int p0, .null, .int 0, .null])) :: []) H := fr_P hP
  have hD : va_D A ((q_1, .inl (cid 28, 4, .inr (.inr (.inr (.inr (fun _ => none)))))) :: (h0, .inr (2, [.null, .null, .int 0, .int 0, .int p0, .null, .int 0, .null])) :: []) := fr_D hD
  refine W.widen (k := 1) (n := 4) (Nat.le_of_ble_eq_true rfl) (Nat.le_of_ble_eq_true rfl) ?_
  refine va_putF (D := (dC, dI)) (ci := 2) (v := .ref q_1) (ty := tyX2 0) (C := RX2) (T := TX2) (N := 8) hx hb htb inX2 tyX2 tyX2_ok nmX2 hown hK hP hD hS 1 rfl rfl 0 (by decide) (htb _ kw_206) (fun _ h9 => h9) rfl hin rfl (tyX2_ok 0 (by decide)) rfl rfl (Nat.le_of_ble_eq_true rfl) dX2_init_14 (fun H locs hP hD hS => ?_)
  have hP : va_P (dC, dI) vwCl ((q_1, .inl (cid 28, 4, .inr (.inr (.inr (.inr (fun _ => none)))))) :: (h0, .inr (2, [.ref q_1, .null, .int 0, .int 0, .int p0, .null, .int 0, .null])) :: []) H := hP
  have hD : va_D A ((q_1, .inl (cid 28, 4, .inr (.inr (.inr (.inr (fun _ => none)))))) :: (h0, .inr (2, [.ref q_1, .null, .int 0, .int 0, .int p0, .null, .int 0, .null])) :: []) := hD
  refine lv_aload_n hx hb dX2_init_17 rfl (lv_at hl 0 rfl) ?_
  refine lv_iconst (v := 4) hx hb dX2_init_18 (by decide) ?_
  refine va_newq (D := (dC, dI)) (N' := 4) (C := RX8) hx hb hown (htb _ kw_187) hG.1.1.2.1 hK hP hD hS hA (by decide) (by decide) (by decide) (Nat.le_of_ble_eq_true rfl) (Nat.le_of_ble_eq_true rfl) dX2_init_19 (fun q_3 cA_4 H hK2 hP hD hS => ?_)
  obtain rfl : cA_4 = cid 29 := ty_eq (by decide) hK hK2 rfl
  have hP : va_P (dC, dI) vwCl ((q_3, .inl (cid 29, 4, .inr (.inr (.inr (.inr (fun _ => none)))))) :: (q_1, .inl (cid 28, 4, .inr (.inr (.inr (.inr (fun _ => none)))))) :: (h0, .inr (2, [.ref q_1, .null, .int 0, .int 0, .int p0, .null, .int 0, .null])) :: []) H := fr_P hP
  have hD : va_D A ((q_3, .inl (cid 29, 4, .inr (.inr (.inr (.inr (fun _ => none)))))) :: (q_1, .inl (cid 28, 4, .inr (.inr (.inr (.inr (fun _ => none)))))) :: (h0, .inr (2, [.ref q_1, .null, .int 0, .int 0, .int p0, .null, .int 0, .null])) :: []) := fr_D hD
  refine W.widen (k := 2) (n := 8) (Nat.le_of_ble_eq_true rfl) (Nat.le_of_ble_eq_true rfl) ?_
  refine va_putF (D := (dC, dI)) (ci := 2) (v := .ref q_3) (ty := tyX2 1) (C := RX2) (T := TX2) (N := 8) hx hb htb inX2 tyX2 tyX2_ok nmX2 hown hK hP hD hS 2 rfl rfl 1 (by decide) (htb _ kw_208) (fun _ h9 => h9) rfl hin rfl (tyX2_ok 1 (by decide)) rfl rfl (Nat.le_of_ble_eq_true rfl) dX2_init_22 (fun H locs hP hD hS => ?_)
  have hP : va_P (dC, dI) vwCl ((q_3, .inl (cid 29, 4, .inr (.inr (.inr (.inr (fun _ => none)))))) :: (q_1, .inl (cid 28, 4, .inr (.inr (.inr (.inr (fun _ => none)))))) :: (h0, .inr (2, [.ref q_1, .ref q_3, .int 0, .int 0, .int p0, .null, .int 0, .null])) :: []) H := hP
  have hD : va_D A ((q_3, .inl (cid 29, 4, .inr (.inr (.inr (.inr (fun _ => none)))))) :: (q_1, .inl (cid 28, 4, .inr (.inr (.inr (.inr (fun _ => none)))))) :: (h0, .inr (2, [.ref q_1, .ref q_3, .int 0, .int 0, .int p0, .null, .int 0, .null])) :: []) := hD
  refine lv_iconst (v := 0) hx hb dX2_init_25 (by decide) ?_
  refine lv_istore_n (lv' := [(2, .int 0), (0, .ref h0), (1, .int p0)]) hx hb dX2_init_26 rfl hl (by decide) rfl (fun ls hl => ?_)
  have hloop : ∀ (n i : Nat) (adr : Nat → Nat × Nat × Nat × Nat) (f8 : Nat → Option Nat) (f9 : Nat → Option Nat) (H : Heap) (locs : List Loc) (ls : Array Slot), i + n = 4 → (∀ j, j < i → f8 j = some (adr j).1) → (∀ j, j < i → f9 j = some (adr j).2.2.1) → va_P (dC, dI) vwCl ((q_3, .inl (cid 29, 4, .inr (.inr (.inr (.inr f9))))) :: (q_1, .inl (cid 28, 4, .inr (.inr (.inr (.inr f8))))) :: (h0, .inr (2, [.ref q_1, .ref q_3, .int 0, .int 0, .int p0, .null, .int 0, .null])) :: tl (sgFk cid p0) adr i) H → va_D A ((q_3, .inl (cid 29, 4, .inr (.inr (.inr (.inr f9))))) :: (q_1, .inl (cid 28, 4, .inr (.inr (.inr (.inr f8))))) :: (h0, .inr (2, [.ref q_1, .ref q_3, .int 0, .int 0, .int p0, .null, .int 0, .null])) :: tl (sgFk cid p0) adr i) → va_S A s.heap H locs → lv_has ls 3 [(2, .int (nI i)), (0, .ref h0), (1, .int p0)] → W p l e (headSpec wm_X2_init ({ frames := 2, cells := 19, slots := 114, locals := 42 })).room s m ([.ref h0, .int p0] : List Value).toArray below meth c H locs (i * 4 + 2) (i * 20 + 8) Q (F0 m 27 ls []) := by
    intro n
    induction n with
    | zero =>
      intro i adr f8 f9 H locs ls hi9 hf8 hf9 hP hD hS hl
      obtain rfl : i = 4 := by omega
      have hl : lv_has ls 3 [(2, .int 4), (0, .ref h0), (1, .int p0)] := hl
      refine W.widen (k := 18) (n := 88) (Nat.le_of_ble_eq_true rfl) (Nat.le_of_ble_eq_true rfl) ?_
      refine lv_iload_n hx hb dX2_init_27 rfl (lv_at hl 0 rfl) ?_
      refine lv_iconst (v := 4) hx hb dX2_init_28 (by decide) ?_
      refine lv_icmp_ge (tgt := 68) hx hb dX2_init_29 (by decide) (fun _ => ?_) (fun c9 => absurd (by decide) c9)
      refine lv_aload_n hx hb dX2_init_68 rfl (lv_at hl 1 rfl) ?_
      refine lv_bipush (v := 26) hx hb dX2_init_69 (by decide) ?_
      refine va_newa (D := (dC, dI)) (atype := .int) (ty := .int) (N' := 26) (a0 := (26, .inl (fun _ => 0))) hx hb (htb _ kw_205) rfl hK hP hD hS hA (fun _ => rfl) (by decide) (by decide) (by decide) (Nat.le_of_ble_eq_true rfl) (Nat.le_of_ble_eq_true rfl) dX2_init_71 (fun q_5 cA_6 H hK2 hP hD hS => ?_)
      obtain rfl : cA_6 = cid 30 := ty_eq (by decide) hK hK2 rfl
      have hP : va_P (dC, dI) vwCl ((q_5, .inl (cid 30, 26, .inl (fun _ => 0))) :: (q_3, .inl (cid 29, 4, .inr (.inr (.inr (.inr f9))))) :: (q_1, .inl (cid 28, 4, .inr (.inr (.inr (.inr f8))))) :: (h0, .inr (2, [.ref q_1, .ref q_3, .int 0, .int 0, .int p0, .null, .int 0, .null])) :: tl (sgFk cid p0) adr 4) H := fr_P hP
      have hD : va_D A ((q_5, .inl (cid 30, 26, .inl (fun _ => 0))) :: (q_3, .inl (cid 29, 4, .inr (.inr (.inr (.inr f9))))) :: (q_1, .inl (cid 28, 4, .inr (.inr (.inr (.inr f8))))) :: (h0, .inr (2, [.ref q_1, .ref q_3, .int 0, .int 0, .int p0, .null, .int 0, .null])) :: tl (sgFk cid p0) adr 4) := fr_D hD
      refine W.widen (k := 19) (n := 114) (Nat.le_of_ble_eq_true rfl) (Nat.le_of_ble_eq_true rfl) ?_
      refine va_putF (D := (dC, dI)) (ci := 2) (v := .ref q_5) (ty := tyX2 5) (C := RX2) (T := TX2) (N := 8) hx hb htb inX2 tyX2 tyX2_ok nmX2 hown hK hP hD hS 3 rfl rfl 5 (by decide) (htb _ kw_215) (fun _ h9 => h9) rfl hin rfl (tyX2_ok 5 (by decide)) rfl rfl (Nat.le_of_ble_eq_true rfl) dX2_init_73 (fun H locs hP hD hS => ?_)
      have hP : va_P (dC, dI) vwCl ((q_5, .inl (cid 30, 26, .inl (fun _ => 0))) :: (q_3, .inl (cid 29, 4, .inr (.inr (.inr (.inr f9))))) :: (q_1, .inl (cid 28, 4, .inr (.inr (.inr (.inr f8))))) :: (h0, .inr (2, [.ref q_1, .ref q_3, .int 0, .int 0, .int p0, .ref q_5, .int 0, .null])) :: tl (sgFk cid p0) adr 4) H := hP
      have hD : va_D A ((q_5, .inl (cid 30, 26, .inl (fun _ => 0))) :: (q_3, .inl (cid 29, 4, .inr (.inr (.inr (.inr f9))))) :: (q_1, .inl (cid 28, 4, .inr (.inr (.inr (.inr f8))))) :: (h0, .inr (2, [.ref q_1, .ref q_3, .int 0, .int 0, .int p0, .ref q_5, .int 0, .null])) :: tl (sgFk cid p0) adr 4) := hD
      refine lv_iconst (v := 0) hx hb dX2_init_76 (by decide) ?_
      refine lv_istore_n (lv' := [(2, .int 0), (0, .ref h0), (1, .int p0)]) hx hb dX2_init_77 rfl hl (by decide) rfl (fun ls hl => ?_)
      have hloop : ∀ (n i : Nat) (g0 : Nat → Int32) (H : Heap) (locs : List Loc) (ls : Array Slot), i + n = 26 → (∀ j, j < i → g0 j = -1) → va_P (dC, dI) vwCl ((q_5, .inl (cid 30, 26, .inl g0)) :: (q_3, .inl (cid 29, 4, .inr (.inr (.inr (.inr f9))))) :: (q_1, .inl (cid 28, 4, .inr (.inr (.inr (.inr f8))))) :: (h0, .inr (2, [.ref q_1, .ref q_3, .int 0, .int 0, .int p0, .ref q_5, .int 0, .null])) :: tl (sgFk cid p0) adr 4) H → va_D A ((q_5, .inl (cid 30, 26, .inl g0)) :: (q_3, .inl (cid 29, 4, .inr (.inr (.inr (.inr f9))))) :: (q_1, .inl (cid 28, 4, .inr (.inr (.inr (.inr f8))))) :: (h0, .inr (2, [.ref q_1, .ref q_3, .int 0, .int 0, .int p0, .ref q_5, .int 0, .null])) :: tl (sgFk cid p0) adr 4) → va_S A s.heap H locs → lv_has ls 3 [(2, .int (nI i)), (0, .ref h0), (1, .int p0)] → W p l e (headSpec wm_X2_init ({ frames := 2, cells := 19, slots := 114, locals := 42 })).room s m ([.ref h0, .int p0] : List Value).toArray below meth c H locs (i * 0 + 19) (i * 0 + 114) Q (F0 m 78 ls []) := by
        intro n
        induction n with
        | zero =>
          intro i g0 H locs ls hi9 hg0 hP hD hS hl
          obtain rfl : i = 26 := by omega
          have hl : lv_has ls 3 [(2, .int 26), (0, .ref h0), (1, .int p0)] := hl
          refine W.widen (k := 19) (n := 114) (Nat.le_of_ble_eq_true rfl) (Nat.le_of_ble_eq_true rfl) ?_
          refine lv_iload_n hx hb dX2_init_78 rfl (lv_at hl 0 rfl) ?_
          refine lv_bipush (v := 26) hx hb dX2_init_79 (by decide) ?_
          refine lv_icmp_ge (tgt := 97) hx hb dX2_init_81 (by decide) (fun _ => ?_) (fun c9 => absurd (by decide) c9)
          rw [eQ]
          exact W.vret hx hb hr (fun t ht hW => ⟨⟨(q_5, .inl (cid 30, 26, .inl g0)) :: (q_3, .inl (cid 29, 4, .inr (.inr (.inr (.inr f9))))) :: (q_1, .inl (cid 28, 4, .inr (.inr (.inr (.inr f8))))) :: (h0, .inr (2, [.ref q_1, .ref q_3, .int 0, .int 0, .int p0, .ref q_5, .int 0, .null])) :: tl (sgFk cid p0) adr 4, rfl, ⟨((h0, q_1, q_3, q_5), adr, (f8, f9), g0), rfl, rfl, hf8, hf9, hg0⟩, by rw [ht]; exact hP, va_K.moved hW.alike hK, hD⟩, hS.F ht⟩) hS.2.2 dX2_init_97
        | succ n ih =>
          intro i g0 H locs ls hi9 hg0 hP hD hS hl
          have hlt : i < 26 := by omega
          refine lv_iload_n hx hb dX2_init_78 rfl (lv_at hl 0 rfl) ?_
          refine lv_bipush (v := 26) hx hb dX2_init_79 (by decide) ?_
          refine lv_icmp_ge (tgt := 97) hx hb dX2_init_81 (by decide) (fun c9 => absurd c9 (nI_ge hlt (by decide))) (fun _ => ?_)
          refine lv_aload_n hx hb dX2_init_84 rfl (lv_at hl 1 rfl) ?_
          refine va_get (D := (dC, dI)) (ci := 2) (v := .ref q_5) (C := RX2) (T := TX2) (N := 8) hx hb htb inX2 hown hK hP 3 rfl rfl 5 (by decide) (htb _ kw_215) (fun _ h9 => h9) rfl dX2_init_85 ?_
          refine lv_iload_n hx hb dX2_init_88 rfl (lv_at hl 0 rfl) ?_
          refine lv_iconst (v := (-1)) hx hb dX2_init_89 (by decide) ?_
          refine va_iast (D := (dC, dI)) (f := g0) hx hb hK hP hD hS 0 30 rfl rfl (vp_in_nI hlt (by decide)) dX2_init_90 (fun H locs hP hD hS => ?_)
          have hP : va_P (dC, dI) vwCl ((q_5, .inl (cid 30, 26, .inl (upd g0 (nI i).toNatClampNeg (-1)))) :: (q_3, .inl (cid 29, 4, .inr (.inr (.inr (.inr f9))))) :: (q_1, .inl (cid 28, 4, .inr (.inr (.inr (.inr f8))))) :: (h0, .inr (2, [.ref q_1, .ref q_3, .int 0, .int 0, .int p0, .ref q_5, .int 0, .null])) :: tl (sgFk cid p0) adr 4) H := hP
          have hD : va_D A ((q_5, .inl (cid 30, 26, .inl (upd g0 (nI i).toNatClampNeg (-1)))) :: (q_3, .inl (cid 29, 4, .inr (.inr (.inr (.inr f9))))) :: (q_1, .inl (cid 28, 4, .inr (.inr (.inr (.inr f8))))) :: (h0, .inr (2, [.ref q_1, .ref q_3, .int 0, .int 0, .int p0, .ref q_5, .int 0, .null])) :: tl (sgFk cid p0) adr 4) := hD
          refine lv_iinc (v := nI (i + 1)) (lv' := [(2, .int (nI (i + 1))), (0, .ref h0), (1, .int p0)]) hx hb dX2_init_91 hl (k := 0) rfl (nI_1 i) (by decide) rfl (fun ls hl => ?_)
          refine lv_goto (tgt := 78) hx hb dX2_init_94 (by decide) ?_
          refine W.widen (k := (i + 1) * 0 + 19) (n := (i + 1) * 0 + 114) (by omega) (by omega) ?_
          exact ih (i + 1) (upd g0 (nI i).toNatClampNeg (-1)) _ _ _ (by omega) (fl_s (by omega) hg0) hP hD hS hl
      exact hloop 26 0 (fun _ => 0) _ _ _ rfl (fun j hj => absurd hj (Nat.not_lt_zero j)) hP hD hS hl
    | succ n ih =>
      intro i adr f8 f9 H locs ls hi9 hf8 hf9 hP hD hS hl
      have hlt : i < 4 := by omega
      refine lv_iload_n hx hb dX2_init_27 rfl (lv_at hl 0 rfl) ?_
      refine lv_iconst (v := 4) hx hb dX2_init_28 (by decide) ?_
      refine lv_icmp_ge (tgt := 68) hx hb dX2_init_29 (by decide) (fun c9 => absurd c9 (nI_ge hlt (by decide))) (fun _ => ?_)
      refine lv_aload_n hx hb dX2_init_32 rfl (lv_at hl 1 rfl) ?_
      refine va_get (D := (dC, dI)) (ci := 2) (v := .ref q_1) (C := RX2) (T := TX2) (N := 8) hx hb htb inX2 hown hK hP 2 rfl rfl 0 (by decide) (htb _ kw_206) (fun _ h9 => h9) rfl dX2_init_33 ?_
      refine lv_iload_n hx hb dX2_init_36 rfl (lv_at hl 0 rfl) ?_
      refine va_new (ci := 8) (fs := nvX8) (C := RX8) (T := TX8) (N := 7) hx hb htb inX8 tyX8 tyX8_ok hown (htb _ kw_187) (htb _ kw_188) (htb _ kw_148) hK hP hD hS hA rfl nwX8 (by show (i * 4 + 2) + 1 ≤ 19; omega) (by show (i * 20 + 8) + 7 ≤ 114; omega) dX2_init_37 (fun q_7 H hP hD hS => ?_)
      have hP : va_P (dC, dI) vwCl ((q_7, .inr (8, [.int 0, .int 0, .null, .int 0, .int 0, .int 0, .int 0])) :: (q_3, .inl (cid 29, 4, .inr (.inr (.inr (.inr f9))))) :: (q_1, .inl (cid 28, 4, .inr (.inr (.inr (.inr f8))))) :: (h0, .inr (2, [.ref q_1, .ref q_3, .int 0, .int 0, .int p0, .null, .int 0, .null])) :: tl (sgFk cid p0) adr i) H := fr_P hP
      have hD : va_D A ((q_7, .inr (8, [.int 0, .int 0, .null, .int 0, .int 0, .int 0, .int 0])) :: (q_3, .inl (cid 29, 4, .inr (.inr (.inr (.inr f9))))) :: (q_1, .inl (cid 28, 4, .inr (.inr (.inr (.inr f8))))) :: (h0, .inr (2, [.ref q_1, .ref q_3, .int 0, .int 0, .int p0, .null, .int 0, .null])) :: tl (sgFk cid p0) adr i) := fr_D hD
      refine W.widen (k := i * 4 + 3) (n := i * 20 + 15) (by omega) (by omega) ?_
      refine lv_dup hx hb dX2_init_40 rfl ?_
      refine lv_iload_n hx hb dX2_init_41 rfl (lv_at hl 2 rfl) ?_
      refine lv_iload_n hx hb dX2_init_42 rfl (lv_at hl 0 rfl) ?_
      refine nw_call (rest := [.ref q_7, .int (nI i), .ref q_1]) (r := (q_3, .inl (cid 29, 4, .inr (.inr (.inr (.inr f9))))) :: (q_1, .inl (cid 28, 4, .inr (.inr (.inr (.inr f8))))) :: (h0, .inr (2, [.ref q_1, .ref q_3, .int 0, .int 0, .int p0, .null, .int 0, .null])) :: tl (sgFk cid p0) adr i) ⟨hx, hb, hml, hown, htb⟩ (n_X8 l dC dI ad cid (q_7) (p0) ((nI i))) (cwI 2 htb (gd_c kw_1371) rfl rfl rfl (htb _ kw_148) (htb _ kw_189) (htb _ kw_190) rfl (by decide +kernel) ⟨Nat.le_of_ble_eq_true rfl, Nat.le_of_ble_eq_true rfl⟩) rfl hl.1 rfl (Nat.le_of_ble_eq_true rfl) dX2_init_43 ⟨(by show (i * 4 + 3) + 1 ≤ 19; omega), (by show (i * 20 + 15) + 3 ≤ 114; omega)⟩ hK hP hD hS hA hG (fun w H locs hw hP7 hD7 hS => ?_)
      obtain ⟨a_8, rfl⟩ := hw
      have hP : va_P (dC, dI) vwCl ((q_3, .inl (cid 29, 4, .inr (.inr (.inr (.inr f9))))) :: (q_1, .inl (cid 28, 4, .inr (.inr (.inr (.inr f8))))) :: (h0, .inr (2, [.ref q_1, .ref q_3, .int 0, .int 0, .int p0, .null, .int 0, .null])) :: (sgW cid (p0) ((nI i)) q_7 a_8 ++ tl (sgFk cid p0) adr i)) H := sw_P (E := [(q_3, .inl (cid 29, 4, .inr (.inr (.inr (.inr f9))))), (q_1, .inl (cid 28, 4, .inr (.inr (.inr (.inr f8))))), (h0, .inr (2, [.ref q_1, .ref q_3, .int 0, .int 0, .int p0, .null, .int 0, .null]))]) (w := sgW cid (p0) ((nI i)) q_7 a_8) (T := tl (sgFk cid p0) adr i) hP7
      have hD : va_D A ((q_3, .inl (cid 29, 4, .inr (.inr (.inr (.inr f9))))) :: (q_1, .inl (cid 28, 4, .inr (.inr (.inr (.inr f8))))) :: (h0, .inr (2, [.ref q_1, .ref q_3, .int 0, .int 0, .int p0, .null, .int 0, .null])) :: (sgW cid (p0) ((nI i)) q_7 a_8 ++ tl (sgFk cid p0) adr i)) := sw_D (E := [(q_3, .inl (cid 29, 4, .inr (.inr (.inr (.inr f9))))), (q_1, .inl (cid 28, 4, .inr (.inr (.inr (.inr f8))))), (h0, .inr (2, [.ref q_1, .ref q_3, .int 0, .int 0, .int p0, .null, .int 0, .null]))]) (w := sgW cid (p0) ((nI i)) q_7 a_8) (T := tl (sgFk cid p0) adr i) hD7
      refine W.widen (k := i * 4 + 4) (n := i * 20 + 18) (by omega) (by omega) ?_
      refine va_astq (D := (dC, dI)) (r := (RX8, TX8, 7)) hx hb hK hP hD hS 1 28 4 8 rfl rfl rfl rfl (vp_in_nI hlt (by decide)) dX2_init_46 (fun H locs hP hD hS => ?_)
      have hP : va_P (dC, dI) vwCl ((q_3, .inl (cid 29, 4, .inr (.inr (.inr (.inr f9))))) :: (q_1, .inl (cid 28, 4, .inr (.inr (.inr (.inr (va_up f8 (nI i).toNatClampNeg (some q_7))))))) :: (h0, .inr (2, [.ref q_1, .ref q_3, .int 0, .int 0, .int p0, .null, .int 0, .null])) :: (sgW cid (p0) ((nI i)) q_7 a_8 ++ tl (sgFk cid p0) adr i)) H := hP
      have hD : va_D A ((q_3, .inl (cid 29, 4, .inr (.inr (.inr (.inr f9))))) :: (q_1, .inl (cid 28, 4, .inr (.inr (.inr (.inr (va_up f8 (nI i).toNatClampNeg (some q_7))))))) :: (h0, .inr (2, [.ref q_1, .ref q_3, .int 0, .int 0, .int p0, .null, .int 0, .null])) :: (sgW cid (p0) ((nI i)) q_7 a_8 ++ tl (sgFk cid p0) adr i)) := hD
      refine lv_aload_n hx hb dX2_init_47 rfl (lv_at hl 1 rfl) ?_
      refine va_get (D := (dC, dI)) (ci := 2) (v := .ref q_3) (C := RX2) (T := TX2) (N := 8) hx hb htb inX2 hown hK hP 2 rfl rfl 1 (by decide) (htb _ kw_208) (fun _ h9 => h9) rfl dX2_init_48 ?_
      refine lv_iload_n hx hb dX2_init_51 rfl (lv_at hl 0 rfl) ?_
      refine va_new (ci := 8) (fs := nvX8) (C := RX8) (T := TX8) (N := 7) hx hb htb inX8 tyX8 tyX8_ok hown (htb _ kw_187) (htb _ kw_188) (htb _ kw_148) hK hP hD hS hA rfl nwX8 (by show (i * 4 + 4) + 1 ≤ 19; omega) (by show (i * 20 + 18) + 7 ≤ 114; omega) dX2_init_52 (fun q_9 H hP hD hS => ?_)
      have hP : va_P (dC, dI) vwCl ((q_9, .inr (8, [.int 0, .int 0, .null, .int 0, .int 0, .int 0, .int 0])) :: (q_3, .inl (cid 29, 4, .inr (.inr (.inr (.inr f9))))) :: (q_1, .inl (cid 28, 4, .inr (.inr (.inr (.inr (va_up f8 (nI i).toNatClampNeg (some q_7))))))) :: (h0, .inr (2, [.ref q_1, .ref q_3, .int 0, .int 0, .int p0, .null, .int 0, .null])) :: (sgW cid (p0) ((nI i)) q_7 a_8 ++ tl (sgFk cid p0) adr i)) H := fr_P hP
      have hD : va_D A ((q_9, .inr (8, [.int 0, .int 0, .null, .int 0, .int 0, .int 0, .int 0])) :: (q_3, .inl (cid 29, 4, .inr (.inr (.inr (.inr f9))))) :: (q_1, .inl (cid 28, 4, .inr (.inr (.inr (.inr (va_up f8 (nI i).toNatClampNeg (some q_7))))))) :: (h0, .inr (2, [.ref q_1, .ref q_3, .int 0, .int 0, .int p0, .null, .int 0, .null])) :: (sgW cid (p0) ((nI i)) q_7 a_8 ++ tl (sgFk cid p0) adr i)) := fr_D hD
      refine W.widen (k := i * 4 + 5) (n := i * 20 + 25) (by omega) (by omega) ?_
      refine lv_dup hx hb dX2_init_55 rfl ?_
      refine lv_iload_n hx hb dX2_init_56 rfl (lv_at hl 2 rfl) ?_
      refine lv_iload_n hx hb dX2_init_57 rfl (lv_at hl 0 rfl) ?_
      refine nw_call (rest := [.ref q_9, .int (nI i), .ref q_3]) (r := (q_3, .inl (cid 29, 4, .inr (.inr (.inr (.inr f9))))) :: (q_1, .inl (cid 28, 4, .inr (.inr (.inr (.inr (va_up f8 (nI i).toNatClampNeg (some q_7))))))) :: (h0, .inr (2, [.ref q_1, .ref q_3, .int 0, .int 0, .int p0, .null, .int 0, .null])) :: (sgW cid (p0) ((nI i)) q_7 a_8 ++ tl (sgFk cid p0) adr i)) ⟨hx, hb, hml, hown, htb⟩ (n_X8 l dC dI ad cid (q_9) (p0) ((nI i))) (cwI 2 htb (gd_c kw_1371) rfl rfl rfl (htb _ kw_148) (htb _ kw_189) (htb _ kw_190) rfl (by decide +kernel) ⟨Nat.le_of_ble_eq_true rfl, Nat.le_of_ble_eq_true rfl⟩) rfl hl.1 rfl (Nat.le_of_ble_eq_true rfl) dX2_init_58 ⟨(by show (i * 4 + 5) + 1 ≤ 19; omega), (by show (i * 20 + 25) + 3 ≤ 114; omega)⟩ hK hP hD hS hA hG (fun w H locs hw hP7 hD7 hS => ?_)
      obtain ⟨a_10, rfl⟩ := hw
      have hP : va_P (dC, dI) vwCl ((q_3, .inl (cid 29, 4, .inr (.inr (.inr (.inr f9))))) :: (q_1, .inl (cid 28, 4, .inr (.inr (.inr (.inr (va_up f8 (nI i).toNatClampNeg (some q_7))))))) :: (h0, .inr (2, [.ref q_1, .ref q_3, .int 0, .int 0, .int p0, .null, .int 0, .null])) :: (sgW cid (p0) ((nI i)) q_9 a_10 ++ (sgW cid (p0) ((nI i)) q_7 a_8 ++ tl (sgFk cid p0) adr i))) H := sw_P (E := [(q_3, .inl (cid 29, 4, .inr (.inr (.inr (.inr f9))))), (q_1, .inl (cid 28, 4, .inr (.inr (.inr (.inr (va_up f8 (nI i).toNatClampNeg (some q_7))))))), (h0, .inr (2, [.ref q_1, .ref q_3, .int 0, .int 0, .int p0, .null, .int 0, .null]))]) (w := sgW cid (p0) ((nI i)) q_9 a_10) (T := (sgW cid (p0) ((nI i)) q_7 a_8 ++ tl (sgFk cid p0) adr i)) hP7
      have hD : va_D A ((q_3, .inl (cid 29, 4, .inr (.inr (.inr (.inr f9))))) :: (q_1, .inl (cid 28, 4, .inr (.inr (.inr (.inr (va_up f8 (nI i).toNatClampNeg (some q_7))))))) :: (h0, .inr (2, [.ref q_1, .ref q_3, .int 0, .int 0, .int p0, .null, .int 0, .null])) :: (sgW cid (p0) ((nI i)) q_9 a_10 ++ (sgW cid (p0) ((nI i)) q_7 a_8 ++ tl (sgFk cid p0) adr i))) := sw_D (E := [(q_3, .inl (cid 29, 4, .inr (.inr (.inr (.inr f9))))), (q_1, .inl (cid 28, 4, .inr (.inr (.inr (.inr (va_up f8 (nI i).toNatClampNeg (some q_7))))))), (h0, .inr (2, [.ref q_1, .ref q_3, .int 0, .int 0, .int p0, .null, .int 0, .null]))]) (w := sgW cid (p0) ((nI i)) q_9 a_10) (T := (sgW cid (p0) ((nI i)) q_7 a_8 ++ tl (sgFk cid p0) adr i)) hD7
      refine W.widen (k := i * 4 + 6) (n := i * 20 + 28) (by omega) (by omega) ?_
      refine va_astq (D := (dC, dI)) (r := (RX8, TX8, 7)) hx hb hK hP hD hS 0 29 4 8 rfl rfl rfl rfl (vp_in_nI hlt (by decide)) dX2_init_61 (fun H locs hP hD hS => ?_)
      have hP : va_P (dC, dI) vwCl ((q_3, .inl (cid 29, 4, .inr (.inr (.inr (.inr (va_up f9 (nI i).toNatClampNeg (some q_9))))))) :: (q_1, .inl (cid 28, 4, .inr (.inr (.inr (.inr (va_up f8 (nI i).toNatClampNeg (some q_7))))))) :: (h0, .inr (2, [.ref q_1, .ref q_3, .int 0, .int 0, .int p0, .null, .int 0, .null])) :: (sgW cid (p0) ((nI i)) q_9 a_10 ++ (sgW cid (p0) ((nI i)) q_7 a_8 ++ tl (sgFk cid p0) adr i))) H := hP
      have hD : va_D A ((q_3, .inl (cid 29, 4, .inr (.inr (.inr (.inr (va_up f9 (nI i).toNatClampNeg (some q_9))))))) :: (q_1, .inl (cid 28, 4, .inr (.inr (.inr (.inr (va_up f8 (nI i).toNatClampNeg (some q_7))))))) :: (h0, .inr (2, [.ref q_1, .ref q_3, .int 0, .int 0, .int p0, .null, .int 0, .null])) :: (sgW cid (p0) ((nI i)) q_9 a_10 ++ (sgW cid (p0) ((nI i)) q_7 a_8 ++ tl (sgFk cid p0) adr i))) := hD
      refine lv_iinc (v := nI (i + 1)) (lv' := [(2, .int (nI (i + 1))), (0, .ref h0), (1, .int p0)]) hx hb dX2_init_62 hl (k := 0) rfl (nI_1 i) (by decide) rfl (fun ls hl => ?_)
      refine lv_goto (tgt := 27) hx hb dX2_init_65 (by decide) ?_
      refine W.widen (k := (i + 1) * 4 + 2) (n := (i + 1) * 20 + 8) (by omega) (by omega) ?_
      have et9 := tl_s (F := sgFk cid p0) (adr := adr) (i := i) (u := (q_7, a_8, q_9, a_10))
      have hP : va_P (dC, dI) vwCl ((q_3, .inl (cid 29, 4, .inr (.inr (.inr (.inr (va_up f9 (nI i).toNatClampNeg (some q_9))))))) :: (q_1, .inl (cid 28, 4, .inr (.inr (.inr (.inr (va_up f8 (nI i).toNatClampNeg (some q_7))))))) :: (h0, .inr (2, [.ref q_1, .ref q_3, .int 0, .int 0, .int p0, .null, .int 0, .null])) :: tl (sgFk cid p0) (va_up adr i (q_7, a_8, q_9, a_10)) (i + 1)) H := by rw [et9]; exact hP
      have hD : va_D A ((q_3, .inl (cid 29, 4, .inr (.inr (.inr (.inr (va_up f9 (nI i).toNatClampNeg (some q_9))))))) :: (q_1, .inl (cid 28, 4, .inr (.inr (.inr (.inr (va_up f8 (nI i).toNatClampNeg (some q_7))))))) :: (h0, .inr (2, [.ref q_1, .ref q_3, .int 0, .int 0, .int p0, .null, .int 0, .null])) :: tl (sgFk cid p0) (va_up adr i (q_7, a_8, q_9, a_10)) (i + 1)) := by rw [et9]; exact hD
      exact ih (i + 1) (va_up adr i (q_7, a_8, q_9, a_10)) (va_up f8 (nI i).toNatClampNeg (some q_7)) (va_up f9 (nI i).toNatClampNeg (some q_9)) _ _ _ (by omega) (fs_q (α := Nat × Nat × Nat × Nat) (u := (q_7, a_8, q_9, a_10)) (fun x => x.1) (by omega) hf8) (fs_q (α := Nat × Nat × Nat × Nat) (u := (q_7, a_8, q_9, a_10)) (fun x => x.2.2.1) (by omega) hf9) hP hD hS hl
  exact hloop 4 0 (fun _ => (0, 0, 0, 0)) (fun _ => none) (fun _ => none) _ _ _ rfl (fun j hj => absurd hj (Nat.not_lt_zero j)) (fun j hj => absurd hj (Nat.not_lt_zero j)) hP hD hS hl

def wbW (ad : Nat → Nat → Nat) (cid : Nat → ClassId) (h a12 a13 : Nat) (f2 : Nat → Option Nat) (adr : Nat → DU) (up : PU) (rd st : Nat) (uw : WU) (rw9 r1 mk a b f x q : Nat) : va_W := (a13, .inl (cid 13, 1200, .inl (fun _ => 0))) :: (a12, .inl (cid 12, 8, .inr (.inr (.inr (.inr f2))))) :: (h, .inr (11, [.ref a12, .ref a13, .ref up.1.1, .ref rd, .ref st, .ref uw.1.1, .ref rw9, .ref mk, .int 0, .int 0, .int 0, .int (-1)])) :: (mkW cid mk uw.1.1 a12 rw9 a b f x q ++ (rwW cid rw9 r1 ++ (wiW ad cid up.1.1 uw ++ ([(st, (.inr (9, [.ref up.1.1]) : va_E))] ++ ([(rd, (.inr (7, [.ref up.1.1, .null, .int 0, .int 0, .int 0, .null]) : va_E))] ++ (paW cid up ++ tl (dcF cid) adr 8))))))

theorem dX12_init_0g : decode cX12_init 0 = .ok (.aload_n 0, 1) ∧ decode cX12_init 1 = .ok (.invokespecial 1, 3) ∧ decode cX12_init 4 = .ok (.aload_n 0, 1) ∧ decode cX12_init 5 = .ok (.bipush 8, 2) ∧ decode cX12_init 7 = .ok (.anewarray 9, 3) ∧ decode cX12_init 10 = .ok (.putfield 11, 3) ∧ decode cX12_init 13 = .ok (.iconst 0, 1) ∧ decode cX12_init 14 = .ok (.istore_n 1, 1) ∧ decode cX12_init 15 = .ok (.iload_n 1, 1) ∧ decode cX12_init 16 = .ok (.bipush 8, 2) ∧ decode cX12_init 18 = .ok (.if_icmp .ge 23, 3) ∧ decode cX12_init 21 = .ok (.aload_n 0, 1) ∧ decode cX12_init 22 = .ok (.getfield 11, 3) ∧ decode cX12_init 25 = .ok (.iload_n 1, 1) ∧ decode cX12_init 26 = .ok (.new 9, 3) ∧ decode cX12_init 29 = .ok (.dup, 1) := by decide +kernel
theorem dX12_init_0 : decode cX12_init 0 = .ok (.aload_n 0, 1) := dX12_init_0g.1
theorem dX12_init_1 : decode cX12_init 1 = .ok (.invokespecial 1, 3) := dX12_init_0g.2.1
theorem dX12_init_4 : decode cX12_init 4 = .ok (.aload_n 0, 1) := dX12_init_0g.2.2.1
theorem dX12_init_5 : decode cX12_init 5 = .ok (.bipush 8, 2) := dX12_init_0g.2.2.2.1
theorem dX12_init_7 : decode cX12_init 7 = .ok (.anewarray 9, 3) := dX12_init_0g.2.2.2.2.1
theorem dX12_init_10 : decode cX12_init 10 = .ok (.putfield 11, 3) := dX12_init_0g.2.2.2.2.2.1
theorem dX12_init_13 : decode cX12_init 13 = .ok (.iconst 0, 1) := dX12_init_0g.2.2.2.2.2.2.1
theorem dX12_init_14 : decode cX12_init 14 = .ok (.istore_n 1, 1) := dX12_init_0g.2.2.2.2.2.2.2.1
theorem dX12_init_15 : decode cX12_init 15 = .ok (.iload_n 1, 1) := dX12_init_0g.2.2.2.2.2.2.2.2.1
theorem dX12_init_16 : decode cX12_init 16 = .ok (.bipush 8, 2) := dX12_init_0g.2.2.2.2.2.2.2.2.2.1
theorem dX12_init_18 : decode cX12_init 18 = .ok (.if_icmp .ge 23, 3) := dX12_init_0g.2.2.2.2.2.2.2.2.2.2.1
theorem dX12_init_21 : decode cX12_init 21 = .ok (.aload_n 0, 1) := dX12_init_0g.2.2.2.2.2.2.2.2.2.2.2.1
theorem dX12_init_22 : decode cX12_init 22 = .ok (.getfield 11, 3) := dX12_init_0g.2.2.2.2.2.2.2.2.2.2.2.2.1
theorem dX12_init_25 : decode cX12_init 25 = .ok (.iload_n 1, 1) := dX12_init_0g.2.2.2.2.2.2.2.2.2.2.2.2.2.1
theorem dX12_init_26 : decode cX12_init 26 = .ok (.new 9, 3) := dX12_init_0g.2.2.2.2.2.2.2.2.2.2.2.2.2.2.1
theorem dX12_init_29 : decode cX12_init 29 = .ok (.dup, 1) := dX12_init_0g.2.2.2.2.2.2.2.2.2.2.2.2.2.2.2
theorem dX12_init_30g : decode cX12_init 30 = .ok (.iload_n 1, 1) ∧ decode cX12_init 31 = .ok (.invokespecial 15, 3) ∧ decode cX12_init 34 = .ok (.aastore, 1) ∧ decode cX12_init 35 = .ok (.iinc 1 1, 3) ∧ decode cX12_init 38 = .ok (.goto (-23), 3) ∧ decode cX12_init 41 = .ok (.aload_n 0, 1) ∧ decode cX12_init 42 = .ok (.sipush 1200, 3) ∧ decode cX12_init 45 = .ok (.newarray .char, 2) ∧ decode cX12_init 47 = .ok (.putfield 18, 3) ∧ decode cX12_init 50 = .ok (.aload_n 0, 1) ∧ decode cX12_init 51 = .ok (.new 22, 3) ∧ decode cX12_init 54 = .ok (.dup, 1) ∧ decode cX12_init 55 = .ok (.sipush 1200, 3) ∧ decode cX12_init 58 = .ok (.invokespecial 24, 3) ∧ decode cX12_init 61 = .ok (.putfield 25, 3) ∧ decode cX12_init 64 = .ok (.aload_n 0, 1) := by decide +kernel
theorem dX12_init_30 : decode cX12_init 30 = .ok (.iload_n 1, 1) := dX12_init_30g.1
theorem dX12_init_31 : decode cX12_init 31 = .ok (.invokespecial 15, 3) := dX12_init_30g.2.1
theorem dX12_init_34 : decode cX12_init 34 = .ok (.aastore, 1) := dX12_init_30g.2.2.1
theorem dX12_init_35 : decode cX12_init 35 = .ok (.iinc 1 1, 3) := dX12_init_30g.2.2.2.1
theorem dX12_init_38 : decode cX12_init 38 = .ok (.goto (-23), 3) := dX12_init_30g.2.2.2.2.1
theorem dX12_init_41 : decode cX12_init 41 = .ok (.aload_n 0, 1) := dX12_init_30g.2.2.2.2.2.1
theorem dX12_init_42 : decode cX12_init 42 = .ok (.sipush 1200, 3) := dX12_init_30g.2.2.2.2.2.2.1
theorem dX12_init_45 : decode cX12_init 45 = .ok (.newarray .char, 2) := dX12_init_30g.2.2.2.2.2.2.2.1
theorem dX12_init_47 : decode cX12_init 47 = .ok (.putfield 18, 3) := dX12_init_30g.2.2.2.2.2.2.2.2.1
theorem dX12_init_50 : decode cX12_init 50 = .ok (.aload_n 0, 1) := dX12_init_30g.2.2.2.2.2.2.2.2.2.1
theorem dX12_init_51 : decode cX12_init 51 = .ok (.new 22, 3) := dX12_init_30g.2.2.2.2.2.2.2.2.2.2.1
theorem dX12_init_54 : decode cX12_init 54 = .ok (.dup, 1) := dX12_init_30g.2.2.2.2.2.2.2.2.2.2.2.1
theorem dX12_init_55 : decode cX12_init 55 = .ok (.sipush 1200, 3) := dX12_init_30g.2.2.2.2.2.2.2.2.2.2.2.2.1
theorem dX12_init_58 : decode cX12_init 58 = .ok (.invokespecial 24, 3) := dX12_init_30g.2.2.2.2.2.2.2.2.2.2.2.2.2.1
theorem dX12_init_61 : decode cX12_init 61 = .ok (.putfield 25, 3) := dX12_init_30g.2.2.2.2.2.2.2.2.2.2.2.2.2.2.1
theorem dX12_init_64 : decode cX12_init 64 = .ok (.aload_n 0, 1) := dX12_init_30g.2.2.2.2.2.2.2.2.2.2.2.2.2.2.2
theorem dX12_init_65g : decode cX12_init 65 = .ok (.new 29, 3) ∧ decode cX12_init 68 = .ok (.dup, 1) ∧ decode cX12_init 69 = .ok (.aload_n 0, 1) ∧ decode cX12_init 70 = .ok (.getfield 25, 3) ∧ decode cX12_init 73 = .ok (.invokespecial 31, 3) ∧ decode cX12_init 76 = .ok (.putfield 34, 3) ∧ decode cX12_init 79 = .ok (.aload_n 0, 1) ∧ decode cX12_init 80 = .ok (.new 38, 3) ∧ decode cX12_init 83 = .ok (.dup, 1) ∧ decode cX12_init 84 = .ok (.aload_n 0, 1) ∧ decode cX12_init 85 = .ok (.getfield 25, 3) ∧ decode cX12_init 88 = .ok (.invokespecial 40, 3) ∧ decode cX12_init 91 = .ok (.putfield 41, 3) ∧ decode cX12_init 94 = .ok (.aload_n 0, 1) ∧ decode cX12_init 95 = .ok (.new 45, 3) ∧ decode cX12_init 98 = .ok (.dup, 1) := by decide +kernel
theorem dX12_init_65 : decode cX12_init 65 = .ok (.new 29, 3) := dX12_init_65g.1
theorem dX12_init_68 : decode cX12_init 68 = .ok (.dup, 1) := dX12_init_65g.2.1
theorem dX12_init_69 : decode cX12_init 69 = .ok (.aload_n 0, 1) := dX12_init_65g.2.2.1
theorem dX12_init_70 : decode cX12_init 70 = .ok (.getfield 25, 3) := dX12_init_65g.2.2.2.1
theorem dX12_init_73 : decode cX12_init 73 = .ok (.invokespecial 31, 3) := dX12_init_65g.2.2.2.2.1
theorem dX12_init_76 : decode cX12_init 76 = .ok (.putfield 34, 3) := dX12_init_65g.2.2.2.2.2.1
theorem dX12_init_79 : decode cX12_init 79 = .ok (.aload_n 0, 1) := dX12_init_65g.2.2.2.2.2.2.1
theorem dX12_init_80 : decode cX12_init 80 = .ok (.new 38, 3) := dX12_init_65g.2.2.2.2.2.2.2.1
theorem dX12_init_83 : decode cX12_init 83 = .ok (.dup, 1) := dX12_init_65g.2.2.2.2.2.2.2.2.1
theorem dX12_init_84 : decode cX12_init 84 = .ok (.aload_n 0, 1) := dX12_init_65g.2.2.2.2.2.2.2.2.2.1
theorem dX12_init_85 : decode cX12_init 85 = .ok (.getfield 25, 3) := dX12_init_65g.2.2.2.2.2.2.2.2.2.2.1
theorem dX12_init_88 : decode cX12_init 88 = .ok (.invokespecial 40, 3) := dX12_init_65g.2.2.2.2.2.2.2.2.2.2.2.1
theorem dX12_init_91 : decode cX12_init 91 = .ok (.putfield 41, 3) := dX12_init_65g.2.2.2.2.2.2.2.2.2.2.2.2.1
theorem dX12_init_94 : decode cX12_init 94 = .ok (.aload_n 0, 1) := dX12_init_65g.2.2.2.2.2.2.2.2.2.2.2.2.2.1
theorem dX12_init_95 : decode cX12_init 95 = .ok (.new 45, 3) := dX12_init_65g.2.2.2.2.2.2.2.2.2.2.2.2.2.2.1
theorem dX12_init_98 : decode cX12_init 98 = .ok (.dup, 1) := dX12_init_65g.2.2.2.2.2.2.2.2.2.2.2.2.2.2.2
theorem dX12_init_99g : decode cX12_init 99 = .ok (.aload_n 0, 1) ∧ decode cX12_init 100 = .ok (.getfield 25, 3) ∧ decode cX12_init 103 = .ok (.invokespecial 47, 3) ∧ decode cX12_init 106 = .ok (.putfield 48, 3) ∧ decode cX12_init 109 = .ok (.aload_n 0, 1) ∧ decode cX12_init 110 = .ok (.new 52, 3) ∧ decode cX12_init 113 = .ok (.dup, 1) ∧ decode cX12_init 114 = .ok (.invokespecial 54, 3) ∧ decode cX12_init 117 = .ok (.putfield 55, 3) ∧ decode cX12_init 120 = .ok (.aload_n 0, 1) ∧ decode cX12_init 121 = .ok (.new 59, 3) ∧ decode cX12_init 124 = .ok (.dup, 1) ∧ decode cX12_init 125 = .ok (.aload_n 0, 1) ∧ decode cX12_init 126 = .ok (.getfield 48, 3) ∧ decode cX12_init 129 = .ok (.aload_n 0, 1) ∧ decode cX12_init 130 = .ok (.getfield 11, 3) := by decide +kernel
theorem dX12_init_99 : decode cX12_init 99 = .ok (.aload_n 0, 1) := dX12_init_99g.1
theorem dX12_init_100 : decode cX12_init 100 = .ok (.getfield 25, 3) := dX12_init_99g.2.1
theorem dX12_init_103 : decode cX12_init 103 = .ok (.invokespecial 47, 3) := dX12_init_99g.2.2.1
theorem dX12_init_106 : decode cX12_init 106 = .ok (.putfield 48, 3) := dX12_init_99g.2.2.2.1
theorem dX12_init_109 : decode cX12_init 109 = .ok (.aload_n 0, 1) := dX12_init_99g.2.2.2.2.1
theorem dX12_init_110 : decode cX12_init 110 = .ok (.new 52, 3) := dX12_init_99g.2.2.2.2.2.1
theorem dX12_init_113 : decode cX12_init 113 = .ok (.dup, 1) := dX12_init_99g.2.2.2.2.2.2.1
theorem dX12_init_114 : decode cX12_init 114 = .ok (.invokespecial 54, 3) := dX12_init_99g.2.2.2.2.2.2.2.1
theorem dX12_init_117 : decode cX12_init 117 = .ok (.putfield 55, 3) := dX12_init_99g.2.2.2.2.2.2.2.2.1
theorem dX12_init_120 : decode cX12_init 120 = .ok (.aload_n 0, 1) := dX12_init_99g.2.2.2.2.2.2.2.2.2.1
theorem dX12_init_121 : decode cX12_init 121 = .ok (.new 59, 3) := dX12_init_99g.2.2.2.2.2.2.2.2.2.2.1
theorem dX12_init_124 : decode cX12_init 124 = .ok (.dup, 1) := dX12_init_99g.2.2.2.2.2.2.2.2.2.2.2.1
theorem dX12_init_125 : decode cX12_init 125 = .ok (.aload_n 0, 1) := dX12_init_99g.2.2.2.2.2.2.2.2.2.2.2.2.1
theorem dX12_init_126 : decode cX12_init 126 = .ok (.getfield 48, 3) := dX12_init_99g.2.2.2.2.2.2.2.2.2.2.2.2.2.1
theorem dX12_init_129 : decode cX12_init 129 = .ok (.aload_n 0, 1) := dX12_init_99g.2.2.2.2.2.2.2.2.2.2.2.2.2.2.1
theorem dX12_init_130 : decode cX12_init 130 = .ok (.getfield 11, 3) := dX12_init_99g.2.2.2.2.2.2.2.2.2.2.2.2.2.2.2
theorem dX12_init_133g : decode cX12_init 133 = .ok (.aload_n 0, 1) ∧ decode cX12_init 134 = .ok (.getfield 55, 3) ∧ decode cX12_init 137 = .ok (.invokespecial 61, 3) ∧ decode cX12_init 140 = .ok (.putfield 64, 3) ∧ decode cX12_init 143 = .ok (.aload_n 0, 1) ∧ decode cX12_init 144 = .ok (.iconst (-1), 1) ∧ decode cX12_init 145 = .ok (.putfield 68, 3) ∧ decode cX12_init 148 = .ok (.return_, 1) := by decide +kernel
theorem dX12_init_133 : decode cX12_init 133 = .ok (.aload_n 0, 1) := dX12_init_133g.1
theorem dX12_init_134 : decode cX12_init 134 = .ok (.getfield 55, 3) := dX12_init_133g.2.1
theorem dX12_init_137 : decode cX12_init 137 = .ok (.invokespecial 61, 3) := dX12_init_133g.2.2.1
theorem dX12_init_140 : decode cX12_init 140 = .ok (.putfield 64, 3) := dX12_init_133g.2.2.2.1
theorem dX12_init_143 : decode cX12_init 143 = .ok (.aload_n 0, 1) := dX12_init_133g.2.2.2.2.1
theorem dX12_init_144 : decode cX12_init 144 = .ok (.iconst (-1), 1) := dX12_init_133g.2.2.2.2.2.1
theorem dX12_init_145 : decode cX12_init 145 = .ok (.putfield 68, 3) := dX12_init_133g.2.2.2.2.2.2.1
theorem dX12_init_148 : decode cX12_init 148 = .ok (.return_, 1) := dX12_init_133g.2.2.2.2.2.2.2

set_option maxHeartbeats 4000000 in
set_option maxRecDepth 100000 in
theorem n_X12 (l : Launch) (dC : Nat → ClassId) (dI : Nat → Nat → Nat) (ad : Nat → Nat → Nat) (cid : Nat → ClassId) (h0 : Nat) : NM dC dI ad cid l yX12_init wm_X12_init ({ frames := 6, cells := 661, slots := 12981, locals := 123 }) [.ref h0] [(h0, .inr (11, [.null, .null, .null, .null, .null, .null, .null, .null, .int 0, .int 0, .int 0, .int 0]))] (fun w => ∃ (a12 a13 : Nat) (f2 : Nat → Option Nat) (adr : Nat → DU) (up : PU) (rd st : Nat) (uw : WU) (rw9 r1 mk a b f x q : Nat), w = wbW ad cid h0 a12 a13 f2 adr up rd st uw rw9 r1 mk a b f x q ∧ (∀ j, j < 8 → f2 j = some (adr j).1.1) ∧ (∀ j, j < 8 → dcP (adr j)) ∧ paP up ∧ wiP uw) 661 12981 := by
  intro sz
  refine Met.ofW (cc := cX12_init) (maxL := 2) (ret := none) (by decide) rfl ?_
  intro p e s m args below meth c s₁ B hml hv
  obtain ⟨rfl, hsz, hP, hK, hD0, hG⟩ := hv
  have hx := B.exec
  have hb := B.bytes
  have hr := B.returns
  have hts := atoms_spec (ws := wm_X12_init) B.pre
  have htb := fun (w : Cond) (h : w ∈ tb) => hts w (List.mem_cons_of_mem _ h)
  have hown : s.vm.findClass RX12 = some m.cls := findClass_of_methodNamed B.named
  have hlocks := B.notSynchronized
  have hin : meth.name = "<init>" := (name_of_methodNamed B.named B.method).1
  subst hsz
  have hD := hD0.self (sz := s.heap.size)
  generalize hAe : va_A [(h0, .inr (11, [.null, .null, .null, .null, .null, .null, .null, .null, .int 0, .int 0, .int 0, .int 0]))] s.heap.size = A at hD hG ⊢
  have hA : ∀ q : Nat, s.heap.size ≤ q → A q := fun q h => by rw [← hAe]; exact Or.inr h
  have hS : va_S A s.heap s.heap [] := va_S.rf
  have hl := lv_entry ([.ref h0]) (n := 2) (Nat.le_of_ble_eq_true rfl)
  rw [lg_entry_eq]
  generalize (lg_sl ([.ref h0]) ++ List.replicate (2 - (lg_sl ([.ref h0])).length) Slot.unset).toArray = ls at hl ⊢
  have hl : lv_has ls 2 [(0, .ref h0)] := hl
  have hP : va_P (dC, dI) vwCl ((h0, .inr (11, [.null, .null, .null, .null, .null, .null, .null, .null, .int 0, .int 0, .int 0, .int 0])) :: []) s.heap := hP
  have hD : va_D A ((h0, .inr (11, [.null, .null, .null, .null, .null, .null, .null, .null, .int 0, .int 0, .int 0, .int 0])) :: []) := hD
  refine n_gen (fun Q eQ => ?_)
  refine lv_aload_n hx hb dX12_init_0 rfl (lv_at hl 0 rfl) ?_
  refine W.objInit hx hb hown (htb _ kw_180) (htb _ kw_181) (htb _ kw_1369) rfl (by rw [hml]; exact hl.1) rfl dX12_init_1 (Nat.le_of_ble_eq_true rfl) (Nat.le_of_ble_eq_true rfl) ?_
  refine W.eq (g2 := F0 m 4 ls []) rfl ?_
  refine lv_aload_n hx hb dX12_init_4 rfl (lv_at hl 0 rfl) ?_
  refine lv_bipush (v := 8) hx hb dX12_init_5 (by decide) ?_
  refine va_newq (D := (dC, dI)) (N' := 8) (C := RX2) hx hb hown (htb _ kw_182) hG.1.1.1 hK hP hD hS hA (by decide) (by decide) (by decide) (Nat.le_of_ble_eq_true rfl) (Nat.le_of_ble_eq_true rfl) dX12_init_7 (fun q_1 cA_2 H hK2 hP hD hS => ?_)
  obtain rfl : cA_2 = cid 12 := ty_eq (by decide) hK hK2 rfl
  have hP : va_P (dC, dI) vwCl ((q_1, .inl (cid 12, 8, .inr (.inr (.inr (.inr (fun _ => none)))))) :: (h0, .inr (11, [.null, .null, .null, .null, .null, .null, .null, .null, .int 0, .int 0, .int 0, .int 0])) :: []) H := fr_P hP
  have hD : va_D A ((q_1, .inl (cid 12, 8, .inr (.inr (.inr (.inr (fun _ => none)))))) :: (h0, .inr (11, [.null, .null, .null, .null, .null, .null, .null, .null, .int 0, .int 0, .int 0, .int 0])) :: []) := fr_D hD
  refine W.widen (k := 1) (n := 8) (Nat.le_of_ble_eq_true rfl) (Nat.le_of_ble_eq_true rfl) ?_
  refine va_putF (D := (dC, dI)) (ci := 11) (v := .ref q_1) (ty := tyX12 0) (C := RX12) (T := TX12) (N := 12) hx hb htb inX12 tyX12 tyX12_ok nmX12 hown hK hP hD hS 1 rfl rfl 0 (by decide) (htb _ kw_417) (fun _ h9 => h9) rfl hin rfl (tyX12_ok 0 (by decide)) rfl rfl (Nat.le_of_ble_eq_true rfl) dX12_init_10 (fun H locs hP hD hS => ?_)
  have hP : va_P (dC, dI) vwCl ((q_1, .inl (cid 12, 8, .inr (.inr (.inr (.inr (fun _ => none)))))) :: (h0, .inr (11, [.ref q_1, .null, .null, .null, .null, .null, .null, .null, .int 0, .int 0, .int 0, .int 0])) :: []) H := hP
  have hD : va_D A ((q_1, .inl (cid 12, 8, .inr (.inr (.inr (.inr (fun _ => none)))))) :: (h0, .inr (11, [.ref q_1, .null, .null, .null, .null, .null, .null, .null, .int 0, .int 0, .int 0, .int 0])) :: []) := hD
  refine lv_iconst (v := 0) hx hb dX12_init_13 (by decide) ?_
  refine lv_istore_n (lv' := [(1, .int 0), (0, .ref h0)]) hx hb dX12_init_14 rfl hl (by decide) rfl (fun ls hl => ?_)
  have hloop : ∀ (n i : Nat) (adr : Nat → DU) (f2 : Nat → Option Nat) (H : Heap) (locs : List Loc) (ls : Array Slot), i + n = 8 → (∀ j, j < i → f2 j = some (adr j).1.1) → (∀ j, j < i → dcP (adr j)) → va_P (dC, dI) vwCl ((q_1, .inl (cid 12, 8, .inr (.inr (.inr (.inr f2))))) :: (h0, .inr (11, [.ref q_1, .null, .null, .null, .null, .null, .null, .null, .int 0, .int 0, .int 0, .int 0])) :: tl (dcF cid) adr i) H → va_D A ((q_1, .inl (cid 12, 8, .inr (.inr (.inr (.inr f2))))) :: (h0, .inr (11, [.ref q_1, .null, .null, .null, .null, .null, .null, .null, .int 0, .int 0, .int 0, .int 0])) :: tl (dcF cid) adr i) → va_S A s.heap H locs → lv_has ls 2 [(1, .int (nI i)), (0, .ref h0)] → W p l e (headSpec wm_X12_init ({ frames := 6, cells := 661, slots := 12981, locals := 123 })).room s m ([.ref h0] : List Value).toArray below meth c H locs (i * 20 + 1) (i * 122 + 8) Q (F0 m 15 ls []) := by
    intro n
    induction n with
    | zero =>
      intro i adr f2 H locs ls hi9 hf2 hdc hP hD hS hl
      obtain rfl : i = 8 := by omega
      have hl : lv_has ls 2 [(1, .int 8), (0, .ref h0)] := hl
      refine W.widen (k := 161) (n := 984) (Nat.le_of_ble_eq_true rfl) (Nat.le_of_ble_eq_true rfl) ?_
      refine lv_iload_n hx hb dX12_init_15 rfl (lv_at hl 0 rfl) ?_
      refine lv_bipush (v := 8) hx hb dX12_init_16 (by decide) ?_
      refine lv_icmp_ge (tgt := 41) hx hb dX12_init_18 (by decide) (fun _ => ?_) (fun c9 => absurd (by decide) c9)
      refine lv_aload_n hx hb dX12_init_41 rfl (lv_at hl 1 rfl) ?_
      refine lv_sipush (v := 1200) hx hb dX12_init_42 (by decide) ?_
      refine va_newa (D := (dC, dI)) (atype := .char) (ty := .char) (N' := 1200) (a0 := (1200, .inl (fun _ => 0))) hx hb (htb _ kw_297) rfl hK hP hD hS hA (fun _ => rfl) (by decide) (by decide) (by decide) (Nat.le_of_ble_eq_true rfl) (Nat.le_of_ble_eq_true rfl) dX12_init_45 (fun q_3 cA_4 H hK2 hP hD hS => ?_)
      obtain rfl : cA_4 = cid 13 := ty_eq (by decide) hK hK2 rfl
      have hP : va_P (dC, dI) vwCl ((q_3, .inl (cid 13, 1200, .inl (fun _ => 0))) :: (q_1, .inl (cid 12, 8, .inr (.inr (.inr (.inr f2))))) :: (h0, .inr (11, [.ref q_1, .null, .null, .null, .null, .null, .null, .null, .int 0, .int 0, .int 0, .int 0])) :: tl (dcF cid) adr 8) H := fr_P hP
      have hD : va_D A ((q_3, .inl (cid 13, 1200, .inl (fun _ => 0))) :: (q_1, .inl (cid 12, 8, .inr (.inr (.inr (.inr f2))))) :: (h0, .inr (11, [.ref q_1, .null, .null, .null, .null, .null, .null, .null, .int 0, .int 0, .int 0, .int 0])) :: tl (dcF cid) adr 8) := fr_D hD
      refine W.widen (k := 162) (n := 2184) (Nat.le_of_ble_eq_true rfl) (Nat.le_of_ble_eq_true rfl) ?_
      refine va_putF (D := (dC, dI)) (ci := 11) (v := .ref q_3) (ty := tyX12 1) (C := RX12) (T := TX12) (N := 12) hx hb htb inX12 tyX12 tyX12_ok nmX12 hown hK hP hD hS 2 rfl rfl 1 (by decide) (htb _ kw_418) (fun _ h9 => h9) rfl hin rfl (tyX12_ok 1 (by decide)) rfl rfl (Nat.le_of_ble_eq_true rfl) dX12_init_47 (fun H locs hP hD hS => ?_)
      have hP : va_P (dC, dI) vwCl ((q_3, .inl (cid 13, 1200, .inl (fun _ => 0))) :: (q_1, .inl (cid 12, 8, .inr (.inr (.inr (.inr f2))))) :: (h0, .inr (11, [.ref q_1, .ref q_3, .null, .null, .null, .null, .null, .null, .int 0, .int 0, .int 0, .int 0])) :: tl (dcF cid) adr 8) H := hP
      have hD : va_D A ((q_3, .inl (cid 13, 1200, .inl (fun _ => 0))) :: (q_1, .inl (cid 12, 8, .inr (.inr (.inr (.inr f2))))) :: (h0, .inr (11, [.ref q_1, .ref q_3, .null, .null, .null, .null, .null, .null, .int 0, .int 0, .int 0, .int 0])) :: tl (dcF cid) adr 8) := hD
      refine lv_aload_n hx hb dX12_init_50 rfl (lv_at hl 1 rfl) ?_
      refine va_new (ci := 6) (fs := nvX6) (C := RX6) (T := TX6) (N := 8) hx hb htb inX6 tyX6 tyX6_ok hown (htb _ kw_218) (htb _ kw_219) (htb _ kw_149) hK hP hD hS hA rfl nwX6 (Nat.le_of_ble_eq_true rfl) (Nat.le_of_ble_eq_true rfl) dX12_init_51 (fun q_5 H hP hD hS => ?_)
      have hP : va_P (dC, dI) vwCl ((q_5, .inr (6, [.null, .null, .null, .null, .null, .int 0, .int 0, .int 0])) :: (q_3, .inl (cid 13, 1200, .inl (fun _ => 0))) :: (q_1, .inl (cid 12, 8, .inr (.inr (.inr (.inr f2))))) :: (h0, .inr (11, [.ref q_1, .ref q_3, .null, .null, .null, .null, .null, .null, .int 0, .int 0, .int 0, .int 0])) :: tl (dcF cid) adr 8) H := fr_P hP
      have hD : va_D A ((q_5, .inr (6, [.null, .null, .null, .null, .null, .int 0, .int 0, .int 0])) :: (q_3, .inl (cid 13, 1200, .inl (fun _ => 0))) :: (q_1, .inl (cid 12, 8, .inr (.inr (.inr (.inr f2))))) :: (h0, .inr (11, [.ref q_1, .ref q_3, .null, .null, .null, .null, .null, .null, .int 0, .int 0, .int 0, .int 0])) :: tl (dcF cid) adr 8) := fr_D hD
      refine W.widen (k := 163) (n := 2192) (Nat.le_of_ble_eq_true rfl) (Nat.le_of_ble_eq_true rfl) ?_
      refine lv_dup hx hb dX12_init_54 rfl ?_
      refine lv_sipush (v := 1200) hx hb dX12_init_55 (by decide) ?_
      refine nw_call (rest := [.ref q_5, .ref h0]) (r := (q_3, .inl (cid 13, 1200, .inl (fun _ => 0))) :: (q_1, .inl (cid 12, 8, .inr (.inr (.inr (.inr f2))))) :: (h0, .inr (11, [.ref q_1, .ref q_3, .null, .null, .null, .null, .null, .null, .int 0, .int 0, .int 0, .int 0])) :: tl (dcF cid) adr 8) ⟨hx, hb, hml, hown, htb⟩ (n_X6 l dC dI ad cid (q_5)) (cwI 1 htb (gd_c kw_1372) rfl rfl rfl (htb _ kw_149) (htb _ kw_220) (htb _ kw_221) rfl (by decide +kernel) ⟨Nat.le_of_ble_eq_true rfl, Nat.le_of_ble_eq_true rfl⟩) rfl hl.1 rfl (Nat.le_of_ble_eq_true rfl) dX12_init_58 ⟨(Nat.le_of_ble_eq_true rfl), (Nat.le_of_ble_eq_true rfl)⟩ hK hP hD hS hA hG (fun w H locs hw hP7 hD7 hS => ?_)
      obtain ⟨u_6, eu_7, rfl, hu_8⟩ := hw
      subst eu_7
      have hP : va_P (dC, dI) vwCl ((q_3, .inl (cid 13, 1200, .inl (fun _ => 0))) :: (q_1, .inl (cid 12, 8, .inr (.inr (.inr (.inr f2))))) :: (h0, .inr (11, [.ref q_1, .ref q_3, .null, .null, .null, .null, .null, .null, .int 0, .int 0, .int 0, .int 0])) :: (paW cid u_6 ++ tl (dcF cid) adr 8)) H := sw_P (E := [(q_3, .inl (cid 13, 1200, .inl (fun _ => 0))), (q_1, .inl (cid 12, 8, .inr (.inr (.inr (.inr f2))))), (h0, .inr (11, [.ref q_1, .ref q_3, .null, .null, .null, .null, .null, .null, .int 0, .int 0, .int 0, .int 0]))]) (w := paW cid u_6) (T := tl (dcF cid) adr 8) hP7
      have hD : va_D A ((q_3, .inl (cid 13, 1200, .inl (fun _ => 0))) :: (q_1, .inl (cid 12, 8, .inr (.inr (.inr (.inr f2))))) :: (h0, .inr (11, [.ref q_1, .ref q_3, .null, .null, .null, .null, .null, .null, .int 0, .int 0, .int 0, .int 0])) :: (paW cid u_6 ++ tl (dcF cid) adr 8)) := sw_D (E := [(q_3, .inl (cid 13, 1200, .inl (fun _ => 0))), (q_1, .inl (cid 12, 8, .inr (.inr (.inr (.inr f2))))), (h0, .inr (11, [.ref q_1, .ref q_3, .null, .null, .null, .null, .null, .null, .int 0, .int 0, .int 0, .int 0]))]) (w := paW cid u_6) (T := tl (dcF cid) adr 8) hD7
      refine W.widen (k := 328) (n := 7792) (Nat.le_of_ble_eq_true rfl) (Nat.le_of_ble_eq_true rfl) ?_
      refine va_putF (D := (dC, dI)) (ci := 11) (v := .ref u_6.1.1) (ty := tyX12 2) (C := RX12) (T := TX12) (N := 12) hx hb htb inX12 tyX12 tyX12_ok nmX12 hown hK hP hD hS 2 rfl rfl 2 (by decide) (htb _ kw_419) (fun _ h9 => h9) rfl hin rfl (tyX12_ok 2 (by decide)) rfl rfl (Nat.le_of_ble_eq_true rfl) dX12_init_61 (fun H locs hP hD hS => ?_)
      have hP : va_P (dC, dI) vwCl ((q_3, .inl (cid 13, 1200, .inl (fun _ => 0))) :: (q_1, .inl (cid 12, 8, .inr (.inr (.inr (.inr f2))))) :: (h0, .inr (11, [.ref q_1, .ref q_3, .ref u_6.1.1, .null, .null, .null, .null, .null, .int 0, .int 0, .int 0, .int 0])) :: (paW cid u_6 ++ tl (dcF cid) adr 8)) H := hP
      have hD : va_D A ((q_3, .inl (cid 13, 1200, .inl (fun _ => 0))) :: (q_1, .inl (cid 12, 8, .inr (.inr (.inr (.inr f2))))) :: (h0, .inr (11, [.ref q_1, .ref q_3, .ref u_6.1.1, .null, .null, .null, .null, .null, .int 0, .int 0, .int 0, .int 0])) :: (paW cid u_6 ++ tl (dcF cid) adr 8)) := hD
      refine lv_aload_n hx hb dX12_init_64 rfl (lv_at hl 1 rfl) ?_
      refine va_new (ci := 7) (fs := nvX7) (C := RX7) (T := TX7) (N := 6) hx hb htb inX7 tyX7 tyX7_ok hown (htb _ kw_307) (htb _ kw_308) (htb _ kw_151) hK hP hD hS hA rfl nwX7 (Nat.le_of_ble_eq_true rfl) (Nat.le_of_ble_eq_true rfl) dX12_init_65 (fun q_9 H hP hD hS => ?_)
      have hP : va_P (dC, dI) vwCl ((q_9, .inr (7, [.null, .null, .int 0, .int 0, .int 0, .null])) :: (q_3, .inl (cid 13, 1200, .inl (fun _ => 0))) :: (q_1, .inl (cid 12, 8, .inr (.inr (.inr (.inr f2))))) :: (h0, .inr (11, [.ref q_1, .ref q_3, .ref u_6.1.1, .null, .null, .null, .null, .null, .int 0, .int 0, .int 0, .int 0])) :: (paW cid u_6 ++ tl (dcF cid) adr 8)) H := fr_P hP
      have hD : va_D A ((q_9, .inr (7, [.null, .null, .int 0, .int 0, .int 0, .null])) :: (q_3, .inl (cid 13, 1200, .inl (fun _ => 0))) :: (q_1, .inl (cid 12, 8, .inr (.inr (.inr (.inr f2))))) :: (h0, .inr (11, [.ref q_1, .ref q_3, .ref u_6.1.1, .null, .null, .null, .null, .null, .int 0, .int 0, .int 0, .int 0])) :: (paW cid u_6 ++ tl (dcF cid) adr 8)) := fr_D hD
      refine W.widen (k := 329) (n := 7798) (Nat.le_of_ble_eq_true rfl) (Nat.le_of_ble_eq_true rfl) ?_
      refine lv_dup hx hb dX12_init_68 rfl ?_
      refine lv_aload_n hx hb dX12_init_69 rfl (lv_at hl 1 rfl) ?_
      refine va_get (D := (dC, dI)) (ci := 11) (v := .ref u_6.1.1) (C := RX12) (T := TX12) (N := 12) hx hb htb inX12 hown hK hP 3 rfl rfl 2 (by decide) (htb _ kw_419) (fun _ h9 => h9) rfl dX12_init_70 ?_
      refine nw_call (rest := [.ref q_9, .ref h0]) (r := (q_3, .inl (cid 13, 1200, .inl (fun _ => 0))) :: (q_1, .inl (cid 12, 8, .inr (.inr (.inr (.inr f2))))) :: (h0, .inr (11, [.ref q_1, .ref q_3, .ref u_6.1.1, .null, .null, .null, .null, .null, .int 0, .int 0, .int 0, .int 0])) :: (paW cid u_6 ++ tl (dcF cid) adr 8)) ⟨hx, hb, hml, hown, htb⟩ (n_X7 l dC dI ad cid (q_9) (u_6.1.1)) (cwI 1 htb (gd_c kw_1374) rfl rfl rfl (htb _ kw_151) (htb _ kw_309) (htb _ kw_310) rfl (by decide +kernel) ⟨Nat.le_of_ble_eq_true rfl, Nat.le_of_ble_eq_true rfl⟩) rfl hl.1 rfl (Nat.le_of_ble_eq_true rfl) dX12_init_73 ⟨(Nat.le_of_ble_eq_true rfl), (Nat.le_of_ble_eq_true rfl)⟩ hK hP hD hS hA hG (fun w H locs hw hP7 hD7 hS => ?_)
      obtain ⟨rfl⟩ := hw
      have hP : va_P (dC, dI) vwCl ((q_3, .inl (cid 13, 1200, .inl (fun _ => 0))) :: (q_1, .inl (cid 12, 8, .inr (.inr (.inr (.inr f2))))) :: (h0, .inr (11, [.ref q_1, .ref q_3, .ref u_6.1.1, .null, .null, .null, .null, .null, .int 0, .int 0, .int 0, .int 0])) :: ([(q_9, (.inr (7, [.ref u_6.1.1, .null, .int 0, .int 0, .int 0, .null]) : va_E))] ++ (paW cid u_6 ++ tl (dcF cid) adr 8))) H := sw_P (E := [(q_3, .inl (cid 13, 1200, .inl (fun _ => 0))), (q_1, .inl (cid 12, 8, .inr (.inr (.inr (.inr f2))))), (h0, .inr (11, [.ref q_1, .ref q_3, .ref u_6.1.1, .null, .null, .null, .null, .null, .int 0, .int 0, .int 0, .int 0]))]) (w := [(q_9, (.inr (7, [.ref u_6.1.1, .null, .int 0, .int 0, .int 0, .null]) : va_E))]) (T := (paW cid u_6 ++ tl (dcF cid) adr 8)) hP7
      have hD : va_D A ((q_3, .inl (cid 13, 1200, .inl (fun _ => 0))) :: (q_1, .inl (cid 12, 8, .inr (.inr (.inr (.inr f2))))) :: (h0, .inr (11, [.ref q_1, .ref q_3, .ref u_6.1.1, .null, .null, .null, .null, .null, .int 0, .int 0, .int 0, .int 0])) :: ([(q_9, (.inr (7, [.ref u_6.1.1, .null, .int 0, .int 0, .int 0, .null]) : va_E))] ++ (paW cid u_6 ++ tl (dcF cid) adr 8))) := sw_D (E := [(q_3, .inl (cid 13, 1200, .inl (fun _ => 0))), (q_1, .inl (cid 12, 8, .inr (.inr (.inr (.inr f2))))), (h0, .inr (11, [.ref q_1, .ref q_3, .ref u_6.1.1, .null, .null, .null, .null, .null, .int 0, .int 0, .int 0, .int 0]))]) (w := [(q_9, (.inr (7, [.ref u_6.1.1, .null, .int 0, .int 0, .int 0, .null]) : va_E))]) (T := (paW cid u_6 ++ tl (dcF cid) adr 8)) hD7
      refine W.widen (k := 329) (n := 7798) (Nat.le_of_ble_eq_true rfl) (Nat.le_of_ble_eq_true rfl) ?_
      refine va_putF (D := (dC, dI)) (ci := 11) (v := .ref q_9) (ty := tyX12 3) (C := RX12) (T := TX12) (N := 12) hx hb htb inX12 tyX12 tyX12_ok nmX12 hown hK hP hD hS 2 rfl rfl 3 (by decide) (htb _ kw_420) (fun _ h9 => h9) rfl hin rfl (tyX12_ok 3 (by decide)) rfl rfl (Nat.le_of_ble_eq_true rfl) dX12_init_76 (fun H locs hP hD hS => ?_)
      have hP : va_P (dC, dI) vwCl ((q_3, .inl (cid 13, 1200, .inl (fun _ => 0))) :: (q_1, .inl (cid 12, 8, .inr (.inr (.inr (.inr f2))))) :: (h0, .inr (11, [.ref q_1, .ref q_3, .ref u_6.1.1, .ref q_9, .null, .null, .null, .null, .int 0, .int 0, .int 0, .int 0])) :: ([(q_9, (.inr (7, [.ref u_6.1.1, .null, .int 0, .int 0, .int 0, .null]) : va_E))] ++ (paW cid u_6 ++ tl (dcF cid) adr 8))) H := hP
      have hD : va_D A ((q_3, .inl (cid 13, 1200, .inl (fun _ => 0))) :: (q_1, .inl (cid 12, 8, .inr (.inr (.inr (.inr f2))))) :: (h0, .inr (11, [.ref q_1, .ref q_3, .ref u_6.1.1, .ref q_9, .null, .null, .null, .null, .int 0, .int 0, .int 0, .int 0])) :: ([(q_9, (.inr (7, [.ref u_6.1.1, .null, .int 0, .int 0, .int 0, .null]) : va_E))] ++ (paW cid u_6 ++ tl (dcF cid) adr 8))) := hD
      refine lv_aload_n hx hb dX12_init_79 rfl (lv_at hl 1 rfl) ?_
      refine va_new (ci := 9) (fs := nvX9) (C := RX9) (T := TX9) (N := 1) hx hb htb inX9 tyX9 tyX9_ok hown (htb _ kw_318) (htb _ kw_319) (htb _ kw_152) hK hP hD hS hA rfl nwX9 (Nat.le_of_ble_eq_true rfl) (Nat.le_of_ble_eq_true rfl) dX12_init_80 (fun q_10 H hP hD hS => ?_)
      have hP : va_P (dC, dI) vwCl ((q_10, .inr (9, [.null])) :: (q_3, .inl (cid 13, 1200, .inl (fun _ => 0))) :: (q_1, .inl (cid 12, 8, .inr (.inr (.inr (.inr f2))))) :: (h0, .inr (11, [.ref q_1, .ref q_3, .ref u_6.1.1, .ref q_9, .null, .null, .null, .null, .int 0, .int 0, .int 0, .int 0])) :: ([(q_9, (.inr (7, [.ref u_6.1.1, .null, .int 0, .int 0, .int 0, .null]) : va_E))] ++ (paW cid u_6 ++ tl (dcF cid) adr 8))) H := fr_P hP
      have hD : va_D A ((q_10, .inr (9, [.null])) :: (q_3, .inl (cid 13, 1200, .inl (fun _ => 0))) :: (q_1, .inl (cid 12, 8, .inr (.inr (.inr (.inr f2))))) :: (h0, .inr (11, [.ref q_1, .ref q_3, .ref u_6.1.1, .ref q_9, .null, .null, .null, .null, .int 0, .int 0, .int 0, .int 0])) :: ([(q_9, (.inr (7, [.ref u_6.1.1, .null, .int 0, .int 0, .int 0, .null]) : va_E))] ++ (paW cid u_6 ++ tl (dcF cid) adr 8))) := fr_D hD
      refine W.widen (k := 330) (n := 7799) (Nat.le_of_ble_eq_true rfl) (Nat.le_of_ble_eq_true rfl) ?_
      refine lv_dup hx hb dX12_init_83 rfl ?_
      refine lv_aload_n hx hb dX12_init_84 rfl (lv_at hl 1 rfl) ?_
      refine va_get (D := (dC, dI)) (ci := 11) (v := .ref u_6.1.1) (C := RX12) (T := TX12) (N := 12) hx hb htb inX12 hown hK hP 3 rfl rfl 2 (by decide) (htb _ kw_419) (fun _ h9 => h9) rfl dX12_init_85 ?_
      refine nw_call (rest := [.ref q_10, .ref h0]) (r := (q_3, .inl (cid 13, 1200, .inl (fun _ => 0))) :: (q_1, .inl (cid 12, 8, .inr (.inr (.inr (.inr f2))))) :: (h0, .inr (11, [.ref q_1, .ref q_3, .ref u_6.1.1, .ref q_9, .null, .null, .null, .null, .int 0, .int 0, .int 0, .int 0])) :: ([(q_9, (.inr (7, [.ref u_6.1.1, .null, .int 0, .int 0, .int 0, .null]) : va_E))] ++ (paW cid u_6 ++ tl (dcF cid) adr 8))) ⟨hx, hb, hml, hown, htb⟩ (n_X9 l dC dI ad cid (q_10) (u_6.1.1)) (cwI 1 htb (gd_c kw_1375) rfl rfl rfl (htb _ kw_152) (htb _ kw_320) (htb _ kw_321) rfl (by decide +kernel) ⟨Nat.le_of_ble_eq_true rfl, Nat.le_of_ble_eq_true rfl⟩) rfl hl.1 rfl (Nat.le_of_ble_eq_true rfl) dX12_init_88 ⟨(Nat.le_of_ble_eq_true rfl), (Nat.le_of_ble_eq_true rfl)⟩ hK hP hD hS hA hG (fun w H locs hw hP7 hD7 hS => ?_)
      obtain ⟨rfl⟩ := hw
      have hP : va_P (dC, dI) vwCl ((q_3, .inl (cid 13, 1200, .inl (fun _ => 0))) :: (q_1, .inl (cid 12, 8, .inr (.inr (.inr (.inr f2))))) :: (h0, .inr (11, [.ref q_1, .ref q_3, .ref u_6.1.1, .ref q_9, .null, .null, .null, .null, .int 0, .int 0, .int 0, .int 0])) :: ([(q_10, (.inr (9, [.ref u_6.1.1]) : va_E))] ++ ([(q_9, (.inr (7, [.ref u_6.1.1, .null, .int 0, .int 0, .int 0, .null]) : va_E))] ++ (paW cid u_6 ++ tl (dcF cid) adr 8)))) H := sw_P (E := [(q_3, .inl (cid 13, 1200, .inl (fun _ => 0))), (q_1, .inl (cid 12, 8, .inr (.inr (.inr (.inr f2))))), (h0, .inr (11, [.ref q_1, .ref q_3, .ref u_6.1.1, .ref q_9, .null, .null, .null, .null, .int 0, .int 0, .int 0, .int 0]))]) (w := [(q_10, (.inr (9, [.ref u_6.1.1]) : va_E))]) (T := ([(q_9, (.inr (7, [.ref u_6.1.1, .null, .int 0, .int 0, .int 0, .null]) : va_E))] ++ (paW cid u_6 ++ tl (dcF cid) adr 8))) hP7
      have hD : va_D A ((q_3, .inl (cid 13, 1200, .inl (fun _ => 0))) :: (q_1, .inl (cid 12, 8, .inr (.inr (.inr (.inr f2))))) :: (h0, .inr (11, [.ref q_1, .ref q_3, .ref u_6.1.1, .ref q_9, .null, .null, .null, .null, .int 0, .int 0, .int 0, .int 0])) :: ([(q_10, (.inr (9, [.ref u_6.1.1]) : va_E))] ++ ([(q_9, (.inr (7, [.ref u_6.1.1, .null, .int 0, .int 0, .int 0, .null]) : va_E))] ++ (paW cid u_6 ++ tl (dcF cid) adr 8)))) := sw_D (E := [(q_3, .inl (cid 13, 1200, .inl (fun _ => 0))), (q_1, .inl (cid 12, 8, .inr (.inr (.inr (.inr f2))))), (h0, .inr (11, [.ref q_1, .ref q_3, .ref u_6.1.1, .ref q_9, .null, .null, .null, .null, .int 0, .int 0, .int 0, .int 0]))]) (w := [(q_10, (.inr (9, [.ref u_6.1.1]) : va_E))]) (T := ([(q_9, (.inr (7, [.ref u_6.1.1, .null, .int 0, .int 0, .int 0, .null]) : va_E))] ++ (paW cid u_6 ++ tl (dcF cid) adr 8))) hD7
      refine W.widen (k := 330) (n := 7799) (Nat.le_of_ble_eq_true rfl) (Nat.le_of_ble_eq_true rfl) ?_
      refine va_putF (D := (dC, dI)) (ci := 11) (v := .ref q_10) (ty := tyX12 4) (C := RX12) (T := TX12) (N := 12) hx hb htb inX12 tyX12 tyX12_ok nmX12 hown hK hP hD hS 2 rfl rfl 4 (by decide) (htb _ kw_421) (fun _ h9 => h9) rfl hin rfl (tyX12_ok 4 (by decide)) rfl rfl (Nat.le_of_ble_eq_true rfl) dX12_init_91 (fun H locs hP hD hS => ?_)
      have hP : va_P (dC, dI) vwCl ((q_3, .inl (cid 13, 1200, .inl (fun _ => 0))) :: (q_1, .inl (cid 12, 8, .inr (.inr (.inr (.inr f2))))) :: (h0, .inr (11, [.ref q_1, .ref q_3, .ref u_6.1.1, .ref q_9, .ref q_10, .null, .null, .null, .int 0, .int 0, .int 0, .int 0])) :: ([(q_10, (.inr (9, [.ref u_6.1.1]) : va_E))] ++ ([(q_9, (.inr (7, [.ref u_6.1.1, .null, .int 0, .int 0, .int 0, .null]) : va_E))] ++ (paW cid u_6 ++ tl (dcF cid) adr 8)))) H := hP
      have hD : va_D A ((q_3, .inl (cid 13, 1200, .inl (fun _ => 0))) :: (q_1, .inl (cid 12, 8, .inr (.inr (.inr (.inr f2))))) :: (h0, .inr (11, [.ref q_1, .ref q_3, .ref u_6.1.1, .ref q_9, .ref q_10, .null, .null, .null, .int 0, .int 0, .int 0, .int 0])) :: ([(q_10, (.inr (9, [.ref u_6.1.1]) : va_E))] ++ ([(q_9, (.inr (7, [.ref u_6.1.1, .null, .int 0, .int 0, .int 0, .null]) : va_E))] ++ (paW cid u_6 ++ tl (dcF cid) adr 8)))) := hD
      refine lv_aload_n hx hb dX12_init_94 rfl (lv_at hl 1 rfl) ?_
      refine va_new (ci := 10) (fs := nvX10) (C := RX10) (T := TX10) (N := 4) hx hb htb inX10 tyX10 tyX10_ok hown (htb _ kw_324) (htb _ kw_325) (htb _ kw_153) hK hP hD hS hA rfl nwX10 (Nat.le_of_ble_eq_true rfl) (Nat.le_of_ble_eq_true rfl) dX12_init_95 (fun q_11 H hP hD hS => ?_)
      have hP : va_P (dC, dI) vwCl ((q_11, .inr (10, [.null, .null, .null, .int 0])) :: (q_3, .inl (cid 13, 1200, .inl (fun _ => 0))) :: (q_1, .inl (cid 12, 8, .inr (.inr (.inr (.inr f2))))) :: (h0, .inr (11, [.ref q_1, .ref q_3, .ref u_6.1.1, .ref q_9, .ref q_10, .null, .null, .null, .int 0, .int 0, .int 0, .int 0])) :: ([(q_10, (.inr (9, [.ref u_6.1.1]) : va_E))] ++ ([(q_9, (.inr (7, [.ref u_6.1.1, .null, .int 0, .int 0, .int 0, .null]) : va_E))] ++ (paW cid u_6 ++ tl (dcF cid) adr 8)))) H := fr_P hP
      have hD : va_D A ((q_11, .inr (10, [.null, .null, .null, .int 0])) :: (q_3, .inl (cid 13, 1200, .inl (fun _ => 0))) :: (q_1, .inl (cid 12, 8, .inr (.inr (.inr (.inr f2))))) :: (h0, .inr (11, [.ref q_1, .ref q_3, .ref u_6.1.1, .ref q_9, .ref q_10, .null, .null, .null, .int 0, .int 0, .int 0, .int 0])) :: ([(q_10, (.inr (9, [.ref u_6.1.1]) : va_E))] ++ ([(q_9, (.inr (7, [.ref u_6.1.1, .null, .int 0, .int 0, .int 0, .null]) : va_E))] ++ (paW cid u_6 ++ tl (dcF cid) adr 8)))) := fr_D hD
      refine W.widen (k := 331) (n := 7803) (Nat.le_of_ble_eq_true rfl) (Nat.le_of_ble_eq_true rfl) ?_
      refine lv_dup hx hb dX12_init_98 rfl ?_
      refine lv_aload_n hx hb dX12_init_99 rfl (lv_at hl 1 rfl) ?_
      refine va_get (D := (dC, dI)) (ci := 11) (v := .ref u_6.1.1) (C := RX12) (T := TX12) (N := 12) hx hb htb inX12 hown hK hP 3 rfl rfl 2 (by decide) (htb _ kw_419) (fun _ h9 => h9) rfl dX12_init_100 ?_
      refine nw_call (rest := [.ref q_11, .ref h0]) (r := (q_3, .inl (cid 13, 1200, .inl (fun _ => 0))) :: (q_1, .inl (cid 12, 8, .inr (.inr (.inr (.inr f2))))) :: (h0, .inr (11, [.ref q_1, .ref q_3, .ref u_6.1.1, .ref q_9, .ref q_10, .null, .null, .null, .int 0, .int 0, .int 0, .int 0])) :: ([(q_10, (.inr (9, [.ref u_6.1.1]) : va_E))] ++ ([(q_9, (.inr (7, [.ref u_6.1.1, .null, .int 0, .int 0, .int 0, .null]) : va_E))] ++ (paW cid u_6 ++ tl (dcF cid) adr 8)))) ⟨hx, hb, hml, hown, htb⟩ (n_X10 l dC dI ad cid (q_11) (u_6.1.1)) (cwI 1 htb (gd_c kw_1376) rfl rfl rfl (htb _ kw_153) (htb _ kw_326) (htb _ kw_327) rfl (by decide +kernel) ⟨Nat.le_of_ble_eq_true rfl, Nat.le_of_ble_eq_true rfl⟩) rfl hl.1 rfl (Nat.le_of_ble_eq_true rfl) dX12_init_103 ⟨(Nat.le_of_ble_eq_true rfl), (Nat.le_of_ble_eq_true rfl)⟩ hK hP hD hS hA hG (fun w H locs hw hP7 hD7 hS => ?_)
      obtain ⟨u_12, eu_13, rfl, hu_14⟩ := hw
      subst eu_13
      have hP : va_P (dC, dI) vwCl ((q_3, .inl (cid 13, 1200, .inl (fun _ => 0))) :: (q_1, .inl (cid 12, 8, .inr (.inr (.inr (.inr f2))))) :: (h0, .inr (11, [.ref q_1, .ref q_3, .ref u_6.1.1, .ref q_9, .ref q_10, .null, .null, .null, .int 0, .int 0, .int 0, .int 0])) :: (wiW ad cid (u_6.1.1) u_12 ++ ([(q_10, (.inr (9, [.ref u_6.1.1]) : va_E))] ++ ([(q_9, (.inr (7, [.ref u_6.1.1, .null, .int 0, .int 0, .int 0, .null]) : va_E))] ++ (paW cid u_6 ++ tl (dcF cid) adr 8))))) H := sw_P (E := [(q_3, .inl (cid 13, 1200, .inl (fun _ => 0))), (q_1, .inl (cid 12, 8, .inr (.inr (.inr (.inr f2))))), (h0, .inr (11, [.ref q_1, .ref q_3, .ref u_6.1.1, .ref q_9, .ref q_10, .null, .null, .null, .int 0, .int 0, .int 0, .int 0]))]) (w := wiW ad cid (u_6.1.1) u_12) (T := ([(q_10, (.inr (9, [.ref u_6.1.1]) : va_E))] ++ ([(q_9, (.inr (7, [.ref u_6.1.1, .null, .int 0, .int 0, .int 0, .null]) : va_E))] ++ (paW cid u_6 ++ tl (dcF cid) adr 8)))) hP7
      have hD : va_D A ((q_3, .inl (cid 13, 1200, .inl (fun _ => 0))) :: (q_1, .inl (cid 12, 8, .inr (.inr (.inr (.inr f2))))) :: (h0, .inr (11, [.ref q_1, .ref q_3, .ref u_6.1.1, .ref q_9, .ref q_10, .null, .null, .null, .int 0, .int 0, .int 0, .int 0])) :: (wiW ad cid (u_6.1.1) u_12 ++ ([(q_10, (.inr (9, [.ref u_6.1.1]) : va_E))] ++ ([(q_9, (.inr (7, [.ref u_6.1.1, .null, .int 0, .int 0, .int 0, .null]) : va_E))] ++ (paW cid u_6 ++ tl (dcF cid) adr 8))))) := sw_D (E := [(q_3, .inl (cid 13, 1200, .inl (fun _ => 0))), (q_1, .inl (cid 12, 8, .inr (.inr (.inr (.inr f2))))), (h0, .inr (11, [.ref q_1, .ref q_3, .ref u_6.1.1, .ref q_9, .ref q_10, .null, .null, .null, .int 0, .int 0, .int 0, .int 0]))]) (w := wiW ad cid (u_6.1.1) u_12) (T := ([(q_10, (.inr (9, [.ref u_6.1.1]) : va_E))] ++ ([(q_9, (.inr (7, [.ref u_6.1.1, .null, .int 0, .int 0, .int 0, .null]) : va_E))] ++ (paW cid u_6 ++ tl (dcF cid) adr 8)))) hD7
      refine W.widen (k := 653) (n := 10203) (Nat.le_of_ble_eq_true rfl) (Nat.le_of_ble_eq_true rfl) ?_
      refine va_putF (D := (dC, dI)) (ci := 11) (v := .ref u_12.1.1) (ty := tyX12 5) (C := RX12) (T := TX12) (N := 12) hx hb htb inX12 tyX12 tyX12_ok nmX12 hown hK hP hD hS 2 rfl rfl 5 (by decide) (htb _ kw_422) (fun _ h9 => h9) rfl hin rfl (tyX12_ok 5 (by decide)) rfl rfl (Nat.le_of_ble_eq_true rfl) dX12_init_106 (fun H locs hP hD hS => ?_)
      have hP : va_P (dC, dI) vwCl ((q_3, .inl (cid 13, 1200, .inl (fun _ => 0))) :: (q_1, .inl (cid 12, 8, .inr (.inr (.inr (.inr f2))))) :: (h0, .inr (11, [.ref q_1, .ref q_3, .ref u_6.1.1, .ref q_9, .ref q_10, .ref u_12.1.1, .null, .null, .int 0, .int 0, .int 0, .int 0])) :: (wiW ad cid (u_6.1.1) u_12 ++ ([(q_10, (.inr (9, [.ref u_6.1.1]) : va_E))] ++ ([(q_9, (.inr (7, [.ref u_6.1.1, .null, .int 0, .int 0, .int 0, .null]) : va_E))] ++ (paW cid u_6 ++ tl (dcF cid) adr 8))))) H := hP
      have hD : va_D A ((q_3, .inl (cid 13, 1200, .inl (fun _ => 0))) :: (q_1, .inl (cid 12, 8, .inr (.inr (.inr (.inr f2))))) :: (h0, .inr (11, [.ref q_1, .ref q_3, .ref u_6.1.1, .ref q_9, .ref q_10, .ref u_12.1.1, .null, .null, .int 0, .int 0, .int 0, .int 0])) :: (wiW ad cid (u_6.1.1) u_12 ++ ([(q_10, (.inr (9, [.ref u_6.1.1]) : va_E))] ++ ([(q_9, (.inr (7, [.ref u_6.1.1, .null, .int 0, .int 0, .int 0, .null]) : va_E))] ++ (paW cid u_6 ++ tl (dcF cid) adr 8))))) := hD
      refine lv_aload_n hx hb dX12_init_109 rfl (lv_at hl 1 rfl) ?_
      refine va_new (ci := 4) (fs := nvX4) (C := RX4) (T := TX4) (N := 2) hx hb htb inX4 tyX4 tyX4_ok hown (htb _ kw_391) (htb _ kw_392) (htb _ kw_158) hK hP hD hS hA rfl nwX4 (Nat.le_of_ble_eq_true rfl) (Nat.le_of_ble_eq_true rfl) dX12_init_110 (fun q_15 H hP hD hS => ?_)
      have hP : va_P (dC, dI) vwCl ((q_15, .inr (4, [.null, .int 0])) :: (q_3, .inl (cid 13, 1200, .inl (fun _ => 0))) :: (q_1, .inl (cid 12, 8, .inr (.inr (.inr (.inr f2))))) :: (h0, .inr (11, [.ref q_1, .ref q_3, .ref u_6.1.1, .ref q_9, .ref q_10, .ref u_12.1.1, .null, .null, .int 0, .int 0, .int 0, .int 0])) :: (wiW ad cid (u_6.1.1) u_12 ++ ([(q_10, (.inr (9, [.ref u_6.1.1]) : va_E))] ++ ([(q_9, (.inr (7, [.ref u_6.1.1, .null, .int 0, .int 0, .int 0, .null]) : va_E))] ++ (paW cid u_6 ++ tl (dcF cid) adr 8))))) H := fr_P hP
      have hD : va_D A ((q_15, .inr (4, [.null, .int 0])) :: (q_3, .inl (cid 13, 1200, .inl (fun _ => 0))) :: (q_1, .inl (cid 12, 8, .inr (.inr (.inr (.inr f2))))) :: (h0, .inr (11, [.ref q_1, .ref q_3, .ref u_6.1.1, .ref q_9, .ref q_10, .ref u_12.1.1, .null, .null, .int 0, .int 0, .int 0, .int 0])) :: (wiW ad cid (u_6.1.1) u_12 ++ ([(q_10, (.inr (9, [.ref u_6.1.1]) : va_E))] ++ ([(q_9, (.inr (7, [.ref u_6.1.1, .null, .int 0, .int 0, .int 0, .null]) : va_E))] ++ (paW cid u_6 ++ tl (dcF cid) adr 8))))) := fr_D hD
      refine W.widen (k := 654) (n := 10205) (Nat.le_of_ble_eq_true rfl) (Nat.le_of_ble_eq_true rfl) ?_
      refine lv_dup hx hb dX12_init_113 rfl ?_
      refine nw_call (rest := [.ref q_15, .ref h0]) (r := (q_3, .inl (cid 13, 1200, .inl (fun _ => 0))) :: (q_1, .inl (cid 12, 8, .inr (.inr (.inr (.inr f2))))) :: (h0, .inr (11, [.ref q_1, .ref q_3, .ref u_6.1.1, .ref q_9, .ref q_10, .ref u_12.1.1, .null, .null, .int 0, .int 0, .int 0, .int 0])) :: (wiW ad cid (u_6.1.1) u_12 ++ ([(q_10, (.inr (9, [.ref u_6.1.1]) : va_E))] ++ ([(q_9, (.inr (7, [.ref u_6.1.1, .null, .int 0, .int 0, .int 0, .null]) : va_E))] ++ (paW cid u_6 ++ tl (dcF cid) adr 8))))) ⟨hx, hb, hml, hown, htb⟩ (n_X4 l dC dI ad cid (q_15)) (cwI 0 htb (gd_c kw_1381) rfl rfl rfl (htb _ kw_158) (htb _ kw_393) (htb _ kw_394) rfl (by decide +kernel) ⟨Nat.le_of_ble_eq_true rfl, Nat.le_of_ble_eq_true rfl⟩) rfl hl.1 rfl (Nat.le_of_ble_eq_true rfl) dX12_init_114 ⟨(Nat.le_of_ble_eq_true rfl), (Nat.le_of_ble_eq_true rfl)⟩ hK hP hD hS hA hG (fun w H locs hw hP7 hD7 hS => ?_)
      obtain ⟨a_16, rfl⟩ := hw
      have hP : va_P (dC, dI) vwCl ((q_3, .inl (cid 13, 1200, .inl (fun _ => 0))) :: (q_1, .inl (cid 12, 8, .inr (.inr (.inr (.inr f2))))) :: (h0, .inr (11, [.ref q_1, .ref q_3, .ref u_6.1.1, .ref q_9, .ref q_10, .ref u_12.1.1, .null, .null, .int 0, .int 0, .int 0, .int 0])) :: (rwW cid q_15 a_16 ++ (wiW ad cid (u_6.1.1) u_12 ++ ([(q_10, (.inr (9, [.ref u_6.1.1]) : va_E))] ++ ([(q_9, (.inr (7, [.ref u_6.1.1, .null, .int 0, .int 0, .int 0, .null]) : va_E))] ++ (paW cid u_6 ++ tl (dcF cid) adr 8)))))) H := sw_P (E := [(q_3, .inl (cid 13, 1200, .inl (fun _ => 0))), (q_1, .inl (cid 12, 8, .inr (.inr (.inr (.inr f2))))), (h0, .inr (11, [.ref q_1, .ref q_3, .ref u_6.1.1, .ref q_9, .ref q_10, .ref u_12.1.1, .null, .null, .int 0, .int 0, .int 0, .int 0]))]) (w := rwW cid q_15 a_16) (T := (wiW ad cid (u_6.1.1) u_12 ++ ([(q_10, (.inr (9, [.ref u_6.1.1]) : va_E))] ++ ([(q_9, (.inr (7, [.ref u_6.1.1, .null, .int 0, .int 0, .int 0, .null]) : va_E))] ++ (paW cid u_6 ++ tl (dcF cid) adr 8))))) hP7
      have hD : va_D A ((q_3, .inl (cid 13, 1200, .inl (fun _ => 0))) :: (q_1, .inl (cid 12, 8, .inr (.inr (.inr (.inr f2))))) :: (h0, .inr (11, [.ref q_1, .ref q_3, .ref u_6.1.1, .ref q_9, .ref q_10, .ref u_12.1.1, .null, .null, .int 0, .int 0, .int 0, .int 0])) :: (rwW cid q_15 a_16 ++ (wiW ad cid (u_6.1.1) u_12 ++ ([(q_10, (.inr (9, [.ref u_6.1.1]) : va_E))] ++ ([(q_9, (.inr (7, [.ref u_6.1.1, .null, .int 0, .int 0, .int 0, .null]) : va_E))] ++ (paW cid u_6 ++ tl (dcF cid) adr 8)))))) := sw_D (E := [(q_3, .inl (cid 13, 1200, .inl (fun _ => 0))), (q_1, .inl (cid 12, 8, .inr (.inr (.inr (.inr f2))))), (h0, .inr (11, [.ref q_1, .ref q_3, .ref u_6.1.1, .ref q_9, .ref q_10, .ref u_12.1.1, .null, .null, .int 0, .int 0, .int 0, .int 0]))]) (w := rwW cid q_15 a_16) (T := (wiW ad cid (u_6.1.1) u_12 ++ ([(q_10, (.inr (9, [.ref u_6.1.1]) : va_E))] ++ ([(q_9, (.inr (7, [.ref u_6.1.1, .null, .int 0, .int 0, .int 0, .null]) : va_E))] ++ (paW cid u_6 ++ tl (dcF cid) adr 8))))) hD7
      refine W.widen (k := 655) (n := 11805) (Nat.le_of_ble_eq_true rfl) (Nat.le_of_ble_eq_true rfl) ?_
      refine va_putF (D := (dC, dI)) (ci := 11) (v := .ref q_15) (ty := tyX12 6) (C := RX12) (T := TX12) (N := 12) hx hb htb inX12 tyX12 tyX12_ok nmX12 hown hK hP hD hS 2 rfl rfl 6 (by decide) (htb _ kw_423) (fun _ h9 => h9) rfl hin rfl (tyX12_ok 6 (by decide)) rfl rfl (Nat.le_of_ble_eq_true rfl) dX12_init_117 (fun H locs hP hD hS => ?_)
      have hP : va_P (dC, dI) vwCl ((q_3, .inl (cid 13, 1200, .inl (fun _ => 0))) :: (q_1, .inl (cid 12, 8, .inr (.inr (.inr (.inr f2))))) :: (h0, .inr (11, [.ref q_1, .ref q_3, .ref u_6.1.1, .ref q_9, .ref q_10, .ref u_12.1.1, .ref q_15, .null, .int 0, .int 0, .int 0, .int 0])) :: (rwW cid q_15 a_16 ++ (wiW ad cid (u_6.1.1) u_12 ++ ([(q_10, (.inr (9, [.ref u_6.1.1]) : va_E))] ++ ([(q_9, (.inr (7, [.ref u_6.1.1, .null, .int 0, .int 0, .int 0, .null]) : va_E))] ++ (paW cid u_6 ++ tl (dcF cid) adr 8)))))) H := hP
      have hD : va_D A ((q_3, .inl (cid 13, 1200, .inl (fun _ => 0))) :: (q_1, .inl (cid 12, 8, .inr (.inr (.inr (.inr f2))))) :: (h0, .inr (11, [.ref q_1, .ref q_3, .ref u_6.1.1, .ref q_9, .ref q_10, .ref u_12.1.1, .ref q_15, .null, .int 0, .int 0, .int 0, .int 0])) :: (rwW cid q_15 a_16 ++ (wiW ad cid (u_6.1.1) u_12 ++ ([(q_10, (.inr (9, [.ref u_6.1.1]) : va_E))] ++ ([(q_9, (.inr (7, [.ref u_6.1.1, .null, .int 0, .int 0, .int 0, .null]) : va_E))] ++ (paW cid u_6 ++ tl (dcF cid) adr 8)))))) := hD
      refine lv_aload_n hx hb dX12_init_120 rfl (lv_at hl 1 rfl) ?_
      refine va_new (ci := 5) (fs := nvX5) (C := RX5) (T := TX5) (N := 13) hx hb htb inX5 tyX5 tyX5_ok hown (htb _ kw_398) (htb _ kw_399) (htb _ kw_159) hK hP hD hS hA rfl nwX5 (Nat.le_of_ble_eq_true rfl) (Nat.le_of_ble_eq_true rfl) dX12_init_121 (fun q_17 H hP hD hS => ?_)
      have hP : va_P (dC, dI) vwCl ((q_17, .inr (5, [.null, .null, .null, .null, .null, .int 0, .null, .int 0, .null, .null, .null, .int 0, .int 0])) :: (q_3, .inl (cid 13, 1200, .inl (fun _ => 0))) :: (q_1, .inl (cid 12, 8, .inr (.inr (.inr (.inr f2))))) :: (h0, .inr (11, [.ref q_1, .ref q_3, .ref u_6.1.1, .ref q_9, .ref q_10, .ref u_12.1.1, .ref q_15, .null, .int 0, .int 0, .int 0, .int 0])) :: (rwW cid q_15 a_16 ++ (wiW ad cid (u_6.1.1) u_12 ++ ([(q_10, (.inr (9, [.ref u_6.1.1]) : va_E))] ++ ([(q_9, (.inr (7, [.ref u_6.1.1, .null, .int 0, .int 0, .int 0, .null]) : va_E))] ++ (paW cid u_6 ++ tl (dcF cid) adr 8)))))) H := fr_P hP
      have hD : va_D A ((q_17, .inr (5, [.null, .null, .null, .null, .null, .int 0, .null, .int 0, .null, .null, .null, .int 0, .int 0])) :: (q_3, .inl (cid 13, 1200, .inl (fun _ => 0))) :: (q_1, .inl (cid 12, 8, .inr (.inr (.inr (.inr f2))))) :: (h0, .inr (11, [.ref q_1, .ref q_3, .ref u_6.1.1, .ref q_9, .ref q_10, .ref u_12.1.1, .ref q_15, .null, .int 0, .int 0, .int 0, .int 0])) :: (rwW cid q_15 a_16 ++ (wiW ad cid (u_6.1.1) u_12 ++ ([(q_10, (.inr (9, [.ref u_6.1.1]) : va_E))] ++ ([(q_9, (.inr (7, [.ref u_6.1.1, .null, .int 0, .int 0, .int 0, .null]) : va_E))] ++ (paW cid u_6 ++ tl (dcF cid) adr 8)))))) := fr_D hD
      refine W.widen (k := 656) (n := 11818) (Nat.le_of_ble_eq_true rfl) (Nat.le_of_ble_eq_true rfl) ?_
      refine lv_dup hx hb dX12_init_124 rfl ?_
      refine lv_aload_n hx hb dX12_init_125 rfl (lv_at hl 1 rfl) ?_
      refine va_get (D := (dC, dI)) (ci := 11) (v := .ref u_12.1.1) (C := RX12) (T := TX12) (N := 12) hx hb htb inX12 hown hK hP 3 rfl rfl 5 (by decide) (htb _ kw_422) (fun _ h9 => h9) rfl dX12_init_126 ?_
      refine lv_aload_n hx hb dX12_init_129 rfl (lv_at hl 1 rfl) ?_
      refine va_get (D := (dC, dI)) (ci := 11) (v := .ref q_1) (C := RX12) (T := TX12) (N := 12) hx hb htb inX12 hown hK hP 3 rfl rfl 0 (by decide) (htb _ kw_417) (fun _ h9 => h9) rfl dX12_init_130 ?_
      refine lv_aload_n hx hb dX12_init_133 rfl (lv_at hl 1 rfl) ?_
      refine va_get (D := (dC, dI)) (ci := 11) (v := .ref q_15) (C := RX12) (T := TX12) (N := 12) hx hb htb inX12 hown hK hP 3 rfl rfl 6 (by decide) (htb _ kw_423) (fun _ h9 => h9) rfl dX12_init_134 ?_
      refine nw_call (rest := [.ref q_17, .ref h0]) (r := (q_3, .inl (cid 13, 1200, .inl (fun _ => 0))) :: (q_1, .inl (cid 12, 8, .inr (.inr (.inr (.inr f2))))) :: (h0, .inr (11, [.ref q_1, .ref q_3, .ref u_6.1.1, .ref q_9, .ref q_10, .ref u_12.1.1, .ref q_15, .null, .int 0, .int 0, .int 0, .int 0])) :: (rwW cid q_15 a_16 ++ (wiW ad cid (u_6.1.1) u_12 ++ ([(q_10, (.inr (9, [.ref u_6.1.1]) : va_E))] ++ ([(q_9, (.inr (7, [.ref u_6.1.1, .null, .int 0, .int 0, .int 0, .null]) : va_E))] ++ (paW cid u_6 ++ tl (dcF cid) adr 8)))))) ⟨hx, hb, hml, hown, htb⟩ (n_X5 l dC dI ad cid (q_17) (u_12.1.1) (q_1) (q_15)) (cwI 3 htb (gd_c kw_1382) rfl rfl rfl (htb _ kw_159) (htb _ kw_400) (htb _ kw_401) rfl (by decide +kernel) ⟨Nat.le_of_ble_eq_true rfl, Nat.le_of_ble_eq_true rfl⟩) rfl hl.1 rfl (Nat.le_of_ble_eq_true rfl) dX12_init_137 ⟨(Nat.le_of_ble_eq_true rfl), (Nat.le_of_ble_eq_true rfl)⟩ hK hP hD hS hA hG (fun w H locs hw hP7 hD7 hS => ?_)
      obtain ⟨a_18, a_19, a_20, a_21, a_22, rfl⟩ := hw
      have hP : va_P (dC, dI) vwCl ((q_3, .inl (cid 13, 1200, .inl (fun _ => 0))) :: (q_1, .inl (cid 12, 8, .inr (.inr (.inr (.inr f2))))) :: (h0, .inr (11, [.ref q_1, .ref q_3, .ref u_6.1.1, .ref q_9, .ref q_10, .ref u_12.1.1, .ref q_15, .null, .int 0, .int 0, .int 0, .int 0])) :: (mkW cid q_17 u_12.1.1 q_1 q_15 a_18 a_19 a_20 a_21 a_22 ++ (rwW cid q_15 a_16 ++ (wiW ad cid (u_6.1.1) u_12 ++ ([(q_10, (.inr (9, [.ref u_6.1.1]) : va_E))] ++ ([(q_9, (.inr (7, [.ref u_6.1.1, .null, .int 0, .int 0, .int 0, .null]) : va_E))] ++ (paW cid u_6 ++ tl (dcF cid) adr 8))))))) H := sw_P (E := [(q_3, .inl (cid 13, 1200, .inl (fun _ => 0))), (q_1, .inl (cid 12, 8, .inr (.inr (.inr (.inr f2))))), (h0, .inr (11, [.ref q_1, .ref q_3, .ref u_6.1.1, .ref q_9, .ref q_10, .ref u_12.1.1, .ref q_15, .null, .int 0, .int 0, .int 0, .int 0]))]) (w := mkW cid q_17 u_12.1.1 q_1 q_15 a_18 a_19 a_20 a_21 a_22) (T := (rwW cid q_15 a_16 ++ (wiW ad cid (u_6.1.1) u_12 ++ ([(q_10, (.inr (9, [.ref u_6.1.1]) : va_E))] ++ ([(q_9, (.inr (7, [.ref u_6.1.1, .null, .int 0, .int 0, .int 0, .null]) : va_E))] ++ (paW cid u_6 ++ tl (dcF cid) adr 8)))))) hP7
      have hD : va_D A ((q_3, .inl (cid 13, 1200, .inl (fun _ => 0))) :: (q_1, .inl (cid 12, 8, .inr (.inr (.inr (.inr f2))))) :: (h0, .inr (11, [.ref q_1, .ref q_3, .ref u_6.1.1, .ref q_9, .ref q_10, .ref u_12.1.1, .ref q_15, .null, .int 0, .int 0, .int 0, .int 0])) :: (mkW cid q_17 u_12.1.1 q_1 q_15 a_18 a_19 a_20 a_21 a_22 ++ (rwW cid q_15 a_16 ++ (wiW ad cid (u_6.1.1) u_12 ++ ([(q_10, (.inr (9, [.ref u_6.1.1]) : va_E))] ++ ([(q_9, (.inr (7, [.ref u_6.1.1, .null, .int 0, .int 0, .int 0, .null]) : va_E))] ++ (paW cid u_6 ++ tl (dcF cid) adr 8))))))) := sw_D (E := [(q_3, .inl (cid 13, 1200, .inl (fun _ => 0))), (q_1, .inl (cid 12, 8, .inr (.inr (.inr (.inr f2))))), (h0, .inr (11, [.ref q_1, .ref q_3, .ref u_6.1.1, .ref q_9, .ref q_10, .ref u_12.1.1, .ref q_15, .null, .int 0, .int 0, .int 0, .int 0]))]) (w := mkW cid q_17 u_12.1.1 q_1 q_15 a_18 a_19 a_20 a_21 a_22) (T := (rwW cid q_15 a_16 ++ (wiW ad cid (u_6.1.1) u_12 ++ ([(q_10, (.inr (9, [.ref u_6.1.1]) : va_E))] ++ ([(q_9, (.inr (7, [.ref u_6.1.1, .null, .int 0, .int 0, .int 0, .null]) : va_E))] ++ (paW cid u_6 ++ tl (dcF cid) adr 8)))))) hD7
      refine W.widen (k := 661) (n := 12981) (Nat.le_of_ble_eq_true rfl) (Nat.le_of_ble_eq_true rfl) ?_
      refine va_putF (D := (dC, dI)) (ci := 11) (v := .ref q_17) (ty := tyX12 7) (C := RX12) (T := TX12) (N := 12) hx hb htb inX12 tyX12 tyX12_ok nmX12 hown hK hP hD hS 2 rfl rfl 7 (by decide) (htb _ kw_424) (fun _ h9 => h9) rfl hin rfl (tyX12_ok 7 (by decide)) rfl rfl (Nat.le_of_ble_eq_true rfl) dX12_init_140 (fun H locs hP hD hS => ?_)
      have hP : va_P (dC, dI) vwCl ((q_3, .inl (cid 13, 1200, .inl (fun _ => 0))) :: (q_1, .inl (cid 12, 8, .inr (.inr (.inr (.inr f2))))) :: (h0, .inr (11, [.ref q_1, .ref q_3, .ref u_6.1.1, .ref q_9, .ref q_10, .ref u_12.1.1, .ref q_15, .ref q_17, .int 0, .int 0, .int 0, .int 0])) :: (mkW cid q_17 u_12.1.1 q_1 q_15 a_18 a_19 a_20 a_21 a_22 ++ (rwW cid q_15 a_16 ++ (wiW ad cid (u_6.1.1) u_12 ++ ([(q_10, (.inr (9, [.ref u_6.1.1]) : va_E))] ++ ([(q_9, (.inr (7, [.ref u_6.1.1, .null, .int 0, .int 0, .int 0, .null]) : va_E))] ++ (paW cid u_6 ++ tl (dcF cid) adr 8))))))) H := hP
      have hD : va_D A ((q_3, .inl (cid 13, 1200, .inl (fun _ => 0))) :: (q_1, .inl (cid 12, 8, .inr (.inr (.inr (.inr f2))))) :: (h0, .inr (11, [.ref q_1, .ref q_3, .ref u_6.1.1, .ref q_9, .ref q_10, .ref u_12.1.1, .ref q_15, .ref q_17, .int 0, .int 0, .int 0, .int 0])) :: (mkW cid q_17 u_12.1.1 q_1 q_15 a_18 a_19 a_20 a_21 a_22 ++ (rwW cid q_15 a_16 ++ (wiW ad cid (u_6.1.1) u_12 ++ ([(q_10, (.inr (9, [.ref u_6.1.1]) : va_E))] ++ ([(q_9, (.inr (7, [.ref u_6.1.1, .null, .int 0, .int 0, .int 0, .null]) : va_E))] ++ (paW cid u_6 ++ tl (dcF cid) adr 8))))))) := hD
      refine lv_aload_n hx hb dX12_init_143 rfl (lv_at hl 1 rfl) ?_
      refine lv_iconst (v := (-1)) hx hb dX12_init_144 (by decide) ?_
      refine va_put (D := (dC, dI)) (ci := 11) (v := .int (-1)) (ty := tyX12 11) (C := RX12) (T := TX12) (N := 12) hx hb htb inX12 tyX12 tyX12_ok nmX12 hown hK hP hD hS 2 rfl rfl 11 (by decide) (htb _ kw_428) (fun _ h9 => h9) rfl (tyX12_ok 11 (by decide)) rfl rfl (Nat.le_of_ble_eq_true rfl) dX12_init_145 (fun H locs hP hD hS => ?_)
      have hP : va_P (dC, dI) vwCl ((q_3, .inl (cid 13, 1200, .inl (fun _ => 0))) :: (q_1, .inl (cid 12, 8, .inr (.inr (.inr (.inr f2))))) :: (h0, .inr (11, [.ref q_1, .ref q_3, .ref u_6.1.1, .ref q_9, .ref q_10, .ref u_12.1.1, .ref q_15, .ref q_17, .int 0, .int 0, .int 0, .int (-1)])) :: (mkW cid q_17 u_12.1.1 q_1 q_15 a_18 a_19 a_20 a_21 a_22 ++ (rwW cid q_15 a_16 ++ (wiW ad cid (u_6.1.1) u_12 ++ ([(q_10, (.inr (9, [.ref u_6.1.1]) : va_E))] ++ ([(q_9, (.inr (7, [.ref u_6.1.1, .null, .int 0, .int 0, .int 0, .null]) : va_E))] ++ (paW cid u_6 ++ tl (dcF cid) adr 8))))))) H := hP
      have hD : va_D A ((q_3, .inl (cid 13, 1200, .inl (fun _ => 0))) :: (q_1, .inl (cid 12, 8, .inr (.inr (.inr (.inr f2))))) :: (h0, .inr (11, [.ref q_1, .ref q_3, .ref u_6.1.1, .ref q_9, .ref q_10, .ref u_12.1.1, .ref q_15, .ref q_17, .int 0, .int 0, .int 0, .int (-1)])) :: (mkW cid q_17 u_12.1.1 q_1 q_15 a_18 a_19 a_20 a_21 a_22 ++ (rwW cid q_15 a_16 ++ (wiW ad cid (u_6.1.1) u_12 ++ ([(q_10, (.inr (9, [.ref u_6.1.1]) : va_E))] ++ ([(q_9, (.inr (7, [.ref u_6.1.1, .null, .int 0, .int 0, .int 0, .null]) : va_E))] ++ (paW cid u_6 ++ tl (dcF cid) adr 8))))))) := hD
      rw [eQ]
      exact W.vret hx hb hr (fun t ht hW => ⟨⟨(q_3, .inl (cid 13, 1200, .inl (fun _ => 0))) :: (q_1, .inl (cid 12, 8, .inr (.inr (.inr (.inr f2))))) :: (h0, .inr (11, [.ref q_1, .ref q_3, .ref u_6.1.1, .ref q_9, .ref q_10, .ref u_12.1.1, .ref q_15, .ref q_17, .int 0, .int 0, .int 0, .int (-1)])) :: (mkW cid q_17 u_12.1.1 q_1 q_15 a_18 a_19 a_20 a_21 a_22 ++ (rwW cid q_15 a_16 ++ (wiW ad cid (u_6.1.1) u_12 ++ ([(q_10, (.inr (9, [.ref u_6.1.1]) : va_E))] ++ ([(q_9, (.inr (7, [.ref u_6.1.1, .null, .int 0, .int 0, .int 0, .null]) : va_E))] ++ (paW cid u_6 ++ tl (dcF cid) adr 8)))))), rfl, ⟨q_1, q_3, f2, adr, u_6, q_9, q_10, u_12, q_15, a_16, q_17, a_18, a_19, a_20, a_21, a_22, rfl, hf2, hdc, hu_8, hu_14⟩, by rw [ht]; exact hP, va_K.moved hW.alike hK, hD⟩, hS.F ht⟩) hS.2.2 dX12_init_148
    | succ n ih =>
      intro i adr f2 H locs ls hi9 hf2 hdc hP hD hS hl
      have hlt : i < 8 := by omega
      refine lv_iload_n hx hb dX12_init_15 rfl (lv_at hl 0 rfl) ?_
      refine lv_bipush (v := 8) hx hb dX12_init_16 (by decide) ?_
      refine lv_icmp_ge (tgt := 41) hx hb dX12_init_18 (by decide) (fun c9 => absurd c9 (nI_ge hlt (by decide))) (fun _ => ?_)
      refine lv_aload_n hx hb dX12_init_21 rfl (lv_at hl 1 rfl) ?_
      refine va_get (D := (dC, dI)) (ci := 11) (v := .ref q_1) (C := RX12) (T := TX12) (N := 12) hx hb htb inX12 hown hK hP 1 rfl rfl 0 (by decide) (htb _ kw_417) (fun _ h9 => h9) rfl dX12_init_22 ?_
      refine lv_iload_n hx hb dX12_init_25 rfl (lv_at hl 0 rfl) ?_
      refine va_new (ci := 2) (fs := nvX2) (C := RX2) (T := TX2) (N := 8) hx hb htb inX2 tyX2 tyX2_ok hown (htb _ kw_182) (htb _ kw_183) (htb _ kw_147) hK hP hD hS hA rfl nwX2 (by show (i * 20 + 1) + 1 ≤ 661; omega) (by show (i * 122 + 8) + 8 ≤ 12981; omega) dX12_init_26 (fun q_23 H hP hD hS => ?_)
      have hP : va_P (dC, dI) vwCl ((q_23, .inr (2, [.null, .null, .int 0, .int 0, .int 0, .null, .int 0, .null])) :: (q_1, .inl (cid 12, 8, .inr (.inr (.inr (.inr f2))))) :: (h0, .inr (11, [.ref q_1, .null, .null, .null, .null, .null, .null, .null, .int 0, .int 0, .int 0, .int 0])) :: tl (dcF cid) adr i) H := fr_P hP
      have hD : va_D A ((q_23, .inr (2, [.null, .null, .int 0, .int 0, .int 0, .null, .int 0, .null])) :: (q_1, .inl (cid 12, 8, .inr (.inr (.inr (.inr f2))))) :: (h0, .inr (11, [.ref q_1, .null, .null, .null, .null, .null, .null, .null, .int 0, .int 0, .int 0, .int 0])) :: tl (dcF cid) adr i) := fr_D hD
      refine W.widen (k := i * 20 + 2) (n := i * 122 + 16) (by omega) (by omega) ?_
      refine lv_dup hx hb dX12_init_29 rfl ?_
      refine lv_iload_n hx hb dX12_init_30 rfl (lv_at hl 0 rfl) ?_
      refine nw_call (rest := [.ref q_23, .int (nI i), .ref q_1]) (r := (q_1, .inl (cid 12, 8, .inr (.inr (.inr (.inr f2))))) :: (h0, .inr (11, [.ref q_1, .null, .null, .null, .null, .null, .null, .null, .int 0, .int 0, .int 0, .int 0])) :: tl (dcF cid) adr i) ⟨hx, hb, hml, hown, htb⟩ (n_X2 l dC dI ad cid (q_23) ((nI i))) (cwI 1 htb (gd_c kw_1370) rfl rfl rfl (htb _ kw_147) (htb _ kw_184) (htb _ kw_185) rfl (by decide +kernel) ⟨Nat.le_of_ble_eq_true rfl, Nat.le_of_ble_eq_true rfl⟩) rfl hl.1 rfl (Nat.le_of_ble_eq_true rfl) dX12_init_31 ⟨(by show (i * 20 + 2) + 19 ≤ 661; omega), (by show (i * 122 + 16) + 114 ≤ 12981; omega)⟩ hK hP hD hS hA hG (fun w H locs hw hP7 hD7 hS => ?_)
      obtain ⟨u_24, eu_25, rfl, hu_26⟩ := hw
      subst eu_25
      have hP : va_P (dC, dI) vwCl ((q_1, .inl (cid 12, 8, .inr (.inr (.inr (.inr f2))))) :: (h0, .inr (11, [.ref q_1, .null, .null, .null, .null, .null, .null, .null, .int 0, .int 0, .int 0, .int 0])) :: (dcW cid ((nI i)) u_24 ++ tl (dcF cid) adr i)) H := sw_P (E := [(q_1, .inl (cid 12, 8, .inr (.inr (.inr (.inr f2))))), (h0, .inr (11, [.ref q_1, .null, .null, .null, .null, .null, .null, .null, .int 0, .int 0, .int 0, .int 0]))]) (w := dcW cid ((nI i)) u_24) (T := tl (dcF cid) adr i) hP7
      have hD : va_D A ((q_1, .inl (cid 12, 8, .inr (.inr (.inr (.inr f2))))) :: (h0, .inr (11, [.ref q_1, .null, .null, .null, .null, .null, .null, .null, .int 0, .int 0, .int 0, .int 0])) :: (dcW cid ((nI i)) u_24 ++ tl (dcF cid) adr i)) := sw_D (E := [(q_1, .inl (cid 12, 8, .inr (.inr (.inr (.inr f2))))), (h0, .inr (11, [.ref q_1, .null, .null, .null, .null, .null, .null, .null, .int 0, .int 0, .int 0, .int 0]))]) (w := dcW cid ((nI i)) u_24) (T := tl (dcF cid) adr i) hD7
      refine W.widen (k := i * 20 + 21) (n := i * 122 + 130) (by omega) (by omega) ?_
      refine va_astq (D := (dC, dI)) (r := (RX2, TX2, 8)) hx hb hK hP hD hS 0 12 5 2 rfl rfl rfl rfl (vp_in_nI hlt (by decide)) dX12_init_34 (fun H locs hP hD hS => ?_)
      have hP : va_P (dC, dI) vwCl ((q_1, .inl (cid 12, 8, .inr (.inr (.inr (.inr (va_up f2 (nI i).toNatClampNeg (some u_24.1.1))))))) :: (h0, .inr (11, [.ref q_1, .null, .null, .null, .null, .null, .null, .null, .int 0, .int 0, .int 0, .int 0])) :: (dcW cid ((nI i)) u_24 ++ tl (dcF cid) adr i)) H := hP
      have hD : va_D A ((q_1, .inl (cid 12, 8, .inr (.inr (.inr (.inr (va_up f2 (nI i).toNatClampNeg (some u_24.1.1))))))) :: (h0, .inr (11, [.ref q_1, .null, .null, .null, .null, .null, .null, .null, .int 0, .int 0, .int 0, .int 0])) :: (dcW cid ((nI i)) u_24 ++ tl (dcF cid) adr i)) := hD
      refine lv_iinc (v := nI (i + 1)) (lv' := [(1, .int (nI (i + 1))), (0, .ref h0)]) hx hb dX12_init_35 hl (k := 0) rfl (nI_1 i) (by decide) rfl (fun ls hl => ?_)
      refine lv_goto (tgt := 15) hx hb dX12_init_38 (by decide) ?_
      refine W.widen (k := (i + 1) * 20 + 1) (n := (i + 1) * 122 + 8) (by omega) (by omega) ?_
      have et9 := tl_s (F := dcF cid) (adr := adr) (i := i) (u := u_24)
      have hP : va_P (dC, dI) vwCl ((q_1, .inl (cid 12, 8, .inr (.inr (.inr (.inr (va_up f2 (nI i).toNatClampNeg (some u_24.1.1))))))) :: (h0, .inr (11, [.ref q_1, .null, .null, .null, .null, .null, .null, .null, .int 0, .int 0, .int 0, .int 0])) :: tl (dcF cid) (va_up adr i u_24) (i + 1)) H := by rw [et9]; exact hP
      have hD : va_D A ((q_1, .inl (cid 12, 8, .inr (.inr (.inr (.inr (va_up f2 (nI i).toNatClampNeg (some u_24.1.1))))))) :: (h0, .inr (11, [.ref q_1, .null, .null, .null, .null, .null, .null, .null, .int 0, .int 0, .int 0, .int 0])) :: tl (dcF cid) (va_up adr i u_24) (i + 1)) := by rw [et9]; exact hD
      exact ih (i + 1) (va_up adr i u_24) (va_up f2 (nI i).toNatClampNeg (some u_24.1.1)) _ _ _ (by omega) (fs_q (α := DU) (u := u_24) (fun x => x.1.1) (by omega) hf2) (pr_s (P := fun _ x => dcP x) hdc hu_26) hP hD hS hl
  exact hloop 8 0 (fun _ => ((0, 0, 0, 0), (fun _ => (0, 0, 0, 0)), ((fun _ => none), (fun _ => none)), (fun _ => 0))) (fun _ => none) _ _ _ rfl (fun j hj => absurd hj (Nat.not_lt_zero j)) (fun j hj => absurd hj (Nat.not_lt_zero j)) hP hD hS hl
end
