theorem dX1_begin_0g : decode cX1_begin 0 = .ok (.aload_n 0, 1) ∧ decode cX1_begin 1 = .ok (.aload_n 1, 1) ∧ decode cX1_begin 2 = .ok (.putfield 28, 3) ∧ decode cX1_begin 5 = .ok (.aload_n 0, 1) ∧ decode cX1_begin 6 = .ok (.getfield 18, 3) ∧ decode cX1_begin 9 = .ok (.invokevirtual 32, 3) ∧ decode cX1_begin 12 = .ok (.aload_n 0, 1) ∧ decode cX1_begin 13 = .ok (.getfield 22, 3) ∧ decode cX1_begin 16 = .ok (.invokevirtual 32, 3) ∧ decode cX1_begin 19 = .ok (.aload_n 0, 1) ∧ decode cX1_begin 20 = .ok (.getfield 25, 3) ∧ decode cX1_begin 23 = .ok (.invokevirtual 32, 3) ∧ decode cX1_begin 26 = .ok (.aload_n 0, 1) ∧ decode cX1_begin 27 = .ok (.aload_n 2, 1) ∧ decode cX1_begin 28 = .ok (.aload_n 1, 1) ∧ decode cX1_begin 29 = .ok (.getstatic 35, 3) := by decide +kernel
theorem dX1_begin_0 : decode cX1_begin 0 = .ok (.aload_n 0, 1) := dX1_begin_0g.1
theorem dX1_begin_1 : decode cX1_begin 1 = .ok (.aload_n 1, 1) := dX1_begin_0g.2.1
theorem dX1_begin_2 : decode cX1_begin 2 = .ok (.putfield 28, 3) := dX1_begin_0g.2.2.1
theorem dX1_begin_5 : decode cX1_begin 5 = .ok (.aload_n 0, 1) := dX1_begin_0g.2.2.2.1
theorem dX1_begin_6 : decode cX1_begin 6 = .ok (.getfield 18, 3) := dX1_begin_0g.2.2.2.2.1
theorem dX1_begin_9 : decode cX1_begin 9 = .ok (.invokevirtual 32, 3) := dX1_begin_0g.2.2.2.2.2.1
theorem dX1_begin_12 : decode cX1_begin 12 = .ok (.aload_n 0, 1) := dX1_begin_0g.2.2.2.2.2.2.1
theorem dX1_begin_13 : decode cX1_begin 13 = .ok (.getfield 22, 3) := dX1_begin_0g.2.2.2.2.2.2.2.1
theorem dX1_begin_16 : decode cX1_begin 16 = .ok (.invokevirtual 32, 3) := dX1_begin_0g.2.2.2.2.2.2.2.2.1
theorem dX1_begin_19 : decode cX1_begin 19 = .ok (.aload_n 0, 1) := dX1_begin_0g.2.2.2.2.2.2.2.2.2.1
theorem dX1_begin_20 : decode cX1_begin 20 = .ok (.getfield 25, 3) := dX1_begin_0g.2.2.2.2.2.2.2.2.2.2.1
theorem dX1_begin_23 : decode cX1_begin 23 = .ok (.invokevirtual 32, 3) := dX1_begin_0g.2.2.2.2.2.2.2.2.2.2.2.1
theorem dX1_begin_26 : decode cX1_begin 26 = .ok (.aload_n 0, 1) := dX1_begin_0g.2.2.2.2.2.2.2.2.2.2.2.2.1
theorem dX1_begin_27 : decode cX1_begin 27 = .ok (.aload_n 2, 1) := dX1_begin_0g.2.2.2.2.2.2.2.2.2.2.2.2.2.1
theorem dX1_begin_28 : decode cX1_begin 28 = .ok (.aload_n 1, 1) := dX1_begin_0g.2.2.2.2.2.2.2.2.2.2.2.2.2.2.1
theorem dX1_begin_29 : decode cX1_begin 29 = .ok (.getstatic 35, 3) := dX1_begin_0g.2.2.2.2.2.2.2.2.2.2.2.2.2.2.2
theorem dX1_begin_32g : decode cX1_begin 32 = .ok (.invokevirtual 41, 3) ∧ decode cX1_begin 35 = .ok (.putfield 47, 3) ∧ decode cX1_begin 38 = .ok (.aload_n 0, 1) ∧ decode cX1_begin 39 = .ok (.aload_n 2, 1) ∧ decode cX1_begin 40 = .ok (.aload_n 1, 1) ∧ decode cX1_begin 41 = .ok (.getstatic 51, 3) ∧ decode cX1_begin 44 = .ok (.invokevirtual 41, 3) ∧ decode cX1_begin 47 = .ok (.putfield 54, 3) ∧ decode cX1_begin 50 = .ok (.aload_n 0, 1) ∧ decode cX1_begin 51 = .ok (.aload_n 2, 1) ∧ decode cX1_begin 52 = .ok (.aload_n 1, 1) ∧ decode cX1_begin 53 = .ok (.getstatic 57, 3) ∧ decode cX1_begin 56 = .ok (.invokevirtual 41, 3) ∧ decode cX1_begin 59 = .ok (.putfield 60, 3) ∧ decode cX1_begin 62 = .ok (.aload_n 0, 1) ∧ decode cX1_begin 63 = .ok (.aload_n 2, 1) := by decide +kernel
theorem dX1_begin_32 : decode cX1_begin 32 = .ok (.invokevirtual 41, 3) := dX1_begin_32g.1
theorem dX1_begin_35 : decode cX1_begin 35 = .ok (.putfield 47, 3) := dX1_begin_32g.2.1
theorem dX1_begin_38 : decode cX1_begin 38 = .ok (.aload_n 0, 1) := dX1_begin_32g.2.2.1
theorem dX1_begin_39 : decode cX1_begin 39 = .ok (.aload_n 2, 1) := dX1_begin_32g.2.2.2.1
theorem dX1_begin_40 : decode cX1_begin 40 = .ok (.aload_n 1, 1) := dX1_begin_32g.2.2.2.2.1
theorem dX1_begin_41 : decode cX1_begin 41 = .ok (.getstatic 51, 3) := dX1_begin_32g.2.2.2.2.2.1
theorem dX1_begin_44 : decode cX1_begin 44 = .ok (.invokevirtual 41, 3) := dX1_begin_32g.2.2.2.2.2.2.1
theorem dX1_begin_47 : decode cX1_begin 47 = .ok (.putfield 54, 3) := dX1_begin_32g.2.2.2.2.2.2.2.1
theorem dX1_begin_50 : decode cX1_begin 50 = .ok (.aload_n 0, 1) := dX1_begin_32g.2.2.2.2.2.2.2.2.1
theorem dX1_begin_51 : decode cX1_begin 51 = .ok (.aload_n 2, 1) := dX1_begin_32g.2.2.2.2.2.2.2.2.2.1
theorem dX1_begin_52 : decode cX1_begin 52 = .ok (.aload_n 1, 1) := dX1_begin_32g.2.2.2.2.2.2.2.2.2.2.1
theorem dX1_begin_53 : decode cX1_begin 53 = .ok (.getstatic 57, 3) := dX1_begin_32g.2.2.2.2.2.2.2.2.2.2.2.1
theorem dX1_begin_56 : decode cX1_begin 56 = .ok (.invokevirtual 41, 3) := dX1_begin_32g.2.2.2.2.2.2.2.2.2.2.2.2.1
theorem dX1_begin_59 : decode cX1_begin 59 = .ok (.putfield 60, 3) := dX1_begin_32g.2.2.2.2.2.2.2.2.2.2.2.2.2.1
theorem dX1_begin_62 : decode cX1_begin 62 = .ok (.aload_n 0, 1) := dX1_begin_32g.2.2.2.2.2.2.2.2.2.2.2.2.2.2.1
theorem dX1_begin_63 : decode cX1_begin 63 = .ok (.aload_n 2, 1) := dX1_begin_32g.2.2.2.2.2.2.2.2.2.2.2.2.2.2.2
theorem dX1_begin_64g : decode cX1_begin 64 = .ok (.aload_n 1, 1) ∧ decode cX1_begin 65 = .ok (.getstatic 63, 3) ∧ decode cX1_begin 68 = .ok (.getstatic 66, 3) ∧ decode cX1_begin 71 = .ok (.invokevirtual 69, 3) ∧ decode cX1_begin 74 = .ok (.putfield 73, 3) ∧ decode cX1_begin 77 = .ok (.aload_n 0, 1) ∧ decode cX1_begin 78 = .ok (.aload_n 2, 1) ∧ decode cX1_begin 79 = .ok (.aload_n 1, 1) ∧ decode cX1_begin 80 = .ok (.getstatic 77, 3) ∧ decode cX1_begin 83 = .ok (.getstatic 80, 3) ∧ decode cX1_begin 86 = .ok (.invokevirtual 69, 3) ∧ decode cX1_begin 89 = .ok (.putfield 83, 3) ∧ decode cX1_begin 92 = .ok (.aload_n 0, 1) ∧ decode cX1_begin 93 = .ok (.aload_n 2, 1) ∧ decode cX1_begin 94 = .ok (.aload_n 1, 1) ∧ decode cX1_begin 95 = .ok (.getstatic 86, 3) := by decide +kernel
theorem dX1_begin_64 : decode cX1_begin 64 = .ok (.aload_n 1, 1) := dX1_begin_64g.1
theorem dX1_begin_65 : decode cX1_begin 65 = .ok (.getstatic 63, 3) := dX1_begin_64g.2.1
theorem dX1_begin_68 : decode cX1_begin 68 = .ok (.getstatic 66, 3) := dX1_begin_64g.2.2.1
theorem dX1_begin_71 : decode cX1_begin 71 = .ok (.invokevirtual 69, 3) := dX1_begin_64g.2.2.2.1
theorem dX1_begin_74 : decode cX1_begin 74 = .ok (.putfield 73, 3) := dX1_begin_64g.2.2.2.2.1
theorem dX1_begin_77 : decode cX1_begin 77 = .ok (.aload_n 0, 1) := dX1_begin_64g.2.2.2.2.2.1
theorem dX1_begin_78 : decode cX1_begin 78 = .ok (.aload_n 2, 1) := dX1_begin_64g.2.2.2.2.2.2.1
theorem dX1_begin_79 : decode cX1_begin 79 = .ok (.aload_n 1, 1) := dX1_begin_64g.2.2.2.2.2.2.2.1
theorem dX1_begin_80 : decode cX1_begin 80 = .ok (.getstatic 77, 3) := dX1_begin_64g.2.2.2.2.2.2.2.2.1
theorem dX1_begin_83 : decode cX1_begin 83 = .ok (.getstatic 80, 3) := dX1_begin_64g.2.2.2.2.2.2.2.2.2.1
theorem dX1_begin_86 : decode cX1_begin 86 = .ok (.invokevirtual 69, 3) := dX1_begin_64g.2.2.2.2.2.2.2.2.2.2.1
theorem dX1_begin_89 : decode cX1_begin 89 = .ok (.putfield 83, 3) := dX1_begin_64g.2.2.2.2.2.2.2.2.2.2.2.1
theorem dX1_begin_92 : decode cX1_begin 92 = .ok (.aload_n 0, 1) := dX1_begin_64g.2.2.2.2.2.2.2.2.2.2.2.2.1
theorem dX1_begin_93 : decode cX1_begin 93 = .ok (.aload_n 2, 1) := dX1_begin_64g.2.2.2.2.2.2.2.2.2.2.2.2.2.1
theorem dX1_begin_94 : decode cX1_begin 94 = .ok (.aload_n 1, 1) := dX1_begin_64g.2.2.2.2.2.2.2.2.2.2.2.2.2.2.1
theorem dX1_begin_95 : decode cX1_begin 95 = .ok (.getstatic 86, 3) := dX1_begin_64g.2.2.2.2.2.2.2.2.2.2.2.2.2.2.2
theorem dX1_begin_98g : decode cX1_begin 98 = .ok (.getstatic 66, 3) ∧ decode cX1_begin 101 = .ok (.invokevirtual 69, 3) ∧ decode cX1_begin 104 = .ok (.putfield 89, 3) ∧ decode cX1_begin 107 = .ok (.aload_n 0, 1) ∧ decode cX1_begin 108 = .ok (.lconst 0, 1) ∧ decode cX1_begin 109 = .ok (.putfield 92, 3) ∧ decode cX1_begin 112 = .ok (.aload_n 0, 1) ∧ decode cX1_begin 113 = .ok (.iconst (-1), 1) ∧ decode cX1_begin 114 = .ok (.putfield 95, 3) ∧ decode cX1_begin 117 = .ok (.aload_n 0, 1) ∧ decode cX1_begin 118 = .ok (.iconst (-1), 1) ∧ decode cX1_begin 119 = .ok (.putfield 98, 3) ∧ decode cX1_begin 122 = .ok (.aload_n 0, 1) ∧ decode cX1_begin 123 = .ok (.iconst (-1), 1) ∧ decode cX1_begin 124 = .ok (.putfield 101, 3) ∧ decode cX1_begin 127 = .ok (.aload_n 0, 1) := by decide +kernel
theorem dX1_begin_98 : decode cX1_begin 98 = .ok (.getstatic 66, 3) := dX1_begin_98g.1
theorem dX1_begin_101 : decode cX1_begin 101 = .ok (.invokevirtual 69, 3) := dX1_begin_98g.2.1
theorem dX1_begin_104 : decode cX1_begin 104 = .ok (.putfield 89, 3) := dX1_begin_98g.2.2.1
theorem dX1_begin_107 : decode cX1_begin 107 = .ok (.aload_n 0, 1) := dX1_begin_98g.2.2.2.1
theorem dX1_begin_108 : decode cX1_begin 108 = .ok (.lconst 0, 1) := dX1_begin_98g.2.2.2.2.1
theorem dX1_begin_109 : decode cX1_begin 109 = .ok (.putfield 92, 3) := dX1_begin_98g.2.2.2.2.2.1
theorem dX1_begin_112 : decode cX1_begin 112 = .ok (.aload_n 0, 1) := dX1_begin_98g.2.2.2.2.2.2.1
theorem dX1_begin_113 : decode cX1_begin 113 = .ok (.iconst (-1), 1) := dX1_begin_98g.2.2.2.2.2.2.2.1
theorem dX1_begin_114 : decode cX1_begin 114 = .ok (.putfield 95, 3) := dX1_begin_98g.2.2.2.2.2.2.2.2.1
theorem dX1_begin_117 : decode cX1_begin 117 = .ok (.aload_n 0, 1) := dX1_begin_98g.2.2.2.2.2.2.2.2.2.1
theorem dX1_begin_118 : decode cX1_begin 118 = .ok (.iconst (-1), 1) := dX1_begin_98g.2.2.2.2.2.2.2.2.2.2.1
theorem dX1_begin_119 : decode cX1_begin 119 = .ok (.putfield 98, 3) := dX1_begin_98g.2.2.2.2.2.2.2.2.2.2.2.1
theorem dX1_begin_122 : decode cX1_begin 122 = .ok (.aload_n 0, 1) := dX1_begin_98g.2.2.2.2.2.2.2.2.2.2.2.2.1
theorem dX1_begin_123 : decode cX1_begin 123 = .ok (.iconst (-1), 1) := dX1_begin_98g.2.2.2.2.2.2.2.2.2.2.2.2.2.1
theorem dX1_begin_124 : decode cX1_begin 124 = .ok (.putfield 101, 3) := dX1_begin_98g.2.2.2.2.2.2.2.2.2.2.2.2.2.2.1
theorem dX1_begin_127 : decode cX1_begin 127 = .ok (.aload_n 0, 1) := dX1_begin_98g.2.2.2.2.2.2.2.2.2.2.2.2.2.2.2
theorem dX1_begin_128g : decode cX1_begin 128 = .ok (.iconst (-1), 1) ∧ decode cX1_begin 129 = .ok (.putfield 104, 3) ∧ decode cX1_begin 132 = .ok (.aload_n 0, 1) ∧ decode cX1_begin 133 = .ok (.iconst 0, 1) ∧ decode cX1_begin 134 = .ok (.putfield 107, 3) ∧ decode cX1_begin 137 = .ok (.aload_n 0, 1) ∧ decode cX1_begin 138 = .ok (.iconst 0, 1) ∧ decode cX1_begin 139 = .ok (.putfield 110, 3) ∧ decode cX1_begin 142 = .ok (.aload_n 0, 1) ∧ decode cX1_begin 143 = .ok (.iconst (-1), 1) ∧ decode cX1_begin 144 = .ok (.putfield 113, 3) ∧ decode cX1_begin 147 = .ok (.return_, 1) := by decide +kernel
theorem dX1_begin_128 : decode cX1_begin 128 = .ok (.iconst (-1), 1) := dX1_begin_128g.1
theorem dX1_begin_129 : decode cX1_begin 129 = .ok (.putfield 104, 3) := dX1_begin_128g.2.1
theorem dX1_begin_132 : decode cX1_begin 132 = .ok (.aload_n 0, 1) := dX1_begin_128g.2.2.1
theorem dX1_begin_133 : decode cX1_begin 133 = .ok (.iconst 0, 1) := dX1_begin_128g.2.2.2.1
theorem dX1_begin_134 : decode cX1_begin 134 = .ok (.putfield 107, 3) := dX1_begin_128g.2.2.2.2.1
theorem dX1_begin_137 : decode cX1_begin 137 = .ok (.aload_n 0, 1) := dX1_begin_128g.2.2.2.2.2.1
theorem dX1_begin_138 : decode cX1_begin 138 = .ok (.iconst 0, 1) := dX1_begin_128g.2.2.2.2.2.2.1
theorem dX1_begin_139 : decode cX1_begin 139 = .ok (.putfield 110, 3) := dX1_begin_128g.2.2.2.2.2.2.2.1
theorem dX1_begin_142 : decode cX1_begin 142 = .ok (.aload_n 0, 1) := dX1_begin_128g.2.2.2.2.2.2.2.2.1
theorem dX1_begin_143 : decode cX1_begin 143 = .ok (.iconst (-1), 1) := dX1_begin_128g.2.2.2.2.2.2.2.2.2.1
theorem dX1_begin_144 : decode cX1_begin 144 = .ok (.putfield 113, 3) := dX1_begin_128g.2.2.2.2.2.2.2.2.2.2.1
theorem dX1_begin_147 : decode cX1_begin 147 = .ok (.return_, 1) := dX1_begin_128g.2.2.2.2.2.2.2.2.2.2.2
theorem dX1_overlay_0g : decode cX1_overlay 0 = .ok (.aload_n 2, 1) ∧ decode cX1_overlay 1 = .ok (.aload_n 1, 1) ∧ decode cX1_overlay 2 = .ok (.getstatic 116, 3) ∧ decode cX1_overlay 5 = .ok (.invokevirtual 119, 3) ∧ decode cX1_overlay 8 = .ok (.ifCond .eq 15, 3) ∧ decode cX1_overlay 11 = .ok (.aload_n 0, 1) ∧ decode cX1_overlay 12 = .ok (.aload_n 2, 1) ∧ decode cX1_overlay 13 = .ok (.aload_n 1, 1) ∧ decode cX1_overlay 14 = .ok (.getstatic 116, 3) ∧ decode cX1_overlay 17 = .ok (.invokevirtual 41, 3) ∧ decode cX1_overlay 20 = .ok (.putfield 92, 3) ∧ decode cX1_overlay 23 = .ok (.aload_n 2, 1) ∧ decode cX1_overlay 24 = .ok (.aload_n 1, 1) ∧ decode cX1_overlay 25 = .ok (.getstatic 123, 3) ∧ decode cX1_overlay 28 = .ok (.invokevirtual 119, 3) ∧ decode cX1_overlay 31 = .ok (.ifCond .eq 15, 3) := by decide +kernel
theorem dX1_overlay_0 : decode cX1_overlay 0 = .ok (.aload_n 2, 1) := dX1_overlay_0g.1
theorem dX1_overlay_1 : decode cX1_overlay 1 = .ok (.aload_n 1, 1) := dX1_overlay_0g.2.1
theorem dX1_overlay_2 : decode cX1_overlay 2 = .ok (.getstatic 116, 3) := dX1_overlay_0g.2.2.1
theorem dX1_overlay_5 : decode cX1_overlay 5 = .ok (.invokevirtual 119, 3) := dX1_overlay_0g.2.2.2.1
theorem dX1_overlay_8 : decode cX1_overlay 8 = .ok (.ifCond .eq 15, 3) := dX1_overlay_0g.2.2.2.2.1
theorem dX1_overlay_11 : decode cX1_overlay 11 = .ok (.aload_n 0, 1) := dX1_overlay_0g.2.2.2.2.2.1
theorem dX1_overlay_12 : decode cX1_overlay 12 = .ok (.aload_n 2, 1) := dX1_overlay_0g.2.2.2.2.2.2.1
theorem dX1_overlay_13 : decode cX1_overlay 13 = .ok (.aload_n 1, 1) := dX1_overlay_0g.2.2.2.2.2.2.2.1
theorem dX1_overlay_14 : decode cX1_overlay 14 = .ok (.getstatic 116, 3) := dX1_overlay_0g.2.2.2.2.2.2.2.2.1
theorem dX1_overlay_17 : decode cX1_overlay 17 = .ok (.invokevirtual 41, 3) := dX1_overlay_0g.2.2.2.2.2.2.2.2.2.1
theorem dX1_overlay_20 : decode cX1_overlay 20 = .ok (.putfield 92, 3) := dX1_overlay_0g.2.2.2.2.2.2.2.2.2.2.1
theorem dX1_overlay_23 : decode cX1_overlay 23 = .ok (.aload_n 2, 1) := dX1_overlay_0g.2.2.2.2.2.2.2.2.2.2.2.1
theorem dX1_overlay_24 : decode cX1_overlay 24 = .ok (.aload_n 1, 1) := dX1_overlay_0g.2.2.2.2.2.2.2.2.2.2.2.2.1
theorem dX1_overlay_25 : decode cX1_overlay 25 = .ok (.getstatic 123, 3) := dX1_overlay_0g.2.2.2.2.2.2.2.2.2.2.2.2.2.1
theorem dX1_overlay_28 : decode cX1_overlay 28 = .ok (.invokevirtual 119, 3) := dX1_overlay_0g.2.2.2.2.2.2.2.2.2.2.2.2.2.2.1
theorem dX1_overlay_31 : decode cX1_overlay 31 = .ok (.ifCond .eq 15, 3) := dX1_overlay_0g.2.2.2.2.2.2.2.2.2.2.2.2.2.2.2
theorem dX1_overlay_34g : decode cX1_overlay 34 = .ok (.aload_n 0, 1) ∧ decode cX1_overlay 35 = .ok (.aload_n 2, 1) ∧ decode cX1_overlay 36 = .ok (.aload_n 1, 1) ∧ decode cX1_overlay 37 = .ok (.getstatic 123, 3) ∧ decode cX1_overlay 40 = .ok (.invokevirtual 126, 3) ∧ decode cX1_overlay 43 = .ok (.putfield 95, 3) ∧ decode cX1_overlay 46 = .ok (.aload_n 2, 1) ∧ decode cX1_overlay 47 = .ok (.aload_n 1, 1) ∧ decode cX1_overlay 48 = .ok (.getstatic 130, 3) ∧ decode cX1_overlay 51 = .ok (.invokevirtual 119, 3) ∧ decode cX1_overlay 54 = .ok (.ifCond .eq 15, 3) ∧ decode cX1_overlay 57 = .ok (.aload_n 0, 1) ∧ decode cX1_overlay 58 = .ok (.aload_n 2, 1) ∧ decode cX1_overlay 59 = .ok (.aload_n 1, 1) ∧ decode cX1_overlay 60 = .ok (.getstatic 130, 3) ∧ decode cX1_overlay 63 = .ok (.invokevirtual 133, 3) := by decide +kernel
theorem dX1_overlay_34 : decode cX1_overlay 34 = .ok (.aload_n 0, 1) := dX1_overlay_34g.1
theorem dX1_overlay_35 : decode cX1_overlay 35 = .ok (.aload_n 2, 1) := dX1_overlay_34g.2.1
theorem dX1_overlay_36 : decode cX1_overlay 36 = .ok (.aload_n 1, 1) := dX1_overlay_34g.2.2.1
theorem dX1_overlay_37 : decode cX1_overlay 37 = .ok (.getstatic 123, 3) := dX1_overlay_34g.2.2.2.1
theorem dX1_overlay_40 : decode cX1_overlay 40 = .ok (.invokevirtual 126, 3) := dX1_overlay_34g.2.2.2.2.1
theorem dX1_overlay_43 : decode cX1_overlay 43 = .ok (.putfield 95, 3) := dX1_overlay_34g.2.2.2.2.2.1
theorem dX1_overlay_46 : decode cX1_overlay 46 = .ok (.aload_n 2, 1) := dX1_overlay_34g.2.2.2.2.2.2.1
theorem dX1_overlay_47 : decode cX1_overlay 47 = .ok (.aload_n 1, 1) := dX1_overlay_34g.2.2.2.2.2.2.2.1
theorem dX1_overlay_48 : decode cX1_overlay 48 = .ok (.getstatic 130, 3) := dX1_overlay_34g.2.2.2.2.2.2.2.2.1
theorem dX1_overlay_51 : decode cX1_overlay 51 = .ok (.invokevirtual 119, 3) := dX1_overlay_34g.2.2.2.2.2.2.2.2.2.1
theorem dX1_overlay_54 : decode cX1_overlay 54 = .ok (.ifCond .eq 15, 3) := dX1_overlay_34g.2.2.2.2.2.2.2.2.2.2.1
theorem dX1_overlay_57 : decode cX1_overlay 57 = .ok (.aload_n 0, 1) := dX1_overlay_34g.2.2.2.2.2.2.2.2.2.2.2.1
theorem dX1_overlay_58 : decode cX1_overlay 58 = .ok (.aload_n 2, 1) := dX1_overlay_34g.2.2.2.2.2.2.2.2.2.2.2.2.1
theorem dX1_overlay_59 : decode cX1_overlay 59 = .ok (.aload_n 1, 1) := dX1_overlay_34g.2.2.2.2.2.2.2.2.2.2.2.2.2.1
theorem dX1_overlay_60 : decode cX1_overlay 60 = .ok (.getstatic 130, 3) := dX1_overlay_34g.2.2.2.2.2.2.2.2.2.2.2.2.2.2.1
theorem dX1_overlay_63 : decode cX1_overlay 63 = .ok (.invokevirtual 133, 3) := dX1_overlay_34g.2.2.2.2.2.2.2.2.2.2.2.2.2.2.2
theorem dX1_overlay_66g : decode cX1_overlay 66 = .ok (.putfield 98, 3) ∧ decode cX1_overlay 69 = .ok (.aload_n 2, 1) ∧ decode cX1_overlay 70 = .ok (.aload_n 1, 1) ∧ decode cX1_overlay 71 = .ok (.getstatic 136, 3) ∧ decode cX1_overlay 74 = .ok (.invokevirtual 119, 3) ∧ decode cX1_overlay 77 = .ok (.ifCond .eq 15, 3) ∧ decode cX1_overlay 80 = .ok (.aload_n 0, 1) ∧ decode cX1_overlay 81 = .ok (.aload_n 2, 1) ∧ decode cX1_overlay 82 = .ok (.aload_n 1, 1) ∧ decode cX1_overlay 83 = .ok (.getstatic 136, 3) ∧ decode cX1_overlay 86 = .ok (.invokevirtual 133, 3) ∧ decode cX1_overlay 89 = .ok (.putfield 101, 3) ∧ decode cX1_overlay 92 = .ok (.aload_n 2, 1) ∧ decode cX1_overlay 93 = .ok (.aload_n 1, 1) ∧ decode cX1_overlay 94 = .ok (.getstatic 139, 3) ∧ decode cX1_overlay 97 = .ok (.invokevirtual 119, 3) := by decide +kernel
theorem dX1_overlay_66 : decode cX1_overlay 66 = .ok (.putfield 98, 3) := dX1_overlay_66g.1
theorem dX1_overlay_69 : decode cX1_overlay 69 = .ok (.aload_n 2, 1) := dX1_overlay_66g.2.1
theorem dX1_overlay_70 : decode cX1_overlay 70 = .ok (.aload_n 1, 1) := dX1_overlay_66g.2.2.1
theorem dX1_overlay_71 : decode cX1_overlay 71 = .ok (.getstatic 136, 3) := dX1_overlay_66g.2.2.2.1
theorem dX1_overlay_74 : decode cX1_overlay 74 = .ok (.invokevirtual 119, 3) := dX1_overlay_66g.2.2.2.2.1
theorem dX1_overlay_77 : decode cX1_overlay 77 = .ok (.ifCond .eq 15, 3) := dX1_overlay_66g.2.2.2.2.2.1
theorem dX1_overlay_80 : decode cX1_overlay 80 = .ok (.aload_n 0, 1) := dX1_overlay_66g.2.2.2.2.2.2.1
theorem dX1_overlay_81 : decode cX1_overlay 81 = .ok (.aload_n 2, 1) := dX1_overlay_66g.2.2.2.2.2.2.2.1
theorem dX1_overlay_82 : decode cX1_overlay 82 = .ok (.aload_n 1, 1) := dX1_overlay_66g.2.2.2.2.2.2.2.2.1
theorem dX1_overlay_83 : decode cX1_overlay 83 = .ok (.getstatic 136, 3) := dX1_overlay_66g.2.2.2.2.2.2.2.2.2.1
theorem dX1_overlay_86 : decode cX1_overlay 86 = .ok (.invokevirtual 133, 3) := dX1_overlay_66g.2.2.2.2.2.2.2.2.2.2.1
theorem dX1_overlay_89 : decode cX1_overlay 89 = .ok (.putfield 101, 3) := dX1_overlay_66g.2.2.2.2.2.2.2.2.2.2.2.1
theorem dX1_overlay_92 : decode cX1_overlay 92 = .ok (.aload_n 2, 1) := dX1_overlay_66g.2.2.2.2.2.2.2.2.2.2.2.2.1
theorem dX1_overlay_93 : decode cX1_overlay 93 = .ok (.aload_n 1, 1) := dX1_overlay_66g.2.2.2.2.2.2.2.2.2.2.2.2.2.1
theorem dX1_overlay_94 : decode cX1_overlay 94 = .ok (.getstatic 139, 3) := dX1_overlay_66g.2.2.2.2.2.2.2.2.2.2.2.2.2.2.1
theorem dX1_overlay_97 : decode cX1_overlay 97 = .ok (.invokevirtual 119, 3) := dX1_overlay_66g.2.2.2.2.2.2.2.2.2.2.2.2.2.2.2
theorem dX1_overlay_100g : decode cX1_overlay 100 = .ok (.ifCond .eq 15, 3) ∧ decode cX1_overlay 103 = .ok (.aload_n 0, 1) ∧ decode cX1_overlay 104 = .ok (.aload_n 2, 1) ∧ decode cX1_overlay 105 = .ok (.aload_n 1, 1) ∧ decode cX1_overlay 106 = .ok (.getstatic 139, 3) ∧ decode cX1_overlay 109 = .ok (.invokevirtual 133, 3) ∧ decode cX1_overlay 112 = .ok (.putfield 104, 3) ∧ decode cX1_overlay 115 = .ok (.aload_n 0, 1) ∧ decode cX1_overlay 116 = .ok (.aload_n 1, 1) ∧ decode cX1_overlay 117 = .ok (.invokevirtual 142, 3) ∧ decode cX1_overlay 120 = .ok (.return_, 1) := by decide +kernel
theorem dX1_overlay_100 : decode cX1_overlay 100 = .ok (.ifCond .eq 15, 3) := dX1_overlay_100g.1
theorem dX1_overlay_103 : decode cX1_overlay 103 = .ok (.aload_n 0, 1) := dX1_overlay_100g.2.1
theorem dX1_overlay_104 : decode cX1_overlay 104 = .ok (.aload_n 2, 1) := dX1_overlay_100g.2.2.1
theorem dX1_overlay_105 : decode cX1_overlay 105 = .ok (.aload_n 1, 1) := dX1_overlay_100g.2.2.2.1
theorem dX1_overlay_106 : decode cX1_overlay 106 = .ok (.getstatic 139, 3) := dX1_overlay_100g.2.2.2.2.1
theorem dX1_overlay_109 : decode cX1_overlay 109 = .ok (.invokevirtual 133, 3) := dX1_overlay_100g.2.2.2.2.2.1
theorem dX1_overlay_112 : decode cX1_overlay 112 = .ok (.putfield 104, 3) := dX1_overlay_100g.2.2.2.2.2.2.1
theorem dX1_overlay_115 : decode cX1_overlay 115 = .ok (.aload_n 0, 1) := dX1_overlay_100g.2.2.2.2.2.2.2.1
theorem dX1_overlay_116 : decode cX1_overlay 116 = .ok (.aload_n 1, 1) := dX1_overlay_100g.2.2.2.2.2.2.2.2.1
theorem dX1_overlay_117 : decode cX1_overlay 117 = .ok (.invokevirtual 142, 3) := dX1_overlay_100g.2.2.2.2.2.2.2.2.2.1
theorem dX1_overlay_120 : decode cX1_overlay 120 = .ok (.return_, 1) := dX1_overlay_100g.2.2.2.2.2.2.2.2.2.2
theorem dX1_overlayInner_0g : decode cX1_overlayInner 0 = .ok (.iconst 0, 1) ∧ decode cX1_overlayInner 1 = .ok (.istore_n 2, 1) ∧ decode cX1_overlayInner 2 = .ok (.aload_n 1, 1) ∧ decode cX1_overlayInner 3 = .ok (.getfield 146, 3) ∧ decode cX1_overlayInner 6 = .ok (.astore_n 3, 1) ∧ decode cX1_overlayInner 7 = .ok (.iconst 0, 1) ∧ decode cX1_overlayInner 8 = .ok (.istore 4, 2) ∧ decode cX1_overlayInner 10 = .ok (.iload 4, 2) ∧ decode cX1_overlayInner 12 = .ok (.bipush 80, 2) ∧ decode cX1_overlayInner 14 = .ok (.if_icmp .ge 78, 3) ∧ decode cX1_overlayInner 17 = .ok (.aload_n 3, 1) ∧ decode cX1_overlayInner 18 = .ok (.ifnull 74, 3) ∧ decode cX1_overlayInner 21 = .ok (.aload_n 3, 1) ∧ decode cX1_overlayInner 22 = .ok (.getfield 151, 3) ∧ decode cX1_overlayInner 25 = .ok (.getstatic 154, 3) ∧ decode cX1_overlayInner 28 = .ok (.if_acmp .ne 28, 3) := by decide +kernel
theorem dX1_overlayInner_0 : decode cX1_overlayInner 0 = .ok (.iconst 0, 1) := dX1_overlayInner_0g.1
theorem dX1_overlayInner_1 : decode cX1_overlayInner 1 = .ok (.istore_n 2, 1) := dX1_overlayInner_0g.2.1
theorem dX1_overlayInner_2 : decode cX1_overlayInner 2 = .ok (.aload_n 1, 1) := dX1_overlayInner_0g.2.2.1
theorem dX1_overlayInner_3 : decode cX1_overlayInner 3 = .ok (.getfield 146, 3) := dX1_overlayInner_0g.2.2.2.1
theorem dX1_overlayInner_6 : decode cX1_overlayInner 6 = .ok (.astore_n 3, 1) := dX1_overlayInner_0g.2.2.2.2.1
theorem dX1_overlayInner_7 : decode cX1_overlayInner 7 = .ok (.iconst 0, 1) := dX1_overlayInner_0g.2.2.2.2.2.1
theorem dX1_overlayInner_8 : decode cX1_overlayInner 8 = .ok (.istore 4, 2) := dX1_overlayInner_0g.2.2.2.2.2.2.1
theorem dX1_overlayInner_10 : decode cX1_overlayInner 10 = .ok (.iload 4, 2) := dX1_overlayInner_0g.2.2.2.2.2.2.2.1
theorem dX1_overlayInner_12 : decode cX1_overlayInner 12 = .ok (.bipush 80, 2) := dX1_overlayInner_0g.2.2.2.2.2.2.2.2.1
theorem dX1_overlayInner_14 : decode cX1_overlayInner 14 = .ok (.if_icmp .ge 78, 3) := dX1_overlayInner_0g.2.2.2.2.2.2.2.2.2.1
theorem dX1_overlayInner_17 : decode cX1_overlayInner 17 = .ok (.aload_n 3, 1) := dX1_overlayInner_0g.2.2.2.2.2.2.2.2.2.2.1
theorem dX1_overlayInner_18 : decode cX1_overlayInner 18 = .ok (.ifnull 74, 3) := dX1_overlayInner_0g.2.2.2.2.2.2.2.2.2.2.2.1
theorem dX1_overlayInner_21 : decode cX1_overlayInner 21 = .ok (.aload_n 3, 1) := dX1_overlayInner_0g.2.2.2.2.2.2.2.2.2.2.2.2.1
theorem dX1_overlayInner_22 : decode cX1_overlayInner 22 = .ok (.getfield 151, 3) := dX1_overlayInner_0g.2.2.2.2.2.2.2.2.2.2.2.2.2.1
theorem dX1_overlayInner_25 : decode cX1_overlayInner 25 = .ok (.getstatic 154, 3) := dX1_overlayInner_0g.2.2.2.2.2.2.2.2.2.2.2.2.2.2.1
theorem dX1_overlayInner_28 : decode cX1_overlayInner 28 = .ok (.if_acmp .ne 28, 3) := dX1_overlayInner_0g.2.2.2.2.2.2.2.2.2.2.2.2.2.2.2
theorem dX1_overlayInner_31g : decode cX1_overlayInner 31 = .ok (.iload_n 2, 1) ∧ decode cX1_overlayInner 32 = .ok (.ifCond .ne 10, 3) ∧ decode cX1_overlayInner 35 = .ok (.aload_n 0, 1) ∧ decode cX1_overlayInner 36 = .ok (.getfield 18, 3) ∧ decode cX1_overlayInner 39 = .ok (.invokevirtual 32, 3) ∧ decode cX1_overlayInner 42 = .ok (.iconst 1, 1) ∧ decode cX1_overlayInner 43 = .ok (.istore_n 2, 1) ∧ decode cX1_overlayInner 44 = .ok (.aload_n 0, 1) ∧ decode cX1_overlayInner 45 = .ok (.getfield 18, 3) ∧ decode cX1_overlayInner 48 = .ok (.aload_n 3, 1) ∧ decode cX1_overlayInner 49 = .ok (.invokevirtual 157, 3) ∧ decode cX1_overlayInner 52 = .ok (.pop, 1) ∧ decode cX1_overlayInner 53 = .ok (.goto 28, 3) ∧ decode cX1_overlayInner 56 = .ok (.aload_n 3, 1) ∧ decode cX1_overlayInner 57 = .ok (.getfield 151, 3) ∧ decode cX1_overlayInner 60 = .ok (.getstatic 161, 3) := by decide +kernel
theorem dX1_overlayInner_31 : decode cX1_overlayInner 31 = .ok (.iload_n 2, 1) := dX1_overlayInner_31g.1
theorem dX1_overlayInner_32 : decode cX1_overlayInner 32 = .ok (.ifCond .ne 10, 3) := dX1_overlayInner_31g.2.1
theorem dX1_overlayInner_35 : decode cX1_overlayInner 35 = .ok (.aload_n 0, 1) := dX1_overlayInner_31g.2.2.1
theorem dX1_overlayInner_36 : decode cX1_overlayInner 36 = .ok (.getfield 18, 3) := dX1_overlayInner_31g.2.2.2.1
theorem dX1_overlayInner_39 : decode cX1_overlayInner 39 = .ok (.invokevirtual 32, 3) := dX1_overlayInner_31g.2.2.2.2.1
theorem dX1_overlayInner_42 : decode cX1_overlayInner 42 = .ok (.iconst 1, 1) := dX1_overlayInner_31g.2.2.2.2.2.1
theorem dX1_overlayInner_43 : decode cX1_overlayInner 43 = .ok (.istore_n 2, 1) := dX1_overlayInner_31g.2.2.2.2.2.2.1
theorem dX1_overlayInner_44 : decode cX1_overlayInner 44 = .ok (.aload_n 0, 1) := dX1_overlayInner_31g.2.2.2.2.2.2.2.1
theorem dX1_overlayInner_45 : decode cX1_overlayInner 45 = .ok (.getfield 18, 3) := dX1_overlayInner_31g.2.2.2.2.2.2.2.2.1
theorem dX1_overlayInner_48 : decode cX1_overlayInner 48 = .ok (.aload_n 3, 1) := dX1_overlayInner_31g.2.2.2.2.2.2.2.2.2.1
theorem dX1_overlayInner_49 : decode cX1_overlayInner 49 = .ok (.invokevirtual 157, 3) := dX1_overlayInner_31g.2.2.2.2.2.2.2.2.2.2.1
theorem dX1_overlayInner_52 : decode cX1_overlayInner 52 = .ok (.pop, 1) := dX1_overlayInner_31g.2.2.2.2.2.2.2.2.2.2.2.1
theorem dX1_overlayInner_53 : decode cX1_overlayInner 53 = .ok (.goto 28, 3) := dX1_overlayInner_31g.2.2.2.2.2.2.2.2.2.2.2.2.1
theorem dX1_overlayInner_56 : decode cX1_overlayInner 56 = .ok (.aload_n 3, 1) := dX1_overlayInner_31g.2.2.2.2.2.2.2.2.2.2.2.2.2.1
theorem dX1_overlayInner_57 : decode cX1_overlayInner 57 = .ok (.getfield 151, 3) := dX1_overlayInner_31g.2.2.2.2.2.2.2.2.2.2.2.2.2.2.1
theorem dX1_overlayInner_60 : decode cX1_overlayInner 60 = .ok (.getstatic 161, 3) := dX1_overlayInner_31g.2.2.2.2.2.2.2.2.2.2.2.2.2.2.2
theorem dX1_overlayInner_63g : decode cX1_overlayInner 63 = .ok (.if_acmp .ne 10, 3) ∧ decode cX1_overlayInner 66 = .ok (.aload_n 0, 1) ∧ decode cX1_overlayInner 67 = .ok (.getfield 22, 3) ∧ decode cX1_overlayInner 70 = .ok (.goto 7, 3) ∧ decode cX1_overlayInner 73 = .ok (.aload_n 0, 1) ∧ decode cX1_overlayInner 74 = .ok (.getfield 25, 3) ∧ decode cX1_overlayInner 77 = .ok (.aload_n 3, 1) ∧ decode cX1_overlayInner 78 = .ok (.invokestatic 164, 3) ∧ decode cX1_overlayInner 81 = .ok (.aload_n 3, 1) ∧ decode cX1_overlayInner 82 = .ok (.getfield 168, 3) ∧ decode cX1_overlayInner 85 = .ok (.astore_n 3, 1) ∧ decode cX1_overlayInner 86 = .ok (.iinc 4 1, 3) ∧ decode cX1_overlayInner 89 = .ok (.goto (-79), 3) ∧ decode cX1_overlayInner 92 = .ok (.return_, 1) := by decide +kernel
theorem dX1_overlayInner_63 : decode cX1_overlayInner 63 = .ok (.if_acmp .ne 10, 3) := dX1_overlayInner_63g.1
theorem dX1_overlayInner_66 : decode cX1_overlayInner 66 = .ok (.aload_n 0, 1) := dX1_overlayInner_63g.2.1
theorem dX1_overlayInner_67 : decode cX1_overlayInner 67 = .ok (.getfield 22, 3) := dX1_overlayInner_63g.2.2.1
theorem dX1_overlayInner_70 : decode cX1_overlayInner 70 = .ok (.goto 7, 3) := dX1_overlayInner_63g.2.2.2.1
theorem dX1_overlayInner_73 : decode cX1_overlayInner 73 = .ok (.aload_n 0, 1) := dX1_overlayInner_63g.2.2.2.2.1
theorem dX1_overlayInner_74 : decode cX1_overlayInner 74 = .ok (.getfield 25, 3) := dX1_overlayInner_63g.2.2.2.2.2.1
theorem dX1_overlayInner_77 : decode cX1_overlayInner 77 = .ok (.aload_n 3, 1) := dX1_overlayInner_63g.2.2.2.2.2.2.1
theorem dX1_overlayInner_78 : decode cX1_overlayInner 78 = .ok (.invokestatic 164, 3) := dX1_overlayInner_63g.2.2.2.2.2.2.2.1
theorem dX1_overlayInner_81 : decode cX1_overlayInner 81 = .ok (.aload_n 3, 1) := dX1_overlayInner_63g.2.2.2.2.2.2.2.2.1
theorem dX1_overlayInner_82 : decode cX1_overlayInner 82 = .ok (.getfield 168, 3) := dX1_overlayInner_63g.2.2.2.2.2.2.2.2.2.1
theorem dX1_overlayInner_85 : decode cX1_overlayInner 85 = .ok (.astore_n 3, 1) := dX1_overlayInner_63g.2.2.2.2.2.2.2.2.2.2.1
theorem dX1_overlayInner_86 : decode cX1_overlayInner 86 = .ok (.iinc 4 1, 3) := dX1_overlayInner_63g.2.2.2.2.2.2.2.2.2.2.2.1
theorem dX1_overlayInner_89 : decode cX1_overlayInner 89 = .ok (.goto (-79), 3) := dX1_overlayInner_63g.2.2.2.2.2.2.2.2.2.2.2.2.1
theorem dX1_overlayInner_92 : decode cX1_overlayInner 92 = .ok (.return_, 1) := dX1_overlayInner_63g.2.2.2.2.2.2.2.2.2.2.2.2.2
theorem dX1_putNamed_0g : decode cX1_putNamed 0 = .ok (.iconst 0, 1) ∧ decode cX1_putNamed 1 = .ok (.istore_n 2, 1) ∧ decode cX1_putNamed 2 = .ok (.iload_n 2, 1) ∧ decode cX1_putNamed 3 = .ok (.aload_n 0, 1) ∧ decode cX1_putNamed 4 = .ok (.invokevirtual 171, 3) ∧ decode cX1_putNamed 7 = .ok (.if_icmp .ge 35, 3) ∧ decode cX1_putNamed 10 = .ok (.aload_n 0, 1) ∧ decode cX1_putNamed 11 = .ok (.iload_n 2, 1) ∧ decode cX1_putNamed 12 = .ok (.invokevirtual 175, 3) ∧ decode cX1_putNamed 15 = .ok (.checkcast 147, 3) ∧ decode cX1_putNamed 18 = .ok (.getfield 179, 3) ∧ decode cX1_putNamed 21 = .ok (.aload_n 1, 1) ∧ decode cX1_putNamed 22 = .ok (.getfield 179, 3) ∧ decode cX1_putNamed 25 = .ok (.if_icmp .ne 11, 3) ∧ decode cX1_putNamed 28 = .ok (.aload_n 0, 1) ∧ decode cX1_putNamed 29 = .ok (.iload_n 2, 1) := by decide +kernel
theorem dX1_putNamed_0 : decode cX1_putNamed 0 = .ok (.iconst 0, 1) := dX1_putNamed_0g.1
theorem dX1_putNamed_1 : decode cX1_putNamed 1 = .ok (.istore_n 2, 1) := dX1_putNamed_0g.2.1
theorem dX1_putNamed_2 : decode cX1_putNamed 2 = .ok (.iload_n 2, 1) := dX1_putNamed_0g.2.2.1
theorem dX1_putNamed_3 : decode cX1_putNamed 3 = .ok (.aload_n 0, 1) := dX1_putNamed_0g.2.2.2.1
theorem dX1_putNamed_4 : decode cX1_putNamed 4 = .ok (.invokevirtual 171, 3) := dX1_putNamed_0g.2.2.2.2.1
theorem dX1_putNamed_7 : decode cX1_putNamed 7 = .ok (.if_icmp .ge 35, 3) := dX1_putNamed_0g.2.2.2.2.2.1
theorem dX1_putNamed_10 : decode cX1_putNamed 10 = .ok (.aload_n 0, 1) := dX1_putNamed_0g.2.2.2.2.2.2.1
theorem dX1_putNamed_11 : decode cX1_putNamed 11 = .ok (.iload_n 2, 1) := dX1_putNamed_0g.2.2.2.2.2.2.2.1
theorem dX1_putNamed_12 : decode cX1_putNamed 12 = .ok (.invokevirtual 175, 3) := dX1_putNamed_0g.2.2.2.2.2.2.2.2.1
theorem dX1_putNamed_15 : decode cX1_putNamed 15 = .ok (.checkcast 147, 3) := dX1_putNamed_0g.2.2.2.2.2.2.2.2.2.1
theorem dX1_putNamed_18 : decode cX1_putNamed 18 = .ok (.getfield 179, 3) := dX1_putNamed_0g.2.2.2.2.2.2.2.2.2.2.1
theorem dX1_putNamed_21 : decode cX1_putNamed 21 = .ok (.aload_n 1, 1) := dX1_putNamed_0g.2.2.2.2.2.2.2.2.2.2.2.1
theorem dX1_putNamed_22 : decode cX1_putNamed 22 = .ok (.getfield 179, 3) := dX1_putNamed_0g.2.2.2.2.2.2.2.2.2.2.2.2.1
theorem dX1_putNamed_25 : decode cX1_putNamed 25 = .ok (.if_icmp .ne 11, 3) := dX1_putNamed_0g.2.2.2.2.2.2.2.2.2.2.2.2.2.1
theorem dX1_putNamed_28 : decode cX1_putNamed 28 = .ok (.aload_n 0, 1) := dX1_putNamed_0g.2.2.2.2.2.2.2.2.2.2.2.2.2.2.1
theorem dX1_putNamed_29 : decode cX1_putNamed 29 = .ok (.iload_n 2, 1) := dX1_putNamed_0g.2.2.2.2.2.2.2.2.2.2.2.2.2.2.2
theorem dX1_putNamed_30g : decode cX1_putNamed 30 = .ok (.aload_n 1, 1) ∧ decode cX1_putNamed 31 = .ok (.invokevirtual 182, 3) ∧ decode cX1_putNamed 34 = .ok (.pop, 1) ∧ decode cX1_putNamed 35 = .ok (.return_, 1) ∧ decode cX1_putNamed 36 = .ok (.iinc 2 1, 3) ∧ decode cX1_putNamed 39 = .ok (.goto (-37), 3) ∧ decode cX1_putNamed 42 = .ok (.aload_n 0, 1) ∧ decode cX1_putNamed 43 = .ok (.aload_n 1, 1) ∧ decode cX1_putNamed 44 = .ok (.invokevirtual 157, 3) ∧ decode cX1_putNamed 47 = .ok (.pop, 1) ∧ decode cX1_putNamed 48 = .ok (.return_, 1) := by decide +kernel
theorem dX1_putNamed_30 : decode cX1_putNamed 30 = .ok (.aload_n 1, 1) := dX1_putNamed_30g.1
theorem dX1_putNamed_31 : decode cX1_putNamed 31 = .ok (.invokevirtual 182, 3) := dX1_putNamed_30g.2.1
theorem dX1_putNamed_34 : decode cX1_putNamed 34 = .ok (.pop, 1) := dX1_putNamed_30g.2.2.1
theorem dX1_putNamed_35 : decode cX1_putNamed 35 = .ok (.return_, 1) := dX1_putNamed_30g.2.2.2.1
theorem dX1_putNamed_36 : decode cX1_putNamed 36 = .ok (.iinc 2 1, 3) := dX1_putNamed_30g.2.2.2.2.1
theorem dX1_putNamed_39 : decode cX1_putNamed 39 = .ok (.goto (-37), 3) := dX1_putNamed_30g.2.2.2.2.2.1
theorem dX1_putNamed_42 : decode cX1_putNamed 42 = .ok (.aload_n 0, 1) := dX1_putNamed_30g.2.2.2.2.2.2.1
theorem dX1_putNamed_43 : decode cX1_putNamed 43 = .ok (.aload_n 1, 1) := dX1_putNamed_30g.2.2.2.2.2.2.2.1
theorem dX1_putNamed_44 : decode cX1_putNamed 44 = .ok (.invokevirtual 157, 3) := dX1_putNamed_30g.2.2.2.2.2.2.2.2.1
theorem dX1_putNamed_47 : decode cX1_putNamed 47 = .ok (.pop, 1) := dX1_putNamed_30g.2.2.2.2.2.2.2.2.2.1
theorem dX1_putNamed_48 : decode cX1_putNamed 48 = .ok (.return_, 1) := dX1_putNamed_30g.2.2.2.2.2.2.2.2.2.2
theorem dX1_lookupNamed_0g : decode cX1_lookupNamed 0 = .ok (.iconst 0, 1) ∧ decode cX1_lookupNamed 1 = .ok (.istore_n 2, 1) ∧ decode cX1_lookupNamed 2 = .ok (.iload_n 2, 1) ∧ decode cX1_lookupNamed 3 = .ok (.aload_n 0, 1) ∧ decode cX1_lookupNamed 4 = .ok (.getfield 25, 3) ∧ decode cX1_lookupNamed 7 = .ok (.invokevirtual 171, 3) ∧ decode cX1_lookupNamed 10 = .ok (.if_icmp .ge 39, 3) ∧ decode cX1_lookupNamed 13 = .ok (.aload_n 0, 1) ∧ decode cX1_lookupNamed 14 = .ok (.getfield 25, 3) ∧ decode cX1_lookupNamed 17 = .ok (.iload_n 2, 1) ∧ decode cX1_lookupNamed 18 = .ok (.invokevirtual 175, 3) ∧ decode cX1_lookupNamed 21 = .ok (.checkcast 147, 3) ∧ decode cX1_lookupNamed 24 = .ok (.getfield 179, 3) ∧ decode cX1_lookupNamed 27 = .ok (.iload_n 1, 1) ∧ decode cX1_lookupNamed 28 = .ok (.if_icmp .ne 15, 3) ∧ decode cX1_lookupNamed 31 = .ok (.aload_n 0, 1) := by decide +kernel
theorem dX1_lookupNamed_0 : decode cX1_lookupNamed 0 = .ok (.iconst 0, 1) := dX1_lookupNamed_0g.1
theorem dX1_lookupNamed_1 : decode cX1_lookupNamed 1 = .ok (.istore_n 2, 1) := dX1_lookupNamed_0g.2.1
theorem dX1_lookupNamed_2 : decode cX1_lookupNamed 2 = .ok (.iload_n 2, 1) := dX1_lookupNamed_0g.2.2.1
theorem dX1_lookupNamed_3 : decode cX1_lookupNamed 3 = .ok (.aload_n 0, 1) := dX1_lookupNamed_0g.2.2.2.1
theorem dX1_lookupNamed_4 : decode cX1_lookupNamed 4 = .ok (.getfield 25, 3) := dX1_lookupNamed_0g.2.2.2.2.1
theorem dX1_lookupNamed_7 : decode cX1_lookupNamed 7 = .ok (.invokevirtual 171, 3) := dX1_lookupNamed_0g.2.2.2.2.2.1
theorem dX1_lookupNamed_10 : decode cX1_lookupNamed 10 = .ok (.if_icmp .ge 39, 3) := dX1_lookupNamed_0g.2.2.2.2.2.2.1
theorem dX1_lookupNamed_13 : decode cX1_lookupNamed 13 = .ok (.aload_n 0, 1) := dX1_lookupNamed_0g.2.2.2.2.2.2.2.1
theorem dX1_lookupNamed_14 : decode cX1_lookupNamed 14 = .ok (.getfield 25, 3) := dX1_lookupNamed_0g.2.2.2.2.2.2.2.2.1
theorem dX1_lookupNamed_17 : decode cX1_lookupNamed 17 = .ok (.iload_n 2, 1) := dX1_lookupNamed_0g.2.2.2.2.2.2.2.2.2.1
theorem dX1_lookupNamed_18 : decode cX1_lookupNamed 18 = .ok (.invokevirtual 175, 3) := dX1_lookupNamed_0g.2.2.2.2.2.2.2.2.2.2.1
theorem dX1_lookupNamed_21 : decode cX1_lookupNamed 21 = .ok (.checkcast 147, 3) := dX1_lookupNamed_0g.2.2.2.2.2.2.2.2.2.2.2.1
theorem dX1_lookupNamed_24 : decode cX1_lookupNamed 24 = .ok (.getfield 179, 3) := dX1_lookupNamed_0g.2.2.2.2.2.2.2.2.2.2.2.2.1
theorem dX1_lookupNamed_27 : decode cX1_lookupNamed 27 = .ok (.iload_n 1, 1) := dX1_lookupNamed_0g.2.2.2.2.2.2.2.2.2.2.2.2.2.1
theorem dX1_lookupNamed_28 : decode cX1_lookupNamed 28 = .ok (.if_icmp .ne 15, 3) := dX1_lookupNamed_0g.2.2.2.2.2.2.2.2.2.2.2.2.2.2.1
theorem dX1_lookupNamed_31 : decode cX1_lookupNamed 31 = .ok (.aload_n 0, 1) := dX1_lookupNamed_0g.2.2.2.2.2.2.2.2.2.2.2.2.2.2.2
theorem dX1_lookupNamed_32g : decode cX1_lookupNamed 32 = .ok (.getfield 25, 3) ∧ decode cX1_lookupNamed 35 = .ok (.iload_n 2, 1) ∧ decode cX1_lookupNamed 36 = .ok (.invokevirtual 175, 3) ∧ decode cX1_lookupNamed 39 = .ok (.checkcast 147, 3) ∧ decode cX1_lookupNamed 42 = .ok (.areturn, 1) ∧ decode cX1_lookupNamed 43 = .ok (.iinc 2 1, 3) ∧ decode cX1_lookupNamed 46 = .ok (.goto (-44), 3) ∧ decode cX1_lookupNamed 49 = .ok (.aconst_null, 1) ∧ decode cX1_lookupNamed 50 = .ok (.areturn, 1) := by decide +kernel
theorem dX1_lookupNamed_32 : decode cX1_lookupNamed 32 = .ok (.getfield 25, 3) := dX1_lookupNamed_32g.1
theorem dX1_lookupNamed_35 : decode cX1_lookupNamed 35 = .ok (.iload_n 2, 1) := dX1_lookupNamed_32g.2.1
theorem dX1_lookupNamed_36 : decode cX1_lookupNamed 36 = .ok (.invokevirtual 175, 3) := dX1_lookupNamed_32g.2.2.1
theorem dX1_lookupNamed_39 : decode cX1_lookupNamed 39 = .ok (.checkcast 147, 3) := dX1_lookupNamed_32g.2.2.2.1
theorem dX1_lookupNamed_42 : decode cX1_lookupNamed 42 = .ok (.areturn, 1) := dX1_lookupNamed_32g.2.2.2.2.1
theorem dX1_lookupNamed_43 : decode cX1_lookupNamed 43 = .ok (.iinc 2 1, 3) := dX1_lookupNamed_32g.2.2.2.2.2.1
theorem dX1_lookupNamed_46 : decode cX1_lookupNamed 46 = .ok (.goto (-44), 3) := dX1_lookupNamed_32g.2.2.2.2.2.2.1
theorem dX1_lookupNamed_49 : decode cX1_lookupNamed 49 = .ok (.aconst_null, 1) := dX1_lookupNamed_32g.2.2.2.2.2.2.2.1
theorem dX1_lookupNamed_50 : decode cX1_lookupNamed 50 = .ok (.areturn, 1) := dX1_lookupNamed_32g.2.2.2.2.2.2.2.2
theorem dX1_told_0g : decode cX1_told 0 = .ok (.iload_n 1, 1) ∧ decode cX1_told 1 = .ok (.tableswitch 167 0 11 #[63, 68, 76, 84, 92, 97, 102, 107, 120, 133, 146, 159], 63) ∧ decode cX1_told 64 = .ok (.aload_n 0, 1) ∧ decode cX1_told 65 = .ok (.getfield 95, 3) ∧ decode cX1_told 68 = .ok (.ireturn, 1) ∧ decode cX1_told 69 = .ok (.aload_n 0, 1) ∧ decode cX1_told 70 = .ok (.getfield 18, 3) ∧ decode cX1_told 73 = .ok (.invokevirtual 171, 3) ∧ decode cX1_told 76 = .ok (.ireturn, 1) ∧ decode cX1_told 77 = .ok (.aload_n 0, 1) ∧ decode cX1_told 78 = .ok (.getfield 22, 3) ∧ decode cX1_told 81 = .ok (.invokevirtual 171, 3) ∧ decode cX1_told 84 = .ok (.ireturn, 1) ∧ decode cX1_told 85 = .ok (.aload_n 0, 1) ∧ decode cX1_told 86 = .ok (.getfield 25, 3) ∧ decode cX1_told 89 = .ok (.invokevirtual 171, 3) := by decide +kernel
theorem dX1_told_0 : decode cX1_told 0 = .ok (.iload_n 1, 1) := dX1_told_0g.1
theorem dX1_told_1 : decode cX1_told 1 = .ok (.tableswitch 167 0 11 #[63, 68, 76, 84, 92, 97, 102, 107, 120, 133, 146, 159], 63) := dX1_told_0g.2.1
theorem dX1_told_64 : decode cX1_told 64 = .ok (.aload_n 0, 1) := dX1_told_0g.2.2.1
theorem dX1_told_65 : decode cX1_told 65 = .ok (.getfield 95, 3) := dX1_told_0g.2.2.2.1
theorem dX1_told_68 : decode cX1_told 68 = .ok (.ireturn, 1) := dX1_told_0g.2.2.2.2.1
theorem dX1_told_69 : decode cX1_told 69 = .ok (.aload_n 0, 1) := dX1_told_0g.2.2.2.2.2.1
theorem dX1_told_70 : decode cX1_told 70 = .ok (.getfield 18, 3) := dX1_told_0g.2.2.2.2.2.2.1
theorem dX1_told_73 : decode cX1_told 73 = .ok (.invokevirtual 171, 3) := dX1_told_0g.2.2.2.2.2.2.2.1
theorem dX1_told_76 : decode cX1_told 76 = .ok (.ireturn, 1) := dX1_told_0g.2.2.2.2.2.2.2.2.1
theorem dX1_told_77 : decode cX1_told 77 = .ok (.aload_n 0, 1) := dX1_told_0g.2.2.2.2.2.2.2.2.2.1
theorem dX1_told_78 : decode cX1_told 78 = .ok (.getfield 22, 3) := dX1_told_0g.2.2.2.2.2.2.2.2.2.2.1
theorem dX1_told_81 : decode cX1_told 81 = .ok (.invokevirtual 171, 3) := dX1_told_0g.2.2.2.2.2.2.2.2.2.2.2.1
theorem dX1_told_84 : decode cX1_told 84 = .ok (.ireturn, 1) := dX1_told_0g.2.2.2.2.2.2.2.2.2.2.2.2.1
theorem dX1_told_85 : decode cX1_told 85 = .ok (.aload_n 0, 1) := dX1_told_0g.2.2.2.2.2.2.2.2.2.2.2.2.2.1
theorem dX1_told_86 : decode cX1_told 86 = .ok (.getfield 25, 3) := dX1_told_0g.2.2.2.2.2.2.2.2.2.2.2.2.2.2.1
theorem dX1_told_89 : decode cX1_told 89 = .ok (.invokevirtual 171, 3) := dX1_told_0g.2.2.2.2.2.2.2.2.2.2.2.2.2.2.2
theorem dX1_told_92g : decode cX1_told 92 = .ok (.ireturn, 1) ∧ decode cX1_told 93 = .ok (.aload_n 0, 1) ∧ decode cX1_told 94 = .ok (.getfield 98, 3) ∧ decode cX1_told 97 = .ok (.ireturn, 1) ∧ decode cX1_told 98 = .ok (.aload_n 0, 1) ∧ decode cX1_told 99 = .ok (.getfield 101, 3) ∧ decode cX1_told 102 = .ok (.ireturn, 1) ∧ decode cX1_told 103 = .ok (.aload_n 0, 1) ∧ decode cX1_told 104 = .ok (.getfield 104, 3) ∧ decode cX1_told 107 = .ok (.ireturn, 1) ∧ decode cX1_told 108 = .ok (.aload_n 0, 1) ∧ decode cX1_told 109 = .ok (.getfield 73, 3) ∧ decode cX1_told 112 = .ok (.ifCond .eq 7, 3) ∧ decode cX1_told 115 = .ok (.iconst 1, 1) ∧ decode cX1_told 116 = .ok (.goto 4, 3) ∧ decode cX1_told 119 = .ok (.iconst 0, 1) := by decide +kernel
theorem dX1_told_92 : decode cX1_told 92 = .ok (.ireturn, 1) := dX1_told_92g.1
theorem dX1_told_93 : decode cX1_told 93 = .ok (.aload_n 0, 1) := dX1_told_92g.2.1
theorem dX1_told_94 : decode cX1_told 94 = .ok (.getfield 98, 3) := dX1_told_92g.2.2.1
theorem dX1_told_97 : decode cX1_told 97 = .ok (.ireturn, 1) := dX1_told_92g.2.2.2.1
theorem dX1_told_98 : decode cX1_told 98 = .ok (.aload_n 0, 1) := dX1_told_92g.2.2.2.2.1
theorem dX1_told_99 : decode cX1_told 99 = .ok (.getfield 101, 3) := dX1_told_92g.2.2.2.2.2.1
theorem dX1_told_102 : decode cX1_told 102 = .ok (.ireturn, 1) := dX1_told_92g.2.2.2.2.2.2.1
theorem dX1_told_103 : decode cX1_told 103 = .ok (.aload_n 0, 1) := dX1_told_92g.2.2.2.2.2.2.2.1
theorem dX1_told_104 : decode cX1_told 104 = .ok (.getfield 104, 3) := dX1_told_92g.2.2.2.2.2.2.2.2.1
theorem dX1_told_107 : decode cX1_told 107 = .ok (.ireturn, 1) := dX1_told_92g.2.2.2.2.2.2.2.2.2.1
theorem dX1_told_108 : decode cX1_told 108 = .ok (.aload_n 0, 1) := dX1_told_92g.2.2.2.2.2.2.2.2.2.2.1
theorem dX1_told_109 : decode cX1_told 109 = .ok (.getfield 73, 3) := dX1_told_92g.2.2.2.2.2.2.2.2.2.2.2.1
theorem dX1_told_112 : decode cX1_told 112 = .ok (.ifCond .eq 7, 3) := dX1_told_92g.2.2.2.2.2.2.2.2.2.2.2.2.1
theorem dX1_told_115 : decode cX1_told 115 = .ok (.iconst 1, 1) := dX1_told_92g.2.2.2.2.2.2.2.2.2.2.2.2.2.1
theorem dX1_told_116 : decode cX1_told 116 = .ok (.goto 4, 3) := dX1_told_92g.2.2.2.2.2.2.2.2.2.2.2.2.2.2.1
theorem dX1_told_119 : decode cX1_told 119 = .ok (.iconst 0, 1) := dX1_told_92g.2.2.2.2.2.2.2.2.2.2.2.2.2.2.2
theorem dX1_told_120g : decode cX1_told 120 = .ok (.ireturn, 1) ∧ decode cX1_told 121 = .ok (.aload_n 0, 1) ∧ decode cX1_told 122 = .ok (.getfield 83, 3) ∧ decode cX1_told 125 = .ok (.ifCond .eq 7, 3) ∧ decode cX1_told 128 = .ok (.iconst 1, 1) ∧ decode cX1_told 129 = .ok (.goto 4, 3) ∧ decode cX1_told 132 = .ok (.iconst 0, 1) ∧ decode cX1_told 133 = .ok (.ireturn, 1) ∧ decode cX1_told 134 = .ok (.aload_n 0, 1) ∧ decode cX1_told 135 = .ok (.getfield 89, 3) ∧ decode cX1_told 138 = .ok (.ifCond .eq 7, 3) ∧ decode cX1_told 141 = .ok (.iconst 1, 1) ∧ decode cX1_told 142 = .ok (.goto 4, 3) ∧ decode cX1_told 145 = .ok (.iconst 0, 1) ∧ decode cX1_told 146 = .ok (.ireturn, 1) ∧ decode cX1_told 147 = .ok (.aload_n 0, 1) := by decide +kernel
theorem dX1_told_120 : decode cX1_told 120 = .ok (.ireturn, 1) := dX1_told_120g.1
theorem dX1_told_121 : decode cX1_told 121 = .ok (.aload_n 0, 1) := dX1_told_120g.2.1
theorem dX1_told_122 : decode cX1_told 122 = .ok (.getfield 83, 3) := dX1_told_120g.2.2.1
theorem dX1_told_125 : decode cX1_told 125 = .ok (.ifCond .eq 7, 3) := dX1_told_120g.2.2.2.1
theorem dX1_told_128 : decode cX1_told 128 = .ok (.iconst 1, 1) := dX1_told_120g.2.2.2.2.1
theorem dX1_told_129 : decode cX1_told 129 = .ok (.goto 4, 3) := dX1_told_120g.2.2.2.2.2.1
theorem dX1_told_132 : decode cX1_told 132 = .ok (.iconst 0, 1) := dX1_told_120g.2.2.2.2.2.2.1
theorem dX1_told_133 : decode cX1_told 133 = .ok (.ireturn, 1) := dX1_told_120g.2.2.2.2.2.2.2.1
theorem dX1_told_134 : decode cX1_told 134 = .ok (.aload_n 0, 1) := dX1_told_120g.2.2.2.2.2.2.2.2.1
theorem dX1_told_135 : decode cX1_told 135 = .ok (.getfield 89, 3) := dX1_told_120g.2.2.2.2.2.2.2.2.2.1
theorem dX1_told_138 : decode cX1_told 138 = .ok (.ifCond .eq 7, 3) := dX1_told_120g.2.2.2.2.2.2.2.2.2.2.1
theorem dX1_told_141 : decode cX1_told 141 = .ok (.iconst 1, 1) := dX1_told_120g.2.2.2.2.2.2.2.2.2.2.2.1
theorem dX1_told_142 : decode cX1_told 142 = .ok (.goto 4, 3) := dX1_told_120g.2.2.2.2.2.2.2.2.2.2.2.2.1
theorem dX1_told_145 : decode cX1_told 145 = .ok (.iconst 0, 1) := dX1_told_120g.2.2.2.2.2.2.2.2.2.2.2.2.2.1
theorem dX1_told_146 : decode cX1_told 146 = .ok (.ireturn, 1) := dX1_told_120g.2.2.2.2.2.2.2.2.2.2.2.2.2.2.1
theorem dX1_told_147 : decode cX1_told 147 = .ok (.aload_n 0, 1) := dX1_told_120g.2.2.2.2.2.2.2.2.2.2.2.2.2.2.2
theorem dX1_told_148g : decode cX1_told 148 = .ok (.getfield 110, 3) ∧ decode cX1_told 151 = .ok (.ifCond .eq 7, 3) ∧ decode cX1_told 154 = .ok (.iconst 1, 1) ∧ decode cX1_told 155 = .ok (.goto 4, 3) ∧ decode cX1_told 158 = .ok (.iconst 0, 1) ∧ decode cX1_told 159 = .ok (.ireturn, 1) ∧ decode cX1_told 160 = .ok (.aload_n 0, 1) ∧ decode cX1_told 161 = .ok (.getfield 28, 3) ∧ decode cX1_told 164 = .ok (.getfield 186, 3) ∧ decode cX1_told 167 = .ok (.ireturn, 1) ∧ decode cX1_told 168 = .ok (.iconst (-1), 1) ∧ decode cX1_told 169 = .ok (.ireturn, 1) := by decide +kernel
theorem dX1_told_148 : decode cX1_told 148 = .ok (.getfield 110, 3) := dX1_told_148g.1
theorem dX1_told_151 : decode cX1_told 151 = .ok (.ifCond .eq 7, 3) := dX1_told_148g.2.1
theorem dX1_told_154 : decode cX1_told 154 = .ok (.iconst 1, 1) := dX1_told_148g.2.2.1
theorem dX1_told_155 : decode cX1_told 155 = .ok (.goto 4, 3) := dX1_told_148g.2.2.2.1
theorem dX1_told_158 : decode cX1_told 158 = .ok (.iconst 0, 1) := dX1_told_148g.2.2.2.2.1
theorem dX1_told_159 : decode cX1_told 159 = .ok (.ireturn, 1) := dX1_told_148g.2.2.2.2.2.1
theorem dX1_told_160 : decode cX1_told 160 = .ok (.aload_n 0, 1) := dX1_told_148g.2.2.2.2.2.2.1
theorem dX1_told_161 : decode cX1_told 161 = .ok (.getfield 28, 3) := dX1_told_148g.2.2.2.2.2.2.2.1
theorem dX1_told_164 : decode cX1_told 164 = .ok (.getfield 186, 3) := dX1_told_148g.2.2.2.2.2.2.2.2.1
theorem dX1_told_167 : decode cX1_told 167 = .ok (.ireturn, 1) := dX1_told_148g.2.2.2.2.2.2.2.2.2.1
theorem dX1_told_168 : decode cX1_told 168 = .ok (.iconst (-1), 1) := dX1_told_148g.2.2.2.2.2.2.2.2.2.2.1
theorem dX1_told_169 : decode cX1_told 169 = .ok (.ireturn, 1) := dX1_told_148g.2.2.2.2.2.2.2.2.2.2.2
theorem dX2_begin_0g : decode cX2_begin 0 = .ok (.aload_n 0, 1) ∧ decode cX2_begin 1 = .ok (.aload_n 1, 1) ∧ decode cX2_begin 2 = .ok (.putfield 31, 3) ∧ decode cX2_begin 5 = .ok (.aload_n 0, 1) ∧ decode cX2_begin 6 = .ok (.iconst 0, 1) ∧ decode cX2_begin 7 = .ok (.putfield 35, 3) ∧ decode cX2_begin 10 = .ok (.aload_n 0, 1) ∧ decode cX2_begin 11 = .ok (.iconst 0, 1) ∧ decode cX2_begin 12 = .ok (.putfield 38, 3) ∧ decode cX2_begin 15 = .ok (.aload_n 0, 1) ∧ decode cX2_begin 16 = .ok (.iconst 0, 1) ∧ decode cX2_begin 17 = .ok (.putfield 41, 3) ∧ decode cX2_begin 20 = .ok (.iconst 0, 1) ∧ decode cX2_begin 21 = .ok (.istore_n 2, 1) ∧ decode cX2_begin 22 = .ok (.iload_n 2, 1) ∧ decode cX2_begin 23 = .ok (.bipush 26, 2) := by decide +kernel
theorem dX2_begin_0 : decode cX2_begin 0 = .ok (.aload_n 0, 1) := dX2_begin_0g.1
theorem dX2_begin_1 : decode cX2_begin 1 = .ok (.aload_n 1, 1) := dX2_begin_0g.2.1
theorem dX2_begin_2 : decode cX2_begin 2 = .ok (.putfield 31, 3) := dX2_begin_0g.2.2.1
theorem dX2_begin_5 : decode cX2_begin 5 = .ok (.aload_n 0, 1) := dX2_begin_0g.2.2.2.1
theorem dX2_begin_6 : decode cX2_begin 6 = .ok (.iconst 0, 1) := dX2_begin_0g.2.2.2.2.1
theorem dX2_begin_7 : decode cX2_begin 7 = .ok (.putfield 35, 3) := dX2_begin_0g.2.2.2.2.2.1
theorem dX2_begin_10 : decode cX2_begin 10 = .ok (.aload_n 0, 1) := dX2_begin_0g.2.2.2.2.2.2.1
theorem dX2_begin_11 : decode cX2_begin 11 = .ok (.iconst 0, 1) := dX2_begin_0g.2.2.2.2.2.2.2.1
theorem dX2_begin_12 : decode cX2_begin 12 = .ok (.putfield 38, 3) := dX2_begin_0g.2.2.2.2.2.2.2.2.1
theorem dX2_begin_15 : decode cX2_begin 15 = .ok (.aload_n 0, 1) := dX2_begin_0g.2.2.2.2.2.2.2.2.2.1
theorem dX2_begin_16 : decode cX2_begin 16 = .ok (.iconst 0, 1) := dX2_begin_0g.2.2.2.2.2.2.2.2.2.2.1
theorem dX2_begin_17 : decode cX2_begin 17 = .ok (.putfield 41, 3) := dX2_begin_0g.2.2.2.2.2.2.2.2.2.2.2.1
theorem dX2_begin_20 : decode cX2_begin 20 = .ok (.iconst 0, 1) := dX2_begin_0g.2.2.2.2.2.2.2.2.2.2.2.2.1
theorem dX2_begin_21 : decode cX2_begin 21 = .ok (.istore_n 2, 1) := dX2_begin_0g.2.2.2.2.2.2.2.2.2.2.2.2.2.1
theorem dX2_begin_22 : decode cX2_begin 22 = .ok (.iload_n 2, 1) := dX2_begin_0g.2.2.2.2.2.2.2.2.2.2.2.2.2.2.1
theorem dX2_begin_23 : decode cX2_begin 23 = .ok (.bipush 26, 2) := dX2_begin_0g.2.2.2.2.2.2.2.2.2.2.2.2.2.2.2
theorem dX2_begin_25g : decode cX2_begin 25 = .ok (.if_icmp .ge 16, 3) ∧ decode cX2_begin 28 = .ok (.aload_n 0, 1) ∧ decode cX2_begin 29 = .ok (.getfield 27, 3) ∧ decode cX2_begin 32 = .ok (.iload_n 2, 1) ∧ decode cX2_begin 33 = .ok (.iconst (-1), 1) ∧ decode cX2_begin 34 = .ok (.iastore, 1) ∧ decode cX2_begin 35 = .ok (.iinc 2 1, 3) ∧ decode cX2_begin 38 = .ok (.goto (-16), 3) ∧ decode cX2_begin 41 = .ok (.return_, 1) := by decide +kernel
theorem dX2_begin_25 : decode cX2_begin 25 = .ok (.if_icmp .ge 16, 3) := dX2_begin_25g.1
theorem dX2_begin_28 : decode cX2_begin 28 = .ok (.aload_n 0, 1) := dX2_begin_25g.2.1
theorem dX2_begin_29 : decode cX2_begin 29 = .ok (.getfield 27, 3) := dX2_begin_25g.2.2.1
theorem dX2_begin_32 : decode cX2_begin 32 = .ok (.iload_n 2, 1) := dX2_begin_25g.2.2.2.1
theorem dX2_begin_33 : decode cX2_begin 33 = .ok (.iconst (-1), 1) := dX2_begin_25g.2.2.2.2.1
theorem dX2_begin_34 : decode cX2_begin 34 = .ok (.iastore, 1) := dX2_begin_25g.2.2.2.2.2.1
theorem dX2_begin_35 : decode cX2_begin 35 = .ok (.iinc 2 1, 3) := dX2_begin_25g.2.2.2.2.2.2.1
theorem dX2_begin_38 : decode cX2_begin 38 = .ok (.goto (-16), 3) := dX2_begin_25g.2.2.2.2.2.2.2.1
theorem dX2_begin_41 : decode cX2_begin 41 = .ok (.return_, 1) := dX2_begin_25g.2.2.2.2.2.2.2.2
theorem dX2_addConstructor_0g : decode cX2_addConstructor 0 = .ok (.aload_n 0, 1) ∧ decode cX2_addConstructor 1 = .ok (.getfield 35, 3) ∧ decode cX2_addConstructor 4 = .ok (.iconst 4, 1) ∧ decode cX2_addConstructor 5 = .ok (.if_icmp .lt 5, 3) ∧ decode cX2_addConstructor 8 = .ok (.iconst 0, 1) ∧ decode cX2_addConstructor 9 = .ok (.ireturn, 1) ∧ decode cX2_addConstructor 10 = .ok (.aload_n 0, 1) ∧ decode cX2_addConstructor 11 = .ok (.getfield 17, 3) ∧ decode cX2_addConstructor 14 = .ok (.aload_n 0, 1) ∧ decode cX2_addConstructor 15 = .ok (.getfield 35, 3) ∧ decode cX2_addConstructor 18 = .ok (.aaload, 1) ∧ decode cX2_addConstructor 19 = .ok (.iconst (-1), 1) ∧ decode cX2_addConstructor 20 = .ok (.iconst 0, 1) ∧ decode cX2_addConstructor 21 = .ok (.aload_n 0, 1) ∧ decode cX2_addConstructor 22 = .ok (.getfield 9, 3) ∧ decode cX2_addConstructor 25 = .ok (.invokevirtual 44, 3) := by decide +kernel
theorem dX2_addConstructor_0 : decode cX2_addConstructor 0 = .ok (.aload_n 0, 1) := dX2_addConstructor_0g.1
theorem dX2_addConstructor_1 : decode cX2_addConstructor 1 = .ok (.getfield 35, 3) := dX2_addConstructor_0g.2.1
theorem dX2_addConstructor_4 : decode cX2_addConstructor 4 = .ok (.iconst 4, 1) := dX2_addConstructor_0g.2.2.1
theorem dX2_addConstructor_5 : decode cX2_addConstructor 5 = .ok (.if_icmp .lt 5, 3) := dX2_addConstructor_0g.2.2.2.1
theorem dX2_addConstructor_8 : decode cX2_addConstructor 8 = .ok (.iconst 0, 1) := dX2_addConstructor_0g.2.2.2.2.1
theorem dX2_addConstructor_9 : decode cX2_addConstructor 9 = .ok (.ireturn, 1) := dX2_addConstructor_0g.2.2.2.2.2.1
theorem dX2_addConstructor_10 : decode cX2_addConstructor 10 = .ok (.aload_n 0, 1) := dX2_addConstructor_0g.2.2.2.2.2.2.1
theorem dX2_addConstructor_11 : decode cX2_addConstructor 11 = .ok (.getfield 17, 3) := dX2_addConstructor_0g.2.2.2.2.2.2.2.1
theorem dX2_addConstructor_14 : decode cX2_addConstructor 14 = .ok (.aload_n 0, 1) := dX2_addConstructor_0g.2.2.2.2.2.2.2.2.1
theorem dX2_addConstructor_15 : decode cX2_addConstructor 15 = .ok (.getfield 35, 3) := dX2_addConstructor_0g.2.2.2.2.2.2.2.2.2.1
theorem dX2_addConstructor_18 : decode cX2_addConstructor 18 = .ok (.aaload, 1) := dX2_addConstructor_0g.2.2.2.2.2.2.2.2.2.2.1
theorem dX2_addConstructor_19 : decode cX2_addConstructor 19 = .ok (.iconst (-1), 1) := dX2_addConstructor_0g.2.2.2.2.2.2.2.2.2.2.2.1
theorem dX2_addConstructor_20 : decode cX2_addConstructor 20 = .ok (.iconst 0, 1) := dX2_addConstructor_0g.2.2.2.2.2.2.2.2.2.2.2.2.1
theorem dX2_addConstructor_21 : decode cX2_addConstructor 21 = .ok (.aload_n 0, 1) := dX2_addConstructor_0g.2.2.2.2.2.2.2.2.2.2.2.2.2.1
theorem dX2_addConstructor_22 : decode cX2_addConstructor 22 = .ok (.getfield 9, 3) := dX2_addConstructor_0g.2.2.2.2.2.2.2.2.2.2.2.2.2.2.1
theorem dX2_addConstructor_25 : decode cX2_addConstructor 25 = .ok (.invokevirtual 44, 3) := dX2_addConstructor_0g.2.2.2.2.2.2.2.2.2.2.2.2.2.2.2
theorem dX2_addConstructor_28g : decode cX2_addConstructor 28 = .ok (.aload_n 0, 1) ∧ decode cX2_addConstructor 29 = .ok (.getfield 17, 3) ∧ decode cX2_addConstructor 32 = .ok (.aload_n 0, 1) ∧ decode cX2_addConstructor 33 = .ok (.getfield 35, 3) ∧ decode cX2_addConstructor 36 = .ok (.aaload, 1) ∧ decode cX2_addConstructor 37 = .ok (.iload_n 1, 1) ∧ decode cX2_addConstructor 38 = .ok (.iload_n 2, 1) ∧ decode cX2_addConstructor 39 = .ok (.iload_n 3, 1) ∧ decode cX2_addConstructor 40 = .ok (.iload 4, 2) ∧ decode cX2_addConstructor 42 = .ok (.invokevirtual 48, 3) ∧ decode cX2_addConstructor 45 = .ok (.aload_n 0, 1) ∧ decode cX2_addConstructor 46 = .ok (.dup, 1) ∧ decode cX2_addConstructor 47 = .ok (.getfield 35, 3) ∧ decode cX2_addConstructor 50 = .ok (.iconst 1, 1) ∧ decode cX2_addConstructor 51 = .ok (.iadd, 1) ∧ decode cX2_addConstructor 52 = .ok (.putfield 35, 3) := by decide +kernel
theorem dX2_addConstructor_28 : decode cX2_addConstructor 28 = .ok (.aload_n 0, 1) := dX2_addConstructor_28g.1
theorem dX2_addConstructor_29 : decode cX2_addConstructor 29 = .ok (.getfield 17, 3) := dX2_addConstructor_28g.2.1
theorem dX2_addConstructor_32 : decode cX2_addConstructor 32 = .ok (.aload_n 0, 1) := dX2_addConstructor_28g.2.2.1
theorem dX2_addConstructor_33 : decode cX2_addConstructor 33 = .ok (.getfield 35, 3) := dX2_addConstructor_28g.2.2.2.1
theorem dX2_addConstructor_36 : decode cX2_addConstructor 36 = .ok (.aaload, 1) := dX2_addConstructor_28g.2.2.2.2.1
theorem dX2_addConstructor_37 : decode cX2_addConstructor 37 = .ok (.iload_n 1, 1) := dX2_addConstructor_28g.2.2.2.2.2.1
theorem dX2_addConstructor_38 : decode cX2_addConstructor 38 = .ok (.iload_n 2, 1) := dX2_addConstructor_28g.2.2.2.2.2.2.1
theorem dX2_addConstructor_39 : decode cX2_addConstructor 39 = .ok (.iload_n 3, 1) := dX2_addConstructor_28g.2.2.2.2.2.2.2.1
theorem dX2_addConstructor_40 : decode cX2_addConstructor 40 = .ok (.iload 4, 2) := dX2_addConstructor_28g.2.2.2.2.2.2.2.2.1
theorem dX2_addConstructor_42 : decode cX2_addConstructor 42 = .ok (.invokevirtual 48, 3) := dX2_addConstructor_28g.2.2.2.2.2.2.2.2.2.1
theorem dX2_addConstructor_45 : decode cX2_addConstructor 45 = .ok (.aload_n 0, 1) := dX2_addConstructor_28g.2.2.2.2.2.2.2.2.2.2.1
theorem dX2_addConstructor_46 : decode cX2_addConstructor 46 = .ok (.dup, 1) := dX2_addConstructor_28g.2.2.2.2.2.2.2.2.2.2.2.1
theorem dX2_addConstructor_47 : decode cX2_addConstructor 47 = .ok (.getfield 35, 3) := dX2_addConstructor_28g.2.2.2.2.2.2.2.2.2.2.2.2.1
theorem dX2_addConstructor_50 : decode cX2_addConstructor 50 = .ok (.iconst 1, 1) := dX2_addConstructor_28g.2.2.2.2.2.2.2.2.2.2.2.2.2.1
theorem dX2_addConstructor_51 : decode cX2_addConstructor 51 = .ok (.iadd, 1) := dX2_addConstructor_28g.2.2.2.2.2.2.2.2.2.2.2.2.2.2.1
theorem dX2_addConstructor_52 : decode cX2_addConstructor 52 = .ok (.putfield 35, 3) := dX2_addConstructor_28g.2.2.2.2.2.2.2.2.2.2.2.2.2.2.2
theorem dX2_addConstructor_55 : decode cX2_addConstructor 55 = .ok (.iconst 1, 1) := by decide +kernel
theorem dX2_addConstructor_56 : decode cX2_addConstructor 56 = .ok (.ireturn, 1) := by decide +kernel
theorem dX2_addFactory_0g : decode cX2_addFactory 0 = .ok (.aload_n 0, 1) ∧ decode cX2_addFactory 1 = .ok (.getfield 38, 3) ∧ decode cX2_addFactory 4 = .ok (.iconst 4, 1) ∧ decode cX2_addFactory 5 = .ok (.if_icmp .lt 5, 3) ∧ decode cX2_addFactory 8 = .ok (.iconst 0, 1) ∧ decode cX2_addFactory 9 = .ok (.ireturn, 1) ∧ decode cX2_addFactory 10 = .ok (.aload_n 0, 1) ∧ decode cX2_addFactory 11 = .ok (.getfield 21, 3) ∧ decode cX2_addFactory 14 = .ok (.aload_n 0, 1) ∧ decode cX2_addFactory 15 = .ok (.getfield 38, 3) ∧ decode cX2_addFactory 18 = .ok (.aaload, 1) ∧ decode cX2_addFactory 19 = .ok (.iload_n 1, 1) ∧ decode cX2_addFactory 20 = .ok (.iload_n 2, 1) ∧ decode cX2_addFactory 21 = .ok (.iload_n 3, 1) ∧ decode cX2_addFactory 22 = .ok (.invokevirtual 44, 3) ∧ decode cX2_addFactory 25 = .ok (.aload_n 0, 1) := by decide +kernel
theorem dX2_addFactory_0 : decode cX2_addFactory 0 = .ok (.aload_n 0, 1) := dX2_addFactory_0g.1
theorem dX2_addFactory_1 : decode cX2_addFactory 1 = .ok (.getfield 38, 3) := dX2_addFactory_0g.2.1
theorem dX2_addFactory_4 : decode cX2_addFactory 4 = .ok (.iconst 4, 1) := dX2_addFactory_0g.2.2.1
theorem dX2_addFactory_5 : decode cX2_addFactory 5 = .ok (.if_icmp .lt 5, 3) := dX2_addFactory_0g.2.2.2.1
theorem dX2_addFactory_8 : decode cX2_addFactory 8 = .ok (.iconst 0, 1) := dX2_addFactory_0g.2.2.2.2.1
theorem dX2_addFactory_9 : decode cX2_addFactory 9 = .ok (.ireturn, 1) := dX2_addFactory_0g.2.2.2.2.2.1
theorem dX2_addFactory_10 : decode cX2_addFactory 10 = .ok (.aload_n 0, 1) := dX2_addFactory_0g.2.2.2.2.2.2.1
theorem dX2_addFactory_11 : decode cX2_addFactory 11 = .ok (.getfield 21, 3) := dX2_addFactory_0g.2.2.2.2.2.2.2.1
theorem dX2_addFactory_14 : decode cX2_addFactory 14 = .ok (.aload_n 0, 1) := dX2_addFactory_0g.2.2.2.2.2.2.2.2.1
theorem dX2_addFactory_15 : decode cX2_addFactory 15 = .ok (.getfield 38, 3) := dX2_addFactory_0g.2.2.2.2.2.2.2.2.2.1
theorem dX2_addFactory_18 : decode cX2_addFactory 18 = .ok (.aaload, 1) := dX2_addFactory_0g.2.2.2.2.2.2.2.2.2.2.1
theorem dX2_addFactory_19 : decode cX2_addFactory 19 = .ok (.iload_n 1, 1) := dX2_addFactory_0g.2.2.2.2.2.2.2.2.2.2.2.1
theorem dX2_addFactory_20 : decode cX2_addFactory 20 = .ok (.iload_n 2, 1) := dX2_addFactory_0g.2.2.2.2.2.2.2.2.2.2.2.2.1
theorem dX2_addFactory_21 : decode cX2_addFactory 21 = .ok (.iload_n 3, 1) := dX2_addFactory_0g.2.2.2.2.2.2.2.2.2.2.2.2.2.1
theorem dX2_addFactory_22 : decode cX2_addFactory 22 = .ok (.invokevirtual 44, 3) := dX2_addFactory_0g.2.2.2.2.2.2.2.2.2.2.2.2.2.2.1
theorem dX2_addFactory_25 : decode cX2_addFactory 25 = .ok (.aload_n 0, 1) := dX2_addFactory_0g.2.2.2.2.2.2.2.2.2.2.2.2.2.2.2
theorem dX2_addFactory_26g : decode cX2_addFactory 26 = .ok (.getfield 21, 3) ∧ decode cX2_addFactory 29 = .ok (.aload_n 0, 1) ∧ decode cX2_addFactory 30 = .ok (.getfield 38, 3) ∧ decode cX2_addFactory 33 = .ok (.aaload, 1) ∧ decode cX2_addFactory 34 = .ok (.iload 4, 2) ∧ decode cX2_addFactory 36 = .ok (.iload 5, 2) ∧ decode cX2_addFactory 38 = .ok (.iload 6, 2) ∧ decode cX2_addFactory 40 = .ok (.iload 7, 2) ∧ decode cX2_addFactory 42 = .ok (.invokevirtual 48, 3) ∧ decode cX2_addFactory 45 = .ok (.aload_n 0, 1) ∧ decode cX2_addFactory 46 = .ok (.dup, 1) ∧ decode cX2_addFactory 47 = .ok (.getfield 38, 3) ∧ decode cX2_addFactory 50 = .ok (.iconst 1, 1) ∧ decode cX2_addFactory 51 = .ok (.iadd, 1) ∧ decode cX2_addFactory 52 = .ok (.putfield 38, 3) ∧ decode cX2_addFactory 55 = .ok (.iconst 1, 1) := by decide +kernel
theorem dX2_addFactory_26 : decode cX2_addFactory 26 = .ok (.getfield 21, 3) := dX2_addFactory_26g.1
theorem dX2_addFactory_29 : decode cX2_addFactory 29 = .ok (.aload_n 0, 1) := dX2_addFactory_26g.2.1
theorem dX2_addFactory_30 : decode cX2_addFactory 30 = .ok (.getfield 38, 3) := dX2_addFactory_26g.2.2.1
theorem dX2_addFactory_33 : decode cX2_addFactory 33 = .ok (.aaload, 1) := dX2_addFactory_26g.2.2.2.1
theorem dX2_addFactory_34 : decode cX2_addFactory 34 = .ok (.iload 4, 2) := dX2_addFactory_26g.2.2.2.2.1
theorem dX2_addFactory_36 : decode cX2_addFactory 36 = .ok (.iload 5, 2) := dX2_addFactory_26g.2.2.2.2.2.1
theorem dX2_addFactory_38 : decode cX2_addFactory 38 = .ok (.iload 6, 2) := dX2_addFactory_26g.2.2.2.2.2.2.1
theorem dX2_addFactory_40 : decode cX2_addFactory 40 = .ok (.iload 7, 2) := dX2_addFactory_26g.2.2.2.2.2.2.2.1
theorem dX2_addFactory_42 : decode cX2_addFactory 42 = .ok (.invokevirtual 48, 3) := dX2_addFactory_26g.2.2.2.2.2.2.2.2.1
theorem dX2_addFactory_45 : decode cX2_addFactory 45 = .ok (.aload_n 0, 1) := dX2_addFactory_26g.2.2.2.2.2.2.2.2.2.1
theorem dX2_addFactory_46 : decode cX2_addFactory 46 = .ok (.dup, 1) := dX2_addFactory_26g.2.2.2.2.2.2.2.2.2.2.1
theorem dX2_addFactory_47 : decode cX2_addFactory 47 = .ok (.getfield 38, 3) := dX2_addFactory_26g.2.2.2.2.2.2.2.2.2.2.2.1
theorem dX2_addFactory_50 : decode cX2_addFactory 50 = .ok (.iconst 1, 1) := dX2_addFactory_26g.2.2.2.2.2.2.2.2.2.2.2.2.1
theorem dX2_addFactory_51 : decode cX2_addFactory 51 = .ok (.iadd, 1) := dX2_addFactory_26g.2.2.2.2.2.2.2.2.2.2.2.2.2.1
theorem dX2_addFactory_52 : decode cX2_addFactory 52 = .ok (.putfield 38, 3) := dX2_addFactory_26g.2.2.2.2.2.2.2.2.2.2.2.2.2.2.1
theorem dX2_addFactory_55 : decode cX2_addFactory 55 = .ok (.iconst 1, 1) := dX2_addFactory_26g.2.2.2.2.2.2.2.2.2.2.2.2.2.2.2
theorem dX2_addFactory_56 : decode cX2_addFactory 56 = .ok (.ireturn, 1) := by decide +kernel
theorem dX2_addSetter_0g : decode cX2_addSetter 0 = .ok (.aload_n 0, 1) ∧ decode cX2_addSetter 1 = .ok (.getfield 41, 3) ∧ decode cX2_addSetter 4 = .ok (.bipush 8, 2) ∧ decode cX2_addSetter 6 = .ok (.if_icmp .ge 13, 3) ∧ decode cX2_addSetter 9 = .ok (.aload_n 0, 1) ∧ decode cX2_addSetter 10 = .ok (.getfield 27, 3) ∧ decode cX2_addSetter 13 = .ok (.iload_n 1, 1) ∧ decode cX2_addSetter 14 = .ok (.iaload, 1) ∧ decode cX2_addSetter 15 = .ok (.iconst (-1), 1) ∧ decode cX2_addSetter 16 = .ok (.if_icmp .eq 5, 3) ∧ decode cX2_addSetter 19 = .ok (.iconst 0, 1) ∧ decode cX2_addSetter 20 = .ok (.ireturn, 1) ∧ decode cX2_addSetter 21 = .ok (.aload_n 0, 1) ∧ decode cX2_addSetter 22 = .ok (.getfield 27, 3) ∧ decode cX2_addSetter 25 = .ok (.iload_n 1, 1) ∧ decode cX2_addSetter 26 = .ok (.iload_n 2, 1) := by decide +kernel
theorem dX2_addSetter_0 : decode cX2_addSetter 0 = .ok (.aload_n 0, 1) := dX2_addSetter_0g.1
theorem dX2_addSetter_1 : decode cX2_addSetter 1 = .ok (.getfield 41, 3) := dX2_addSetter_0g.2.1
theorem dX2_addSetter_4 : decode cX2_addSetter 4 = .ok (.bipush 8, 2) := dX2_addSetter_0g.2.2.1
theorem dX2_addSetter_6 : decode cX2_addSetter 6 = .ok (.if_icmp .ge 13, 3) := dX2_addSetter_0g.2.2.2.1
theorem dX2_addSetter_9 : decode cX2_addSetter 9 = .ok (.aload_n 0, 1) := dX2_addSetter_0g.2.2.2.2.1
theorem dX2_addSetter_10 : decode cX2_addSetter 10 = .ok (.getfield 27, 3) := dX2_addSetter_0g.2.2.2.2.2.1
theorem dX2_addSetter_13 : decode cX2_addSetter 13 = .ok (.iload_n 1, 1) := dX2_addSetter_0g.2.2.2.2.2.2.1
theorem dX2_addSetter_14 : decode cX2_addSetter 14 = .ok (.iaload, 1) := dX2_addSetter_0g.2.2.2.2.2.2.2.1
theorem dX2_addSetter_15 : decode cX2_addSetter 15 = .ok (.iconst (-1), 1) := dX2_addSetter_0g.2.2.2.2.2.2.2.2.1
theorem dX2_addSetter_16 : decode cX2_addSetter 16 = .ok (.if_icmp .eq 5, 3) := dX2_addSetter_0g.2.2.2.2.2.2.2.2.2.1
theorem dX2_addSetter_19 : decode cX2_addSetter 19 = .ok (.iconst 0, 1) := dX2_addSetter_0g.2.2.2.2.2.2.2.2.2.2.1
theorem dX2_addSetter_20 : decode cX2_addSetter 20 = .ok (.ireturn, 1) := dX2_addSetter_0g.2.2.2.2.2.2.2.2.2.2.2.1
theorem dX2_addSetter_21 : decode cX2_addSetter 21 = .ok (.aload_n 0, 1) := dX2_addSetter_0g.2.2.2.2.2.2.2.2.2.2.2.2.1
theorem dX2_addSetter_22 : decode cX2_addSetter 22 = .ok (.getfield 27, 3) := dX2_addSetter_0g.2.2.2.2.2.2.2.2.2.2.2.2.2.1
theorem dX2_addSetter_25 : decode cX2_addSetter 25 = .ok (.iload_n 1, 1) := dX2_addSetter_0g.2.2.2.2.2.2.2.2.2.2.2.2.2.2.1
theorem dX2_addSetter_26 : decode cX2_addSetter 26 = .ok (.iload_n 2, 1) := dX2_addSetter_0g.2.2.2.2.2.2.2.2.2.2.2.2.2.2.2
theorem dX2_addSetter_27g : decode cX2_addSetter 27 = .ok (.iastore, 1) ∧ decode cX2_addSetter 28 = .ok (.aload_n 0, 1) ∧ decode cX2_addSetter 29 = .ok (.dup, 1) ∧ decode cX2_addSetter 30 = .ok (.getfield 41, 3) ∧ decode cX2_addSetter 33 = .ok (.iconst 1, 1) ∧ decode cX2_addSetter 34 = .ok (.iadd, 1) ∧ decode cX2_addSetter 35 = .ok (.putfield 41, 3) ∧ decode cX2_addSetter 38 = .ok (.iconst 1, 1) ∧ decode cX2_addSetter 39 = .ok (.ireturn, 1) := by decide +kernel
theorem dX2_addSetter_27 : decode cX2_addSetter 27 = .ok (.iastore, 1) := dX2_addSetter_27g.1
theorem dX2_addSetter_28 : decode cX2_addSetter 28 = .ok (.aload_n 0, 1) := dX2_addSetter_27g.2.1
theorem dX2_addSetter_29 : decode cX2_addSetter 29 = .ok (.dup, 1) := dX2_addSetter_27g.2.2.1
theorem dX2_addSetter_30 : decode cX2_addSetter 30 = .ok (.getfield 41, 3) := dX2_addSetter_27g.2.2.2.1
theorem dX2_addSetter_33 : decode cX2_addSetter 33 = .ok (.iconst 1, 1) := dX2_addSetter_27g.2.2.2.2.1
theorem dX2_addSetter_34 : decode cX2_addSetter 34 = .ok (.iadd, 1) := dX2_addSetter_27g.2.2.2.2.2.1
theorem dX2_addSetter_35 : decode cX2_addSetter 35 = .ok (.putfield 41, 3) := dX2_addSetter_27g.2.2.2.2.2.2.1
theorem dX2_addSetter_38 : decode cX2_addSetter 38 = .ok (.iconst 1, 1) := dX2_addSetter_27g.2.2.2.2.2.2.2.1
theorem dX2_addSetter_39 : decode cX2_addSetter 39 = .ok (.ireturn, 1) := dX2_addSetter_27g.2.2.2.2.2.2.2.2
theorem dX2_setterType_0g : decode cX2_setterType 0 = .ok (.aload_n 0, 1) ∧ decode cX2_setterType 1 = .ok (.astore_n 2, 1) ∧ decode cX2_setterType 2 = .ok (.iconst 0, 1) ∧ decode cX2_setterType 3 = .ok (.istore_n 3, 1) ∧ decode cX2_setterType 4 = .ok (.iload_n 3, 1) ∧ decode cX2_setterType 5 = .ok (.bipush 8, 2) ∧ decode cX2_setterType 7 = .ok (.if_icmp .ge 35, 3) ∧ decode cX2_setterType 10 = .ok (.aload_n 2, 1) ∧ decode cX2_setterType 11 = .ok (.ifnull 31, 3) ∧ decode cX2_setterType 14 = .ok (.aload_n 2, 1) ∧ decode cX2_setterType 15 = .ok (.getfield 27, 3) ∧ decode cX2_setterType 18 = .ok (.iload_n 1, 1) ∧ decode cX2_setterType 19 = .ok (.iaload, 1) ∧ decode cX2_setterType 20 = .ok (.iconst (-1), 1) ∧ decode cX2_setterType 21 = .ok (.if_icmp .eq 10, 3) ∧ decode cX2_setterType 24 = .ok (.aload_n 2, 1) := by decide +kernel
theorem dX2_setterType_0 : decode cX2_setterType 0 = .ok (.aload_n 0, 1) := dX2_setterType_0g.1
theorem dX2_setterType_1 : decode cX2_setterType 1 = .ok (.astore_n 2, 1) := dX2_setterType_0g.2.1
theorem dX2_setterType_2 : decode cX2_setterType 2 = .ok (.iconst 0, 1) := dX2_setterType_0g.2.2.1
theorem dX2_setterType_3 : decode cX2_setterType 3 = .ok (.istore_n 3, 1) := dX2_setterType_0g.2.2.2.1
theorem dX2_setterType_4 : decode cX2_setterType 4 = .ok (.iload_n 3, 1) := dX2_setterType_0g.2.2.2.2.1
theorem dX2_setterType_5 : decode cX2_setterType 5 = .ok (.bipush 8, 2) := dX2_setterType_0g.2.2.2.2.2.1
theorem dX2_setterType_7 : decode cX2_setterType 7 = .ok (.if_icmp .ge 35, 3) := dX2_setterType_0g.2.2.2.2.2.2.1
theorem dX2_setterType_10 : decode cX2_setterType 10 = .ok (.aload_n 2, 1) := dX2_setterType_0g.2.2.2.2.2.2.2.1
theorem dX2_setterType_11 : decode cX2_setterType 11 = .ok (.ifnull 31, 3) := dX2_setterType_0g.2.2.2.2.2.2.2.2.1
theorem dX2_setterType_14 : decode cX2_setterType 14 = .ok (.aload_n 2, 1) := dX2_setterType_0g.2.2.2.2.2.2.2.2.2.1
theorem dX2_setterType_15 : decode cX2_setterType 15 = .ok (.getfield 27, 3) := dX2_setterType_0g.2.2.2.2.2.2.2.2.2.2.1
theorem dX2_setterType_18 : decode cX2_setterType 18 = .ok (.iload_n 1, 1) := dX2_setterType_0g.2.2.2.2.2.2.2.2.2.2.2.1
theorem dX2_setterType_19 : decode cX2_setterType 19 = .ok (.iaload, 1) := dX2_setterType_0g.2.2.2.2.2.2.2.2.2.2.2.2.1
theorem dX2_setterType_20 : decode cX2_setterType 20 = .ok (.iconst (-1), 1) := dX2_setterType_0g.2.2.2.2.2.2.2.2.2.2.2.2.2.1
theorem dX2_setterType_21 : decode cX2_setterType 21 = .ok (.if_icmp .eq 10, 3) := dX2_setterType_0g.2.2.2.2.2.2.2.2.2.2.2.2.2.2.1
theorem dX2_setterType_24 : decode cX2_setterType 24 = .ok (.aload_n 2, 1) := dX2_setterType_0g.2.2.2.2.2.2.2.2.2.2.2.2.2.2.2
theorem dX2_setterType_25g : decode cX2_setterType 25 = .ok (.getfield 27, 3) ∧ decode cX2_setterType 28 = .ok (.iload_n 1, 1) ∧ decode cX2_setterType 29 = .ok (.iaload, 1) ∧ decode cX2_setterType 30 = .ok (.ireturn, 1) ∧ decode cX2_setterType 31 = .ok (.aload_n 2, 1) ∧ decode cX2_setterType 32 = .ok (.getfield 31, 3) ∧ decode cX2_setterType 35 = .ok (.astore_n 2, 1) ∧ decode cX2_setterType 36 = .ok (.iinc 3 1, 3) ∧ decode cX2_setterType 39 = .ok (.goto (-35), 3) ∧ decode cX2_setterType 42 = .ok (.iconst (-1), 1) ∧ decode cX2_setterType 43 = .ok (.ireturn, 1) := by decide +kernel
theorem dX2_setterType_25 : decode cX2_setterType 25 = .ok (.getfield 27, 3) := dX2_setterType_25g.1
theorem dX2_setterType_28 : decode cX2_setterType 28 = .ok (.iload_n 1, 1) := dX2_setterType_25g.2.1
theorem dX2_setterType_29 : decode cX2_setterType 29 = .ok (.iaload, 1) := dX2_setterType_25g.2.2.1
theorem dX2_setterType_30 : decode cX2_setterType 30 = .ok (.ireturn, 1) := dX2_setterType_25g.2.2.2.1
theorem dX2_setterType_31 : decode cX2_setterType 31 = .ok (.aload_n 2, 1) := dX2_setterType_25g.2.2.2.2.1
theorem dX2_setterType_32 : decode cX2_setterType 32 = .ok (.getfield 31, 3) := dX2_setterType_25g.2.2.2.2.2.1
theorem dX2_setterType_35 : decode cX2_setterType 35 = .ok (.astore_n 2, 1) := dX2_setterType_25g.2.2.2.2.2.2.1
theorem dX2_setterType_36 : decode cX2_setterType 36 = .ok (.iinc 3 1, 3) := dX2_setterType_25g.2.2.2.2.2.2.2.1
theorem dX2_setterType_39 : decode cX2_setterType 39 = .ok (.goto (-35), 3) := dX2_setterType_25g.2.2.2.2.2.2.2.2.1
theorem dX2_setterType_42 : decode cX2_setterType 42 = .ok (.iconst (-1), 1) := dX2_setterType_25g.2.2.2.2.2.2.2.2.2.1
theorem dX2_setterType_43 : decode cX2_setterType 43 = .ok (.ireturn, 1) := dX2_setterType_25g.2.2.2.2.2.2.2.2.2.2
theorem dX2_withFactory_0g : decode cX2_withFactory 0 = .ok (.aload_n 0, 1) ∧ decode cX2_withFactory 1 = .ok (.astore_n 3, 1) ∧ decode cX2_withFactory 2 = .ok (.iconst 0, 1) ∧ decode cX2_withFactory 3 = .ok (.istore 4, 2) ∧ decode cX2_withFactory 5 = .ok (.iload 4, 2) ∧ decode cX2_withFactory 7 = .ok (.bipush 8, 2) ∧ decode cX2_withFactory 9 = .ok (.if_icmp .ge 29, 3) ∧ decode cX2_withFactory 12 = .ok (.aload_n 3, 1) ∧ decode cX2_withFactory 13 = .ok (.ifnull 25, 3) ∧ decode cX2_withFactory 16 = .ok (.aload_n 3, 1) ∧ decode cX2_withFactory 17 = .ok (.iload_n 1, 1) ∧ decode cX2_withFactory 18 = .ok (.iload_n 2, 1) ∧ decode cX2_withFactory 19 = .ok (.invokevirtual 52, 3) ∧ decode cX2_withFactory 22 = .ok (.ifCond .eq 5, 3) ∧ decode cX2_withFactory 25 = .ok (.aload_n 3, 1) ∧ decode cX2_withFactory 26 = .ok (.areturn, 1) := by decide +kernel
theorem dX2_withFactory_0 : decode cX2_withFactory 0 = .ok (.aload_n 0, 1) := dX2_withFactory_0g.1
theorem dX2_withFactory_1 : decode cX2_withFactory 1 = .ok (.astore_n 3, 1) := dX2_withFactory_0g.2.1
theorem dX2_withFactory_2 : decode cX2_withFactory 2 = .ok (.iconst 0, 1) := dX2_withFactory_0g.2.2.1
theorem dX2_withFactory_3 : decode cX2_withFactory 3 = .ok (.istore 4, 2) := dX2_withFactory_0g.2.2.2.1
theorem dX2_withFactory_5 : decode cX2_withFactory 5 = .ok (.iload 4, 2) := dX2_withFactory_0g.2.2.2.2.1
theorem dX2_withFactory_7 : decode cX2_withFactory 7 = .ok (.bipush 8, 2) := dX2_withFactory_0g.2.2.2.2.2.1
theorem dX2_withFactory_9 : decode cX2_withFactory 9 = .ok (.if_icmp .ge 29, 3) := dX2_withFactory_0g.2.2.2.2.2.2.1
theorem dX2_withFactory_12 : decode cX2_withFactory 12 = .ok (.aload_n 3, 1) := dX2_withFactory_0g.2.2.2.2.2.2.2.1
theorem dX2_withFactory_13 : decode cX2_withFactory 13 = .ok (.ifnull 25, 3) := dX2_withFactory_0g.2.2.2.2.2.2.2.2.1
theorem dX2_withFactory_16 : decode cX2_withFactory 16 = .ok (.aload_n 3, 1) := dX2_withFactory_0g.2.2.2.2.2.2.2.2.2.1
theorem dX2_withFactory_17 : decode cX2_withFactory 17 = .ok (.iload_n 1, 1) := dX2_withFactory_0g.2.2.2.2.2.2.2.2.2.2.1
theorem dX2_withFactory_18 : decode cX2_withFactory 18 = .ok (.iload_n 2, 1) := dX2_withFactory_0g.2.2.2.2.2.2.2.2.2.2.2.1
theorem dX2_withFactory_19 : decode cX2_withFactory 19 = .ok (.invokevirtual 52, 3) := dX2_withFactory_0g.2.2.2.2.2.2.2.2.2.2.2.2.1
theorem dX2_withFactory_22 : decode cX2_withFactory 22 = .ok (.ifCond .eq 5, 3) := dX2_withFactory_0g.2.2.2.2.2.2.2.2.2.2.2.2.2.1
theorem dX2_withFactory_25 : decode cX2_withFactory 25 = .ok (.aload_n 3, 1) := dX2_withFactory_0g.2.2.2.2.2.2.2.2.2.2.2.2.2.2.1
theorem dX2_withFactory_26 : decode cX2_withFactory 26 = .ok (.areturn, 1) := dX2_withFactory_0g.2.2.2.2.2.2.2.2.2.2.2.2.2.2.2
theorem dX2_withFactory_27g : decode cX2_withFactory 27 = .ok (.aload_n 3, 1) ∧ decode cX2_withFactory 28 = .ok (.getfield 31, 3) ∧ decode cX2_withFactory 31 = .ok (.astore_n 3, 1) ∧ decode cX2_withFactory 32 = .ok (.iinc 4 1, 3) ∧ decode cX2_withFactory 35 = .ok (.goto (-30), 3) ∧ decode cX2_withFactory 38 = .ok (.aconst_null, 1) ∧ decode cX2_withFactory 39 = .ok (.areturn, 1) := by decide +kernel
theorem dX2_withFactory_27 : decode cX2_withFactory 27 = .ok (.aload_n 3, 1) := dX2_withFactory_27g.1
theorem dX2_withFactory_28 : decode cX2_withFactory 28 = .ok (.getfield 31, 3) := dX2_withFactory_27g.2.1
theorem dX2_withFactory_31 : decode cX2_withFactory 31 = .ok (.astore_n 3, 1) := dX2_withFactory_27g.2.2.1
theorem dX2_withFactory_32 : decode cX2_withFactory 32 = .ok (.iinc 4 1, 3) := dX2_withFactory_27g.2.2.2.1
theorem dX2_withFactory_35 : decode cX2_withFactory 35 = .ok (.goto (-30), 3) := dX2_withFactory_27g.2.2.2.2.1
theorem dX2_withFactory_38 : decode cX2_withFactory 38 = .ok (.aconst_null, 1) := dX2_withFactory_27g.2.2.2.2.2.1
theorem dX2_withFactory_39 : decode cX2_withFactory 39 = .ok (.areturn, 1) := dX2_withFactory_27g.2.2.2.2.2.2
theorem dX2_ownsFactory_0g : decode cX2_ownsFactory 0 = .ok (.iconst 0, 1) ∧ decode cX2_ownsFactory 1 = .ok (.istore_n 3, 1) ∧ decode cX2_ownsFactory 2 = .ok (.iload_n 3, 1) ∧ decode cX2_ownsFactory 3 = .ok (.aload_n 0, 1) ∧ decode cX2_ownsFactory 4 = .ok (.getfield 38, 3) ∧ decode cX2_ownsFactory 7 = .ok (.if_icmp .ge 25, 3) ∧ decode cX2_ownsFactory 10 = .ok (.aload_n 0, 1) ∧ decode cX2_ownsFactory 11 = .ok (.getfield 21, 3) ∧ decode cX2_ownsFactory 14 = .ok (.iload_n 3, 1) ∧ decode cX2_ownsFactory 15 = .ok (.aaload, 1) ∧ decode cX2_ownsFactory 16 = .ok (.iload_n 1, 1) ∧ decode cX2_ownsFactory 17 = .ok (.iload_n 2, 1) ∧ decode cX2_ownsFactory 18 = .ok (.invokevirtual 56, 3) ∧ decode cX2_ownsFactory 21 = .ok (.ifCond .eq 5, 3) ∧ decode cX2_ownsFactory 24 = .ok (.iconst 1, 1) ∧ decode cX2_ownsFactory 25 = .ok (.ireturn, 1) := by decide +kernel
theorem dX2_ownsFactory_0 : decode cX2_ownsFactory 0 = .ok (.iconst 0, 1) := dX2_ownsFactory_0g.1
theorem dX2_ownsFactory_1 : decode cX2_ownsFactory 1 = .ok (.istore_n 3, 1) := dX2_ownsFactory_0g.2.1
theorem dX2_ownsFactory_2 : decode cX2_ownsFactory 2 = .ok (.iload_n 3, 1) := dX2_ownsFactory_0g.2.2.1
theorem dX2_ownsFactory_3 : decode cX2_ownsFactory 3 = .ok (.aload_n 0, 1) := dX2_ownsFactory_0g.2.2.2.1
theorem dX2_ownsFactory_4 : decode cX2_ownsFactory 4 = .ok (.getfield 38, 3) := dX2_ownsFactory_0g.2.2.2.2.1
theorem dX2_ownsFactory_7 : decode cX2_ownsFactory 7 = .ok (.if_icmp .ge 25, 3) := dX2_ownsFactory_0g.2.2.2.2.2.1
theorem dX2_ownsFactory_10 : decode cX2_ownsFactory 10 = .ok (.aload_n 0, 1) := dX2_ownsFactory_0g.2.2.2.2.2.2.1
theorem dX2_ownsFactory_11 : decode cX2_ownsFactory 11 = .ok (.getfield 21, 3) := dX2_ownsFactory_0g.2.2.2.2.2.2.2.1
theorem dX2_ownsFactory_14 : decode cX2_ownsFactory 14 = .ok (.iload_n 3, 1) := dX2_ownsFactory_0g.2.2.2.2.2.2.2.2.1
theorem dX2_ownsFactory_15 : decode cX2_ownsFactory 15 = .ok (.aaload, 1) := dX2_ownsFactory_0g.2.2.2.2.2.2.2.2.2.1
theorem dX2_ownsFactory_16 : decode cX2_ownsFactory 16 = .ok (.iload_n 1, 1) := dX2_ownsFactory_0g.2.2.2.2.2.2.2.2.2.2.1
theorem dX2_ownsFactory_17 : decode cX2_ownsFactory 17 = .ok (.iload_n 2, 1) := dX2_ownsFactory_0g.2.2.2.2.2.2.2.2.2.2.2.1
theorem dX2_ownsFactory_18 : decode cX2_ownsFactory 18 = .ok (.invokevirtual 56, 3) := dX2_ownsFactory_0g.2.2.2.2.2.2.2.2.2.2.2.2.1
theorem dX2_ownsFactory_21 : decode cX2_ownsFactory 21 = .ok (.ifCond .eq 5, 3) := dX2_ownsFactory_0g.2.2.2.2.2.2.2.2.2.2.2.2.2.1
theorem dX2_ownsFactory_24 : decode cX2_ownsFactory 24 = .ok (.iconst 1, 1) := dX2_ownsFactory_0g.2.2.2.2.2.2.2.2.2.2.2.2.2.2.1
theorem dX2_ownsFactory_25 : decode cX2_ownsFactory 25 = .ok (.ireturn, 1) := dX2_ownsFactory_0g.2.2.2.2.2.2.2.2.2.2.2.2.2.2.2
theorem dX2_ownsFactory_26g : decode cX2_ownsFactory 26 = .ok (.iinc 3 1, 3) ∧ decode cX2_ownsFactory 29 = .ok (.goto (-27), 3) ∧ decode cX2_ownsFactory 32 = .ok (.iconst 0, 1) ∧ decode cX2_ownsFactory 33 = .ok (.ireturn, 1) := by decide +kernel
theorem dX2_ownsFactory_26 : decode cX2_ownsFactory 26 = .ok (.iinc 3 1, 3) := dX2_ownsFactory_26g.1
theorem dX2_ownsFactory_29 : decode cX2_ownsFactory 29 = .ok (.goto (-27), 3) := dX2_ownsFactory_26g.2.1
theorem dX2_ownsFactory_32 : decode cX2_ownsFactory 32 = .ok (.iconst 0, 1) := dX2_ownsFactory_26g.2.2.1
theorem dX2_ownsFactory_33 : decode cX2_ownsFactory 33 = .ok (.ireturn, 1) := dX2_ownsFactory_26g.2.2.2
theorem dX2_stepsTo_0g : decode cX2_stepsTo 0 = .ok (.aload_n 0, 1) ∧ decode cX2_stepsTo 1 = .ok (.astore_n 2, 1) ∧ decode cX2_stepsTo 2 = .ok (.iconst 0, 1) ∧ decode cX2_stepsTo 3 = .ok (.istore_n 3, 1) ∧ decode cX2_stepsTo 4 = .ok (.iload_n 3, 1) ∧ decode cX2_stepsTo 5 = .ok (.bipush 8, 2) ∧ decode cX2_stepsTo 7 = .ok (.if_icmp .ge 28, 3) ∧ decode cX2_stepsTo 10 = .ok (.aload_n 2, 1) ∧ decode cX2_stepsTo 11 = .ok (.ifnull 24, 3) ∧ decode cX2_stepsTo 14 = .ok (.aload_n 2, 1) ∧ decode cX2_stepsTo 15 = .ok (.getfield 9, 3) ∧ decode cX2_stepsTo 18 = .ok (.iload_n 1, 1) ∧ decode cX2_stepsTo 19 = .ok (.if_icmp .ne 5, 3) ∧ decode cX2_stepsTo 22 = .ok (.iload_n 3, 1) ∧ decode cX2_stepsTo 23 = .ok (.ireturn, 1) ∧ decode cX2_stepsTo 24 = .ok (.aload_n 2, 1) := by decide +kernel
theorem dX2_stepsTo_0 : decode cX2_stepsTo 0 = .ok (.aload_n 0, 1) := dX2_stepsTo_0g.1
theorem dX2_stepsTo_1 : decode cX2_stepsTo 1 = .ok (.astore_n 2, 1) := dX2_stepsTo_0g.2.1
theorem dX2_stepsTo_2 : decode cX2_stepsTo 2 = .ok (.iconst 0, 1) := dX2_stepsTo_0g.2.2.1
theorem dX2_stepsTo_3 : decode cX2_stepsTo 3 = .ok (.istore_n 3, 1) := dX2_stepsTo_0g.2.2.2.1
theorem dX2_stepsTo_4 : decode cX2_stepsTo 4 = .ok (.iload_n 3, 1) := dX2_stepsTo_0g.2.2.2.2.1
theorem dX2_stepsTo_5 : decode cX2_stepsTo 5 = .ok (.bipush 8, 2) := dX2_stepsTo_0g.2.2.2.2.2.1
theorem dX2_stepsTo_7 : decode cX2_stepsTo 7 = .ok (.if_icmp .ge 28, 3) := dX2_stepsTo_0g.2.2.2.2.2.2.1
theorem dX2_stepsTo_10 : decode cX2_stepsTo 10 = .ok (.aload_n 2, 1) := dX2_stepsTo_0g.2.2.2.2.2.2.2.1
theorem dX2_stepsTo_11 : decode cX2_stepsTo 11 = .ok (.ifnull 24, 3) := dX2_stepsTo_0g.2.2.2.2.2.2.2.2.1
theorem dX2_stepsTo_14 : decode cX2_stepsTo 14 = .ok (.aload_n 2, 1) := dX2_stepsTo_0g.2.2.2.2.2.2.2.2.2.1
theorem dX2_stepsTo_15 : decode cX2_stepsTo 15 = .ok (.getfield 9, 3) := dX2_stepsTo_0g.2.2.2.2.2.2.2.2.2.2.1
theorem dX2_stepsTo_18 : decode cX2_stepsTo 18 = .ok (.iload_n 1, 1) := dX2_stepsTo_0g.2.2.2.2.2.2.2.2.2.2.2.1
theorem dX2_stepsTo_19 : decode cX2_stepsTo 19 = .ok (.if_icmp .ne 5, 3) := dX2_stepsTo_0g.2.2.2.2.2.2.2.2.2.2.2.2.1
theorem dX2_stepsTo_22 : decode cX2_stepsTo 22 = .ok (.iload_n 3, 1) := dX2_stepsTo_0g.2.2.2.2.2.2.2.2.2.2.2.2.2.1
theorem dX2_stepsTo_23 : decode cX2_stepsTo 23 = .ok (.ireturn, 1) := dX2_stepsTo_0g.2.2.2.2.2.2.2.2.2.2.2.2.2.2.1
theorem dX2_stepsTo_24 : decode cX2_stepsTo 24 = .ok (.aload_n 2, 1) := dX2_stepsTo_0g.2.2.2.2.2.2.2.2.2.2.2.2.2.2.2
theorem dX2_stepsTo_25g : decode cX2_stepsTo 25 = .ok (.getfield 31, 3) ∧ decode cX2_stepsTo 28 = .ok (.astore_n 2, 1) ∧ decode cX2_stepsTo 29 = .ok (.iinc 3 1, 3) ∧ decode cX2_stepsTo 32 = .ok (.goto (-28), 3) ∧ decode cX2_stepsTo 35 = .ok (.iconst (-1), 1) ∧ decode cX2_stepsTo 36 = .ok (.ireturn, 1) := by decide +kernel
theorem dX2_stepsTo_25 : decode cX2_stepsTo 25 = .ok (.getfield 31, 3) := dX2_stepsTo_25g.1
theorem dX2_stepsTo_28 : decode cX2_stepsTo 28 = .ok (.astore_n 2, 1) := dX2_stepsTo_25g.2.1
theorem dX2_stepsTo_29 : decode cX2_stepsTo 29 = .ok (.iinc 3 1, 3) := dX2_stepsTo_25g.2.2.1
theorem dX2_stepsTo_32 : decode cX2_stepsTo 32 = .ok (.goto (-28), 3) := dX2_stepsTo_25g.2.2.2.1
theorem dX2_stepsTo_35 : decode cX2_stepsTo 35 = .ok (.iconst (-1), 1) := dX2_stepsTo_25g.2.2.2.2.1
theorem dX2_stepsTo_36 : decode cX2_stepsTo 36 = .ok (.ireturn, 1) := dX2_stepsTo_25g.2.2.2.2.2
theorem dX3_begin_0g : decode cX3_begin 0 = .ok (.aload_n 0, 1) ∧ decode cX3_begin 1 = .ok (.iconst 0, 1) ∧ decode cX3_begin 2 = .ok (.putfield 15, 3) ∧ decode cX3_begin 5 = .ok (.aload_n 0, 1) ∧ decode cX3_begin 6 = .ok (.iconst 0, 1) ∧ decode cX3_begin 7 = .ok (.putfield 19, 3) ∧ decode cX3_begin 10 = .ok (.aload_n 0, 1) ∧ decode cX3_begin 11 = .ok (.iload_n 1, 1) ∧ decode cX3_begin 12 = .ok (.putfield 22, 3) ∧ decode cX3_begin 15 = .ok (.aload_n 0, 1) ∧ decode cX3_begin 16 = .ok (.aconst_null, 1) ∧ decode cX3_begin 17 = .ok (.putfield 25, 3) ∧ decode cX3_begin 20 = .ok (.aload_n 0, 1) ∧ decode cX3_begin 21 = .ok (.aload_n 2, 1) ∧ decode cX3_begin 22 = .ok (.putfield 29, 3) ∧ decode cX3_begin 25 = .ok (.aload_n 0, 1) := by decide +kernel
theorem dX3_begin_0 : decode cX3_begin 0 = .ok (.aload_n 0, 1) := dX3_begin_0g.1
theorem dX3_begin_1 : decode cX3_begin 1 = .ok (.iconst 0, 1) := dX3_begin_0g.2.1
theorem dX3_begin_2 : decode cX3_begin 2 = .ok (.putfield 15, 3) := dX3_begin_0g.2.2.1
theorem dX3_begin_5 : decode cX3_begin 5 = .ok (.aload_n 0, 1) := dX3_begin_0g.2.2.2.1
theorem dX3_begin_6 : decode cX3_begin 6 = .ok (.iconst 0, 1) := dX3_begin_0g.2.2.2.2.1
theorem dX3_begin_7 : decode cX3_begin 7 = .ok (.putfield 19, 3) := dX3_begin_0g.2.2.2.2.2.1
theorem dX3_begin_10 : decode cX3_begin 10 = .ok (.aload_n 0, 1) := dX3_begin_0g.2.2.2.2.2.2.1
theorem dX3_begin_11 : decode cX3_begin 11 = .ok (.iload_n 1, 1) := dX3_begin_0g.2.2.2.2.2.2.2.1
theorem dX3_begin_12 : decode cX3_begin 12 = .ok (.putfield 22, 3) := dX3_begin_0g.2.2.2.2.2.2.2.2.1
theorem dX3_begin_15 : decode cX3_begin 15 = .ok (.aload_n 0, 1) := dX3_begin_0g.2.2.2.2.2.2.2.2.2.1
theorem dX3_begin_16 : decode cX3_begin 16 = .ok (.aconst_null, 1) := dX3_begin_0g.2.2.2.2.2.2.2.2.2.2.1
theorem dX3_begin_17 : decode cX3_begin 17 = .ok (.putfield 25, 3) := dX3_begin_0g.2.2.2.2.2.2.2.2.2.2.2.1
theorem dX3_begin_20 : decode cX3_begin 20 = .ok (.aload_n 0, 1) := dX3_begin_0g.2.2.2.2.2.2.2.2.2.2.2.2.1
theorem dX3_begin_21 : decode cX3_begin 21 = .ok (.aload_n 2, 1) := dX3_begin_0g.2.2.2.2.2.2.2.2.2.2.2.2.2.1
theorem dX3_begin_22 : decode cX3_begin 22 = .ok (.putfield 29, 3) := dX3_begin_0g.2.2.2.2.2.2.2.2.2.2.2.2.2.2.1
theorem dX3_begin_25 : decode cX3_begin 25 = .ok (.aload_n 0, 1) := dX3_begin_0g.2.2.2.2.2.2.2.2.2.2.2.2.2.2.2
theorem dX3_begin_26g : decode cX3_begin 26 = .ok (.aconst_null, 1) ∧ decode cX3_begin 27 = .ok (.putfield 33, 3) ∧ decode cX3_begin 30 = .ok (.aload_n 0, 1) ∧ decode cX3_begin 31 = .ok (.aconst_null, 1) ∧ decode cX3_begin 32 = .ok (.putfield 36, 3) ∧ decode cX3_begin 35 = .ok (.aload_n 0, 1) ∧ decode cX3_begin 36 = .ok (.iconst 0, 1) ∧ decode cX3_begin 37 = .ok (.putfield 39, 3) ∧ decode cX3_begin 40 = .ok (.aload_n 0, 1) ∧ decode cX3_begin 41 = .ok (.iload_n 3, 1) ∧ decode cX3_begin 42 = .ok (.putfield 42, 3) ∧ decode cX3_begin 45 = .ok (.aload_n 0, 1) ∧ decode cX3_begin 46 = .ok (.iconst 0, 1) ∧ decode cX3_begin 47 = .ok (.putfield 45, 3) ∧ decode cX3_begin 50 = .ok (.aload_n 0, 1) ∧ decode cX3_begin 51 = .ok (.invokevirtual 48, 3) := by decide +kernel
theorem dX3_begin_26 : decode cX3_begin 26 = .ok (.aconst_null, 1) := dX3_begin_26g.1
theorem dX3_begin_27 : decode cX3_begin 27 = .ok (.putfield 33, 3) := dX3_begin_26g.2.1
theorem dX3_begin_30 : decode cX3_begin 30 = .ok (.aload_n 0, 1) := dX3_begin_26g.2.2.1
theorem dX3_begin_31 : decode cX3_begin 31 = .ok (.aconst_null, 1) := dX3_begin_26g.2.2.2.1
theorem dX3_begin_32 : decode cX3_begin 32 = .ok (.putfield 36, 3) := dX3_begin_26g.2.2.2.2.1
theorem dX3_begin_35 : decode cX3_begin 35 = .ok (.aload_n 0, 1) := dX3_begin_26g.2.2.2.2.2.1
theorem dX3_begin_36 : decode cX3_begin 36 = .ok (.iconst 0, 1) := dX3_begin_26g.2.2.2.2.2.2.1
theorem dX3_begin_37 : decode cX3_begin 37 = .ok (.putfield 39, 3) := dX3_begin_26g.2.2.2.2.2.2.2.1
theorem dX3_begin_40 : decode cX3_begin 40 = .ok (.aload_n 0, 1) := dX3_begin_26g.2.2.2.2.2.2.2.2.1
theorem dX3_begin_41 : decode cX3_begin 41 = .ok (.iload_n 3, 1) := dX3_begin_26g.2.2.2.2.2.2.2.2.2.1
theorem dX3_begin_42 : decode cX3_begin 42 = .ok (.putfield 42, 3) := dX3_begin_26g.2.2.2.2.2.2.2.2.2.2.1
theorem dX3_begin_45 : decode cX3_begin 45 = .ok (.aload_n 0, 1) := dX3_begin_26g.2.2.2.2.2.2.2.2.2.2.2.1
theorem dX3_begin_46 : decode cX3_begin 46 = .ok (.iconst 0, 1) := dX3_begin_26g.2.2.2.2.2.2.2.2.2.2.2.2.1
theorem dX3_begin_47 : decode cX3_begin 47 = .ok (.putfield 45, 3) := dX3_begin_26g.2.2.2.2.2.2.2.2.2.2.2.2.2.1
theorem dX3_begin_50 : decode cX3_begin 50 = .ok (.aload_n 0, 1) := dX3_begin_26g.2.2.2.2.2.2.2.2.2.2.2.2.2.2.1
theorem dX3_begin_51 : decode cX3_begin 51 = .ok (.invokevirtual 48, 3) := dX3_begin_26g.2.2.2.2.2.2.2.2.2.2.2.2.2.2.2
theorem dX3_begin_54 : decode cX3_begin 54 = .ok (.return_, 1) := by decide +kernel
theorem dX3_forgetWiring_0g : decode cX3_forgetWiring 0 = .ok (.aload_n 0, 1) ∧ decode cX3_forgetWiring 1 = .ok (.lconst 0, 1) ∧ decode cX3_forgetWiring 2 = .ok (.putfield 51, 3) ∧ decode cX3_forgetWiring 5 = .ok (.aload_n 0, 1) ∧ decode cX3_forgetWiring 6 = .ok (.lconst 0, 1) ∧ decode cX3_forgetWiring 7 = .ok (.putfield 55, 3) ∧ decode cX3_forgetWiring 10 = .ok (.aload_n 0, 1) ∧ decode cX3_forgetWiring 11 = .ok (.ldc2_w 58, 3) ∧ decode cX3_forgetWiring 14 = .ok (.putfield 60, 3) ∧ decode cX3_forgetWiring 17 = .ok (.aload_n 0, 1) ∧ decode cX3_forgetWiring 18 = .ok (.iconst (-1), 1) ∧ decode cX3_forgetWiring 19 = .ok (.putfield 63, 3) ∧ decode cX3_forgetWiring 22 = .ok (.aload_n 0, 1) ∧ decode cX3_forgetWiring 23 = .ok (.iconst (-1), 1) ∧ decode cX3_forgetWiring 24 = .ok (.putfield 66, 3) ∧ decode cX3_forgetWiring 27 = .ok (.aload_n 0, 1) := by decide +kernel
theorem dX3_forgetWiring_0 : decode cX3_forgetWiring 0 = .ok (.aload_n 0, 1) := dX3_forgetWiring_0g.1
theorem dX3_forgetWiring_1 : decode cX3_forgetWiring 1 = .ok (.lconst 0, 1) := dX3_forgetWiring_0g.2.1
theorem dX3_forgetWiring_2 : decode cX3_forgetWiring 2 = .ok (.putfield 51, 3) := dX3_forgetWiring_0g.2.2.1
theorem dX3_forgetWiring_5 : decode cX3_forgetWiring 5 = .ok (.aload_n 0, 1) := dX3_forgetWiring_0g.2.2.2.1
theorem dX3_forgetWiring_6 : decode cX3_forgetWiring 6 = .ok (.lconst 0, 1) := dX3_forgetWiring_0g.2.2.2.2.1
theorem dX3_forgetWiring_7 : decode cX3_forgetWiring 7 = .ok (.putfield 55, 3) := dX3_forgetWiring_0g.2.2.2.2.2.1
theorem dX3_forgetWiring_10 : decode cX3_forgetWiring 10 = .ok (.aload_n 0, 1) := dX3_forgetWiring_0g.2.2.2.2.2.2.1
theorem dX3_forgetWiring_11 : decode cX3_forgetWiring 11 = .ok (.ldc2_w 58, 3) := dX3_forgetWiring_0g.2.2.2.2.2.2.2.1
theorem dX3_forgetWiring_14 : decode cX3_forgetWiring 14 = .ok (.putfield 60, 3) := dX3_forgetWiring_0g.2.2.2.2.2.2.2.2.1
theorem dX3_forgetWiring_17 : decode cX3_forgetWiring 17 = .ok (.aload_n 0, 1) := dX3_forgetWiring_0g.2.2.2.2.2.2.2.2.2.1
theorem dX3_forgetWiring_18 : decode cX3_forgetWiring 18 = .ok (.iconst (-1), 1) := dX3_forgetWiring_0g.2.2.2.2.2.2.2.2.2.2.1
theorem dX3_forgetWiring_19 : decode cX3_forgetWiring 19 = .ok (.putfield 63, 3) := dX3_forgetWiring_0g.2.2.2.2.2.2.2.2.2.2.2.1
theorem dX3_forgetWiring_22 : decode cX3_forgetWiring 22 = .ok (.aload_n 0, 1) := dX3_forgetWiring_0g.2.2.2.2.2.2.2.2.2.2.2.2.1
theorem dX3_forgetWiring_23 : decode cX3_forgetWiring 23 = .ok (.iconst (-1), 1) := dX3_forgetWiring_0g.2.2.2.2.2.2.2.2.2.2.2.2.2.1
theorem dX3_forgetWiring_24 : decode cX3_forgetWiring 24 = .ok (.putfield 66, 3) := dX3_forgetWiring_0g.2.2.2.2.2.2.2.2.2.2.2.2.2.2.1
theorem dX3_forgetWiring_27 : decode cX3_forgetWiring 27 = .ok (.aload_n 0, 1) := dX3_forgetWiring_0g.2.2.2.2.2.2.2.2.2.2.2.2.2.2.2
theorem dX3_forgetWiring_28g : decode cX3_forgetWiring 28 = .ok (.iconst (-1), 1) ∧ decode cX3_forgetWiring 29 = .ok (.putfield 69, 3) ∧ decode cX3_forgetWiring 32 = .ok (.aload_n 0, 1) ∧ decode cX3_forgetWiring 33 = .ok (.iconst (-1), 1) ∧ decode cX3_forgetWiring 34 = .ok (.putfield 72, 3) ∧ decode cX3_forgetWiring 37 = .ok (.aload_n 0, 1) ∧ decode cX3_forgetWiring 38 = .ok (.aconst_null, 1) ∧ decode cX3_forgetWiring 39 = .ok (.putfield 75, 3) ∧ decode cX3_forgetWiring 42 = .ok (.aload_n 0, 1) ∧ decode cX3_forgetWiring 43 = .ok (.aconst_null, 1) ∧ decode cX3_forgetWiring 44 = .ok (.putfield 78, 3) ∧ decode cX3_forgetWiring 47 = .ok (.aload_n 0, 1) ∧ decode cX3_forgetWiring 48 = .ok (.aconst_null, 1) ∧ decode cX3_forgetWiring 49 = .ok (.putfield 81, 3) ∧ decode cX3_forgetWiring 52 = .ok (.return_, 1) := by decide +kernel
theorem dX3_forgetWiring_28 : decode cX3_forgetWiring 28 = .ok (.iconst (-1), 1) := dX3_forgetWiring_28g.1
theorem dX3_forgetWiring_29 : decode cX3_forgetWiring 29 = .ok (.putfield 69, 3) := dX3_forgetWiring_28g.2.1
theorem dX3_forgetWiring_32 : decode cX3_forgetWiring 32 = .ok (.aload_n 0, 1) := dX3_forgetWiring_28g.2.2.1
theorem dX3_forgetWiring_33 : decode cX3_forgetWiring 33 = .ok (.iconst (-1), 1) := dX3_forgetWiring_28g.2.2.2.1
theorem dX3_forgetWiring_34 : decode cX3_forgetWiring 34 = .ok (.putfield 72, 3) := dX3_forgetWiring_28g.2.2.2.2.1
theorem dX3_forgetWiring_37 : decode cX3_forgetWiring 37 = .ok (.aload_n 0, 1) := dX3_forgetWiring_28g.2.2.2.2.2.1
theorem dX3_forgetWiring_38 : decode cX3_forgetWiring 38 = .ok (.aconst_null, 1) := dX3_forgetWiring_28g.2.2.2.2.2.2.1
theorem dX3_forgetWiring_39 : decode cX3_forgetWiring 39 = .ok (.putfield 75, 3) := dX3_forgetWiring_28g.2.2.2.2.2.2.2.1
theorem dX3_forgetWiring_42 : decode cX3_forgetWiring 42 = .ok (.aload_n 0, 1) := dX3_forgetWiring_28g.2.2.2.2.2.2.2.2.1
theorem dX3_forgetWiring_43 : decode cX3_forgetWiring 43 = .ok (.aconst_null, 1) := dX3_forgetWiring_28g.2.2.2.2.2.2.2.2.2.1
theorem dX3_forgetWiring_44 : decode cX3_forgetWiring 44 = .ok (.putfield 78, 3) := dX3_forgetWiring_28g.2.2.2.2.2.2.2.2.2.2.1
theorem dX3_forgetWiring_47 : decode cX3_forgetWiring 47 = .ok (.aload_n 0, 1) := dX3_forgetWiring_28g.2.2.2.2.2.2.2.2.2.2.2.1
theorem dX3_forgetWiring_48 : decode cX3_forgetWiring 48 = .ok (.aconst_null, 1) := dX3_forgetWiring_28g.2.2.2.2.2.2.2.2.2.2.2.2.1
theorem dX3_forgetWiring_49 : decode cX3_forgetWiring 49 = .ok (.putfield 81, 3) := dX3_forgetWiring_28g.2.2.2.2.2.2.2.2.2.2.2.2.2.1
theorem dX3_forgetWiring_52 : decode cX3_forgetWiring 52 = .ok (.return_, 1) := dX3_forgetWiring_28g.2.2.2.2.2.2.2.2.2.2.2.2.2.2
theorem dX3_addInner_0g : decode cX3_addInner 0 = .ok (.aload_n 0, 1) ∧ decode cX3_addInner 1 = .ok (.dup, 1) ∧ decode cX3_addInner 2 = .ok (.getfield 39, 3) ∧ decode cX3_addInner 5 = .ok (.iconst 1, 1) ∧ decode cX3_addInner 6 = .ok (.iadd, 1) ∧ decode cX3_addInner 7 = .ok (.putfield 39, 3) ∧ decode cX3_addInner 10 = .ok (.aload_n 0, 1) ∧ decode cX3_addInner 11 = .ok (.getfield 33, 3) ∧ decode cX3_addInner 14 = .ok (.ifnonnull 9, 3) ∧ decode cX3_addInner 17 = .ok (.aload_n 0, 1) ∧ decode cX3_addInner 18 = .ok (.aload_n 1, 1) ∧ decode cX3_addInner 19 = .ok (.putfield 33, 3) ∧ decode cX3_addInner 22 = .ok (.return_, 1) ∧ decode cX3_addInner 23 = .ok (.aload_n 0, 1) ∧ decode cX3_addInner 24 = .ok (.getfield 33, 3) ∧ decode cX3_addInner 27 = .ok (.astore_n 2, 1) := by decide +kernel
theorem dX3_addInner_0 : decode cX3_addInner 0 = .ok (.aload_n 0, 1) := dX3_addInner_0g.1
theorem dX3_addInner_1 : decode cX3_addInner 1 = .ok (.dup, 1) := dX3_addInner_0g.2.1
theorem dX3_addInner_2 : decode cX3_addInner 2 = .ok (.getfield 39, 3) := dX3_addInner_0g.2.2.1
theorem dX3_addInner_5 : decode cX3_addInner 5 = .ok (.iconst 1, 1) := dX3_addInner_0g.2.2.2.1
theorem dX3_addInner_6 : decode cX3_addInner 6 = .ok (.iadd, 1) := dX3_addInner_0g.2.2.2.2.1
theorem dX3_addInner_7 : decode cX3_addInner 7 = .ok (.putfield 39, 3) := dX3_addInner_0g.2.2.2.2.2.1
theorem dX3_addInner_10 : decode cX3_addInner 10 = .ok (.aload_n 0, 1) := dX3_addInner_0g.2.2.2.2.2.2.1
theorem dX3_addInner_11 : decode cX3_addInner 11 = .ok (.getfield 33, 3) := dX3_addInner_0g.2.2.2.2.2.2.2.1
theorem dX3_addInner_14 : decode cX3_addInner 14 = .ok (.ifnonnull 9, 3) := dX3_addInner_0g.2.2.2.2.2.2.2.2.1
theorem dX3_addInner_17 : decode cX3_addInner 17 = .ok (.aload_n 0, 1) := dX3_addInner_0g.2.2.2.2.2.2.2.2.2.1
theorem dX3_addInner_18 : decode cX3_addInner 18 = .ok (.aload_n 1, 1) := dX3_addInner_0g.2.2.2.2.2.2.2.2.2.2.1
theorem dX3_addInner_19 : decode cX3_addInner 19 = .ok (.putfield 33, 3) := dX3_addInner_0g.2.2.2.2.2.2.2.2.2.2.2.1
theorem dX3_addInner_22 : decode cX3_addInner 22 = .ok (.return_, 1) := dX3_addInner_0g.2.2.2.2.2.2.2.2.2.2.2.2.1
theorem dX3_addInner_23 : decode cX3_addInner 23 = .ok (.aload_n 0, 1) := dX3_addInner_0g.2.2.2.2.2.2.2.2.2.2.2.2.2.1
theorem dX3_addInner_24 : decode cX3_addInner 24 = .ok (.getfield 33, 3) := dX3_addInner_0g.2.2.2.2.2.2.2.2.2.2.2.2.2.2.1
theorem dX3_addInner_27 : decode cX3_addInner 27 = .ok (.astore_n 2, 1) := dX3_addInner_0g.2.2.2.2.2.2.2.2.2.2.2.2.2.2.2
theorem dX3_addInner_28g : decode cX3_addInner 28 = .ok (.iconst 0, 1) ∧ decode cX3_addInner 29 = .ok (.istore_n 3, 1) ∧ decode cX3_addInner 30 = .ok (.iload_n 3, 1) ∧ decode cX3_addInner 31 = .ok (.bipush 80, 2) ∧ decode cX3_addInner 33 = .ok (.if_icmp .ge 21, 3) ∧ decode cX3_addInner 36 = .ok (.aload_n 2, 1) ∧ decode cX3_addInner 37 = .ok (.getfield 36, 3) ∧ decode cX3_addInner 40 = .ok (.ifnull 14, 3) ∧ decode cX3_addInner 43 = .ok (.aload_n 2, 1) ∧ decode cX3_addInner 44 = .ok (.getfield 36, 3) ∧ decode cX3_addInner 47 = .ok (.astore_n 2, 1) ∧ decode cX3_addInner 48 = .ok (.iinc 3 1, 3) ∧ decode cX3_addInner 51 = .ok (.goto (-21), 3) ∧ decode cX3_addInner 54 = .ok (.aload_n 2, 1) ∧ decode cX3_addInner 55 = .ok (.aload_n 1, 1) ∧ decode cX3_addInner 56 = .ok (.putfield 36, 3) := by decide +kernel
theorem dX3_addInner_28 : decode cX3_addInner 28 = .ok (.iconst 0, 1) := dX3_addInner_28g.1
theorem dX3_addInner_29 : decode cX3_addInner 29 = .ok (.istore_n 3, 1) := dX3_addInner_28g.2.1
theorem dX3_addInner_30 : decode cX3_addInner 30 = .ok (.iload_n 3, 1) := dX3_addInner_28g.2.2.1
theorem dX3_addInner_31 : decode cX3_addInner 31 = .ok (.bipush 80, 2) := dX3_addInner_28g.2.2.2.1
theorem dX3_addInner_33 : decode cX3_addInner 33 = .ok (.if_icmp .ge 21, 3) := dX3_addInner_28g.2.2.2.2.1
theorem dX3_addInner_36 : decode cX3_addInner 36 = .ok (.aload_n 2, 1) := dX3_addInner_28g.2.2.2.2.2.1
theorem dX3_addInner_37 : decode cX3_addInner 37 = .ok (.getfield 36, 3) := dX3_addInner_28g.2.2.2.2.2.2.1
theorem dX3_addInner_40 : decode cX3_addInner 40 = .ok (.ifnull 14, 3) := dX3_addInner_28g.2.2.2.2.2.2.2.1
theorem dX3_addInner_43 : decode cX3_addInner 43 = .ok (.aload_n 2, 1) := dX3_addInner_28g.2.2.2.2.2.2.2.2.1
theorem dX3_addInner_44 : decode cX3_addInner 44 = .ok (.getfield 36, 3) := dX3_addInner_28g.2.2.2.2.2.2.2.2.2.1
theorem dX3_addInner_47 : decode cX3_addInner 47 = .ok (.astore_n 2, 1) := dX3_addInner_28g.2.2.2.2.2.2.2.2.2.2.1
theorem dX3_addInner_48 : decode cX3_addInner 48 = .ok (.iinc 3 1, 3) := dX3_addInner_28g.2.2.2.2.2.2.2.2.2.2.2.1
theorem dX3_addInner_51 : decode cX3_addInner 51 = .ok (.goto (-21), 3) := dX3_addInner_28g.2.2.2.2.2.2.2.2.2.2.2.2.1
theorem dX3_addInner_54 : decode cX3_addInner 54 = .ok (.aload_n 2, 1) := dX3_addInner_28g.2.2.2.2.2.2.2.2.2.2.2.2.2.1
theorem dX3_addInner_55 : decode cX3_addInner 55 = .ok (.aload_n 1, 1) := dX3_addInner_28g.2.2.2.2.2.2.2.2.2.2.2.2.2.2.1
theorem dX3_addInner_56 : decode cX3_addInner 56 = .ok (.putfield 36, 3) := dX3_addInner_28g.2.2.2.2.2.2.2.2.2.2.2.2.2.2.2
theorem dX3_addInner_59 : decode cX3_addInner 59 = .ok (.return_, 1) := by decide +kernel
theorem dX3_takesText_0g : decode cX3_takesText 0 = .ok (.iload_n 1, 1) ∧ decode cX3_takesText 1 = .ok (.bipush 10, 2) ∧ decode cX3_takesText 3 = .ok (.if_icmp .eq 9, 3) ∧ decode cX3_takesText 6 = .ok (.iload_n 1, 1) ∧ decode cX3_takesText 7 = .ok (.bipush 32, 2) ∧ decode cX3_takesText 9 = .ok (.if_icmp .ne 10, 3) ∧ decode cX3_takesText 12 = .ok (.aload_n 0, 1) ∧ decode cX3_takesText 13 = .ok (.iload_n 1, 1) ∧ decode cX3_takesText 14 = .ok (.invokevirtual 87, 3) ∧ decode cX3_takesText 17 = .ok (.iconst 1, 1) ∧ decode cX3_takesText 18 = .ok (.ireturn, 1) ∧ decode cX3_takesText 19 = .ok (.aload_n 0, 1) ∧ decode cX3_takesText 20 = .ok (.getfield 19, 3) ∧ decode cX3_takesText 23 = .ok (.bipush 24, 2) ∧ decode cX3_takesText 25 = .ok (.if_icmp .lt 5, 3) ∧ decode cX3_takesText 28 = .ok (.iconst 0, 1) := by decide +kernel
theorem dX3_takesText_0 : decode cX3_takesText 0 = .ok (.iload_n 1, 1) := dX3_takesText_0g.1
theorem dX3_takesText_1 : decode cX3_takesText 1 = .ok (.bipush 10, 2) := dX3_takesText_0g.2.1
theorem dX3_takesText_3 : decode cX3_takesText 3 = .ok (.if_icmp .eq 9, 3) := dX3_takesText_0g.2.2.1
theorem dX3_takesText_6 : decode cX3_takesText 6 = .ok (.iload_n 1, 1) := dX3_takesText_0g.2.2.2.1
theorem dX3_takesText_7 : decode cX3_takesText 7 = .ok (.bipush 32, 2) := dX3_takesText_0g.2.2.2.2.1
theorem dX3_takesText_9 : decode cX3_takesText 9 = .ok (.if_icmp .ne 10, 3) := dX3_takesText_0g.2.2.2.2.2.1
theorem dX3_takesText_12 : decode cX3_takesText 12 = .ok (.aload_n 0, 1) := dX3_takesText_0g.2.2.2.2.2.2.1
theorem dX3_takesText_13 : decode cX3_takesText 13 = .ok (.iload_n 1, 1) := dX3_takesText_0g.2.2.2.2.2.2.2.1
theorem dX3_takesText_14 : decode cX3_takesText 14 = .ok (.invokevirtual 87, 3) := dX3_takesText_0g.2.2.2.2.2.2.2.2.1
theorem dX3_takesText_17 : decode cX3_takesText 17 = .ok (.iconst 1, 1) := dX3_takesText_0g.2.2.2.2.2.2.2.2.2.1
theorem dX3_takesText_18 : decode cX3_takesText 18 = .ok (.ireturn, 1) := dX3_takesText_0g.2.2.2.2.2.2.2.2.2.2.1
theorem dX3_takesText_19 : decode cX3_takesText 19 = .ok (.aload_n 0, 1) := dX3_takesText_0g.2.2.2.2.2.2.2.2.2.2.2.1
theorem dX3_takesText_20 : decode cX3_takesText 20 = .ok (.getfield 19, 3) := dX3_takesText_0g.2.2.2.2.2.2.2.2.2.2.2.2.1
theorem dX3_takesText_23 : decode cX3_takesText 23 = .ok (.bipush 24, 2) := dX3_takesText_0g.2.2.2.2.2.2.2.2.2.2.2.2.2.1
theorem dX3_takesText_25 : decode cX3_takesText 25 = .ok (.if_icmp .lt 5, 3) := dX3_takesText_0g.2.2.2.2.2.2.2.2.2.2.2.2.2.2.1
theorem dX3_takesText_28 : decode cX3_takesText 28 = .ok (.iconst 0, 1) := dX3_takesText_0g.2.2.2.2.2.2.2.2.2.2.2.2.2.2.2
theorem dX3_takesText_29g : decode cX3_takesText 29 = .ok (.ireturn, 1) ∧ decode cX3_takesText 30 = .ok (.aload_n 0, 1) ∧ decode cX3_takesText 31 = .ok (.getfield 11, 3) ∧ decode cX3_takesText 34 = .ok (.aload_n 0, 1) ∧ decode cX3_takesText 35 = .ok (.getfield 19, 3) ∧ decode cX3_takesText 38 = .ok (.iload_n 1, 1) ∧ decode cX3_takesText 39 = .ok (.castore, 1) ∧ decode cX3_takesText 40 = .ok (.aload_n 0, 1) ∧ decode cX3_takesText 41 = .ok (.dup, 1) ∧ decode cX3_takesText 42 = .ok (.getfield 19, 3) ∧ decode cX3_takesText 45 = .ok (.iconst 1, 1) ∧ decode cX3_takesText 46 = .ok (.iadd, 1) ∧ decode cX3_takesText 47 = .ok (.putfield 19, 3) ∧ decode cX3_takesText 50 = .ok (.aload_n 0, 1) ∧ decode cX3_takesText 51 = .ok (.aload_n 0, 1) ∧ decode cX3_takesText 52 = .ok (.getfield 19, 3) := by decide +kernel
theorem dX3_takesText_29 : decode cX3_takesText 29 = .ok (.ireturn, 1) := dX3_takesText_29g.1
theorem dX3_takesText_30 : decode cX3_takesText 30 = .ok (.aload_n 0, 1) := dX3_takesText_29g.2.1
theorem dX3_takesText_31 : decode cX3_takesText 31 = .ok (.getfield 11, 3) := dX3_takesText_29g.2.2.1
theorem dX3_takesText_34 : decode cX3_takesText 34 = .ok (.aload_n 0, 1) := dX3_takesText_29g.2.2.2.1
theorem dX3_takesText_35 : decode cX3_takesText 35 = .ok (.getfield 19, 3) := dX3_takesText_29g.2.2.2.2.1
theorem dX3_takesText_38 : decode cX3_takesText 38 = .ok (.iload_n 1, 1) := dX3_takesText_29g.2.2.2.2.2.1
theorem dX3_takesText_39 : decode cX3_takesText 39 = .ok (.castore, 1) := dX3_takesText_29g.2.2.2.2.2.2.1
theorem dX3_takesText_40 : decode cX3_takesText 40 = .ok (.aload_n 0, 1) := dX3_takesText_29g.2.2.2.2.2.2.2.1
theorem dX3_takesText_41 : decode cX3_takesText 41 = .ok (.dup, 1) := dX3_takesText_29g.2.2.2.2.2.2.2.2.1
theorem dX3_takesText_42 : decode cX3_takesText 42 = .ok (.getfield 19, 3) := dX3_takesText_29g.2.2.2.2.2.2.2.2.2.1
theorem dX3_takesText_45 : decode cX3_takesText 45 = .ok (.iconst 1, 1) := dX3_takesText_29g.2.2.2.2.2.2.2.2.2.2.1
theorem dX3_takesText_46 : decode cX3_takesText 46 = .ok (.iadd, 1) := dX3_takesText_29g.2.2.2.2.2.2.2.2.2.2.2.1
theorem dX3_takesText_47 : decode cX3_takesText 47 = .ok (.putfield 19, 3) := dX3_takesText_29g.2.2.2.2.2.2.2.2.2.2.2.2.1
theorem dX3_takesText_50 : decode cX3_takesText 50 = .ok (.aload_n 0, 1) := dX3_takesText_29g.2.2.2.2.2.2.2.2.2.2.2.2.2.1
theorem dX3_takesText_51 : decode cX3_takesText 51 = .ok (.aload_n 0, 1) := dX3_takesText_29g.2.2.2.2.2.2.2.2.2.2.2.2.2.2.1
theorem dX3_takesText_52 : decode cX3_takesText 52 = .ok (.getfield 19, 3) := dX3_takesText_29g.2.2.2.2.2.2.2.2.2.2.2.2.2.2.2
theorem dX3_takesText_55g : decode cX3_takesText 55 = .ok (.putfield 15, 3) ∧ decode cX3_takesText 58 = .ok (.iconst 1, 1) ∧ decode cX3_takesText 59 = .ok (.ireturn, 1) := by decide +kernel
theorem dX3_takesText_55 : decode cX3_takesText 55 = .ok (.putfield 15, 3) := dX3_takesText_55g.1
theorem dX3_takesText_58 : decode cX3_takesText 58 = .ok (.iconst 1, 1) := dX3_takesText_55g.2.1
theorem dX3_takesText_59 : decode cX3_takesText 59 = .ok (.ireturn, 1) := dX3_takesText_55g.2.2
theorem dX3_takeWhite_0g : decode cX3_takeWhite 0 = .ok (.aload_n 0, 1) ∧ decode cX3_takeWhite 1 = .ok (.getfield 15, 3) ∧ decode cX3_takeWhite 4 = .ok (.ifCond .ne 4, 3) ∧ decode cX3_takeWhite 7 = .ok (.return_, 1) ∧ decode cX3_takeWhite 8 = .ok (.aload_n 0, 1) ∧ decode cX3_takeWhite 9 = .ok (.getfield 19, 3) ∧ decode cX3_takeWhite 12 = .ok (.bipush 24, 2) ∧ decode cX3_takeWhite 14 = .ok (.if_icmp .ge 13, 3) ∧ decode cX3_takeWhite 17 = .ok (.aload_n 0, 1) ∧ decode cX3_takeWhite 18 = .ok (.getfield 11, 3) ∧ decode cX3_takeWhite 21 = .ok (.aload_n 0, 1) ∧ decode cX3_takeWhite 22 = .ok (.getfield 19, 3) ∧ decode cX3_takeWhite 25 = .ok (.iload_n 1, 1) ∧ decode cX3_takeWhite 26 = .ok (.castore, 1) ∧ decode cX3_takeWhite 27 = .ok (.aload_n 0, 1) ∧ decode cX3_takeWhite 28 = .ok (.dup, 1) := by decide +kernel
theorem dX3_takeWhite_0 : decode cX3_takeWhite 0 = .ok (.aload_n 0, 1) := dX3_takeWhite_0g.1
theorem dX3_takeWhite_1 : decode cX3_takeWhite 1 = .ok (.getfield 15, 3) := dX3_takeWhite_0g.2.1
theorem dX3_takeWhite_4 : decode cX3_takeWhite 4 = .ok (.ifCond .ne 4, 3) := dX3_takeWhite_0g.2.2.1
theorem dX3_takeWhite_7 : decode cX3_takeWhite 7 = .ok (.return_, 1) := dX3_takeWhite_0g.2.2.2.1
theorem dX3_takeWhite_8 : decode cX3_takeWhite 8 = .ok (.aload_n 0, 1) := dX3_takeWhite_0g.2.2.2.2.1
theorem dX3_takeWhite_9 : decode cX3_takeWhite 9 = .ok (.getfield 19, 3) := dX3_takeWhite_0g.2.2.2.2.2.1
theorem dX3_takeWhite_12 : decode cX3_takeWhite 12 = .ok (.bipush 24, 2) := dX3_takeWhite_0g.2.2.2.2.2.2.1
theorem dX3_takeWhite_14 : decode cX3_takeWhite 14 = .ok (.if_icmp .ge 13, 3) := dX3_takeWhite_0g.2.2.2.2.2.2.2.1
theorem dX3_takeWhite_17 : decode cX3_takeWhite 17 = .ok (.aload_n 0, 1) := dX3_takeWhite_0g.2.2.2.2.2.2.2.2.1
theorem dX3_takeWhite_18 : decode cX3_takeWhite 18 = .ok (.getfield 11, 3) := dX3_takeWhite_0g.2.2.2.2.2.2.2.2.2.1
theorem dX3_takeWhite_21 : decode cX3_takeWhite 21 = .ok (.aload_n 0, 1) := dX3_takeWhite_0g.2.2.2.2.2.2.2.2.2.2.1
theorem dX3_takeWhite_22 : decode cX3_takeWhite 22 = .ok (.getfield 19, 3) := dX3_takeWhite_0g.2.2.2.2.2.2.2.2.2.2.2.1
theorem dX3_takeWhite_25 : decode cX3_takeWhite 25 = .ok (.iload_n 1, 1) := dX3_takeWhite_0g.2.2.2.2.2.2.2.2.2.2.2.2.1
theorem dX3_takeWhite_26 : decode cX3_takeWhite 26 = .ok (.castore, 1) := dX3_takeWhite_0g.2.2.2.2.2.2.2.2.2.2.2.2.2.1
theorem dX3_takeWhite_27 : decode cX3_takeWhite 27 = .ok (.aload_n 0, 1) := dX3_takeWhite_0g.2.2.2.2.2.2.2.2.2.2.2.2.2.2.1
theorem dX3_takeWhite_28 : decode cX3_takeWhite 28 = .ok (.dup, 1) := dX3_takeWhite_0g.2.2.2.2.2.2.2.2.2.2.2.2.2.2.2
theorem dX3_takeWhite_29g : decode cX3_takeWhite 29 = .ok (.getfield 19, 3) ∧ decode cX3_takeWhite 32 = .ok (.iconst 1, 1) ∧ decode cX3_takeWhite 33 = .ok (.iadd, 1) ∧ decode cX3_takeWhite 34 = .ok (.putfield 19, 3) ∧ decode cX3_takeWhite 37 = .ok (.return_, 1) := by decide +kernel
theorem dX3_takeWhite_29 : decode cX3_takeWhite 29 = .ok (.getfield 19, 3) := dX3_takeWhite_29g.1
theorem dX3_takeWhite_32 : decode cX3_takeWhite 32 = .ok (.iconst 1, 1) := dX3_takeWhite_29g.2.1
theorem dX3_takeWhite_33 : decode cX3_takeWhite 33 = .ok (.iadd, 1) := dX3_takeWhite_29g.2.2.1
theorem dX3_takeWhite_34 : decode cX3_takeWhite 34 = .ok (.putfield 19, 3) := dX3_takeWhite_29g.2.2.2.1
theorem dX3_takeWhite_37 : decode cX3_takeWhite 37 = .ok (.return_, 1) := dX3_takeWhite_29g.2.2.2.2
theorem dX3_isIn_0g : decode cX3_isIn 0 = .ok (.aload_n 0, 1) ∧ decode cX3_isIn 1 = .ok (.getfield 29, 3) ∧ decode cX3_isIn 4 = .ok (.ifnull 18, 3) ∧ decode cX3_isIn 7 = .ok (.aload_n 0, 1) ∧ decode cX3_isIn 8 = .ok (.getfield 29, 3) ∧ decode cX3_isIn 11 = .ok (.getfield 25, 3) ∧ decode cX3_isIn 14 = .ok (.aload_n 1, 1) ∧ decode cX3_isIn 15 = .ok (.if_acmp .ne 7, 3) ∧ decode cX3_isIn 18 = .ok (.iconst 1, 1) ∧ decode cX3_isIn 19 = .ok (.goto 4, 3) ∧ decode cX3_isIn 22 = .ok (.iconst 0, 1) ∧ decode cX3_isIn 23 = .ok (.ireturn, 1) := by decide +kernel
theorem dX3_isIn_0 : decode cX3_isIn 0 = .ok (.aload_n 0, 1) := dX3_isIn_0g.1
theorem dX3_isIn_1 : decode cX3_isIn 1 = .ok (.getfield 29, 3) := dX3_isIn_0g.2.1
theorem dX3_isIn_4 : decode cX3_isIn 4 = .ok (.ifnull 18, 3) := dX3_isIn_0g.2.2.1
theorem dX3_isIn_7 : decode cX3_isIn 7 = .ok (.aload_n 0, 1) := dX3_isIn_0g.2.2.2.1
theorem dX3_isIn_8 : decode cX3_isIn 8 = .ok (.getfield 29, 3) := dX3_isIn_0g.2.2.2.2.1
theorem dX3_isIn_11 : decode cX3_isIn 11 = .ok (.getfield 25, 3) := dX3_isIn_0g.2.2.2.2.2.1
theorem dX3_isIn_14 : decode cX3_isIn 14 = .ok (.aload_n 1, 1) := dX3_isIn_0g.2.2.2.2.2.2.1
theorem dX3_isIn_15 : decode cX3_isIn 15 = .ok (.if_acmp .ne 7, 3) := dX3_isIn_0g.2.2.2.2.2.2.2.1
theorem dX3_isIn_18 : decode cX3_isIn 18 = .ok (.iconst 1, 1) := dX3_isIn_0g.2.2.2.2.2.2.2.2.1
theorem dX3_isIn_19 : decode cX3_isIn 19 = .ok (.goto 4, 3) := dX3_isIn_0g.2.2.2.2.2.2.2.2.2.1
theorem dX3_isIn_22 : decode cX3_isIn 22 = .ok (.iconst 0, 1) := dX3_isIn_0g.2.2.2.2.2.2.2.2.2.2.1
theorem dX3_isIn_23 : decode cX3_isIn 23 = .ok (.ireturn, 1) := dX3_isIn_0g.2.2.2.2.2.2.2.2.2.2.2
theorem dX3_weighText_0g : decode cX3_weighText 0 = .ok (.aload_n 0, 1) ∧ decode cX3_weighText 1 = .ok (.aload_n 0, 1) ∧ decode cX3_weighText 2 = .ok (.invokevirtual 91, 3) ∧ decode cX3_weighText 5 = .ok (.putfield 60, 3) ∧ decode cX3_weighText 8 = .ok (.aload_n 0, 1) ∧ decode cX3_weighText 9 = .ok (.ldc 95, 2) ∧ decode cX3_weighText 11 = .ok (.invokevirtual 97, 3) ∧ decode cX3_weighText 14 = .ok (.ifCond .eq 11, 3) ∧ decode cX3_weighText 17 = .ok (.aload_n 0, 1) ∧ decode cX3_weighText 18 = .ok (.iconst 1, 1) ∧ decode cX3_weighText 19 = .ok (.putfield 63, 3) ∧ decode cX3_weighText 22 = .ok (.goto 21, 3) ∧ decode cX3_weighText 25 = .ok (.aload_n 0, 1) ∧ decode cX3_weighText 26 = .ok (.aload_n 0, 1) ∧ decode cX3_weighText 27 = .ok (.ldc 101, 2) ∧ decode cX3_weighText 29 = .ok (.invokevirtual 97, 3) := by decide +kernel
theorem dX3_weighText_0 : decode cX3_weighText 0 = .ok (.aload_n 0, 1) := dX3_weighText_0g.1
theorem dX3_weighText_1 : decode cX3_weighText 1 = .ok (.aload_n 0, 1) := dX3_weighText_0g.2.1
theorem dX3_weighText_2 : decode cX3_weighText 2 = .ok (.invokevirtual 91, 3) := dX3_weighText_0g.2.2.1
theorem dX3_weighText_5 : decode cX3_weighText 5 = .ok (.putfield 60, 3) := dX3_weighText_0g.2.2.2.1
theorem dX3_weighText_8 : decode cX3_weighText 8 = .ok (.aload_n 0, 1) := dX3_weighText_0g.2.2.2.2.1
theorem dX3_weighText_9 : decode cX3_weighText 9 = .ok (.ldc 95, 2) := dX3_weighText_0g.2.2.2.2.2.1
theorem dX3_weighText_11 : decode cX3_weighText 11 = .ok (.invokevirtual 97, 3) := dX3_weighText_0g.2.2.2.2.2.2.1
theorem dX3_weighText_14 : decode cX3_weighText 14 = .ok (.ifCond .eq 11, 3) := dX3_weighText_0g.2.2.2.2.2.2.2.1
theorem dX3_weighText_17 : decode cX3_weighText 17 = .ok (.aload_n 0, 1) := dX3_weighText_0g.2.2.2.2.2.2.2.2.1
theorem dX3_weighText_18 : decode cX3_weighText 18 = .ok (.iconst 1, 1) := dX3_weighText_0g.2.2.2.2.2.2.2.2.2.1
theorem dX3_weighText_19 : decode cX3_weighText 19 = .ok (.putfield 63, 3) := dX3_weighText_0g.2.2.2.2.2.2.2.2.2.2.1
theorem dX3_weighText_22 : decode cX3_weighText 22 = .ok (.goto 21, 3) := dX3_weighText_0g.2.2.2.2.2.2.2.2.2.2.2.1
theorem dX3_weighText_25 : decode cX3_weighText 25 = .ok (.aload_n 0, 1) := dX3_weighText_0g.2.2.2.2.2.2.2.2.2.2.2.2.1
theorem dX3_weighText_26 : decode cX3_weighText 26 = .ok (.aload_n 0, 1) := dX3_weighText_0g.2.2.2.2.2.2.2.2.2.2.2.2.2.1
theorem dX3_weighText_27 : decode cX3_weighText 27 = .ok (.ldc 101, 2) := dX3_weighText_0g.2.2.2.2.2.2.2.2.2.2.2.2.2.2.1
theorem dX3_weighText_29 : decode cX3_weighText 29 = .ok (.invokevirtual 97, 3) := dX3_weighText_0g.2.2.2.2.2.2.2.2.2.2.2.2.2.2.2
theorem dX3_weighText_32g : decode cX3_weighText 32 = .ok (.ifCond .eq 7, 3) ∧ decode cX3_weighText 35 = .ok (.iconst 0, 1) ∧ decode cX3_weighText 36 = .ok (.goto 4, 3) ∧ decode cX3_weighText 39 = .ok (.iconst (-1), 1) ∧ decode cX3_weighText 40 = .ok (.putfield 63, 3) ∧ decode cX3_weighText 43 = .ok (.return_, 1) := by decide +kernel
theorem dX3_weighText_32 : decode cX3_weighText 32 = .ok (.ifCond .eq 7, 3) := dX3_weighText_32g.1
theorem dX3_weighText_35 : decode cX3_weighText 35 = .ok (.iconst 0, 1) := dX3_weighText_32g.2.1
theorem dX3_weighText_36 : decode cX3_weighText 36 = .ok (.goto 4, 3) := dX3_weighText_32g.2.2.1
theorem dX3_weighText_39 : decode cX3_weighText 39 = .ok (.iconst (-1), 1) := dX3_weighText_32g.2.2.2.1
theorem dX3_weighText_40 : decode cX3_weighText 40 = .ok (.putfield 63, 3) := dX3_weighText_32g.2.2.2.2.1
theorem dX3_weighText_43 : decode cX3_weighText 43 = .ok (.return_, 1) := dX3_weighText_32g.2.2.2.2.2
theorem dX3_textIs_0g : decode cX3_textIs 0 = .ok (.aload_n 0, 1) ∧ decode cX3_textIs 1 = .ok (.getfield 15, 3) ∧ decode cX3_textIs 4 = .ok (.aload_n 1, 1) ∧ decode cX3_textIs 5 = .ok (.invokevirtual 103, 3) ∧ decode cX3_textIs 8 = .ok (.if_icmp .eq 5, 3) ∧ decode cX3_textIs 11 = .ok (.iconst 0, 1) ∧ decode cX3_textIs 12 = .ok (.ireturn, 1) ∧ decode cX3_textIs 13 = .ok (.iconst 0, 1) ∧ decode cX3_textIs 14 = .ok (.istore_n 2, 1) ∧ decode cX3_textIs 15 = .ok (.iload_n 2, 1) ∧ decode cX3_textIs 16 = .ok (.aload_n 0, 1) ∧ decode cX3_textIs 17 = .ok (.getfield 15, 3) ∧ decode cX3_textIs 20 = .ok (.if_icmp .ge 25, 3) ∧ decode cX3_textIs 23 = .ok (.aload_n 0, 1) ∧ decode cX3_textIs 24 = .ok (.getfield 11, 3) ∧ decode cX3_textIs 27 = .ok (.iload_n 2, 1) := by decide +kernel
theorem dX3_textIs_0 : decode cX3_textIs 0 = .ok (.aload_n 0, 1) := dX3_textIs_0g.1
theorem dX3_textIs_1 : decode cX3_textIs 1 = .ok (.getfield 15, 3) := dX3_textIs_0g.2.1
theorem dX3_textIs_4 : decode cX3_textIs 4 = .ok (.aload_n 1, 1) := dX3_textIs_0g.2.2.1
theorem dX3_textIs_5 : decode cX3_textIs 5 = .ok (.invokevirtual 103, 3) := dX3_textIs_0g.2.2.2.1
theorem dX3_textIs_8 : decode cX3_textIs 8 = .ok (.if_icmp .eq 5, 3) := dX3_textIs_0g.2.2.2.2.1
theorem dX3_textIs_11 : decode cX3_textIs 11 = .ok (.iconst 0, 1) := dX3_textIs_0g.2.2.2.2.2.1
theorem dX3_textIs_12 : decode cX3_textIs 12 = .ok (.ireturn, 1) := dX3_textIs_0g.2.2.2.2.2.2.1
theorem dX3_textIs_13 : decode cX3_textIs 13 = .ok (.iconst 0, 1) := dX3_textIs_0g.2.2.2.2.2.2.2.1
theorem dX3_textIs_14 : decode cX3_textIs 14 = .ok (.istore_n 2, 1) := dX3_textIs_0g.2.2.2.2.2.2.2.2.1
theorem dX3_textIs_15 : decode cX3_textIs 15 = .ok (.iload_n 2, 1) := dX3_textIs_0g.2.2.2.2.2.2.2.2.2.1
theorem dX3_textIs_16 : decode cX3_textIs 16 = .ok (.aload_n 0, 1) := dX3_textIs_0g.2.2.2.2.2.2.2.2.2.2.1
theorem dX3_textIs_17 : decode cX3_textIs 17 = .ok (.getfield 15, 3) := dX3_textIs_0g.2.2.2.2.2.2.2.2.2.2.2.1
theorem dX3_textIs_20 : decode cX3_textIs 20 = .ok (.if_icmp .ge 25, 3) := dX3_textIs_0g.2.2.2.2.2.2.2.2.2.2.2.2.1
theorem dX3_textIs_23 : decode cX3_textIs 23 = .ok (.aload_n 0, 1) := dX3_textIs_0g.2.2.2.2.2.2.2.2.2.2.2.2.2.1
theorem dX3_textIs_24 : decode cX3_textIs 24 = .ok (.getfield 11, 3) := dX3_textIs_0g.2.2.2.2.2.2.2.2.2.2.2.2.2.2.1
theorem dX3_textIs_27 : decode cX3_textIs 27 = .ok (.iload_n 2, 1) := dX3_textIs_0g.2.2.2.2.2.2.2.2.2.2.2.2.2.2.2
theorem dX3_textIs_28g : decode cX3_textIs 28 = .ok (.caload, 1) ∧ decode cX3_textIs 29 = .ok (.aload_n 1, 1) ∧ decode cX3_textIs 30 = .ok (.iload_n 2, 1) ∧ decode cX3_textIs 31 = .ok (.invokevirtual 109, 3) ∧ decode cX3_textIs 34 = .ok (.if_icmp .eq 5, 3) ∧ decode cX3_textIs 37 = .ok (.iconst 0, 1) ∧ decode cX3_textIs 38 = .ok (.ireturn, 1) ∧ decode cX3_textIs 39 = .ok (.iinc 2 1, 3) ∧ decode cX3_textIs 42 = .ok (.goto (-27), 3) ∧ decode cX3_textIs 45 = .ok (.iconst 1, 1) ∧ decode cX3_textIs 46 = .ok (.ireturn, 1) := by decide +kernel
theorem dX3_textIs_28 : decode cX3_textIs 28 = .ok (.caload, 1) := dX3_textIs_28g.1
theorem dX3_textIs_29 : decode cX3_textIs 29 = .ok (.aload_n 1, 1) := dX3_textIs_28g.2.1
theorem dX3_textIs_30 : decode cX3_textIs 30 = .ok (.iload_n 2, 1) := dX3_textIs_28g.2.2.1
theorem dX3_textIs_31 : decode cX3_textIs 31 = .ok (.invokevirtual 109, 3) := dX3_textIs_28g.2.2.2.1
theorem dX3_textIs_34 : decode cX3_textIs 34 = .ok (.if_icmp .eq 5, 3) := dX3_textIs_28g.2.2.2.2.1
theorem dX3_textIs_37 : decode cX3_textIs 37 = .ok (.iconst 0, 1) := dX3_textIs_28g.2.2.2.2.2.1
theorem dX3_textIs_38 : decode cX3_textIs 38 = .ok (.ireturn, 1) := dX3_textIs_28g.2.2.2.2.2.2.1
theorem dX3_textIs_39 : decode cX3_textIs 39 = .ok (.iinc 2 1, 3) := dX3_textIs_28g.2.2.2.2.2.2.2.1
theorem dX3_textIs_42 : decode cX3_textIs 42 = .ok (.goto (-27), 3) := dX3_textIs_28g.2.2.2.2.2.2.2.2.1
theorem dX3_textIs_45 : decode cX3_textIs 45 = .ok (.iconst 1, 1) := dX3_textIs_28g.2.2.2.2.2.2.2.2.2.1
theorem dX3_textIs_46 : decode cX3_textIs 46 = .ok (.ireturn, 1) := dX3_textIs_28g.2.2.2.2.2.2.2.2.2.2
theorem dX3_textAsNumber_0g : decode cX3_textAsNumber 0 = .ok (.aload_n 0, 1) ∧ decode cX3_textAsNumber 1 = .ok (.getfield 15, 3) ∧ decode cX3_textAsNumber 4 = .ok (.ifCond .le 18, 3) ∧ decode cX3_textAsNumber 7 = .ok (.aload_n 0, 1) ∧ decode cX3_textAsNumber 8 = .ok (.getfield 11, 3) ∧ decode cX3_textAsNumber 11 = .ok (.iconst 0, 1) ∧ decode cX3_textAsNumber 12 = .ok (.caload, 1) ∧ decode cX3_textAsNumber 13 = .ok (.bipush 45, 2) ∧ decode cX3_textAsNumber 15 = .ok (.if_icmp .ne 7, 3) ∧ decode cX3_textAsNumber 18 = .ok (.iconst 1, 1) ∧ decode cX3_textAsNumber 19 = .ok (.goto 4, 3) ∧ decode cX3_textAsNumber 22 = .ok (.iconst 0, 1) ∧ decode cX3_textAsNumber 23 = .ok (.istore_n 1, 1) ∧ decode cX3_textAsNumber 24 = .ok (.aload_n 0, 1) ∧ decode cX3_textAsNumber 25 = .ok (.getfield 15, 3) ∧ decode cX3_textAsNumber 28 = .ok (.iload_n 1, 1) := by decide +kernel
theorem dX3_textAsNumber_0 : decode cX3_textAsNumber 0 = .ok (.aload_n 0, 1) := dX3_textAsNumber_0g.1
theorem dX3_textAsNumber_1 : decode cX3_textAsNumber 1 = .ok (.getfield 15, 3) := dX3_textAsNumber_0g.2.1
theorem dX3_textAsNumber_4 : decode cX3_textAsNumber 4 = .ok (.ifCond .le 18, 3) := dX3_textAsNumber_0g.2.2.1
theorem dX3_textAsNumber_7 : decode cX3_textAsNumber 7 = .ok (.aload_n 0, 1) := dX3_textAsNumber_0g.2.2.2.1
theorem dX3_textAsNumber_8 : decode cX3_textAsNumber 8 = .ok (.getfield 11, 3) := dX3_textAsNumber_0g.2.2.2.2.1
theorem dX3_textAsNumber_11 : decode cX3_textAsNumber 11 = .ok (.iconst 0, 1) := dX3_textAsNumber_0g.2.2.2.2.2.1
theorem dX3_textAsNumber_12 : decode cX3_textAsNumber 12 = .ok (.caload, 1) := dX3_textAsNumber_0g.2.2.2.2.2.2.1
theorem dX3_textAsNumber_13 : decode cX3_textAsNumber 13 = .ok (.bipush 45, 2) := dX3_textAsNumber_0g.2.2.2.2.2.2.2.1
theorem dX3_textAsNumber_15 : decode cX3_textAsNumber 15 = .ok (.if_icmp .ne 7, 3) := dX3_textAsNumber_0g.2.2.2.2.2.2.2.2.1
theorem dX3_textAsNumber_18 : decode cX3_textAsNumber 18 = .ok (.iconst 1, 1) := dX3_textAsNumber_0g.2.2.2.2.2.2.2.2.2.1
theorem dX3_textAsNumber_19 : decode cX3_textAsNumber 19 = .ok (.goto 4, 3) := dX3_textAsNumber_0g.2.2.2.2.2.2.2.2.2.2.1
theorem dX3_textAsNumber_22 : decode cX3_textAsNumber 22 = .ok (.iconst 0, 1) := dX3_textAsNumber_0g.2.2.2.2.2.2.2.2.2.2.2.1
theorem dX3_textAsNumber_23 : decode cX3_textAsNumber 23 = .ok (.istore_n 1, 1) := dX3_textAsNumber_0g.2.2.2.2.2.2.2.2.2.2.2.2.1
theorem dX3_textAsNumber_24 : decode cX3_textAsNumber 24 = .ok (.aload_n 0, 1) := dX3_textAsNumber_0g.2.2.2.2.2.2.2.2.2.2.2.2.2.1
theorem dX3_textAsNumber_25 : decode cX3_textAsNumber 25 = .ok (.getfield 15, 3) := dX3_textAsNumber_0g.2.2.2.2.2.2.2.2.2.2.2.2.2.2.1
theorem dX3_textAsNumber_28 : decode cX3_textAsNumber 28 = .ok (.iload_n 1, 1) := dX3_textAsNumber_0g.2.2.2.2.2.2.2.2.2.2.2.2.2.2.2
theorem dX3_textAsNumber_29g : decode cX3_textAsNumber 29 = .ok (.isub, 1) ∧ decode cX3_textAsNumber 30 = .ok (.istore_n 2, 1) ∧ decode cX3_textAsNumber 31 = .ok (.iload_n 2, 1) ∧ decode cX3_textAsNumber 32 = .ok (.iconst 1, 1) ∧ decode cX3_textAsNumber 33 = .ok (.if_icmp .lt 9, 3) ∧ decode cX3_textAsNumber 36 = .ok (.iload_n 2, 1) ∧ decode cX3_textAsNumber 37 = .ok (.bipush 10, 2) ∧ decode cX3_textAsNumber 39 = .ok (.if_icmp .le 7, 3) ∧ decode cX3_textAsNumber 42 = .ok (.ldc2_w 58, 3) ∧ decode cX3_textAsNumber 45 = .ok (.lreturn, 1) ∧ decode cX3_textAsNumber 46 = .ok (.lconst 0, 1) ∧ decode cX3_textAsNumber 47 = .ok (.lstore_n 3, 1) ∧ decode cX3_textAsNumber 48 = .ok (.iload_n 1, 1) ∧ decode cX3_textAsNumber 49 = .ok (.istore 5, 2) ∧ decode cX3_textAsNumber 51 = .ok (.iload 5, 2) ∧ decode cX3_textAsNumber 53 = .ok (.aload_n 0, 1) := by decide +kernel
theorem dX3_textAsNumber_29 : decode cX3_textAsNumber 29 = .ok (.isub, 1) := dX3_textAsNumber_29g.1
theorem dX3_textAsNumber_30 : decode cX3_textAsNumber 30 = .ok (.istore_n 2, 1) := dX3_textAsNumber_29g.2.1
theorem dX3_textAsNumber_31 : decode cX3_textAsNumber 31 = .ok (.iload_n 2, 1) := dX3_textAsNumber_29g.2.2.1
theorem dX3_textAsNumber_32 : decode cX3_textAsNumber 32 = .ok (.iconst 1, 1) := dX3_textAsNumber_29g.2.2.2.1
theorem dX3_textAsNumber_33 : decode cX3_textAsNumber 33 = .ok (.if_icmp .lt 9, 3) := dX3_textAsNumber_29g.2.2.2.2.1
theorem dX3_textAsNumber_36 : decode cX3_textAsNumber 36 = .ok (.iload_n 2, 1) := dX3_textAsNumber_29g.2.2.2.2.2.1
theorem dX3_textAsNumber_37 : decode cX3_textAsNumber 37 = .ok (.bipush 10, 2) := dX3_textAsNumber_29g.2.2.2.2.2.2.1
theorem dX3_textAsNumber_39 : decode cX3_textAsNumber 39 = .ok (.if_icmp .le 7, 3) := dX3_textAsNumber_29g.2.2.2.2.2.2.2.1
theorem dX3_textAsNumber_42 : decode cX3_textAsNumber 42 = .ok (.ldc2_w 58, 3) := dX3_textAsNumber_29g.2.2.2.2.2.2.2.2.1
theorem dX3_textAsNumber_45 : decode cX3_textAsNumber 45 = .ok (.lreturn, 1) := dX3_textAsNumber_29g.2.2.2.2.2.2.2.2.2.1
theorem dX3_textAsNumber_46 : decode cX3_textAsNumber 46 = .ok (.lconst 0, 1) := dX3_textAsNumber_29g.2.2.2.2.2.2.2.2.2.2.1
theorem dX3_textAsNumber_47 : decode cX3_textAsNumber 47 = .ok (.lstore_n 3, 1) := dX3_textAsNumber_29g.2.2.2.2.2.2.2.2.2.2.2.1
theorem dX3_textAsNumber_48 : decode cX3_textAsNumber 48 = .ok (.iload_n 1, 1) := dX3_textAsNumber_29g.2.2.2.2.2.2.2.2.2.2.2.2.1
theorem dX3_textAsNumber_49 : decode cX3_textAsNumber 49 = .ok (.istore 5, 2) := dX3_textAsNumber_29g.2.2.2.2.2.2.2.2.2.2.2.2.2.1
theorem dX3_textAsNumber_51 : decode cX3_textAsNumber 51 = .ok (.iload 5, 2) := dX3_textAsNumber_29g.2.2.2.2.2.2.2.2.2.2.2.2.2.2.1
theorem dX3_textAsNumber_53 : decode cX3_textAsNumber 53 = .ok (.aload_n 0, 1) := dX3_textAsNumber_29g.2.2.2.2.2.2.2.2.2.2.2.2.2.2.2
theorem dX3_textAsNumber_54g : decode cX3_textAsNumber 54 = .ok (.getfield 15, 3) ∧ decode cX3_textAsNumber 57 = .ok (.if_icmp .ge 55, 3) ∧ decode cX3_textAsNumber 60 = .ok (.aload_n 0, 1) ∧ decode cX3_textAsNumber 61 = .ok (.getfield 11, 3) ∧ decode cX3_textAsNumber 64 = .ok (.iload 5, 2) ∧ decode cX3_textAsNumber 66 = .ok (.caload, 1) ∧ decode cX3_textAsNumber 67 = .ok (.bipush 48, 2) ∧ decode cX3_textAsNumber 69 = .ok (.if_icmp .lt 15, 3) ∧ decode cX3_textAsNumber 72 = .ok (.aload_n 0, 1) ∧ decode cX3_textAsNumber 73 = .ok (.getfield 11, 3) ∧ decode cX3_textAsNumber 76 = .ok (.iload 5, 2) ∧ decode cX3_textAsNumber 78 = .ok (.caload, 1) ∧ decode cX3_textAsNumber 79 = .ok (.bipush 57, 2) ∧ decode cX3_textAsNumber 81 = .ok (.if_icmp .le 7, 3) ∧ decode cX3_textAsNumber 84 = .ok (.ldc2_w 58, 3) ∧ decode cX3_textAsNumber 87 = .ok (.lreturn, 1) := by decide +kernel
theorem dX3_textAsNumber_54 : decode cX3_textAsNumber 54 = .ok (.getfield 15, 3) := dX3_textAsNumber_54g.1
theorem dX3_textAsNumber_57 : decode cX3_textAsNumber 57 = .ok (.if_icmp .ge 55, 3) := dX3_textAsNumber_54g.2.1
theorem dX3_textAsNumber_60 : decode cX3_textAsNumber 60 = .ok (.aload_n 0, 1) := dX3_textAsNumber_54g.2.2.1
theorem dX3_textAsNumber_61 : decode cX3_textAsNumber 61 = .ok (.getfield 11, 3) := dX3_textAsNumber_54g.2.2.2.1
theorem dX3_textAsNumber_64 : decode cX3_textAsNumber 64 = .ok (.iload 5, 2) := dX3_textAsNumber_54g.2.2.2.2.1
theorem dX3_textAsNumber_66 : decode cX3_textAsNumber 66 = .ok (.caload, 1) := dX3_textAsNumber_54g.2.2.2.2.2.1
theorem dX3_textAsNumber_67 : decode cX3_textAsNumber 67 = .ok (.bipush 48, 2) := dX3_textAsNumber_54g.2.2.2.2.2.2.1
theorem dX3_textAsNumber_69 : decode cX3_textAsNumber 69 = .ok (.if_icmp .lt 15, 3) := dX3_textAsNumber_54g.2.2.2.2.2.2.2.1
theorem dX3_textAsNumber_72 : decode cX3_textAsNumber 72 = .ok (.aload_n 0, 1) := dX3_textAsNumber_54g.2.2.2.2.2.2.2.2.1
theorem dX3_textAsNumber_73 : decode cX3_textAsNumber 73 = .ok (.getfield 11, 3) := dX3_textAsNumber_54g.2.2.2.2.2.2.2.2.2.1
theorem dX3_textAsNumber_76 : decode cX3_textAsNumber 76 = .ok (.iload 5, 2) := dX3_textAsNumber_54g.2.2.2.2.2.2.2.2.2.2.1
theorem dX3_textAsNumber_78 : decode cX3_textAsNumber 78 = .ok (.caload, 1) := dX3_textAsNumber_54g.2.2.2.2.2.2.2.2.2.2.2.1
theorem dX3_textAsNumber_79 : decode cX3_textAsNumber 79 = .ok (.bipush 57, 2) := dX3_textAsNumber_54g.2.2.2.2.2.2.2.2.2.2.2.2.1
theorem dX3_textAsNumber_81 : decode cX3_textAsNumber 81 = .ok (.if_icmp .le 7, 3) := dX3_textAsNumber_54g.2.2.2.2.2.2.2.2.2.2.2.2.2.1
theorem dX3_textAsNumber_84 : decode cX3_textAsNumber 84 = .ok (.ldc2_w 58, 3) := dX3_textAsNumber_54g.2.2.2.2.2.2.2.2.2.2.2.2.2.2.1
theorem dX3_textAsNumber_87 : decode cX3_textAsNumber 87 = .ok (.lreturn, 1) := dX3_textAsNumber_54g.2.2.2.2.2.2.2.2.2.2.2.2.2.2.2
theorem dX3_textAsNumber_88g : decode cX3_textAsNumber 88 = .ok (.lload_n 3, 1) ∧ decode cX3_textAsNumber 89 = .ok (.ldc2_w 113, 3) ∧ decode cX3_textAsNumber 92 = .ok (.lmul, 1) ∧ decode cX3_textAsNumber 93 = .ok (.aload_n 0, 1) ∧ decode cX3_textAsNumber 94 = .ok (.getfield 11, 3) ∧ decode cX3_textAsNumber 97 = .ok (.iload 5, 2) ∧ decode cX3_textAsNumber 99 = .ok (.caload, 1) ∧ decode cX3_textAsNumber 100 = .ok (.bipush 48, 2) ∧ decode cX3_textAsNumber 102 = .ok (.isub, 1) ∧ decode cX3_textAsNumber 103 = .ok (.i2l, 1) ∧ decode cX3_textAsNumber 104 = .ok (.ladd, 1) ∧ decode cX3_textAsNumber 105 = .ok (.lstore_n 3, 1) ∧ decode cX3_textAsNumber 106 = .ok (.iinc 5 1, 3) ∧ decode cX3_textAsNumber 109 = .ok (.goto (-58), 3) ∧ decode cX3_textAsNumber 112 = .ok (.iload_n 1, 1) ∧ decode cX3_textAsNumber 113 = .ok (.iconst 1, 1) := by decide +kernel
theorem dX3_textAsNumber_88 : decode cX3_textAsNumber 88 = .ok (.lload_n 3, 1) := dX3_textAsNumber_88g.1
theorem dX3_textAsNumber_89 : decode cX3_textAsNumber 89 = .ok (.ldc2_w 113, 3) := dX3_textAsNumber_88g.2.1
theorem dX3_textAsNumber_92 : decode cX3_textAsNumber 92 = .ok (.lmul, 1) := dX3_textAsNumber_88g.2.2.1
theorem dX3_textAsNumber_93 : decode cX3_textAsNumber 93 = .ok (.aload_n 0, 1) := dX3_textAsNumber_88g.2.2.2.1
theorem dX3_textAsNumber_94 : decode cX3_textAsNumber 94 = .ok (.getfield 11, 3) := dX3_textAsNumber_88g.2.2.2.2.1
theorem dX3_textAsNumber_97 : decode cX3_textAsNumber 97 = .ok (.iload 5, 2) := dX3_textAsNumber_88g.2.2.2.2.2.1
theorem dX3_textAsNumber_99 : decode cX3_textAsNumber 99 = .ok (.caload, 1) := dX3_textAsNumber_88g.2.2.2.2.2.2.1
theorem dX3_textAsNumber_100 : decode cX3_textAsNumber 100 = .ok (.bipush 48, 2) := dX3_textAsNumber_88g.2.2.2.2.2.2.2.1
theorem dX3_textAsNumber_102 : decode cX3_textAsNumber 102 = .ok (.isub, 1) := dX3_textAsNumber_88g.2.2.2.2.2.2.2.2.1
theorem dX3_textAsNumber_103 : decode cX3_textAsNumber 103 = .ok (.i2l, 1) := dX3_textAsNumber_88g.2.2.2.2.2.2.2.2.2.1
theorem dX3_textAsNumber_104 : decode cX3_textAsNumber 104 = .ok (.ladd, 1) := dX3_textAsNumber_88g.2.2.2.2.2.2.2.2.2.2.1
theorem dX3_textAsNumber_105 : decode cX3_textAsNumber 105 = .ok (.lstore_n 3, 1) := dX3_textAsNumber_88g.2.2.2.2.2.2.2.2.2.2.2.1
theorem dX3_textAsNumber_106 : decode cX3_textAsNumber 106 = .ok (.iinc 5 1, 3) := dX3_textAsNumber_88g.2.2.2.2.2.2.2.2.2.2.2.2.1
theorem dX3_textAsNumber_109 : decode cX3_textAsNumber 109 = .ok (.goto (-58), 3) := dX3_textAsNumber_88g.2.2.2.2.2.2.2.2.2.2.2.2.2.1
theorem dX3_textAsNumber_112 : decode cX3_textAsNumber 112 = .ok (.iload_n 1, 1) := dX3_textAsNumber_88g.2.2.2.2.2.2.2.2.2.2.2.2.2.2.1
theorem dX3_textAsNumber_113 : decode cX3_textAsNumber 113 = .ok (.iconst 1, 1) := dX3_textAsNumber_88g.2.2.2.2.2.2.2.2.2.2.2.2.2.2.2
theorem dX3_textAsNumber_114g : decode cX3_textAsNumber 114 = .ok (.if_icmp .ne 8, 3) ∧ decode cX3_textAsNumber 117 = .ok (.lload_n 3, 1) ∧ decode cX3_textAsNumber 118 = .ok (.lneg, 1) ∧ decode cX3_textAsNumber 119 = .ok (.goto 4, 3) ∧ decode cX3_textAsNumber 122 = .ok (.lload_n 3, 1) ∧ decode cX3_textAsNumber 123 = .ok (.lstore 5, 2) ∧ decode cX3_textAsNumber 125 = .ok (.lload 5, 2) ∧ decode cX3_textAsNumber 127 = .ok (.lload 5, 2) ∧ decode cX3_textAsNumber 129 = .ok (.l2i, 1) ∧ decode cX3_textAsNumber 130 = .ok (.i2l, 1) ∧ decode cX3_textAsNumber 131 = .ok (.lcmp, 1) ∧ decode cX3_textAsNumber 132 = .ok (.ifCond .ne 8, 3) ∧ decode cX3_textAsNumber 135 = .ok (.lload 5, 2) ∧ decode cX3_textAsNumber 137 = .ok (.goto 6, 3) ∧ decode cX3_textAsNumber 140 = .ok (.ldc2_w 58, 3) ∧ decode cX3_textAsNumber 143 = .ok (.lreturn, 1) := by decide +kernel
theorem dX3_textAsNumber_114 : decode cX3_textAsNumber 114 = .ok (.if_icmp .ne 8, 3) := dX3_textAsNumber_114g.1
theorem dX3_textAsNumber_117 : decode cX3_textAsNumber 117 = .ok (.lload_n 3, 1) := dX3_textAsNumber_114g.2.1
theorem dX3_textAsNumber_118 : decode cX3_textAsNumber 118 = .ok (.lneg, 1) := dX3_textAsNumber_114g.2.2.1
theorem dX3_textAsNumber_119 : decode cX3_textAsNumber 119 = .ok (.goto 4, 3) := dX3_textAsNumber_114g.2.2.2.1
theorem dX3_textAsNumber_122 : decode cX3_textAsNumber 122 = .ok (.lload_n 3, 1) := dX3_textAsNumber_114g.2.2.2.2.1
theorem dX3_textAsNumber_123 : decode cX3_textAsNumber 123 = .ok (.lstore 5, 2) := dX3_textAsNumber_114g.2.2.2.2.2.1
theorem dX3_textAsNumber_125 : decode cX3_textAsNumber 125 = .ok (.lload 5, 2) := dX3_textAsNumber_114g.2.2.2.2.2.2.1
theorem dX3_textAsNumber_127 : decode cX3_textAsNumber 127 = .ok (.lload 5, 2) := dX3_textAsNumber_114g.2.2.2.2.2.2.2.1
theorem dX3_textAsNumber_129 : decode cX3_textAsNumber 129 = .ok (.l2i, 1) := dX3_textAsNumber_114g.2.2.2.2.2.2.2.2.1
theorem dX3_textAsNumber_130 : decode cX3_textAsNumber 130 = .ok (.i2l, 1) := dX3_textAsNumber_114g.2.2.2.2.2.2.2.2.2.1
theorem dX3_textAsNumber_131 : decode cX3_textAsNumber 131 = .ok (.lcmp, 1) := dX3_textAsNumber_114g.2.2.2.2.2.2.2.2.2.2.1
theorem dX3_textAsNumber_132 : decode cX3_textAsNumber 132 = .ok (.ifCond .ne 8, 3) := dX3_textAsNumber_114g.2.2.2.2.2.2.2.2.2.2.2.1
theorem dX3_textAsNumber_135 : decode cX3_textAsNumber 135 = .ok (.lload 5, 2) := dX3_textAsNumber_114g.2.2.2.2.2.2.2.2.2.2.2.2.1
theorem dX3_textAsNumber_137 : decode cX3_textAsNumber 137 = .ok (.goto 6, 3) := dX3_textAsNumber_114g.2.2.2.2.2.2.2.2.2.2.2.2.2.1
theorem dX3_textAsNumber_140 : decode cX3_textAsNumber 140 = .ok (.ldc2_w 58, 3) := dX3_textAsNumber_114g.2.2.2.2.2.2.2.2.2.2.2.2.2.2.1
theorem dX3_textAsNumber_143 : decode cX3_textAsNumber 143 = .ok (.lreturn, 1) := dX3_textAsNumber_114g.2.2.2.2.2.2.2.2.2.2.2.2.2.2.2
theorem dX4_clear_0g : decode cX4_clear 0 = .ok (.aload_n 0, 1) ∧ decode cX4_clear 1 = .ok (.iconst 0, 1) ∧ decode cX4_clear 2 = .ok (.putfield 15, 3) ∧ decode cX4_clear 5 = .ok (.return_, 1) := by decide +kernel
theorem dX4_clear_0 : decode cX4_clear 0 = .ok (.aload_n 0, 1) := dX4_clear_0g.1
theorem dX4_clear_1 : decode cX4_clear 1 = .ok (.iconst 0, 1) := dX4_clear_0g.2.1
theorem dX4_clear_2 : decode cX4_clear 2 = .ok (.putfield 15, 3) := dX4_clear_0g.2.2.1
theorem dX4_clear_5 : decode cX4_clear 5 = .ok (.return_, 1) := dX4_clear_0g.2.2.2
theorem dX4_count_0g : decode cX4_count 0 = .ok (.aload_n 0, 1) ∧ decode cX4_count 1 = .ok (.getfield 15, 3) ∧ decode cX4_count 4 = .ok (.ireturn, 1) := by decide +kernel
theorem dX4_count_0 : decode cX4_count 0 = .ok (.aload_n 0, 1) := dX4_count_0g.1
theorem dX4_count_1 : decode cX4_count 1 = .ok (.getfield 15, 3) := dX4_count_0g.2.1
theorem dX4_count_4 : decode cX4_count 4 = .ok (.ireturn, 1) := dX4_count_0g.2.2
theorem dX4_add_0g : decode cX4_add 0 = .ok (.aload_n 0, 1) ∧ decode cX4_add 1 = .ok (.getfield 15, 3) ∧ decode cX4_add 4 = .ok (.sipush 400, 3) ∧ decode cX4_add 7 = .ok (.if_icmp .lt 4, 3) ∧ decode cX4_add 10 = .ok (.return_, 1) ∧ decode cX4_add 11 = .ok (.aload_n 0, 1) ∧ decode cX4_add 12 = .ok (.getfield 15, 3) ∧ decode cX4_add 15 = .ok (.iconst 4, 1) ∧ decode cX4_add 16 = .ok (.imul, 1) ∧ decode cX4_add 17 = .ok (.istore 5, 2) ∧ decode cX4_add 19 = .ok (.aload_n 0, 1) ∧ decode cX4_add 20 = .ok (.getfield 11, 3) ∧ decode cX4_add 23 = .ok (.iload 5, 2) ∧ decode cX4_add 25 = .ok (.iload_n 1, 1) ∧ decode cX4_add 26 = .ok (.iastore, 1) ∧ decode cX4_add 27 = .ok (.aload_n 0, 1) := by decide +kernel
theorem dX4_add_0 : decode cX4_add 0 = .ok (.aload_n 0, 1) := dX4_add_0g.1
theorem dX4_add_1 : decode cX4_add 1 = .ok (.getfield 15, 3) := dX4_add_0g.2.1
theorem dX4_add_4 : decode cX4_add 4 = .ok (.sipush 400, 3) := dX4_add_0g.2.2.1
theorem dX4_add_7 : decode cX4_add 7 = .ok (.if_icmp .lt 4, 3) := dX4_add_0g.2.2.2.1
theorem dX4_add_10 : decode cX4_add 10 = .ok (.return_, 1) := dX4_add_0g.2.2.2.2.1
theorem dX4_add_11 : decode cX4_add 11 = .ok (.aload_n 0, 1) := dX4_add_0g.2.2.2.2.2.1
theorem dX4_add_12 : decode cX4_add 12 = .ok (.getfield 15, 3) := dX4_add_0g.2.2.2.2.2.2.1
theorem dX4_add_15 : decode cX4_add 15 = .ok (.iconst 4, 1) := dX4_add_0g.2.2.2.2.2.2.2.1
theorem dX4_add_16 : decode cX4_add 16 = .ok (.imul, 1) := dX4_add_0g.2.2.2.2.2.2.2.2.1
theorem dX4_add_17 : decode cX4_add 17 = .ok (.istore 5, 2) := dX4_add_0g.2.2.2.2.2.2.2.2.2.1
theorem dX4_add_19 : decode cX4_add 19 = .ok (.aload_n 0, 1) := dX4_add_0g.2.2.2.2.2.2.2.2.2.2.1
theorem dX4_add_20 : decode cX4_add 20 = .ok (.getfield 11, 3) := dX4_add_0g.2.2.2.2.2.2.2.2.2.2.2.1
theorem dX4_add_23 : decode cX4_add 23 = .ok (.iload 5, 2) := dX4_add_0g.2.2.2.2.2.2.2.2.2.2.2.2.1
theorem dX4_add_25 : decode cX4_add 25 = .ok (.iload_n 1, 1) := dX4_add_0g.2.2.2.2.2.2.2.2.2.2.2.2.2.1
theorem dX4_add_26 : decode cX4_add 26 = .ok (.iastore, 1) := dX4_add_0g.2.2.2.2.2.2.2.2.2.2.2.2.2.2.1
theorem dX4_add_27 : decode cX4_add 27 = .ok (.aload_n 0, 1) := dX4_add_0g.2.2.2.2.2.2.2.2.2.2.2.2.2.2.2
theorem dX4_add_28g : decode cX4_add 28 = .ok (.getfield 11, 3) ∧ decode cX4_add 31 = .ok (.iload 5, 2) ∧ decode cX4_add 33 = .ok (.iconst 1, 1) ∧ decode cX4_add 34 = .ok (.iadd, 1) ∧ decode cX4_add 35 = .ok (.iload_n 2, 1) ∧ decode cX4_add 36 = .ok (.iastore, 1) ∧ decode cX4_add 37 = .ok (.aload_n 0, 1) ∧ decode cX4_add 38 = .ok (.getfield 11, 3) ∧ decode cX4_add 41 = .ok (.iload 5, 2) ∧ decode cX4_add 43 = .ok (.iconst 2, 1) ∧ decode cX4_add 44 = .ok (.iadd, 1) ∧ decode cX4_add 45 = .ok (.iload_n 3, 1) ∧ decode cX4_add 46 = .ok (.iastore, 1) ∧ decode cX4_add 47 = .ok (.aload_n 0, 1) ∧ decode cX4_add 48 = .ok (.getfield 11, 3) ∧ decode cX4_add 51 = .ok (.iload 5, 2) := by decide +kernel
theorem dX4_add_28 : decode cX4_add 28 = .ok (.getfield 11, 3) := dX4_add_28g.1
theorem dX4_add_31 : decode cX4_add 31 = .ok (.iload 5, 2) := dX4_add_28g.2.1
theorem dX4_add_33 : decode cX4_add 33 = .ok (.iconst 1, 1) := dX4_add_28g.2.2.1
theorem dX4_add_34 : decode cX4_add 34 = .ok (.iadd, 1) := dX4_add_28g.2.2.2.1
theorem dX4_add_35 : decode cX4_add 35 = .ok (.iload_n 2, 1) := dX4_add_28g.2.2.2.2.1
theorem dX4_add_36 : decode cX4_add 36 = .ok (.iastore, 1) := dX4_add_28g.2.2.2.2.2.1
theorem dX4_add_37 : decode cX4_add 37 = .ok (.aload_n 0, 1) := dX4_add_28g.2.2.2.2.2.2.1
theorem dX4_add_38 : decode cX4_add 38 = .ok (.getfield 11, 3) := dX4_add_28g.2.2.2.2.2.2.2.1
theorem dX4_add_41 : decode cX4_add 41 = .ok (.iload 5, 2) := dX4_add_28g.2.2.2.2.2.2.2.2.1
theorem dX4_add_43 : decode cX4_add 43 = .ok (.iconst 2, 1) := dX4_add_28g.2.2.2.2.2.2.2.2.2.1
theorem dX4_add_44 : decode cX4_add 44 = .ok (.iadd, 1) := dX4_add_28g.2.2.2.2.2.2.2.2.2.2.1
theorem dX4_add_45 : decode cX4_add 45 = .ok (.iload_n 3, 1) := dX4_add_28g.2.2.2.2.2.2.2.2.2.2.2.1
theorem dX4_add_46 : decode cX4_add 46 = .ok (.iastore, 1) := dX4_add_28g.2.2.2.2.2.2.2.2.2.2.2.2.1
theorem dX4_add_47 : decode cX4_add 47 = .ok (.aload_n 0, 1) := dX4_add_28g.2.2.2.2.2.2.2.2.2.2.2.2.2.1
theorem dX4_add_48 : decode cX4_add 48 = .ok (.getfield 11, 3) := dX4_add_28g.2.2.2.2.2.2.2.2.2.2.2.2.2.2.1
theorem dX4_add_51 : decode cX4_add 51 = .ok (.iload 5, 2) := dX4_add_28g.2.2.2.2.2.2.2.2.2.2.2.2.2.2.2
theorem dX4_add_53g : decode cX4_add 53 = .ok (.iconst 3, 1) ∧ decode cX4_add 54 = .ok (.iadd, 1) ∧ decode cX4_add 55 = .ok (.iload 4, 2) ∧ decode cX4_add 57 = .ok (.iastore, 1) ∧ decode cX4_add 58 = .ok (.aload_n 0, 1) ∧ decode cX4_add 59 = .ok (.dup, 1) ∧ decode cX4_add 60 = .ok (.getfield 15, 3) ∧ decode cX4_add 63 = .ok (.iconst 1, 1) ∧ decode cX4_add 64 = .ok (.iadd, 1) ∧ decode cX4_add 65 = .ok (.putfield 15, 3) ∧ decode cX4_add 68 = .ok (.return_, 1) := by decide +kernel
theorem dX4_add_53 : decode cX4_add 53 = .ok (.iconst 3, 1) := dX4_add_53g.1
theorem dX4_add_54 : decode cX4_add 54 = .ok (.iadd, 1) := dX4_add_53g.2.1
theorem dX4_add_55 : decode cX4_add 55 = .ok (.iload 4, 2) := dX4_add_53g.2.2.1
theorem dX4_add_57 : decode cX4_add 57 = .ok (.iastore, 1) := dX4_add_53g.2.2.2.1
theorem dX4_add_58 : decode cX4_add 58 = .ok (.aload_n 0, 1) := dX4_add_53g.2.2.2.2.1
theorem dX4_add_59 : decode cX4_add 59 = .ok (.dup, 1) := dX4_add_53g.2.2.2.2.2.1
theorem dX4_add_60 : decode cX4_add 60 = .ok (.getfield 15, 3) := dX4_add_53g.2.2.2.2.2.2.1
theorem dX4_add_63 : decode cX4_add 63 = .ok (.iconst 1, 1) := dX4_add_53g.2.2.2.2.2.2.2.1
theorem dX4_add_64 : decode cX4_add 64 = .ok (.iadd, 1) := dX4_add_53g.2.2.2.2.2.2.2.2.1
theorem dX4_add_65 : decode cX4_add 65 = .ok (.putfield 15, 3) := dX4_add_53g.2.2.2.2.2.2.2.2.2.1
theorem dX4_add_68 : decode cX4_add 68 = .ok (.return_, 1) := dX4_add_53g.2.2.2.2.2.2.2.2.2.2
theorem dX4_number_0g : decode cX4_number 0 = .ok (.iload_n 1, 1) ∧ decode cX4_number 1 = .ok (.ifCond .lt 33, 3) ∧ decode cX4_number 4 = .ok (.iload_n 1, 1) ∧ decode cX4_number 5 = .ok (.aload_n 0, 1) ∧ decode cX4_number 6 = .ok (.getfield 15, 3) ∧ decode cX4_number 9 = .ok (.if_icmp .ge 25, 3) ∧ decode cX4_number 12 = .ok (.iload_n 2, 1) ∧ decode cX4_number 13 = .ok (.ifCond .lt 21, 3) ∧ decode cX4_number 16 = .ok (.iload_n 2, 1) ∧ decode cX4_number 17 = .ok (.iconst 4, 1) ∧ decode cX4_number 18 = .ok (.if_icmp .ge 16, 3) ∧ decode cX4_number 21 = .ok (.aload_n 0, 1) ∧ decode cX4_number 22 = .ok (.getfield 11, 3) ∧ decode cX4_number 25 = .ok (.iload_n 1, 1) ∧ decode cX4_number 26 = .ok (.iconst 4, 1) ∧ decode cX4_number 27 = .ok (.imul, 1) := by decide +kernel
theorem dX4_number_0 : decode cX4_number 0 = .ok (.iload_n 1, 1) := dX4_number_0g.1
theorem dX4_number_1 : decode cX4_number 1 = .ok (.ifCond .lt 33, 3) := dX4_number_0g.2.1
theorem dX4_number_4 : decode cX4_number 4 = .ok (.iload_n 1, 1) := dX4_number_0g.2.2.1
theorem dX4_number_5 : decode cX4_number 5 = .ok (.aload_n 0, 1) := dX4_number_0g.2.2.2.1
theorem dX4_number_6 : decode cX4_number 6 = .ok (.getfield 15, 3) := dX4_number_0g.2.2.2.2.1
theorem dX4_number_9 : decode cX4_number 9 = .ok (.if_icmp .ge 25, 3) := dX4_number_0g.2.2.2.2.2.1
theorem dX4_number_12 : decode cX4_number 12 = .ok (.iload_n 2, 1) := dX4_number_0g.2.2.2.2.2.2.1
theorem dX4_number_13 : decode cX4_number 13 = .ok (.ifCond .lt 21, 3) := dX4_number_0g.2.2.2.2.2.2.2.1
theorem dX4_number_16 : decode cX4_number 16 = .ok (.iload_n 2, 1) := dX4_number_0g.2.2.2.2.2.2.2.2.1
theorem dX4_number_17 : decode cX4_number 17 = .ok (.iconst 4, 1) := dX4_number_0g.2.2.2.2.2.2.2.2.2.1
theorem dX4_number_18 : decode cX4_number 18 = .ok (.if_icmp .ge 16, 3) := dX4_number_0g.2.2.2.2.2.2.2.2.2.2.1
theorem dX4_number_21 : decode cX4_number 21 = .ok (.aload_n 0, 1) := dX4_number_0g.2.2.2.2.2.2.2.2.2.2.2.1
theorem dX4_number_22 : decode cX4_number 22 = .ok (.getfield 11, 3) := dX4_number_0g.2.2.2.2.2.2.2.2.2.2.2.2.1
theorem dX4_number_25 : decode cX4_number 25 = .ok (.iload_n 1, 1) := dX4_number_0g.2.2.2.2.2.2.2.2.2.2.2.2.2.1
theorem dX4_number_26 : decode cX4_number 26 = .ok (.iconst 4, 1) := dX4_number_0g.2.2.2.2.2.2.2.2.2.2.2.2.2.2.1
theorem dX4_number_27 : decode cX4_number 27 = .ok (.imul, 1) := dX4_number_0g.2.2.2.2.2.2.2.2.2.2.2.2.2.2.2
theorem dX4_number_28g : decode cX4_number 28 = .ok (.iload_n 2, 1) ∧ decode cX4_number 29 = .ok (.iadd, 1) ∧ decode cX4_number 30 = .ok (.iaload, 1) ∧ decode cX4_number 31 = .ok (.goto 4, 3) ∧ decode cX4_number 34 = .ok (.iconst (-1), 1) ∧ decode cX4_number 35 = .ok (.ireturn, 1) := by decide +kernel
theorem dX4_number_28 : decode cX4_number 28 = .ok (.iload_n 2, 1) := dX4_number_28g.1
theorem dX4_number_29 : decode cX4_number 29 = .ok (.iadd, 1) := dX4_number_28g.2.1
theorem dX4_number_30 : decode cX4_number 30 = .ok (.iaload, 1) := dX4_number_28g.2.2.1
theorem dX4_number_31 : decode cX4_number 31 = .ok (.goto 4, 3) := dX4_number_28g.2.2.2.1
theorem dX4_number_34 : decode cX4_number 34 = .ok (.iconst (-1), 1) := dX4_number_28g.2.2.2.2.1
theorem dX4_number_35 : decode cX4_number 35 = .ok (.ireturn, 1) := dX4_number_28g.2.2.2.2.2
theorem dX5_startAfresh_0g : decode cX5_startAfresh 0 = .ok (.aload_n 0, 1) ∧ decode cX5_startAfresh 1 = .ok (.iconst 0, 1) ∧ decode cX5_startAfresh 2 = .ok (.putfield 50, 3) ∧ decode cX5_startAfresh 5 = .ok (.aload_n 0, 1) ∧ decode cX5_startAfresh 6 = .ok (.invokevirtual 53, 3) ∧ decode cX5_startAfresh 9 = .ok (.aload_n 0, 1) ∧ decode cX5_startAfresh 10 = .ok (.getfield 21, 3) ∧ decode cX5_startAfresh 13 = .ok (.invokevirtual 56, 3) ∧ decode cX5_startAfresh 16 = .ok (.return_, 1) := by decide +kernel
theorem dX5_startAfresh_0 : decode cX5_startAfresh 0 = .ok (.aload_n 0, 1) := dX5_startAfresh_0g.1
theorem dX5_startAfresh_1 : decode cX5_startAfresh 1 = .ok (.iconst 0, 1) := dX5_startAfresh_0g.2.1
theorem dX5_startAfresh_2 : decode cX5_startAfresh 2 = .ok (.putfield 50, 3) := dX5_startAfresh_0g.2.2.1
theorem dX5_startAfresh_5 : decode cX5_startAfresh 5 = .ok (.aload_n 0, 1) := dX5_startAfresh_0g.2.2.2.1
theorem dX5_startAfresh_6 : decode cX5_startAfresh 6 = .ok (.invokevirtual 53, 3) := dX5_startAfresh_0g.2.2.2.2.1
theorem dX5_startAfresh_9 : decode cX5_startAfresh 9 = .ok (.aload_n 0, 1) := dX5_startAfresh_0g.2.2.2.2.2.1
theorem dX5_startAfresh_10 : decode cX5_startAfresh 10 = .ok (.getfield 21, 3) := dX5_startAfresh_0g.2.2.2.2.2.2.1
theorem dX5_startAfresh_13 : decode cX5_startAfresh 13 = .ok (.invokevirtual 56, 3) := dX5_startAfresh_0g.2.2.2.2.2.2.2.1
theorem dX5_startAfresh_16 : decode cX5_startAfresh 16 = .ok (.return_, 1) := dX5_startAfresh_0g.2.2.2.2.2.2.2.2
theorem dX5_forgetFailure_0g : decode cX5_forgetFailure 0 = .ok (.aload_n 0, 1) ∧ decode cX5_forgetFailure 1 = .ok (.iconst 0, 1) ∧ decode cX5_forgetFailure 2 = .ok (.putfield 61, 3) ∧ decode cX5_forgetFailure 5 = .ok (.aload_n 0, 1) ∧ decode cX5_forgetFailure 6 = .ok (.iconst (-1), 1) ∧ decode cX5_forgetFailure 7 = .ok (.putfield 46, 3) ∧ decode cX5_forgetFailure 10 = .ok (.return_, 1) := by decide +kernel
theorem dX5_forgetFailure_0 : decode cX5_forgetFailure 0 = .ok (.aload_n 0, 1) := dX5_forgetFailure_0g.1
theorem dX5_forgetFailure_1 : decode cX5_forgetFailure 1 = .ok (.iconst 0, 1) := dX5_forgetFailure_0g.2.1
theorem dX5_forgetFailure_2 : decode cX5_forgetFailure 2 = .ok (.putfield 61, 3) := dX5_forgetFailure_0g.2.2.1
theorem dX5_forgetFailure_5 : decode cX5_forgetFailure 5 = .ok (.aload_n 0, 1) := dX5_forgetFailure_0g.2.2.2.1
theorem dX5_forgetFailure_6 : decode cX5_forgetFailure 6 = .ok (.iconst (-1), 1) := dX5_forgetFailure_0g.2.2.2.2.1
theorem dX5_forgetFailure_7 : decode cX5_forgetFailure 7 = .ok (.putfield 46, 3) := dX5_forgetFailure_0g.2.2.2.2.2.1
theorem dX5_forgetFailure_10 : decode cX5_forgetFailure 10 = .ok (.return_, 1) := dX5_forgetFailure_0g.2.2.2.2.2.2
theorem dX5_failure_0g : decode cX5_failure 0 = .ok (.aload_n 0, 1) ∧ decode cX5_failure 1 = .ok (.getfield 61, 3) ∧ decode cX5_failure 4 = .ok (.ireturn, 1) := by decide +kernel
theorem dX5_failure_0 : decode cX5_failure 0 = .ok (.aload_n 0, 1) := dX5_failure_0g.1
theorem dX5_failure_1 : decode cX5_failure 1 = .ok (.getfield 61, 3) := dX5_failure_0g.2.1
theorem dX5_failure_4 : decode cX5_failure 4 = .ok (.ireturn, 1) := dX5_failure_0g.2.2
theorem dX5_failureBean_0g : decode cX5_failureBean 0 = .ok (.aload_n 0, 1) ∧ decode cX5_failureBean 1 = .ok (.getfield 46, 3) ∧ decode cX5_failureBean 4 = .ok (.ireturn, 1) := by decide +kernel
theorem dX5_failureBean_0 : decode cX5_failureBean 0 = .ok (.aload_n 0, 1) := dX5_failureBean_0g.1
theorem dX5_failureBean_1 : decode cX5_failureBean 1 = .ok (.getfield 46, 3) := dX5_failureBean_0g.2.1
theorem dX5_failureBean_4 : decode cX5_failureBean 4 = .ok (.ireturn, 1) := dX5_failureBean_0g.2.2
theorem dX5_objectCount_0g : decode cX5_objectCount 0 = .ok (.aload_n 0, 1) ∧ decode cX5_objectCount 1 = .ok (.getfield 50, 3) ∧ decode cX5_objectCount 4 = .ok (.ireturn, 1) := by decide +kernel
theorem dX5_objectCount_0 : decode cX5_objectCount 0 = .ok (.aload_n 0, 1) := dX5_objectCount_0g.1
theorem dX5_objectCount_1 : decode cX5_objectCount 1 = .ok (.getfield 50, 3) := dX5_objectCount_0g.2.1
theorem dX5_objectCount_4 : decode cX5_objectCount 4 = .ok (.ireturn, 1) := dX5_objectCount_0g.2.2
theorem dX5_isObject_0g : decode cX5_isObject 0 = .ok (.iload_n 1, 1) ∧ decode cX5_isObject 1 = .ok (.ifCond .lt 15, 3) ∧ decode cX5_isObject 4 = .ok (.iload_n 1, 1) ∧ decode cX5_isObject 5 = .ok (.aload_n 0, 1) ∧ decode cX5_isObject 6 = .ok (.getfield 50, 3) ∧ decode cX5_isObject 9 = .ok (.if_icmp .ge 7, 3) ∧ decode cX5_isObject 12 = .ok (.iconst 1, 1) ∧ decode cX5_isObject 13 = .ok (.goto 4, 3) ∧ decode cX5_isObject 16 = .ok (.iconst 0, 1) ∧ decode cX5_isObject 17 = .ok (.ireturn, 1) := by decide +kernel
theorem dX5_isObject_0 : decode cX5_isObject 0 = .ok (.iload_n 1, 1) := dX5_isObject_0g.1
theorem dX5_isObject_1 : decode cX5_isObject 1 = .ok (.ifCond .lt 15, 3) := dX5_isObject_0g.2.1
theorem dX5_isObject_4 : decode cX5_isObject 4 = .ok (.iload_n 1, 1) := dX5_isObject_0g.2.2.1
theorem dX5_isObject_5 : decode cX5_isObject 5 = .ok (.aload_n 0, 1) := dX5_isObject_0g.2.2.2.1
theorem dX5_isObject_6 : decode cX5_isObject 6 = .ok (.getfield 50, 3) := dX5_isObject_0g.2.2.2.2.1
theorem dX5_isObject_9 : decode cX5_isObject 9 = .ok (.if_icmp .ge 7, 3) := dX5_isObject_0g.2.2.2.2.2.1
theorem dX5_isObject_12 : decode cX5_isObject 12 = .ok (.iconst 1, 1) := dX5_isObject_0g.2.2.2.2.2.2.1
theorem dX5_isObject_13 : decode cX5_isObject 13 = .ok (.goto 4, 3) := dX5_isObject_0g.2.2.2.2.2.2.2.1
theorem dX5_isObject_16 : decode cX5_isObject 16 = .ok (.iconst 0, 1) := dX5_isObject_0g.2.2.2.2.2.2.2.2.1
theorem dX5_isObject_17 : decode cX5_isObject 17 = .ok (.ireturn, 1) := dX5_isObject_0g.2.2.2.2.2.2.2.2.2
theorem dX5_classOfObject_0g : decode cX5_classOfObject 0 = .ok (.aload_n 0, 1) ∧ decode cX5_classOfObject 1 = .ok (.iload_n 1, 1) ∧ decode cX5_classOfObject 2 = .ok (.invokevirtual 64, 3) ∧ decode cX5_classOfObject 5 = .ok (.ifCond .eq 12, 3) ∧ decode cX5_classOfObject 8 = .ok (.aload_n 0, 1) ∧ decode cX5_classOfObject 9 = .ok (.getfield 25, 3) ∧ decode cX5_classOfObject 12 = .ok (.iload_n 1, 1) ∧ decode cX5_classOfObject 13 = .ok (.iaload, 1) ∧ decode cX5_classOfObject 14 = .ok (.goto 4, 3) ∧ decode cX5_classOfObject 17 = .ok (.iconst (-1), 1) ∧ decode cX5_classOfObject 18 = .ok (.ireturn, 1) := by decide +kernel
theorem dX5_classOfObject_0 : decode cX5_classOfObject 0 = .ok (.aload_n 0, 1) := dX5_classOfObject_0g.1
theorem dX5_classOfObject_1 : decode cX5_classOfObject 1 = .ok (.iload_n 1, 1) := dX5_classOfObject_0g.2.1
theorem dX5_classOfObject_2 : decode cX5_classOfObject 2 = .ok (.invokevirtual 64, 3) := dX5_classOfObject_0g.2.2.1
theorem dX5_classOfObject_5 : decode cX5_classOfObject 5 = .ok (.ifCond .eq 12, 3) := dX5_classOfObject_0g.2.2.2.1
theorem dX5_classOfObject_8 : decode cX5_classOfObject 8 = .ok (.aload_n 0, 1) := dX5_classOfObject_0g.2.2.2.2.1
theorem dX5_classOfObject_9 : decode cX5_classOfObject 9 = .ok (.getfield 25, 3) := dX5_classOfObject_0g.2.2.2.2.2.1
theorem dX5_classOfObject_12 : decode cX5_classOfObject 12 = .ok (.iload_n 1, 1) := dX5_classOfObject_0g.2.2.2.2.2.2.1
theorem dX5_classOfObject_13 : decode cX5_classOfObject 13 = .ok (.iaload, 1) := dX5_classOfObject_0g.2.2.2.2.2.2.2.1
theorem dX5_classOfObject_14 : decode cX5_classOfObject 14 = .ok (.goto 4, 3) := dX5_classOfObject_0g.2.2.2.2.2.2.2.2.1
theorem dX5_classOfObject_17 : decode cX5_classOfObject 17 = .ok (.iconst (-1), 1) := dX5_classOfObject_0g.2.2.2.2.2.2.2.2.2.1
theorem dX5_classOfObject_18 : decode cX5_classOfObject 18 = .ok (.ireturn, 1) := dX5_classOfObject_0g.2.2.2.2.2.2.2.2.2.2
theorem dX5_beanOfObject_0g : decode cX5_beanOfObject 0 = .ok (.aload_n 0, 1) ∧ decode cX5_beanOfObject 1 = .ok (.iload_n 1, 1) ∧ decode cX5_beanOfObject 2 = .ok (.invokevirtual 64, 3) ∧ decode cX5_beanOfObject 5 = .ok (.ifCond .eq 12, 3) ∧ decode cX5_beanOfObject 8 = .ok (.aload_n 0, 1) ∧ decode cX5_beanOfObject 9 = .ok (.getfield 29, 3) ∧ decode cX5_beanOfObject 12 = .ok (.iload_n 1, 1) ∧ decode cX5_beanOfObject 13 = .ok (.iaload, 1) ∧ decode cX5_beanOfObject 14 = .ok (.goto 4, 3) ∧ decode cX5_beanOfObject 17 = .ok (.iconst (-1), 1) ∧ decode cX5_beanOfObject 18 = .ok (.ireturn, 1) := by decide +kernel
theorem dX5_beanOfObject_0 : decode cX5_beanOfObject 0 = .ok (.aload_n 0, 1) := dX5_beanOfObject_0g.1
theorem dX5_beanOfObject_1 : decode cX5_beanOfObject 1 = .ok (.iload_n 1, 1) := dX5_beanOfObject_0g.2.1
theorem dX5_beanOfObject_2 : decode cX5_beanOfObject 2 = .ok (.invokevirtual 64, 3) := dX5_beanOfObject_0g.2.2.1
theorem dX5_beanOfObject_5 : decode cX5_beanOfObject 5 = .ok (.ifCond .eq 12, 3) := dX5_beanOfObject_0g.2.2.2.1
theorem dX5_beanOfObject_8 : decode cX5_beanOfObject 8 = .ok (.aload_n 0, 1) := dX5_beanOfObject_0g.2.2.2.2.1
theorem dX5_beanOfObject_9 : decode cX5_beanOfObject 9 = .ok (.getfield 29, 3) := dX5_beanOfObject_0g.2.2.2.2.2.1
theorem dX5_beanOfObject_12 : decode cX5_beanOfObject 12 = .ok (.iload_n 1, 1) := dX5_beanOfObject_0g.2.2.2.2.2.2.1
theorem dX5_beanOfObject_13 : decode cX5_beanOfObject 13 = .ok (.iaload, 1) := dX5_beanOfObject_0g.2.2.2.2.2.2.2.1
theorem dX5_beanOfObject_14 : decode cX5_beanOfObject 14 = .ok (.goto 4, 3) := dX5_beanOfObject_0g.2.2.2.2.2.2.2.2.1
theorem dX5_beanOfObject_17 : decode cX5_beanOfObject 17 = .ok (.iconst (-1), 1) := dX5_beanOfObject_0g.2.2.2.2.2.2.2.2.2.1
theorem dX5_beanOfObject_18 : decode cX5_beanOfObject 18 = .ok (.ireturn, 1) := dX5_beanOfObject_0g.2.2.2.2.2.2.2.2.2.2
theorem dX5_lookupOf_0g : decode cX5_lookupOf 0 = .ok (.aload_n 0, 1) ∧ decode cX5_lookupOf 1 = .ok (.iload_n 1, 1) ∧ decode cX5_lookupOf 2 = .ok (.invokevirtual 64, 3) ∧ decode cX5_lookupOf 5 = .ok (.ifCond .eq 23, 3) ∧ decode cX5_lookupOf 8 = .ok (.aload_n 0, 1) ∧ decode cX5_lookupOf 9 = .ok (.getfield 13, 3) ∧ decode cX5_lookupOf 12 = .ok (.aload_n 0, 1) ∧ decode cX5_lookupOf 13 = .ok (.getfield 29, 3) ∧ decode cX5_lookupOf 16 = .ok (.iload_n 1, 1) ∧ decode cX5_lookupOf 17 = .ok (.iaload, 1) ∧ decode cX5_lookupOf 18 = .ok (.invokevirtual 68, 3) ∧ decode cX5_lookupOf 21 = .ok (.iload_n 2, 1) ∧ decode cX5_lookupOf 22 = .ok (.invokevirtual 74, 3) ∧ decode cX5_lookupOf 25 = .ok (.goto 4, 3) ∧ decode cX5_lookupOf 28 = .ok (.aconst_null, 1) ∧ decode cX5_lookupOf 29 = .ok (.areturn, 1) := by decide +kernel
theorem dX5_lookupOf_0 : decode cX5_lookupOf 0 = .ok (.aload_n 0, 1) := dX5_lookupOf_0g.1
theorem dX5_lookupOf_1 : decode cX5_lookupOf 1 = .ok (.iload_n 1, 1) := dX5_lookupOf_0g.2.1
theorem dX5_lookupOf_2 : decode cX5_lookupOf 2 = .ok (.invokevirtual 64, 3) := dX5_lookupOf_0g.2.2.1
theorem dX5_lookupOf_5 : decode cX5_lookupOf 5 = .ok (.ifCond .eq 23, 3) := dX5_lookupOf_0g.2.2.2.1
theorem dX5_lookupOf_8 : decode cX5_lookupOf 8 = .ok (.aload_n 0, 1) := dX5_lookupOf_0g.2.2.2.2.1
theorem dX5_lookupOf_9 : decode cX5_lookupOf 9 = .ok (.getfield 13, 3) := dX5_lookupOf_0g.2.2.2.2.2.1
theorem dX5_lookupOf_12 : decode cX5_lookupOf 12 = .ok (.aload_n 0, 1) := dX5_lookupOf_0g.2.2.2.2.2.2.1
theorem dX5_lookupOf_13 : decode cX5_lookupOf 13 = .ok (.getfield 29, 3) := dX5_lookupOf_0g.2.2.2.2.2.2.2.1
theorem dX5_lookupOf_16 : decode cX5_lookupOf 16 = .ok (.iload_n 1, 1) := dX5_lookupOf_0g.2.2.2.2.2.2.2.2.1
theorem dX5_lookupOf_17 : decode cX5_lookupOf 17 = .ok (.iaload, 1) := dX5_lookupOf_0g.2.2.2.2.2.2.2.2.2.1
theorem dX5_lookupOf_18 : decode cX5_lookupOf 18 = .ok (.invokevirtual 68, 3) := dX5_lookupOf_0g.2.2.2.2.2.2.2.2.2.2.1
theorem dX5_lookupOf_21 : decode cX5_lookupOf 21 = .ok (.iload_n 2, 1) := dX5_lookupOf_0g.2.2.2.2.2.2.2.2.2.2.2.1
theorem dX5_lookupOf_22 : decode cX5_lookupOf 22 = .ok (.invokevirtual 74, 3) := dX5_lookupOf_0g.2.2.2.2.2.2.2.2.2.2.2.2.1
theorem dX5_lookupOf_25 : decode cX5_lookupOf 25 = .ok (.goto 4, 3) := dX5_lookupOf_0g.2.2.2.2.2.2.2.2.2.2.2.2.2.1
theorem dX5_lookupOf_28 : decode cX5_lookupOf 28 = .ok (.aconst_null, 1) := dX5_lookupOf_0g.2.2.2.2.2.2.2.2.2.2.2.2.2.2.1
theorem dX5_lookupOf_29 : decode cX5_lookupOf 29 = .ok (.areturn, 1) := dX5_lookupOf_0g.2.2.2.2.2.2.2.2.2.2.2.2.2.2.2
theorem dX5_forgetMade_0g : decode cX5_forgetMade 0 = .ok (.iconst 0, 1) ∧ decode cX5_forgetMade 1 = .ok (.istore_n 1, 1) ∧ decode cX5_forgetMade 2 = .ok (.iload_n 1, 1) ∧ decode cX5_forgetMade 3 = .ok (.aload_n 0, 1) ∧ decode cX5_forgetMade 4 = .ok (.getfield 13, 3) ∧ decode cX5_forgetMade 7 = .ok (.invokevirtual 78, 3) ∧ decode cX5_forgetMade 10 = .ok (.if_icmp .ge 21, 3) ∧ decode cX5_forgetMade 13 = .ok (.aload_n 0, 1) ∧ decode cX5_forgetMade 14 = .ok (.getfield 13, 3) ∧ decode cX5_forgetMade 17 = .ok (.iload_n 1, 1) ∧ decode cX5_forgetMade 18 = .ok (.invokevirtual 68, 3) ∧ decode cX5_forgetMade 21 = .ok (.iconst 0, 1) ∧ decode cX5_forgetMade 22 = .ok (.putfield 82, 3) ∧ decode cX5_forgetMade 25 = .ok (.iinc 1 1, 3) ∧ decode cX5_forgetMade 28 = .ok (.goto (-26), 3) ∧ decode cX5_forgetMade 31 = .ok (.aload_n 0, 1) := by decide +kernel
theorem dX5_forgetMade_0 : decode cX5_forgetMade 0 = .ok (.iconst 0, 1) := dX5_forgetMade_0g.1
theorem dX5_forgetMade_1 : decode cX5_forgetMade 1 = .ok (.istore_n 1, 1) := dX5_forgetMade_0g.2.1
theorem dX5_forgetMade_2 : decode cX5_forgetMade 2 = .ok (.iload_n 1, 1) := dX5_forgetMade_0g.2.2.1
theorem dX5_forgetMade_3 : decode cX5_forgetMade 3 = .ok (.aload_n 0, 1) := dX5_forgetMade_0g.2.2.2.1
theorem dX5_forgetMade_4 : decode cX5_forgetMade 4 = .ok (.getfield 13, 3) := dX5_forgetMade_0g.2.2.2.2.1
theorem dX5_forgetMade_7 : decode cX5_forgetMade 7 = .ok (.invokevirtual 78, 3) := dX5_forgetMade_0g.2.2.2.2.2.1
theorem dX5_forgetMade_10 : decode cX5_forgetMade 10 = .ok (.if_icmp .ge 21, 3) := dX5_forgetMade_0g.2.2.2.2.2.2.1
theorem dX5_forgetMade_13 : decode cX5_forgetMade 13 = .ok (.aload_n 0, 1) := dX5_forgetMade_0g.2.2.2.2.2.2.2.1
theorem dX5_forgetMade_14 : decode cX5_forgetMade 14 = .ok (.getfield 13, 3) := dX5_forgetMade_0g.2.2.2.2.2.2.2.2.1
theorem dX5_forgetMade_17 : decode cX5_forgetMade 17 = .ok (.iload_n 1, 1) := dX5_forgetMade_0g.2.2.2.2.2.2.2.2.2.1
theorem dX5_forgetMade_18 : decode cX5_forgetMade 18 = .ok (.invokevirtual 68, 3) := dX5_forgetMade_0g.2.2.2.2.2.2.2.2.2.2.1
theorem dX5_forgetMade_21 : decode cX5_forgetMade 21 = .ok (.iconst 0, 1) := dX5_forgetMade_0g.2.2.2.2.2.2.2.2.2.2.2.1
theorem dX5_forgetMade_22 : decode cX5_forgetMade 22 = .ok (.putfield 82, 3) := dX5_forgetMade_0g.2.2.2.2.2.2.2.2.2.2.2.2.1
theorem dX5_forgetMade_25 : decode cX5_forgetMade 25 = .ok (.iinc 1 1, 3) := dX5_forgetMade_0g.2.2.2.2.2.2.2.2.2.2.2.2.2.1
theorem dX5_forgetMade_28 : decode cX5_forgetMade 28 = .ok (.goto (-26), 3) := dX5_forgetMade_0g.2.2.2.2.2.2.2.2.2.2.2.2.2.2.1
theorem dX5_forgetMade_31 : decode cX5_forgetMade 31 = .ok (.aload_n 0, 1) := dX5_forgetMade_0g.2.2.2.2.2.2.2.2.2.2.2.2.2.2.2
theorem dX5_forgetMade_32g : decode cX5_forgetMade 32 = .ok (.iconst 0, 1) ∧ decode cX5_forgetMade 33 = .ok (.putfield 86, 3) ∧ decode cX5_forgetMade 36 = .ok (.return_, 1) := by decide +kernel
theorem dX5_forgetMade_32 : decode cX5_forgetMade 32 = .ok (.iconst 0, 1) := dX5_forgetMade_32g.1
theorem dX5_forgetMade_33 : decode cX5_forgetMade 33 = .ok (.putfield 86, 3) := dX5_forgetMade_32g.2.1
theorem dX5_forgetMade_36 : decode cX5_forgetMade 36 = .ok (.return_, 1) := dX5_forgetMade_32g.2.2
theorem dX5_destroyAll_0g : decode cX5_destroyAll 0 = .ok (.aload_n 0, 1) ∧ decode cX5_destroyAll 1 = .ok (.getfield 86, 3) ∧ decode cX5_destroyAll 4 = .ok (.iconst 1, 1) ∧ decode cX5_destroyAll 5 = .ok (.isub, 1) ∧ decode cX5_destroyAll 6 = .ok (.istore_n 1, 1) ∧ decode cX5_destroyAll 7 = .ok (.iload_n 1, 1) ∧ decode cX5_destroyAll 8 = .ok (.ifCond .lt 50, 3) ∧ decode cX5_destroyAll 11 = .ok (.aload_n 0, 1) ∧ decode cX5_destroyAll 12 = .ok (.getfield 36, 3) ∧ decode cX5_destroyAll 15 = .ok (.iload_n 1, 1) ∧ decode cX5_destroyAll 16 = .ok (.aaload, 1) ∧ decode cX5_destroyAll 17 = .ok (.getfield 89, 3) ∧ decode cX5_destroyAll 20 = .ok (.iconst (-1), 1) ∧ decode cX5_destroyAll 21 = .ok (.if_icmp .eq 31, 3) ∧ decode cX5_destroyAll 24 = .ok (.aload_n 0, 1) ∧ decode cX5_destroyAll 25 = .ok (.getfield 21, 3) := by decide +kernel
theorem dX5_destroyAll_0 : decode cX5_destroyAll 0 = .ok (.aload_n 0, 1) := dX5_destroyAll_0g.1
theorem dX5_destroyAll_1 : decode cX5_destroyAll 1 = .ok (.getfield 86, 3) := dX5_destroyAll_0g.2.1
theorem dX5_destroyAll_4 : decode cX5_destroyAll 4 = .ok (.iconst 1, 1) := dX5_destroyAll_0g.2.2.1
theorem dX5_destroyAll_5 : decode cX5_destroyAll 5 = .ok (.isub, 1) := dX5_destroyAll_0g.2.2.2.1
theorem dX5_destroyAll_6 : decode cX5_destroyAll 6 = .ok (.istore_n 1, 1) := dX5_destroyAll_0g.2.2.2.2.1
theorem dX5_destroyAll_7 : decode cX5_destroyAll 7 = .ok (.iload_n 1, 1) := dX5_destroyAll_0g.2.2.2.2.2.1
theorem dX5_destroyAll_8 : decode cX5_destroyAll 8 = .ok (.ifCond .lt 50, 3) := dX5_destroyAll_0g.2.2.2.2.2.2.1
theorem dX5_destroyAll_11 : decode cX5_destroyAll 11 = .ok (.aload_n 0, 1) := dX5_destroyAll_0g.2.2.2.2.2.2.2.1
theorem dX5_destroyAll_12 : decode cX5_destroyAll 12 = .ok (.getfield 36, 3) := dX5_destroyAll_0g.2.2.2.2.2.2.2.2.1
theorem dX5_destroyAll_15 : decode cX5_destroyAll 15 = .ok (.iload_n 1, 1) := dX5_destroyAll_0g.2.2.2.2.2.2.2.2.2.1
theorem dX5_destroyAll_16 : decode cX5_destroyAll 16 = .ok (.aaload, 1) := dX5_destroyAll_0g.2.2.2.2.2.2.2.2.2.2.1
theorem dX5_destroyAll_17 : decode cX5_destroyAll 17 = .ok (.getfield 89, 3) := dX5_destroyAll_0g.2.2.2.2.2.2.2.2.2.2.2.1
theorem dX5_destroyAll_20 : decode cX5_destroyAll 20 = .ok (.iconst (-1), 1) := dX5_destroyAll_0g.2.2.2.2.2.2.2.2.2.2.2.2.1
theorem dX5_destroyAll_21 : decode cX5_destroyAll 21 = .ok (.if_icmp .eq 31, 3) := dX5_destroyAll_0g.2.2.2.2.2.2.2.2.2.2.2.2.2.1
theorem dX5_destroyAll_24 : decode cX5_destroyAll 24 = .ok (.aload_n 0, 1) := dX5_destroyAll_0g.2.2.2.2.2.2.2.2.2.2.2.2.2.2.1
theorem dX5_destroyAll_25 : decode cX5_destroyAll 25 = .ok (.getfield 21, 3) := dX5_destroyAll_0g.2.2.2.2.2.2.2.2.2.2.2.2.2.2.2
theorem dX5_destroyAll_28g : decode cX5_destroyAll 28 = .ok (.bipush 7, 2) ∧ decode cX5_destroyAll 30 = .ok (.aload_n 0, 1) ∧ decode cX5_destroyAll 31 = .ok (.getfield 36, 3) ∧ decode cX5_destroyAll 34 = .ok (.iload_n 1, 1) ∧ decode cX5_destroyAll 35 = .ok (.aaload, 1) ∧ decode cX5_destroyAll 36 = .ok (.getfield 92, 3) ∧ decode cX5_destroyAll 39 = .ok (.aload_n 0, 1) ∧ decode cX5_destroyAll 40 = .ok (.getfield 36, 3) ∧ decode cX5_destroyAll 43 = .ok (.iload_n 1, 1) ∧ decode cX5_destroyAll 44 = .ok (.aaload, 1) ∧ decode cX5_destroyAll 45 = .ok (.getfield 89, 3) ∧ decode cX5_destroyAll 48 = .ok (.iconst 0, 1) ∧ decode cX5_destroyAll 49 = .ok (.invokevirtual 95, 3) ∧ decode cX5_destroyAll 52 = .ok (.iinc 1 (-1), 3) ∧ decode cX5_destroyAll 55 = .ok (.goto (-48), 3) ∧ decode cX5_destroyAll 58 = .ok (.aload_n 0, 1) := by decide +kernel
theorem dX5_destroyAll_28 : decode cX5_destroyAll 28 = .ok (.bipush 7, 2) := dX5_destroyAll_28g.1
theorem dX5_destroyAll_30 : decode cX5_destroyAll 30 = .ok (.aload_n 0, 1) := dX5_destroyAll_28g.2.1
theorem dX5_destroyAll_31 : decode cX5_destroyAll 31 = .ok (.getfield 36, 3) := dX5_destroyAll_28g.2.2.1
theorem dX5_destroyAll_34 : decode cX5_destroyAll 34 = .ok (.iload_n 1, 1) := dX5_destroyAll_28g.2.2.2.1
theorem dX5_destroyAll_35 : decode cX5_destroyAll 35 = .ok (.aaload, 1) := dX5_destroyAll_28g.2.2.2.2.1
theorem dX5_destroyAll_36 : decode cX5_destroyAll 36 = .ok (.getfield 92, 3) := dX5_destroyAll_28g.2.2.2.2.2.1
theorem dX5_destroyAll_39 : decode cX5_destroyAll 39 = .ok (.aload_n 0, 1) := dX5_destroyAll_28g.2.2.2.2.2.2.1
theorem dX5_destroyAll_40 : decode cX5_destroyAll 40 = .ok (.getfield 36, 3) := dX5_destroyAll_28g.2.2.2.2.2.2.2.1
theorem dX5_destroyAll_43 : decode cX5_destroyAll 43 = .ok (.iload_n 1, 1) := dX5_destroyAll_28g.2.2.2.2.2.2.2.2.1
theorem dX5_destroyAll_44 : decode cX5_destroyAll 44 = .ok (.aaload, 1) := dX5_destroyAll_28g.2.2.2.2.2.2.2.2.2.1
theorem dX5_destroyAll_45 : decode cX5_destroyAll 45 = .ok (.getfield 89, 3) := dX5_destroyAll_28g.2.2.2.2.2.2.2.2.2.2.1
theorem dX5_destroyAll_48 : decode cX5_destroyAll 48 = .ok (.iconst 0, 1) := dX5_destroyAll_28g.2.2.2.2.2.2.2.2.2.2.2.1
theorem dX5_destroyAll_49 : decode cX5_destroyAll 49 = .ok (.invokevirtual 95, 3) := dX5_destroyAll_28g.2.2.2.2.2.2.2.2.2.2.2.2.1
theorem dX5_destroyAll_52 : decode cX5_destroyAll 52 = .ok (.iinc 1 (-1), 3) := dX5_destroyAll_28g.2.2.2.2.2.2.2.2.2.2.2.2.2.1
theorem dX5_destroyAll_55 : decode cX5_destroyAll 55 = .ok (.goto (-48), 3) := dX5_destroyAll_28g.2.2.2.2.2.2.2.2.2.2.2.2.2.2.1
theorem dX5_destroyAll_58 : decode cX5_destroyAll 58 = .ok (.aload_n 0, 1) := dX5_destroyAll_28g.2.2.2.2.2.2.2.2.2.2.2.2.2.2.2
theorem dX5_destroyAll_59 : decode cX5_destroyAll 59 = .ok (.invokevirtual 53, 3) := by decide +kernel
theorem dX5_destroyAll_62 : decode cX5_destroyAll 62 = .ok (.return_, 1) := by decide +kernel
theorem dX5_objectCalled_0g : decode cX5_objectCalled 0 = .ok (.aload_n 0, 1) ∧ decode cX5_objectCalled 1 = .ok (.lload_n 1, 1) ∧ decode cX5_objectCalled 2 = .ok (.iconst 0, 1) ∧ decode cX5_objectCalled 3 = .ok (.invokevirtual 99, 3) ∧ decode cX5_objectCalled 6 = .ok (.ireturn, 1) ∧ decode cX5_objectCalled 7 = .ok (.astore_n 3, 1) ∧ decode cX5_objectCalled 8 = .ok (.aload_n 0, 1) ∧ decode cX5_objectCalled 9 = .ok (.invokevirtual 105, 3) ∧ decode cX5_objectCalled 12 = .ok (.iconst (-1), 1) ∧ decode cX5_objectCalled 13 = .ok (.ireturn, 1) := by decide +kernel
theorem dX5_objectCalled_0 : decode cX5_objectCalled 0 = .ok (.aload_n 0, 1) := dX5_objectCalled_0g.1
theorem dX5_objectCalled_1 : decode cX5_objectCalled 1 = .ok (.lload_n 1, 1) := dX5_objectCalled_0g.2.1
theorem dX5_objectCalled_2 : decode cX5_objectCalled 2 = .ok (.iconst 0, 1) := dX5_objectCalled_0g.2.2.1
theorem dX5_objectCalled_3 : decode cX5_objectCalled 3 = .ok (.invokevirtual 99, 3) := dX5_objectCalled_0g.2.2.2.1
theorem dX5_objectCalled_6 : decode cX5_objectCalled 6 = .ok (.ireturn, 1) := dX5_objectCalled_0g.2.2.2.2.1
theorem dX5_objectCalled_7 : decode cX5_objectCalled 7 = .ok (.astore_n 3, 1) := dX5_objectCalled_0g.2.2.2.2.2.1
theorem dX5_objectCalled_8 : decode cX5_objectCalled 8 = .ok (.aload_n 0, 1) := dX5_objectCalled_0g.2.2.2.2.2.2.1
theorem dX5_objectCalled_9 : decode cX5_objectCalled 9 = .ok (.invokevirtual 105, 3) := dX5_objectCalled_0g.2.2.2.2.2.2.2.1
theorem dX5_objectCalled_12 : decode cX5_objectCalled 12 = .ok (.iconst (-1), 1) := dX5_objectCalled_0g.2.2.2.2.2.2.2.2.1
theorem dX5_objectCalled_13 : decode cX5_objectCalled 13 = .ok (.ireturn, 1) := dX5_objectCalled_0g.2.2.2.2.2.2.2.2.2
theorem dX5_renewsAll_0g : decode cX5_renewsAll 0 = .ok (.aload_n 0, 1) ∧ decode cX5_renewsAll 1 = .ok (.invokevirtual 53, 3) ∧ decode cX5_renewsAll 4 = .ok (.aload_n 0, 1) ∧ decode cX5_renewsAll 5 = .ok (.getfield 21, 3) ∧ decode cX5_renewsAll 8 = .ok (.invokevirtual 56, 3) ∧ decode cX5_renewsAll 11 = .ok (.iconst 0, 1) ∧ decode cX5_renewsAll 12 = .ok (.istore_n 1, 1) ∧ decode cX5_renewsAll 13 = .ok (.iload_n 1, 1) ∧ decode cX5_renewsAll 14 = .ok (.aload_n 0, 1) ∧ decode cX5_renewsAll 15 = .ok (.getfield 13, 3) ∧ decode cX5_renewsAll 18 = .ok (.invokevirtual 78, 3) ∧ decode cX5_renewsAll 21 = .ok (.if_icmp .ge 58, 3) ∧ decode cX5_renewsAll 24 = .ok (.aload_n 0, 1) ∧ decode cX5_renewsAll 25 = .ok (.getfield 13, 3) ∧ decode cX5_renewsAll 28 = .ok (.iload_n 1, 1) ∧ decode cX5_renewsAll 29 = .ok (.invokevirtual 68, 3) := by decide +kernel
theorem dX5_renewsAll_0 : decode cX5_renewsAll 0 = .ok (.aload_n 0, 1) := dX5_renewsAll_0g.1
theorem dX5_renewsAll_1 : decode cX5_renewsAll 1 = .ok (.invokevirtual 53, 3) := dX5_renewsAll_0g.2.1
theorem dX5_renewsAll_4 : decode cX5_renewsAll 4 = .ok (.aload_n 0, 1) := dX5_renewsAll_0g.2.2.1
theorem dX5_renewsAll_5 : decode cX5_renewsAll 5 = .ok (.getfield 21, 3) := dX5_renewsAll_0g.2.2.2.1
theorem dX5_renewsAll_8 : decode cX5_renewsAll 8 = .ok (.invokevirtual 56, 3) := dX5_renewsAll_0g.2.2.2.2.1
theorem dX5_renewsAll_11 : decode cX5_renewsAll 11 = .ok (.iconst 0, 1) := dX5_renewsAll_0g.2.2.2.2.2.1
theorem dX5_renewsAll_12 : decode cX5_renewsAll 12 = .ok (.istore_n 1, 1) := dX5_renewsAll_0g.2.2.2.2.2.2.1
theorem dX5_renewsAll_13 : decode cX5_renewsAll 13 = .ok (.iload_n 1, 1) := dX5_renewsAll_0g.2.2.2.2.2.2.2.1
theorem dX5_renewsAll_14 : decode cX5_renewsAll 14 = .ok (.aload_n 0, 1) := dX5_renewsAll_0g.2.2.2.2.2.2.2.2.1
theorem dX5_renewsAll_15 : decode cX5_renewsAll 15 = .ok (.getfield 13, 3) := dX5_renewsAll_0g.2.2.2.2.2.2.2.2.2.1
theorem dX5_renewsAll_18 : decode cX5_renewsAll 18 = .ok (.invokevirtual 78, 3) := dX5_renewsAll_0g.2.2.2.2.2.2.2.2.2.2.1
theorem dX5_renewsAll_21 : decode cX5_renewsAll 21 = .ok (.if_icmp .ge 58, 3) := dX5_renewsAll_0g.2.2.2.2.2.2.2.2.2.2.2.1
theorem dX5_renewsAll_24 : decode cX5_renewsAll 24 = .ok (.aload_n 0, 1) := dX5_renewsAll_0g.2.2.2.2.2.2.2.2.2.2.2.2.1
theorem dX5_renewsAll_25 : decode cX5_renewsAll 25 = .ok (.getfield 13, 3) := dX5_renewsAll_0g.2.2.2.2.2.2.2.2.2.2.2.2.2.1
theorem dX5_renewsAll_28 : decode cX5_renewsAll 28 = .ok (.iload_n 1, 1) := dX5_renewsAll_0g.2.2.2.2.2.2.2.2.2.2.2.2.2.2.1
theorem dX5_renewsAll_29 : decode cX5_renewsAll 29 = .ok (.invokevirtual 68, 3) := dX5_renewsAll_0g.2.2.2.2.2.2.2.2.2.2.2.2.2.2.2
theorem dX5_renewsAll_32g : decode cX5_renewsAll 32 = .ok (.astore_n 2, 1) ∧ decode cX5_renewsAll 33 = .ok (.aload_n 2, 1) ∧ decode cX5_renewsAll 34 = .ok (.getfield 108, 3) ∧ decode cX5_renewsAll 37 = .ok (.lconst 0, 1) ∧ decode cX5_renewsAll 38 = .ok (.lcmp, 1) ∧ decode cX5_renewsAll 39 = .ok (.ifCond .eq 34, 3) ∧ decode cX5_renewsAll 42 = .ok (.aload_n 2, 1) ∧ decode cX5_renewsAll 43 = .ok (.getfield 112, 3) ∧ decode cX5_renewsAll 46 = .ok (.ifCond .ne 27, 3) ∧ decode cX5_renewsAll 49 = .ok (.aload_n 2, 1) ∧ decode cX5_renewsAll 50 = .ok (.getfield 115, 3) ∧ decode cX5_renewsAll 53 = .ok (.ifCond .ne 20, 3) ∧ decode cX5_renewsAll 56 = .ok (.aload_n 2, 1) ∧ decode cX5_renewsAll 57 = .ok (.getfield 118, 3) ∧ decode cX5_renewsAll 60 = .ok (.ifCond .ne 13, 3) ∧ decode cX5_renewsAll 63 = .ok (.aload_n 0, 1) := by decide +kernel
theorem dX5_renewsAll_32 : decode cX5_renewsAll 32 = .ok (.astore_n 2, 1) := dX5_renewsAll_32g.1
theorem dX5_renewsAll_33 : decode cX5_renewsAll 33 = .ok (.aload_n 2, 1) := dX5_renewsAll_32g.2.1
theorem dX5_renewsAll_34 : decode cX5_renewsAll 34 = .ok (.getfield 108, 3) := dX5_renewsAll_32g.2.2.1
theorem dX5_renewsAll_37 : decode cX5_renewsAll 37 = .ok (.lconst 0, 1) := dX5_renewsAll_32g.2.2.2.1
theorem dX5_renewsAll_38 : decode cX5_renewsAll 38 = .ok (.lcmp, 1) := dX5_renewsAll_32g.2.2.2.2.1
theorem dX5_renewsAll_39 : decode cX5_renewsAll 39 = .ok (.ifCond .eq 34, 3) := dX5_renewsAll_32g.2.2.2.2.2.1
theorem dX5_renewsAll_42 : decode cX5_renewsAll 42 = .ok (.aload_n 2, 1) := dX5_renewsAll_32g.2.2.2.2.2.2.1
theorem dX5_renewsAll_43 : decode cX5_renewsAll 43 = .ok (.getfield 112, 3) := dX5_renewsAll_32g.2.2.2.2.2.2.2.1
theorem dX5_renewsAll_46 : decode cX5_renewsAll 46 = .ok (.ifCond .ne 27, 3) := dX5_renewsAll_32g.2.2.2.2.2.2.2.2.1
theorem dX5_renewsAll_49 : decode cX5_renewsAll 49 = .ok (.aload_n 2, 1) := dX5_renewsAll_32g.2.2.2.2.2.2.2.2.2.1
theorem dX5_renewsAll_50 : decode cX5_renewsAll 50 = .ok (.getfield 115, 3) := dX5_renewsAll_32g.2.2.2.2.2.2.2.2.2.2.1
theorem dX5_renewsAll_53 : decode cX5_renewsAll 53 = .ok (.ifCond .ne 20, 3) := dX5_renewsAll_32g.2.2.2.2.2.2.2.2.2.2.2.1
theorem dX5_renewsAll_56 : decode cX5_renewsAll 56 = .ok (.aload_n 2, 1) := dX5_renewsAll_32g.2.2.2.2.2.2.2.2.2.2.2.2.1
theorem dX5_renewsAll_57 : decode cX5_renewsAll 57 = .ok (.getfield 118, 3) := dX5_renewsAll_32g.2.2.2.2.2.2.2.2.2.2.2.2.2.1
theorem dX5_renewsAll_60 : decode cX5_renewsAll 60 = .ok (.ifCond .ne 13, 3) := dX5_renewsAll_32g.2.2.2.2.2.2.2.2.2.2.2.2.2.2.1
theorem dX5_renewsAll_63 : decode cX5_renewsAll 63 = .ok (.aload_n 0, 1) := dX5_renewsAll_32g.2.2.2.2.2.2.2.2.2.2.2.2.2.2.2
theorem dX5_renewsAll_64g : decode cX5_renewsAll 64 = .ok (.aload_n 2, 1) ∧ decode cX5_renewsAll 65 = .ok (.getfield 108, 3) ∧ decode cX5_renewsAll 68 = .ok (.iconst 0, 1) ∧ decode cX5_renewsAll 69 = .ok (.invokevirtual 99, 3) ∧ decode cX5_renewsAll 72 = .ok (.pop, 1) ∧ decode cX5_renewsAll 73 = .ok (.iinc 1 1, 3) ∧ decode cX5_renewsAll 76 = .ok (.goto (-63), 3) ∧ decode cX5_renewsAll 79 = .ok (.goto 14, 3) ∧ decode cX5_renewsAll 82 = .ok (.astore_n 1, 1) ∧ decode cX5_renewsAll 83 = .ok (.aload_n 0, 1) ∧ decode cX5_renewsAll 84 = .ok (.invokevirtual 105, 3) ∧ decode cX5_renewsAll 87 = .ok (.aload_n 0, 1) ∧ decode cX5_renewsAll 88 = .ok (.invokevirtual 121, 3) ∧ decode cX5_renewsAll 91 = .ok (.iconst 0, 1) ∧ decode cX5_renewsAll 92 = .ok (.ireturn, 1) ∧ decode cX5_renewsAll 93 = .ok (.iconst 1, 1) := by decide +kernel
theorem dX5_renewsAll_64 : decode cX5_renewsAll 64 = .ok (.aload_n 2, 1) := dX5_renewsAll_64g.1
theorem dX5_renewsAll_65 : decode cX5_renewsAll 65 = .ok (.getfield 108, 3) := dX5_renewsAll_64g.2.1
theorem dX5_renewsAll_68 : decode cX5_renewsAll 68 = .ok (.iconst 0, 1) := dX5_renewsAll_64g.2.2.1
theorem dX5_renewsAll_69 : decode cX5_renewsAll 69 = .ok (.invokevirtual 99, 3) := dX5_renewsAll_64g.2.2.2.1
theorem dX5_renewsAll_72 : decode cX5_renewsAll 72 = .ok (.pop, 1) := dX5_renewsAll_64g.2.2.2.2.1
theorem dX5_renewsAll_73 : decode cX5_renewsAll 73 = .ok (.iinc 1 1, 3) := dX5_renewsAll_64g.2.2.2.2.2.1
theorem dX5_renewsAll_76 : decode cX5_renewsAll 76 = .ok (.goto (-63), 3) := dX5_renewsAll_64g.2.2.2.2.2.2.1
theorem dX5_renewsAll_79 : decode cX5_renewsAll 79 = .ok (.goto 14, 3) := dX5_renewsAll_64g.2.2.2.2.2.2.2.1
theorem dX5_renewsAll_82 : decode cX5_renewsAll 82 = .ok (.astore_n 1, 1) := dX5_renewsAll_64g.2.2.2.2.2.2.2.2.1
theorem dX5_renewsAll_83 : decode cX5_renewsAll 83 = .ok (.aload_n 0, 1) := dX5_renewsAll_64g.2.2.2.2.2.2.2.2.2.1
theorem dX5_renewsAll_84 : decode cX5_renewsAll 84 = .ok (.invokevirtual 105, 3) := dX5_renewsAll_64g.2.2.2.2.2.2.2.2.2.2.1
theorem dX5_renewsAll_87 : decode cX5_renewsAll 87 = .ok (.aload_n 0, 1) := dX5_renewsAll_64g.2.2.2.2.2.2.2.2.2.2.2.1
theorem dX5_renewsAll_88 : decode cX5_renewsAll 88 = .ok (.invokevirtual 121, 3) := dX5_renewsAll_64g.2.2.2.2.2.2.2.2.2.2.2.2.1
theorem dX5_renewsAll_91 : decode cX5_renewsAll 91 = .ok (.iconst 0, 1) := dX5_renewsAll_64g.2.2.2.2.2.2.2.2.2.2.2.2.2.1
theorem dX5_renewsAll_92 : decode cX5_renewsAll 92 = .ok (.ireturn, 1) := dX5_renewsAll_64g.2.2.2.2.2.2.2.2.2.2.2.2.2.2.1
theorem dX5_renewsAll_93 : decode cX5_renewsAll 93 = .ok (.iconst 1, 1) := dX5_renewsAll_64g.2.2.2.2.2.2.2.2.2.2.2.2.2.2.2
theorem dX5_renewsAll_94 : decode cX5_renewsAll 94 = .ok (.ireturn, 1) := by decide +kernel
theorem dX5_failWith_0g : decode cX5_failWith 0 = .ok (.aload_n 0, 1) ∧ decode cX5_failWith 1 = .ok (.iload_n 1, 1) ∧ decode cX5_failWith 2 = .ok (.putfield 61, 3) ∧ decode cX5_failWith 5 = .ok (.aload_n 0, 1) ∧ decode cX5_failWith 6 = .ok (.aload_n 0, 1) ∧ decode cX5_failWith 7 = .ok (.getfield 124, 3) ∧ decode cX5_failWith 10 = .ok (.ifnonnull 7, 3) ∧ decode cX5_failWith 13 = .ok (.iconst (-1), 1) ∧ decode cX5_failWith 14 = .ok (.goto 10, 3) ∧ decode cX5_failWith 17 = .ok (.aload_n 0, 1) ∧ decode cX5_failWith 18 = .ok (.getfield 124, 3) ∧ decode cX5_failWith 21 = .ok (.getfield 128, 3) ∧ decode cX5_failWith 24 = .ok (.putfield 46, 3) ∧ decode cX5_failWith 27 = .ok (.new 103, 3) ∧ decode cX5_failWith 30 = .ok (.dup, 1) ∧ decode cX5_failWith 31 = .ok (.invokespecial 131, 3) := by decide +kernel
theorem dX5_failWith_0 : decode cX5_failWith 0 = .ok (.aload_n 0, 1) := dX5_failWith_0g.1
theorem dX5_failWith_1 : decode cX5_failWith 1 = .ok (.iload_n 1, 1) := dX5_failWith_0g.2.1
theorem dX5_failWith_2 : decode cX5_failWith 2 = .ok (.putfield 61, 3) := dX5_failWith_0g.2.2.1
theorem dX5_failWith_5 : decode cX5_failWith 5 = .ok (.aload_n 0, 1) := dX5_failWith_0g.2.2.2.1
theorem dX5_failWith_6 : decode cX5_failWith 6 = .ok (.aload_n 0, 1) := dX5_failWith_0g.2.2.2.2.1
theorem dX5_failWith_7 : decode cX5_failWith 7 = .ok (.getfield 124, 3) := dX5_failWith_0g.2.2.2.2.2.1
theorem dX5_failWith_10 : decode cX5_failWith 10 = .ok (.ifnonnull 7, 3) := dX5_failWith_0g.2.2.2.2.2.2.1
theorem dX5_failWith_13 : decode cX5_failWith 13 = .ok (.iconst (-1), 1) := dX5_failWith_0g.2.2.2.2.2.2.2.1
theorem dX5_failWith_14 : decode cX5_failWith 14 = .ok (.goto 10, 3) := dX5_failWith_0g.2.2.2.2.2.2.2.2.1
theorem dX5_failWith_17 : decode cX5_failWith 17 = .ok (.aload_n 0, 1) := dX5_failWith_0g.2.2.2.2.2.2.2.2.2.1
theorem dX5_failWith_18 : decode cX5_failWith 18 = .ok (.getfield 124, 3) := dX5_failWith_0g.2.2.2.2.2.2.2.2.2.2.1
theorem dX5_failWith_21 : decode cX5_failWith 21 = .ok (.getfield 128, 3) := dX5_failWith_0g.2.2.2.2.2.2.2.2.2.2.2.1
theorem dX5_failWith_24 : decode cX5_failWith 24 = .ok (.putfield 46, 3) := dX5_failWith_0g.2.2.2.2.2.2.2.2.2.2.2.2.1
theorem dX5_failWith_27 : decode cX5_failWith 27 = .ok (.new 103, 3) := dX5_failWith_0g.2.2.2.2.2.2.2.2.2.2.2.2.2.1
theorem dX5_failWith_30 : decode cX5_failWith 30 = .ok (.dup, 1) := dX5_failWith_0g.2.2.2.2.2.2.2.2.2.2.2.2.2.2.1
theorem dX5_failWith_31 : decode cX5_failWith 31 = .ok (.invokespecial 131, 3) := dX5_failWith_0g.2.2.2.2.2.2.2.2.2.2.2.2.2.2.2
theorem dX5_failWith_34 : decode cX5_failWith 34 = .ok (.athrow, 1) := by decide +kernel
theorem dX5_stopMaking_0g : decode cX5_stopMaking 0 = .ok (.iconst 0, 1) ∧ decode cX5_stopMaking 1 = .ok (.istore_n 1, 1) ∧ decode cX5_stopMaking 2 = .ok (.iload_n 1, 1) ∧ decode cX5_stopMaking 3 = .ok (.aload_n 0, 1) ∧ decode cX5_stopMaking 4 = .ok (.getfield 13, 3) ∧ decode cX5_stopMaking 7 = .ok (.invokevirtual 78, 3) ∧ decode cX5_stopMaking 10 = .ok (.if_icmp .ge 21, 3) ∧ decode cX5_stopMaking 13 = .ok (.aload_n 0, 1) ∧ decode cX5_stopMaking 14 = .ok (.getfield 13, 3) ∧ decode cX5_stopMaking 17 = .ok (.iload_n 1, 1) ∧ decode cX5_stopMaking 18 = .ok (.invokevirtual 68, 3) ∧ decode cX5_stopMaking 21 = .ok (.iconst 0, 1) ∧ decode cX5_stopMaking 22 = .ok (.putfield 132, 3) ∧ decode cX5_stopMaking 25 = .ok (.iinc 1 1, 3) ∧ decode cX5_stopMaking 28 = .ok (.goto (-26), 3) ∧ decode cX5_stopMaking 31 = .ok (.aload_n 0, 1) := by decide +kernel
theorem dX5_stopMaking_0 : decode cX5_stopMaking 0 = .ok (.iconst 0, 1) := dX5_stopMaking_0g.1
theorem dX5_stopMaking_1 : decode cX5_stopMaking 1 = .ok (.istore_n 1, 1) := dX5_stopMaking_0g.2.1
theorem dX5_stopMaking_2 : decode cX5_stopMaking 2 = .ok (.iload_n 1, 1) := dX5_stopMaking_0g.2.2.1
theorem dX5_stopMaking_3 : decode cX5_stopMaking 3 = .ok (.aload_n 0, 1) := dX5_stopMaking_0g.2.2.2.1
theorem dX5_stopMaking_4 : decode cX5_stopMaking 4 = .ok (.getfield 13, 3) := dX5_stopMaking_0g.2.2.2.2.1
theorem dX5_stopMaking_7 : decode cX5_stopMaking 7 = .ok (.invokevirtual 78, 3) := dX5_stopMaking_0g.2.2.2.2.2.1
theorem dX5_stopMaking_10 : decode cX5_stopMaking 10 = .ok (.if_icmp .ge 21, 3) := dX5_stopMaking_0g.2.2.2.2.2.2.1
theorem dX5_stopMaking_13 : decode cX5_stopMaking 13 = .ok (.aload_n 0, 1) := dX5_stopMaking_0g.2.2.2.2.2.2.2.1
theorem dX5_stopMaking_14 : decode cX5_stopMaking 14 = .ok (.getfield 13, 3) := dX5_stopMaking_0g.2.2.2.2.2.2.2.2.1
theorem dX5_stopMaking_17 : decode cX5_stopMaking 17 = .ok (.iload_n 1, 1) := dX5_stopMaking_0g.2.2.2.2.2.2.2.2.2.1
theorem dX5_stopMaking_18 : decode cX5_stopMaking 18 = .ok (.invokevirtual 68, 3) := dX5_stopMaking_0g.2.2.2.2.2.2.2.2.2.2.1
theorem dX5_stopMaking_21 : decode cX5_stopMaking 21 = .ok (.iconst 0, 1) := dX5_stopMaking_0g.2.2.2.2.2.2.2.2.2.2.2.1
theorem dX5_stopMaking_22 : decode cX5_stopMaking 22 = .ok (.putfield 132, 3) := dX5_stopMaking_0g.2.2.2.2.2.2.2.2.2.2.2.2.1
theorem dX5_stopMaking_25 : decode cX5_stopMaking 25 = .ok (.iinc 1 1, 3) := dX5_stopMaking_0g.2.2.2.2.2.2.2.2.2.2.2.2.2.1
theorem dX5_stopMaking_28 : decode cX5_stopMaking 28 = .ok (.goto (-26), 3) := dX5_stopMaking_0g.2.2.2.2.2.2.2.2.2.2.2.2.2.2.1
theorem dX5_stopMaking_31 : decode cX5_stopMaking 31 = .ok (.aload_n 0, 1) := dX5_stopMaking_0g.2.2.2.2.2.2.2.2.2.2.2.2.2.2.2
theorem dX5_stopMaking_32g : decode cX5_stopMaking 32 = .ok (.aconst_null, 1) ∧ decode cX5_stopMaking 33 = .ok (.putfield 124, 3) ∧ decode cX5_stopMaking 36 = .ok (.return_, 1) := by decide +kernel
theorem dX5_stopMaking_32 : decode cX5_stopMaking 32 = .ok (.aconst_null, 1) := dX5_stopMaking_32g.1
theorem dX5_stopMaking_33 : decode cX5_stopMaking 33 = .ok (.putfield 124, 3) := dX5_stopMaking_32g.2.1
theorem dX5_stopMaking_36 : decode cX5_stopMaking 36 = .ok (.return_, 1) := dX5_stopMaking_32g.2.2
theorem dX5_obtain_0g : decode cX5_obtain 0 = .ok (.aload_n 0, 1) ∧ decode cX5_obtain 1 = .ok (.getfield 13, 3) ∧ decode cX5_obtain 4 = .ok (.lload_n 1, 1) ∧ decode cX5_obtain 5 = .ok (.invokevirtual 135, 3) ∧ decode cX5_obtain 8 = .ok (.astore 4, 2) ∧ decode cX5_obtain 10 = .ok (.aload 4, 2) ∧ decode cX5_obtain 12 = .ok (.ifnonnull 9, 3) ∧ decode cX5_obtain 15 = .ok (.aload_n 0, 1) ∧ decode cX5_obtain 16 = .ok (.iconst 1, 1) ∧ decode cX5_obtain 17 = .ok (.invokevirtual 139, 3) ∧ decode cX5_obtain 21 = .ok (.aload 4, 2) ∧ decode cX5_obtain 23 = .ok (.getfield 112, 3) ∧ decode cX5_obtain 26 = .ok (.ifCond .eq 9, 3) ∧ decode cX5_obtain 29 = .ok (.aload_n 0, 1) ∧ decode cX5_obtain 30 = .ok (.iconst 2, 1) ∧ decode cX5_obtain 31 = .ok (.invokevirtual 139, 3) := by decide +kernel
theorem dX5_obtain_0 : decode cX5_obtain 0 = .ok (.aload_n 0, 1) := dX5_obtain_0g.1
theorem dX5_obtain_1 : decode cX5_obtain 1 = .ok (.getfield 13, 3) := dX5_obtain_0g.2.1
theorem dX5_obtain_4 : decode cX5_obtain 4 = .ok (.lload_n 1, 1) := dX5_obtain_0g.2.2.1
theorem dX5_obtain_5 : decode cX5_obtain 5 = .ok (.invokevirtual 135, 3) := dX5_obtain_0g.2.2.2.1
theorem dX5_obtain_8 : decode cX5_obtain 8 = .ok (.astore 4, 2) := dX5_obtain_0g.2.2.2.2.1
theorem dX5_obtain_10 : decode cX5_obtain 10 = .ok (.aload 4, 2) := dX5_obtain_0g.2.2.2.2.2.1
theorem dX5_obtain_12 : decode cX5_obtain 12 = .ok (.ifnonnull 9, 3) := dX5_obtain_0g.2.2.2.2.2.2.1
theorem dX5_obtain_15 : decode cX5_obtain 15 = .ok (.aload_n 0, 1) := dX5_obtain_0g.2.2.2.2.2.2.2.1
theorem dX5_obtain_16 : decode cX5_obtain 16 = .ok (.iconst 1, 1) := dX5_obtain_0g.2.2.2.2.2.2.2.2.1
theorem dX5_obtain_17 : decode cX5_obtain 17 = .ok (.invokevirtual 139, 3) := dX5_obtain_0g.2.2.2.2.2.2.2.2.2.1
theorem dX5_obtain_21 : decode cX5_obtain 21 = .ok (.aload 4, 2) := dX5_obtain_0g.2.2.2.2.2.2.2.2.2.2.1
theorem dX5_obtain_23 : decode cX5_obtain 23 = .ok (.getfield 112, 3) := dX5_obtain_0g.2.2.2.2.2.2.2.2.2.2.2.1
theorem dX5_obtain_26 : decode cX5_obtain 26 = .ok (.ifCond .eq 9, 3) := dX5_obtain_0g.2.2.2.2.2.2.2.2.2.2.2.2.1
theorem dX5_obtain_29 : decode cX5_obtain 29 = .ok (.aload_n 0, 1) := dX5_obtain_0g.2.2.2.2.2.2.2.2.2.2.2.2.2.1
theorem dX5_obtain_30 : decode cX5_obtain 30 = .ok (.iconst 2, 1) := dX5_obtain_0g.2.2.2.2.2.2.2.2.2.2.2.2.2.2.1
theorem dX5_obtain_31 : decode cX5_obtain 31 = .ok (.invokevirtual 139, 3) := dX5_obtain_0g.2.2.2.2.2.2.2.2.2.2.2.2.2.2.2
theorem dX5_obtain_35g : decode cX5_obtain 35 = .ok (.aload 4, 2) ∧ decode cX5_obtain 37 = .ok (.getfield 115, 3) ∧ decode cX5_obtain 40 = .ok (.ifCond .ne 34, 3) ∧ decode cX5_obtain 43 = .ok (.aload 4, 2) ∧ decode cX5_obtain 45 = .ok (.getfield 82, 3) ∧ decode cX5_obtain 48 = .ok (.ifCond .ne 20, 3) ∧ decode cX5_obtain 51 = .ok (.aload 4, 2) ∧ decode cX5_obtain 53 = .ok (.getfield 132, 3) ∧ decode cX5_obtain 56 = .ok (.ifCond .eq 18, 3) ∧ decode cX5_obtain 59 = .ok (.aload 4, 2) ∧ decode cX5_obtain 61 = .ok (.getfield 92, 3) ∧ decode cX5_obtain 64 = .ok (.iconst (-1), 1) ∧ decode cX5_obtain 65 = .ok (.if_icmp .eq 9, 3) ∧ decode cX5_obtain 68 = .ok (.aload 4, 2) ∧ decode cX5_obtain 70 = .ok (.getfield 92, 3) ∧ decode cX5_obtain 73 = .ok (.ireturn, 1) := by decide +kernel
theorem dX5_obtain_35 : decode cX5_obtain 35 = .ok (.aload 4, 2) := dX5_obtain_35g.1
theorem dX5_obtain_37 : decode cX5_obtain 37 = .ok (.getfield 115, 3) := dX5_obtain_35g.2.1
theorem dX5_obtain_40 : decode cX5_obtain 40 = .ok (.ifCond .ne 34, 3) := dX5_obtain_35g.2.2.1
theorem dX5_obtain_43 : decode cX5_obtain 43 = .ok (.aload 4, 2) := dX5_obtain_35g.2.2.2.1
theorem dX5_obtain_45 : decode cX5_obtain 45 = .ok (.getfield 82, 3) := dX5_obtain_35g.2.2.2.2.1
theorem dX5_obtain_48 : decode cX5_obtain 48 = .ok (.ifCond .ne 20, 3) := dX5_obtain_35g.2.2.2.2.2.1
theorem dX5_obtain_51 : decode cX5_obtain 51 = .ok (.aload 4, 2) := dX5_obtain_35g.2.2.2.2.2.2.1
theorem dX5_obtain_53 : decode cX5_obtain 53 = .ok (.getfield 132, 3) := dX5_obtain_35g.2.2.2.2.2.2.2.1
theorem dX5_obtain_56 : decode cX5_obtain 56 = .ok (.ifCond .eq 18, 3) := dX5_obtain_35g.2.2.2.2.2.2.2.2.1
theorem dX5_obtain_59 : decode cX5_obtain 59 = .ok (.aload 4, 2) := dX5_obtain_35g.2.2.2.2.2.2.2.2.2.1
theorem dX5_obtain_61 : decode cX5_obtain 61 = .ok (.getfield 92, 3) := dX5_obtain_35g.2.2.2.2.2.2.2.2.2.2.1
theorem dX5_obtain_64 : decode cX5_obtain 64 = .ok (.iconst (-1), 1) := dX5_obtain_35g.2.2.2.2.2.2.2.2.2.2.2.1
theorem dX5_obtain_65 : decode cX5_obtain 65 = .ok (.if_icmp .eq 9, 3) := dX5_obtain_35g.2.2.2.2.2.2.2.2.2.2.2.2.1
theorem dX5_obtain_68 : decode cX5_obtain 68 = .ok (.aload 4, 2) := dX5_obtain_35g.2.2.2.2.2.2.2.2.2.2.2.2.2.1
theorem dX5_obtain_70 : decode cX5_obtain 70 = .ok (.getfield 92, 3) := dX5_obtain_35g.2.2.2.2.2.2.2.2.2.2.2.2.2.2.1
theorem dX5_obtain_73 : decode cX5_obtain 73 = .ok (.ireturn, 1) := dX5_obtain_35g.2.2.2.2.2.2.2.2.2.2.2.2.2.2.2
theorem dX5_obtain_74g : decode cX5_obtain 74 = .ok (.aload_n 0, 1) ∧ decode cX5_obtain 75 = .ok (.aload 4, 2) ∧ decode cX5_obtain 77 = .ok (.iload_n 3, 1) ∧ decode cX5_obtain 78 = .ok (.invokevirtual 143, 3) ∧ decode cX5_obtain 81 = .ok (.ireturn, 1) := by decide +kernel
theorem dX5_obtain_74 : decode cX5_obtain 74 = .ok (.aload_n 0, 1) := dX5_obtain_74g.1
theorem dX5_obtain_75 : decode cX5_obtain 75 = .ok (.aload 4, 2) := dX5_obtain_74g.2.1
theorem dX5_obtain_77 : decode cX5_obtain 77 = .ok (.iload_n 3, 1) := dX5_obtain_74g.2.2.1
theorem dX5_obtain_78 : decode cX5_obtain 78 = .ok (.invokevirtual 143, 3) := dX5_obtain_74g.2.2.2.1
theorem dX5_obtain_81 : decode cX5_obtain 81 = .ok (.ireturn, 1) := dX5_obtain_74g.2.2.2.2
theorem dX5_make_0g : decode cX5_make 0 = .ok (.aload_n 1, 1) ∧ decode cX5_make 1 = .ok (.getfield 132, 3) ∧ decode cX5_make 4 = .ok (.ifCond .ne 9, 3) ∧ decode cX5_make 7 = .ok (.iload_n 2, 1) ∧ decode cX5_make 8 = .ok (.bipush 40, 2) ∧ decode cX5_make 10 = .ok (.if_icmp .lt 9, 3) ∧ decode cX5_make 13 = .ok (.aload_n 0, 1) ∧ decode cX5_make 14 = .ok (.iconst 3, 1) ∧ decode cX5_make 15 = .ok (.invokevirtual 139, 3) ∧ decode cX5_make 19 = .ok (.aload_n 0, 1) ∧ decode cX5_make 20 = .ok (.getfield 124, 3) ∧ decode cX5_make 23 = .ok (.astore_n 3, 1) ∧ decode cX5_make 24 = .ok (.aload_n 0, 1) ∧ decode cX5_make 25 = .ok (.aload_n 1, 1) ∧ decode cX5_make 26 = .ok (.putfield 124, 3) ∧ decode cX5_make 29 = .ok (.aload_n 1, 1) := by decide +kernel
theorem dX5_make_0 : decode cX5_make 0 = .ok (.aload_n 1, 1) := dX5_make_0g.1
theorem dX5_make_1 : decode cX5_make 1 = .ok (.getfield 132, 3) := dX5_make_0g.2.1
theorem dX5_make_4 : decode cX5_make 4 = .ok (.ifCond .ne 9, 3) := dX5_make_0g.2.2.1
theorem dX5_make_7 : decode cX5_make 7 = .ok (.iload_n 2, 1) := dX5_make_0g.2.2.2.1
theorem dX5_make_8 : decode cX5_make 8 = .ok (.bipush 40, 2) := dX5_make_0g.2.2.2.2.1
theorem dX5_make_10 : decode cX5_make 10 = .ok (.if_icmp .lt 9, 3) := dX5_make_0g.2.2.2.2.2.1
theorem dX5_make_13 : decode cX5_make 13 = .ok (.aload_n 0, 1) := dX5_make_0g.2.2.2.2.2.2.1
theorem dX5_make_14 : decode cX5_make 14 = .ok (.iconst 3, 1) := dX5_make_0g.2.2.2.2.2.2.2.1
theorem dX5_make_15 : decode cX5_make 15 = .ok (.invokevirtual 139, 3) := dX5_make_0g.2.2.2.2.2.2.2.2.1
theorem dX5_make_19 : decode cX5_make 19 = .ok (.aload_n 0, 1) := dX5_make_0g.2.2.2.2.2.2.2.2.2.1
theorem dX5_make_20 : decode cX5_make 20 = .ok (.getfield 124, 3) := dX5_make_0g.2.2.2.2.2.2.2.2.2.2.1
theorem dX5_make_23 : decode cX5_make 23 = .ok (.astore_n 3, 1) := dX5_make_0g.2.2.2.2.2.2.2.2.2.2.2.1
theorem dX5_make_24 : decode cX5_make 24 = .ok (.aload_n 0, 1) := dX5_make_0g.2.2.2.2.2.2.2.2.2.2.2.2.1
theorem dX5_make_25 : decode cX5_make 25 = .ok (.aload_n 1, 1) := dX5_make_0g.2.2.2.2.2.2.2.2.2.2.2.2.2.1
theorem dX5_make_26 : decode cX5_make 26 = .ok (.putfield 124, 3) := dX5_make_0g.2.2.2.2.2.2.2.2.2.2.2.2.2.2.1
theorem dX5_make_29 : decode cX5_make 29 = .ok (.aload_n 1, 1) := dX5_make_0g.2.2.2.2.2.2.2.2.2.2.2.2.2.2.2
theorem dX5_make_30g : decode cX5_make 30 = .ok (.iconst 1, 1) ∧ decode cX5_make 31 = .ok (.putfield 132, 3) ∧ decode cX5_make 34 = .ok (.aload_n 1, 1) ∧ decode cX5_make 35 = .ok (.iconst (-1), 1) ∧ decode cX5_make 36 = .ok (.putfield 92, 3) ∧ decode cX5_make 39 = .ok (.aload_n 1, 1) ∧ decode cX5_make 40 = .ok (.getfield 147, 3) ∧ decode cX5_make 43 = .ok (.lconst 0, 1) ∧ decode cX5_make 44 = .ok (.lcmp, 1) ∧ decode cX5_make 45 = .ok (.ifCond .eq 15, 3) ∧ decode cX5_make 48 = .ok (.aload_n 0, 1) ∧ decode cX5_make 49 = .ok (.aload_n 1, 1) ∧ decode cX5_make 50 = .ok (.getfield 147, 3) ∧ decode cX5_make 53 = .ok (.iload_n 2, 1) ∧ decode cX5_make 54 = .ok (.iconst 1, 1) ∧ decode cX5_make 55 = .ok (.iadd, 1) := by decide +kernel
theorem dX5_make_30 : decode cX5_make 30 = .ok (.iconst 1, 1) := dX5_make_30g.1
theorem dX5_make_31 : decode cX5_make 31 = .ok (.putfield 132, 3) := dX5_make_30g.2.1
theorem dX5_make_34 : decode cX5_make 34 = .ok (.aload_n 1, 1) := dX5_make_30g.2.2.1
theorem dX5_make_35 : decode cX5_make 35 = .ok (.iconst (-1), 1) := dX5_make_30g.2.2.2.1
theorem dX5_make_36 : decode cX5_make 36 = .ok (.putfield 92, 3) := dX5_make_30g.2.2.2.2.1
theorem dX5_make_39 : decode cX5_make 39 = .ok (.aload_n 1, 1) := dX5_make_30g.2.2.2.2.2.1
theorem dX5_make_40 : decode cX5_make 40 = .ok (.getfield 147, 3) := dX5_make_30g.2.2.2.2.2.2.1
theorem dX5_make_43 : decode cX5_make 43 = .ok (.lconst 0, 1) := dX5_make_30g.2.2.2.2.2.2.2.1
theorem dX5_make_44 : decode cX5_make 44 = .ok (.lcmp, 1) := dX5_make_30g.2.2.2.2.2.2.2.2.1
theorem dX5_make_45 : decode cX5_make 45 = .ok (.ifCond .eq 15, 3) := dX5_make_30g.2.2.2.2.2.2.2.2.2.1
theorem dX5_make_48 : decode cX5_make 48 = .ok (.aload_n 0, 1) := dX5_make_30g.2.2.2.2.2.2.2.2.2.2.1
theorem dX5_make_49 : decode cX5_make 49 = .ok (.aload_n 1, 1) := dX5_make_30g.2.2.2.2.2.2.2.2.2.2.2.1
theorem dX5_make_50 : decode cX5_make 50 = .ok (.getfield 147, 3) := dX5_make_30g.2.2.2.2.2.2.2.2.2.2.2.2.1
theorem dX5_make_53 : decode cX5_make 53 = .ok (.iload_n 2, 1) := dX5_make_30g.2.2.2.2.2.2.2.2.2.2.2.2.2.1
theorem dX5_make_54 : decode cX5_make 54 = .ok (.iconst 1, 1) := dX5_make_30g.2.2.2.2.2.2.2.2.2.2.2.2.2.2.1
theorem dX5_make_55 : decode cX5_make 55 = .ok (.iadd, 1) := dX5_make_30g.2.2.2.2.2.2.2.2.2.2.2.2.2.2.2
theorem dX5_make_56g : decode cX5_make 56 = .ok (.invokevirtual 99, 3) ∧ decode cX5_make 59 = .ok (.pop, 1) ∧ decode cX5_make 60 = .ok (.aload_n 1, 1) ∧ decode cX5_make 61 = .ok (.getfield 150, 3) ∧ decode cX5_make 64 = .ok (.iconst (-1), 1) ∧ decode cX5_make 65 = .ok (.if_icmp .ne 18, 3) ∧ decode cX5_make 68 = .ok (.aload_n 1, 1) ∧ decode cX5_make 69 = .ok (.getfield 153, 3) ∧ decode cX5_make 72 = .ok (.lconst 0, 1) ∧ decode cX5_make 73 = .ok (.lcmp, 1) ∧ decode cX5_make 74 = .ok (.ifCond .ne 9, 3) ∧ decode cX5_make 77 = .ok (.aload_n 0, 1) ∧ decode cX5_make 78 = .ok (.iconst 4, 1) ∧ decode cX5_make 79 = .ok (.invokevirtual 139, 3) ∧ decode cX5_make 83 = .ok (.aload_n 1, 1) ∧ decode cX5_make 84 = .ok (.getfield 153, 3) := by decide +kernel
theorem dX5_make_56 : decode cX5_make 56 = .ok (.invokevirtual 99, 3) := dX5_make_56g.1
theorem dX5_make_59 : decode cX5_make 59 = .ok (.pop, 1) := dX5_make_56g.2.1
theorem dX5_make_60 : decode cX5_make 60 = .ok (.aload_n 1, 1) := dX5_make_56g.2.2.1
theorem dX5_make_61 : decode cX5_make 61 = .ok (.getfield 150, 3) := dX5_make_56g.2.2.2.1
theorem dX5_make_64 : decode cX5_make 64 = .ok (.iconst (-1), 1) := dX5_make_56g.2.2.2.2.1
theorem dX5_make_65 : decode cX5_make 65 = .ok (.if_icmp .ne 18, 3) := dX5_make_56g.2.2.2.2.2.1
theorem dX5_make_68 : decode cX5_make 68 = .ok (.aload_n 1, 1) := dX5_make_56g.2.2.2.2.2.2.1
theorem dX5_make_69 : decode cX5_make 69 = .ok (.getfield 153, 3) := dX5_make_56g.2.2.2.2.2.2.2.1
theorem dX5_make_72 : decode cX5_make 72 = .ok (.lconst 0, 1) := dX5_make_56g.2.2.2.2.2.2.2.2.1
theorem dX5_make_73 : decode cX5_make 73 = .ok (.lcmp, 1) := dX5_make_56g.2.2.2.2.2.2.2.2.2.1
theorem dX5_make_74 : decode cX5_make 74 = .ok (.ifCond .ne 9, 3) := dX5_make_56g.2.2.2.2.2.2.2.2.2.2.1
theorem dX5_make_77 : decode cX5_make 77 = .ok (.aload_n 0, 1) := dX5_make_56g.2.2.2.2.2.2.2.2.2.2.2.1
theorem dX5_make_78 : decode cX5_make 78 = .ok (.iconst 4, 1) := dX5_make_56g.2.2.2.2.2.2.2.2.2.2.2.2.1
theorem dX5_make_79 : decode cX5_make 79 = .ok (.invokevirtual 139, 3) := dX5_make_56g.2.2.2.2.2.2.2.2.2.2.2.2.2.1
theorem dX5_make_83 : decode cX5_make 83 = .ok (.aload_n 1, 1) := dX5_make_56g.2.2.2.2.2.2.2.2.2.2.2.2.2.2.1
theorem dX5_make_84 : decode cX5_make 84 = .ok (.getfield 153, 3) := dX5_make_56g.2.2.2.2.2.2.2.2.2.2.2.2.2.2.2
theorem dX5_make_87g : decode cX5_make 87 = .ok (.lconst 0, 1) ∧ decode cX5_make 88 = .ok (.lcmp, 1) ∧ decode cX5_make 89 = .ok (.ifCond .ne 7, 3) ∧ decode cX5_make 92 = .ok (.iconst (-1), 1) ∧ decode cX5_make 93 = .ok (.goto 14, 3) ∧ decode cX5_make 96 = .ok (.aload_n 0, 1) ∧ decode cX5_make 97 = .ok (.aload_n 1, 1) ∧ decode cX5_make 98 = .ok (.getfield 153, 3) ∧ decode cX5_make 101 = .ok (.iload_n 2, 1) ∧ decode cX5_make 102 = .ok (.iconst 1, 1) ∧ decode cX5_make 103 = .ok (.iadd, 1) ∧ decode cX5_make 104 = .ok (.invokevirtual 99, 3) ∧ decode cX5_make 107 = .ok (.istore 4, 2) ∧ decode cX5_make 109 = .ok (.aload_n 0, 1) ∧ decode cX5_make 110 = .ok (.aload_n 1, 1) ∧ decode cX5_make 111 = .ok (.iload_n 2, 1) := by decide +kernel
theorem dX5_make_87 : decode cX5_make 87 = .ok (.lconst 0, 1) := dX5_make_87g.1
theorem dX5_make_88 : decode cX5_make 88 = .ok (.lcmp, 1) := dX5_make_87g.2.1
theorem dX5_make_89 : decode cX5_make 89 = .ok (.ifCond .ne 7, 3) := dX5_make_87g.2.2.1
theorem dX5_make_92 : decode cX5_make 92 = .ok (.iconst (-1), 1) := dX5_make_87g.2.2.2.1
theorem dX5_make_93 : decode cX5_make 93 = .ok (.goto 14, 3) := dX5_make_87g.2.2.2.2.1
theorem dX5_make_96 : decode cX5_make 96 = .ok (.aload_n 0, 1) := dX5_make_87g.2.2.2.2.2.1
theorem dX5_make_97 : decode cX5_make 97 = .ok (.aload_n 1, 1) := dX5_make_87g.2.2.2.2.2.2.1
theorem dX5_make_98 : decode cX5_make 98 = .ok (.getfield 153, 3) := dX5_make_87g.2.2.2.2.2.2.2.1
theorem dX5_make_101 : decode cX5_make 101 = .ok (.iload_n 2, 1) := dX5_make_87g.2.2.2.2.2.2.2.2.1
theorem dX5_make_102 : decode cX5_make 102 = .ok (.iconst 1, 1) := dX5_make_87g.2.2.2.2.2.2.2.2.2.1
theorem dX5_make_103 : decode cX5_make 103 = .ok (.iadd, 1) := dX5_make_87g.2.2.2.2.2.2.2.2.2.2.1
theorem dX5_make_104 : decode cX5_make 104 = .ok (.invokevirtual 99, 3) := dX5_make_87g.2.2.2.2.2.2.2.2.2.2.2.1
theorem dX5_make_107 : decode cX5_make 107 = .ok (.istore 4, 2) := dX5_make_87g.2.2.2.2.2.2.2.2.2.2.2.2.1
theorem dX5_make_109 : decode cX5_make 109 = .ok (.aload_n 0, 1) := dX5_make_87g.2.2.2.2.2.2.2.2.2.2.2.2.2.1
theorem dX5_make_110 : decode cX5_make 110 = .ok (.aload_n 1, 1) := dX5_make_87g.2.2.2.2.2.2.2.2.2.2.2.2.2.2.1
theorem dX5_make_111 : decode cX5_make 111 = .ok (.iload_n 2, 1) := dX5_make_87g.2.2.2.2.2.2.2.2.2.2.2.2.2.2.2
theorem dX5_make_112g : decode cX5_make 112 = .ok (.invokevirtual 156, 3) ∧ decode cX5_make 115 = .ok (.aload_n 0, 1) ∧ decode cX5_make 116 = .ok (.aload_n 1, 1) ∧ decode cX5_make 117 = .ok (.aload_n 0, 1) ∧ decode cX5_make 118 = .ok (.aload_n 1, 1) ∧ decode cX5_make 119 = .ok (.iload 4, 2) ∧ decode cX5_make 121 = .ok (.iload_n 2, 1) ∧ decode cX5_make 122 = .ok (.invokevirtual 160, 3) ∧ decode cX5_make 125 = .ok (.iload_n 2, 1) ∧ decode cX5_make 126 = .ok (.invokevirtual 164, 3) ∧ decode cX5_make 129 = .ok (.aload_n 0, 1) ∧ decode cX5_make 130 = .ok (.aload_n 1, 1) ∧ decode cX5_make 131 = .ok (.iload_n 2, 1) ∧ decode cX5_make 132 = .ok (.invokevirtual 168, 3) ∧ decode cX5_make 135 = .ok (.aload_n 1, 1) ∧ decode cX5_make 136 = .ok (.getfield 171, 3) := by decide +kernel
theorem dX5_make_112 : decode cX5_make 112 = .ok (.invokevirtual 156, 3) := dX5_make_112g.1
theorem dX5_make_115 : decode cX5_make 115 = .ok (.aload_n 0, 1) := dX5_make_112g.2.1
theorem dX5_make_116 : decode cX5_make 116 = .ok (.aload_n 1, 1) := dX5_make_112g.2.2.1
theorem dX5_make_117 : decode cX5_make 117 = .ok (.aload_n 0, 1) := dX5_make_112g.2.2.2.1
theorem dX5_make_118 : decode cX5_make 118 = .ok (.aload_n 1, 1) := dX5_make_112g.2.2.2.2.1
theorem dX5_make_119 : decode cX5_make 119 = .ok (.iload 4, 2) := dX5_make_112g.2.2.2.2.2.1
theorem dX5_make_121 : decode cX5_make 121 = .ok (.iload_n 2, 1) := dX5_make_112g.2.2.2.2.2.2.1
theorem dX5_make_122 : decode cX5_make 122 = .ok (.invokevirtual 160, 3) := dX5_make_112g.2.2.2.2.2.2.2.1
theorem dX5_make_125 : decode cX5_make 125 = .ok (.iload_n 2, 1) := dX5_make_112g.2.2.2.2.2.2.2.2.1
theorem dX5_make_126 : decode cX5_make 126 = .ok (.invokevirtual 164, 3) := dX5_make_112g.2.2.2.2.2.2.2.2.2.1
theorem dX5_make_129 : decode cX5_make 129 = .ok (.aload_n 0, 1) := dX5_make_112g.2.2.2.2.2.2.2.2.2.2.1
theorem dX5_make_130 : decode cX5_make 130 = .ok (.aload_n 1, 1) := dX5_make_112g.2.2.2.2.2.2.2.2.2.2.2.1
theorem dX5_make_131 : decode cX5_make 131 = .ok (.iload_n 2, 1) := dX5_make_112g.2.2.2.2.2.2.2.2.2.2.2.2.1
theorem dX5_make_132 : decode cX5_make 132 = .ok (.invokevirtual 168, 3) := dX5_make_112g.2.2.2.2.2.2.2.2.2.2.2.2.2.1
theorem dX5_make_135 : decode cX5_make 135 = .ok (.aload_n 1, 1) := dX5_make_112g.2.2.2.2.2.2.2.2.2.2.2.2.2.2.1
theorem dX5_make_136 : decode cX5_make 136 = .ok (.getfield 171, 3) := dX5_make_112g.2.2.2.2.2.2.2.2.2.2.2.2.2.2.2
theorem dX5_make_139g : decode cX5_make 139 = .ok (.iconst (-1), 1) ∧ decode cX5_make 140 = .ok (.if_icmp .eq 20, 3) ∧ decode cX5_make 143 = .ok (.aload_n 0, 1) ∧ decode cX5_make 144 = .ok (.getfield 21, 3) ∧ decode cX5_make 147 = .ok (.iconst 5, 1) ∧ decode cX5_make 148 = .ok (.aload_n 1, 1) ∧ decode cX5_make 149 = .ok (.getfield 92, 3) ∧ decode cX5_make 152 = .ok (.aload_n 1, 1) ∧ decode cX5_make 153 = .ok (.getfield 171, 3) ∧ decode cX5_make 156 = .ok (.iconst 0, 1) ∧ decode cX5_make 157 = .ok (.invokevirtual 95, 3) ∧ decode cX5_make 160 = .ok (.aload_n 0, 1) ∧ decode cX5_make 161 = .ok (.aload_n 1, 1) ∧ decode cX5_make 162 = .ok (.invokevirtual 174, 3) ∧ decode cX5_make 165 = .ok (.aload_n 0, 1) ∧ decode cX5_make 166 = .ok (.aload_n 3, 1) := by decide +kernel
theorem dX5_make_139 : decode cX5_make 139 = .ok (.iconst (-1), 1) := dX5_make_139g.1
theorem dX5_make_140 : decode cX5_make 140 = .ok (.if_icmp .eq 20, 3) := dX5_make_139g.2.1
theorem dX5_make_143 : decode cX5_make 143 = .ok (.aload_n 0, 1) := dX5_make_139g.2.2.1
theorem dX5_make_144 : decode cX5_make 144 = .ok (.getfield 21, 3) := dX5_make_139g.2.2.2.1
theorem dX5_make_147 : decode cX5_make 147 = .ok (.iconst 5, 1) := dX5_make_139g.2.2.2.2.1
theorem dX5_make_148 : decode cX5_make 148 = .ok (.aload_n 1, 1) := dX5_make_139g.2.2.2.2.2.1
theorem dX5_make_149 : decode cX5_make 149 = .ok (.getfield 92, 3) := dX5_make_139g.2.2.2.2.2.2.1
theorem dX5_make_152 : decode cX5_make 152 = .ok (.aload_n 1, 1) := dX5_make_139g.2.2.2.2.2.2.2.1
theorem dX5_make_153 : decode cX5_make 153 = .ok (.getfield 171, 3) := dX5_make_139g.2.2.2.2.2.2.2.2.1
theorem dX5_make_156 : decode cX5_make 156 = .ok (.iconst 0, 1) := dX5_make_139g.2.2.2.2.2.2.2.2.2.1
theorem dX5_make_157 : decode cX5_make 157 = .ok (.invokevirtual 95, 3) := dX5_make_139g.2.2.2.2.2.2.2.2.2.2.1
theorem dX5_make_160 : decode cX5_make 160 = .ok (.aload_n 0, 1) := dX5_make_139g.2.2.2.2.2.2.2.2.2.2.2.1
theorem dX5_make_161 : decode cX5_make 161 = .ok (.aload_n 1, 1) := dX5_make_139g.2.2.2.2.2.2.2.2.2.2.2.2.1
theorem dX5_make_162 : decode cX5_make 162 = .ok (.invokevirtual 174, 3) := dX5_make_139g.2.2.2.2.2.2.2.2.2.2.2.2.2.1
theorem dX5_make_165 : decode cX5_make 165 = .ok (.aload_n 0, 1) := dX5_make_139g.2.2.2.2.2.2.2.2.2.2.2.2.2.2.1
theorem dX5_make_166 : decode cX5_make 166 = .ok (.aload_n 3, 1) := dX5_make_139g.2.2.2.2.2.2.2.2.2.2.2.2.2.2.2
theorem dX5_make_167g : decode cX5_make 167 = .ok (.putfield 124, 3) ∧ decode cX5_make 170 = .ok (.aload_n 1, 1) ∧ decode cX5_make 171 = .ok (.getfield 92, 3) ∧ decode cX5_make 174 = .ok (.ireturn, 1) := by decide +kernel
theorem dX5_make_167 : decode cX5_make 167 = .ok (.putfield 124, 3) := dX5_make_167g.1
theorem dX5_make_170 : decode cX5_make 170 = .ok (.aload_n 1, 1) := dX5_make_167g.2.1
theorem dX5_make_171 : decode cX5_make 171 = .ok (.getfield 92, 3) := dX5_make_167g.2.2.1
theorem dX5_make_174 : decode cX5_make 174 = .ok (.ireturn, 1) := dX5_make_167g.2.2.2
theorem dX5_finish_0g : decode cX5_finish 0 = .ok (.aload_n 1, 1) ∧ decode cX5_finish 1 = .ok (.iconst 0, 1) ∧ decode cX5_finish 2 = .ok (.putfield 132, 3) ∧ decode cX5_finish 5 = .ok (.aload_n 1, 1) ∧ decode cX5_finish 6 = .ok (.iconst 1, 1) ∧ decode cX5_finish 7 = .ok (.putfield 82, 3) ∧ decode cX5_finish 10 = .ok (.aload_n 1, 1) ∧ decode cX5_finish 11 = .ok (.getfield 108, 3) ∧ decode cX5_finish 14 = .ok (.lconst 0, 1) ∧ decode cX5_finish 15 = .ok (.lcmp, 1) ∧ decode cX5_finish 16 = .ok (.ifCond .eq 42, 3) ∧ decode cX5_finish 19 = .ok (.aload_n 1, 1) ∧ decode cX5_finish 20 = .ok (.getfield 115, 3) ∧ decode cX5_finish 23 = .ok (.ifCond .ne 35, 3) ∧ decode cX5_finish 26 = .ok (.aload_n 0, 1) ∧ decode cX5_finish 27 = .ok (.getfield 86, 3) := by decide +kernel
theorem dX5_finish_0 : decode cX5_finish 0 = .ok (.aload_n 1, 1) := dX5_finish_0g.1
theorem dX5_finish_1 : decode cX5_finish 1 = .ok (.iconst 0, 1) := dX5_finish_0g.2.1
theorem dX5_finish_2 : decode cX5_finish 2 = .ok (.putfield 132, 3) := dX5_finish_0g.2.2.1
theorem dX5_finish_5 : decode cX5_finish 5 = .ok (.aload_n 1, 1) := dX5_finish_0g.2.2.2.1
theorem dX5_finish_6 : decode cX5_finish 6 = .ok (.iconst 1, 1) := dX5_finish_0g.2.2.2.2.1
theorem dX5_finish_7 : decode cX5_finish 7 = .ok (.putfield 82, 3) := dX5_finish_0g.2.2.2.2.2.1
theorem dX5_finish_10 : decode cX5_finish 10 = .ok (.aload_n 1, 1) := dX5_finish_0g.2.2.2.2.2.2.1
theorem dX5_finish_11 : decode cX5_finish 11 = .ok (.getfield 108, 3) := dX5_finish_0g.2.2.2.2.2.2.2.1
theorem dX5_finish_14 : decode cX5_finish 14 = .ok (.lconst 0, 1) := dX5_finish_0g.2.2.2.2.2.2.2.2.1
theorem dX5_finish_15 : decode cX5_finish 15 = .ok (.lcmp, 1) := dX5_finish_0g.2.2.2.2.2.2.2.2.2.1
theorem dX5_finish_16 : decode cX5_finish 16 = .ok (.ifCond .eq 42, 3) := dX5_finish_0g.2.2.2.2.2.2.2.2.2.2.1
theorem dX5_finish_19 : decode cX5_finish 19 = .ok (.aload_n 1, 1) := dX5_finish_0g.2.2.2.2.2.2.2.2.2.2.2.1
theorem dX5_finish_20 : decode cX5_finish 20 = .ok (.getfield 115, 3) := dX5_finish_0g.2.2.2.2.2.2.2.2.2.2.2.2.1
theorem dX5_finish_23 : decode cX5_finish 23 = .ok (.ifCond .ne 35, 3) := dX5_finish_0g.2.2.2.2.2.2.2.2.2.2.2.2.2.1
theorem dX5_finish_26 : decode cX5_finish 26 = .ok (.aload_n 0, 1) := dX5_finish_0g.2.2.2.2.2.2.2.2.2.2.2.2.2.2.1
theorem dX5_finish_27 : decode cX5_finish 27 = .ok (.getfield 86, 3) := dX5_finish_0g.2.2.2.2.2.2.2.2.2.2.2.2.2.2.2
theorem dX5_finish_30g : decode cX5_finish 30 = .ok (.aload_n 0, 1) ∧ decode cX5_finish 31 = .ok (.getfield 36, 3) ∧ decode cX5_finish 34 = .ok (.arraylength, 1) ∧ decode cX5_finish 35 = .ok (.if_icmp .ge 23, 3) ∧ decode cX5_finish 38 = .ok (.aload_n 0, 1) ∧ decode cX5_finish 39 = .ok (.getfield 36, 3) ∧ decode cX5_finish 42 = .ok (.aload_n 0, 1) ∧ decode cX5_finish 43 = .ok (.getfield 86, 3) ∧ decode cX5_finish 46 = .ok (.aload_n 1, 1) ∧ decode cX5_finish 47 = .ok (.aastore, 1) ∧ decode cX5_finish 48 = .ok (.aload_n 0, 1) ∧ decode cX5_finish 49 = .ok (.dup, 1) ∧ decode cX5_finish 50 = .ok (.getfield 86, 3) ∧ decode cX5_finish 53 = .ok (.iconst 1, 1) ∧ decode cX5_finish 54 = .ok (.iadd, 1) ∧ decode cX5_finish 55 = .ok (.putfield 86, 3) := by decide +kernel
theorem dX5_finish_30 : decode cX5_finish 30 = .ok (.aload_n 0, 1) := dX5_finish_30g.1
theorem dX5_finish_31 : decode cX5_finish 31 = .ok (.getfield 36, 3) := dX5_finish_30g.2.1
theorem dX5_finish_34 : decode cX5_finish 34 = .ok (.arraylength, 1) := dX5_finish_30g.2.2.1
theorem dX5_finish_35 : decode cX5_finish 35 = .ok (.if_icmp .ge 23, 3) := dX5_finish_30g.2.2.2.1
theorem dX5_finish_38 : decode cX5_finish 38 = .ok (.aload_n 0, 1) := dX5_finish_30g.2.2.2.2.1
theorem dX5_finish_39 : decode cX5_finish 39 = .ok (.getfield 36, 3) := dX5_finish_30g.2.2.2.2.2.1
theorem dX5_finish_42 : decode cX5_finish 42 = .ok (.aload_n 0, 1) := dX5_finish_30g.2.2.2.2.2.2.1
theorem dX5_finish_43 : decode cX5_finish 43 = .ok (.getfield 86, 3) := dX5_finish_30g.2.2.2.2.2.2.2.1
theorem dX5_finish_46 : decode cX5_finish 46 = .ok (.aload_n 1, 1) := dX5_finish_30g.2.2.2.2.2.2.2.2.1
theorem dX5_finish_47 : decode cX5_finish 47 = .ok (.aastore, 1) := dX5_finish_30g.2.2.2.2.2.2.2.2.2.1
theorem dX5_finish_48 : decode cX5_finish 48 = .ok (.aload_n 0, 1) := dX5_finish_30g.2.2.2.2.2.2.2.2.2.2.1
theorem dX5_finish_49 : decode cX5_finish 49 = .ok (.dup, 1) := dX5_finish_30g.2.2.2.2.2.2.2.2.2.2.2.1
theorem dX5_finish_50 : decode cX5_finish 50 = .ok (.getfield 86, 3) := dX5_finish_30g.2.2.2.2.2.2.2.2.2.2.2.2.1
theorem dX5_finish_53 : decode cX5_finish 53 = .ok (.iconst 1, 1) := dX5_finish_30g.2.2.2.2.2.2.2.2.2.2.2.2.2.1
theorem dX5_finish_54 : decode cX5_finish 54 = .ok (.iadd, 1) := dX5_finish_30g.2.2.2.2.2.2.2.2.2.2.2.2.2.2.1
theorem dX5_finish_55 : decode cX5_finish 55 = .ok (.putfield 86, 3) := dX5_finish_30g.2.2.2.2.2.2.2.2.2.2.2.2.2.2.2
theorem dX5_finish_58 : decode cX5_finish 58 = .ok (.return_, 1) := by decide +kernel
theorem dX5_slot_0g : decode cX5_slot 0 = .ok (.iload_n 0, 1) ∧ decode cX5_slot 1 = .ok (.bipush 24, 2) ∧ decode cX5_slot 3 = .ok (.imul, 1) ∧ decode cX5_slot 4 = .ok (.iload_n 1, 1) ∧ decode cX5_slot 5 = .ok (.bipush 6, 2) ∧ decode cX5_slot 7 = .ok (.imul, 1) ∧ decode cX5_slot 8 = .ok (.iadd, 1) ∧ decode cX5_slot 9 = .ok (.ireturn, 1) := by decide +kernel
theorem dX5_slot_0 : decode cX5_slot 0 = .ok (.iload_n 0, 1) := dX5_slot_0g.1
theorem dX5_slot_1 : decode cX5_slot 1 = .ok (.bipush 24, 2) := dX5_slot_0g.2.1
theorem dX5_slot_3 : decode cX5_slot 3 = .ok (.imul, 1) := dX5_slot_0g.2.2.1
theorem dX5_slot_4 : decode cX5_slot 4 = .ok (.iload_n 1, 1) := dX5_slot_0g.2.2.2.1
theorem dX5_slot_5 : decode cX5_slot 5 = .ok (.bipush 6, 2) := dX5_slot_0g.2.2.2.2.1
theorem dX5_slot_7 : decode cX5_slot 7 = .ok (.imul, 1) := dX5_slot_0g.2.2.2.2.2.1
theorem dX5_slot_8 : decode cX5_slot 8 = .ok (.iadd, 1) := dX5_slot_0g.2.2.2.2.2.2.1
theorem dX5_slot_9 : decode cX5_slot 9 = .ok (.ireturn, 1) := dX5_slot_0g.2.2.2.2.2.2.2
theorem dX5_workOutArgs_0g : decode cX5_workOutArgs 0 = .ok (.iconst 0, 1) ∧ decode cX5_workOutArgs 1 = .ok (.istore_n 3, 1) ∧ decode cX5_workOutArgs 2 = .ok (.iload_n 3, 1) ∧ decode cX5_workOutArgs 3 = .ok (.aload_n 1, 1) ∧ decode cX5_workOutArgs 4 = .ok (.getfield 178, 3) ∧ decode cX5_workOutArgs 7 = .ok (.invokevirtual 182, 3) ∧ decode cX5_workOutArgs 10 = .ok (.if_icmp .ge 38, 3) ∧ decode cX5_workOutArgs 13 = .ok (.iload_n 3, 1) ∧ decode cX5_workOutArgs 14 = .ok (.iconst 4, 1) ∧ decode cX5_workOutArgs 15 = .ok (.if_icmp .ge 33, 3) ∧ decode cX5_workOutArgs 18 = .ok (.aload_n 0, 1) ∧ decode cX5_workOutArgs 19 = .ok (.aload_n 1, 1) ∧ decode cX5_workOutArgs 20 = .ok (.getfield 178, 3) ∧ decode cX5_workOutArgs 23 = .ok (.iload_n 3, 1) ∧ decode cX5_workOutArgs 24 = .ok (.invokevirtual 187, 3) ∧ decode cX5_workOutArgs 27 = .ok (.checkcast 191, 3) := by decide +kernel
theorem dX5_workOutArgs_0 : decode cX5_workOutArgs 0 = .ok (.iconst 0, 1) := dX5_workOutArgs_0g.1
theorem dX5_workOutArgs_1 : decode cX5_workOutArgs 1 = .ok (.istore_n 3, 1) := dX5_workOutArgs_0g.2.1
theorem dX5_workOutArgs_2 : decode cX5_workOutArgs 2 = .ok (.iload_n 3, 1) := dX5_workOutArgs_0g.2.2.1
theorem dX5_workOutArgs_3 : decode cX5_workOutArgs 3 = .ok (.aload_n 1, 1) := dX5_workOutArgs_0g.2.2.2.1
theorem dX5_workOutArgs_4 : decode cX5_workOutArgs 4 = .ok (.getfield 178, 3) := dX5_workOutArgs_0g.2.2.2.2.1
theorem dX5_workOutArgs_7 : decode cX5_workOutArgs 7 = .ok (.invokevirtual 182, 3) := dX5_workOutArgs_0g.2.2.2.2.2.1
theorem dX5_workOutArgs_10 : decode cX5_workOutArgs 10 = .ok (.if_icmp .ge 38, 3) := dX5_workOutArgs_0g.2.2.2.2.2.2.1
theorem dX5_workOutArgs_13 : decode cX5_workOutArgs 13 = .ok (.iload_n 3, 1) := dX5_workOutArgs_0g.2.2.2.2.2.2.2.1
theorem dX5_workOutArgs_14 : decode cX5_workOutArgs 14 = .ok (.iconst 4, 1) := dX5_workOutArgs_0g.2.2.2.2.2.2.2.2.1
theorem dX5_workOutArgs_15 : decode cX5_workOutArgs 15 = .ok (.if_icmp .ge 33, 3) := dX5_workOutArgs_0g.2.2.2.2.2.2.2.2.2.1
theorem dX5_workOutArgs_18 : decode cX5_workOutArgs 18 = .ok (.aload_n 0, 1) := dX5_workOutArgs_0g.2.2.2.2.2.2.2.2.2.2.1
theorem dX5_workOutArgs_19 : decode cX5_workOutArgs 19 = .ok (.aload_n 1, 1) := dX5_workOutArgs_0g.2.2.2.2.2.2.2.2.2.2.2.1
theorem dX5_workOutArgs_20 : decode cX5_workOutArgs 20 = .ok (.getfield 178, 3) := dX5_workOutArgs_0g.2.2.2.2.2.2.2.2.2.2.2.2.1
theorem dX5_workOutArgs_23 : decode cX5_workOutArgs 23 = .ok (.iload_n 3, 1) := dX5_workOutArgs_0g.2.2.2.2.2.2.2.2.2.2.2.2.2.1
theorem dX5_workOutArgs_24 : decode cX5_workOutArgs 24 = .ok (.invokevirtual 187, 3) := dX5_workOutArgs_0g.2.2.2.2.2.2.2.2.2.2.2.2.2.2.1
theorem dX5_workOutArgs_27 : decode cX5_workOutArgs 27 = .ok (.checkcast 191, 3) := dX5_workOutArgs_0g.2.2.2.2.2.2.2.2.2.2.2.2.2.2.2
theorem dX5_workOutArgs_30g : decode cX5_workOutArgs 30 = .ok (.getfield 193, 3) ∧ decode cX5_workOutArgs 33 = .ok (.iload_n 2, 1) ∧ decode cX5_workOutArgs 34 = .ok (.iload_n 3, 1) ∧ decode cX5_workOutArgs 35 = .ok (.invokestatic 197, 3) ∧ decode cX5_workOutArgs 38 = .ok (.iload_n 2, 1) ∧ decode cX5_workOutArgs 39 = .ok (.invokevirtual 201, 3) ∧ decode cX5_workOutArgs 42 = .ok (.iinc 3 1, 3) ∧ decode cX5_workOutArgs 45 = .ok (.goto (-43), 3) ∧ decode cX5_workOutArgs 48 = .ok (.return_, 1) := by decide +kernel
theorem dX5_workOutArgs_30 : decode cX5_workOutArgs 30 = .ok (.getfield 193, 3) := dX5_workOutArgs_30g.1
theorem dX5_workOutArgs_33 : decode cX5_workOutArgs 33 = .ok (.iload_n 2, 1) := dX5_workOutArgs_30g.2.1
theorem dX5_workOutArgs_34 : decode cX5_workOutArgs 34 = .ok (.iload_n 3, 1) := dX5_workOutArgs_30g.2.2.1
theorem dX5_workOutArgs_35 : decode cX5_workOutArgs 35 = .ok (.invokestatic 197, 3) := dX5_workOutArgs_30g.2.2.2.1
theorem dX5_workOutArgs_38 : decode cX5_workOutArgs 38 = .ok (.iload_n 2, 1) := dX5_workOutArgs_30g.2.2.2.2.1
theorem dX5_workOutArgs_39 : decode cX5_workOutArgs 39 = .ok (.invokevirtual 201, 3) := dX5_workOutArgs_30g.2.2.2.2.2.1
theorem dX5_workOutArgs_42 : decode cX5_workOutArgs 42 = .ok (.iinc 3 1, 3) := dX5_workOutArgs_30g.2.2.2.2.2.2.1
theorem dX5_workOutArgs_45 : decode cX5_workOutArgs 45 = .ok (.goto (-43), 3) := dX5_workOutArgs_30g.2.2.2.2.2.2.2.1
theorem dX5_workOutArgs_48 : decode cX5_workOutArgs 48 = .ok (.return_, 1) := dX5_workOutArgs_30g.2.2.2.2.2.2.2.2
