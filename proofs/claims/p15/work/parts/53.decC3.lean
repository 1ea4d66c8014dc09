theorem dX10_settle_0g : decode cX10_settle 0 = .ok (.aload_n 1, 1) ∧ decode cX10_settle 1 = .ok (.aload_n 1, 1) ∧ decode cX10_settle 2 = .ok (.getfield 57, 3) ∧ decode cX10_settle 5 = .ok (.putfield 61, 3) ∧ decode cX10_settle 8 = .ok (.getstatic 64, 3) ∧ decode cX10_settle 11 = .ok (.aload_n 1, 1) ∧ decode cX10_settle 12 = .ok (.getfield 57, 3) ∧ decode cX10_settle 15 = .ok (.invokevirtual 70, 3) ∧ decode cX10_settle 18 = .ok (.iaload, 1) ∧ decode cX10_settle 19 = .ok (.tableswitch 255 7 14 #[45, 78, 136, 174, 197, 255, 248, 230], 45) ∧ decode cX10_settle 64 = .ok (.aload_n 1, 1) ∧ decode cX10_settle 65 = .ok (.aload_n 0, 1) ∧ decode cX10_settle 66 = .ok (.getfield 9, 3) ∧ decode cX10_settle 69 = .ok (.aload_n 1, 1) ∧ decode cX10_settle 70 = .ok (.getstatic 75, 3) ∧ decode cX10_settle 73 = .ok (.invokevirtual 78, 3) := by decide +kernel
theorem dX10_settle_0 : decode cX10_settle 0 = .ok (.aload_n 1, 1) := dX10_settle_0g.1
theorem dX10_settle_1 : decode cX10_settle 1 = .ok (.aload_n 1, 1) := dX10_settle_0g.2.1
theorem dX10_settle_2 : decode cX10_settle 2 = .ok (.getfield 57, 3) := dX10_settle_0g.2.2.1
theorem dX10_settle_5 : decode cX10_settle 5 = .ok (.putfield 61, 3) := dX10_settle_0g.2.2.2.1
theorem dX10_settle_8 : decode cX10_settle 8 = .ok (.getstatic 64, 3) := dX10_settle_0g.2.2.2.2.1
theorem dX10_settle_11 : decode cX10_settle 11 = .ok (.aload_n 1, 1) := dX10_settle_0g.2.2.2.2.2.1
theorem dX10_settle_12 : decode cX10_settle 12 = .ok (.getfield 57, 3) := dX10_settle_0g.2.2.2.2.2.2.1
theorem dX10_settle_15 : decode cX10_settle 15 = .ok (.invokevirtual 70, 3) := dX10_settle_0g.2.2.2.2.2.2.2.1
theorem dX10_settle_18 : decode cX10_settle 18 = .ok (.iaload, 1) := dX10_settle_0g.2.2.2.2.2.2.2.2.1
theorem dX10_settle_19 : decode cX10_settle 19 = .ok (.tableswitch 255 7 14 #[45, 78, 136, 174, 197, 255, 248, 230], 45) := dX10_settle_0g.2.2.2.2.2.2.2.2.2.1
theorem dX10_settle_64 : decode cX10_settle 64 = .ok (.aload_n 1, 1) := dX10_settle_0g.2.2.2.2.2.2.2.2.2.2.1
theorem dX10_settle_65 : decode cX10_settle 65 = .ok (.aload_n 0, 1) := dX10_settle_0g.2.2.2.2.2.2.2.2.2.2.2.1
theorem dX10_settle_66 : decode cX10_settle 66 = .ok (.getfield 9, 3) := dX10_settle_0g.2.2.2.2.2.2.2.2.2.2.2.2.1
theorem dX10_settle_69 : decode cX10_settle 69 = .ok (.aload_n 1, 1) := dX10_settle_0g.2.2.2.2.2.2.2.2.2.2.2.2.2.1
theorem dX10_settle_70 : decode cX10_settle 70 = .ok (.getstatic 75, 3) := dX10_settle_0g.2.2.2.2.2.2.2.2.2.2.2.2.2.2.1
theorem dX10_settle_73 : decode cX10_settle 73 = .ok (.invokevirtual 78, 3) := dX10_settle_0g.2.2.2.2.2.2.2.2.2.2.2.2.2.2.2
theorem dX10_settle_76g : decode cX10_settle 76 = .ok (.putfield 82, 3) ∧ decode cX10_settle 79 = .ok (.aload_n 1, 1) ∧ decode cX10_settle 80 = .ok (.aload_n 0, 1) ∧ decode cX10_settle 81 = .ok (.getfield 9, 3) ∧ decode cX10_settle 84 = .ok (.aload_n 1, 1) ∧ decode cX10_settle 85 = .ok (.getstatic 86, 3) ∧ decode cX10_settle 88 = .ok (.invokevirtual 78, 3) ∧ decode cX10_settle 91 = .ok (.putfield 89, 3) ∧ decode cX10_settle 94 = .ok (.goto 180, 3) ∧ decode cX10_settle 97 = .ok (.aload_n 1, 1) ∧ decode cX10_settle 98 = .ok (.aload_n 0, 1) ∧ decode cX10_settle 99 = .ok (.getfield 9, 3) ∧ decode cX10_settle 102 = .ok (.aload_n 1, 1) ∧ decode cX10_settle 103 = .ok (.getstatic 92, 3) ∧ decode cX10_settle 106 = .ok (.invokevirtual 78, 3) ∧ decode cX10_settle 109 = .ok (.putfield 82, 3) := by decide +kernel
theorem dX10_settle_76 : decode cX10_settle 76 = .ok (.putfield 82, 3) := dX10_settle_76g.1
theorem dX10_settle_79 : decode cX10_settle 79 = .ok (.aload_n 1, 1) := dX10_settle_76g.2.1
theorem dX10_settle_80 : decode cX10_settle 80 = .ok (.aload_n 0, 1) := dX10_settle_76g.2.2.1
theorem dX10_settle_81 : decode cX10_settle 81 = .ok (.getfield 9, 3) := dX10_settle_76g.2.2.2.1
theorem dX10_settle_84 : decode cX10_settle 84 = .ok (.aload_n 1, 1) := dX10_settle_76g.2.2.2.2.1
theorem dX10_settle_85 : decode cX10_settle 85 = .ok (.getstatic 86, 3) := dX10_settle_76g.2.2.2.2.2.1
theorem dX10_settle_88 : decode cX10_settle 88 = .ok (.invokevirtual 78, 3) := dX10_settle_76g.2.2.2.2.2.2.1
theorem dX10_settle_91 : decode cX10_settle 91 = .ok (.putfield 89, 3) := dX10_settle_76g.2.2.2.2.2.2.2.1
theorem dX10_settle_94 : decode cX10_settle 94 = .ok (.goto 180, 3) := dX10_settle_76g.2.2.2.2.2.2.2.2.1
theorem dX10_settle_97 : decode cX10_settle 97 = .ok (.aload_n 1, 1) := dX10_settle_76g.2.2.2.2.2.2.2.2.2.1
theorem dX10_settle_98 : decode cX10_settle 98 = .ok (.aload_n 0, 1) := dX10_settle_76g.2.2.2.2.2.2.2.2.2.2.1
theorem dX10_settle_99 : decode cX10_settle 99 = .ok (.getfield 9, 3) := dX10_settle_76g.2.2.2.2.2.2.2.2.2.2.2.1
theorem dX10_settle_102 : decode cX10_settle 102 = .ok (.aload_n 1, 1) := dX10_settle_76g.2.2.2.2.2.2.2.2.2.2.2.2.1
theorem dX10_settle_103 : decode cX10_settle 103 = .ok (.getstatic 92, 3) := dX10_settle_76g.2.2.2.2.2.2.2.2.2.2.2.2.2.1
theorem dX10_settle_106 : decode cX10_settle 106 = .ok (.invokevirtual 78, 3) := dX10_settle_76g.2.2.2.2.2.2.2.2.2.2.2.2.2.2.1
theorem dX10_settle_109 : decode cX10_settle 109 = .ok (.putfield 82, 3) := dX10_settle_76g.2.2.2.2.2.2.2.2.2.2.2.2.2.2.2
theorem dX10_settle_112g : decode cX10_settle 112 = .ok (.aload_n 1, 1) ∧ decode cX10_settle 113 = .ok (.aload_n 0, 1) ∧ decode cX10_settle 114 = .ok (.getfield 19, 3) ∧ decode cX10_settle 117 = .ok (.aload_n 0, 1) ∧ decode cX10_settle 118 = .ok (.getfield 29, 3) ∧ decode cX10_settle 121 = .ok (.aaload, 1) ∧ decode cX10_settle 122 = .ok (.putfield 95, 3) ∧ decode cX10_settle 125 = .ok (.aload_n 0, 1) ∧ decode cX10_settle 126 = .ok (.getfield 19, 3) ∧ decode cX10_settle 129 = .ok (.aload_n 0, 1) ∧ decode cX10_settle 130 = .ok (.getfield 29, 3) ∧ decode cX10_settle 133 = .ok (.aaload, 1) ∧ decode cX10_settle 134 = .ok (.aload_n 1, 1) ∧ decode cX10_settle 135 = .ok (.aload_n 0, 1) ∧ decode cX10_settle 136 = .ok (.getfield 9, 3) ∧ decode cX10_settle 139 = .ok (.invokevirtual 99, 3) := by decide +kernel
theorem dX10_settle_112 : decode cX10_settle 112 = .ok (.aload_n 1, 1) := dX10_settle_112g.1
theorem dX10_settle_113 : decode cX10_settle 113 = .ok (.aload_n 0, 1) := dX10_settle_112g.2.1
theorem dX10_settle_114 : decode cX10_settle 114 = .ok (.getfield 19, 3) := dX10_settle_112g.2.2.1
theorem dX10_settle_117 : decode cX10_settle 117 = .ok (.aload_n 0, 1) := dX10_settle_112g.2.2.2.1
theorem dX10_settle_118 : decode cX10_settle 118 = .ok (.getfield 29, 3) := dX10_settle_112g.2.2.2.2.1
theorem dX10_settle_121 : decode cX10_settle 121 = .ok (.aaload, 1) := dX10_settle_112g.2.2.2.2.2.1
theorem dX10_settle_122 : decode cX10_settle 122 = .ok (.putfield 95, 3) := dX10_settle_112g.2.2.2.2.2.2.1
theorem dX10_settle_125 : decode cX10_settle 125 = .ok (.aload_n 0, 1) := dX10_settle_112g.2.2.2.2.2.2.2.1
theorem dX10_settle_126 : decode cX10_settle 126 = .ok (.getfield 19, 3) := dX10_settle_112g.2.2.2.2.2.2.2.2.1
theorem dX10_settle_129 : decode cX10_settle 129 = .ok (.aload_n 0, 1) := dX10_settle_112g.2.2.2.2.2.2.2.2.2.1
theorem dX10_settle_130 : decode cX10_settle 130 = .ok (.getfield 29, 3) := dX10_settle_112g.2.2.2.2.2.2.2.2.2.2.1
theorem dX10_settle_133 : decode cX10_settle 133 = .ok (.aaload, 1) := dX10_settle_112g.2.2.2.2.2.2.2.2.2.2.2.1
theorem dX10_settle_134 : decode cX10_settle 134 = .ok (.aload_n 1, 1) := dX10_settle_112g.2.2.2.2.2.2.2.2.2.2.2.2.1
theorem dX10_settle_135 : decode cX10_settle 135 = .ok (.aload_n 0, 1) := dX10_settle_112g.2.2.2.2.2.2.2.2.2.2.2.2.2.1
theorem dX10_settle_136 : decode cX10_settle 136 = .ok (.getfield 9, 3) := dX10_settle_112g.2.2.2.2.2.2.2.2.2.2.2.2.2.2.1
theorem dX10_settle_139 : decode cX10_settle 139 = .ok (.invokevirtual 99, 3) := dX10_settle_112g.2.2.2.2.2.2.2.2.2.2.2.2.2.2.2
theorem dX10_settle_142g : decode cX10_settle 142 = .ok (.aload_n 0, 1) ∧ decode cX10_settle 143 = .ok (.dup, 1) ∧ decode cX10_settle 144 = .ok (.getfield 29, 3) ∧ decode cX10_settle 147 = .ok (.iconst 1, 1) ∧ decode cX10_settle 148 = .ok (.iadd, 1) ∧ decode cX10_settle 149 = .ok (.putfield 29, 3) ∧ decode cX10_settle 152 = .ok (.goto 122, 3) ∧ decode cX10_settle 155 = .ok (.aload_n 1, 1) ∧ decode cX10_settle 156 = .ok (.aload_n 0, 1) ∧ decode cX10_settle 157 = .ok (.getfield 9, 3) ∧ decode cX10_settle 160 = .ok (.aload_n 1, 1) ∧ decode cX10_settle 161 = .ok (.getstatic 103, 3) ∧ decode cX10_settle 164 = .ok (.invokevirtual 106, 3) ∧ decode cX10_settle 167 = .ok (.putfield 110, 3) ∧ decode cX10_settle 170 = .ok (.aload_n 1, 1) ∧ decode cX10_settle 171 = .ok (.aload_n 0, 1) := by decide +kernel
theorem dX10_settle_142 : decode cX10_settle 142 = .ok (.aload_n 0, 1) := dX10_settle_142g.1
theorem dX10_settle_143 : decode cX10_settle 143 = .ok (.dup, 1) := dX10_settle_142g.2.1
theorem dX10_settle_144 : decode cX10_settle 144 = .ok (.getfield 29, 3) := dX10_settle_142g.2.2.1
theorem dX10_settle_147 : decode cX10_settle 147 = .ok (.iconst 1, 1) := dX10_settle_142g.2.2.2.1
theorem dX10_settle_148 : decode cX10_settle 148 = .ok (.iadd, 1) := dX10_settle_142g.2.2.2.2.1
theorem dX10_settle_149 : decode cX10_settle 149 = .ok (.putfield 29, 3) := dX10_settle_142g.2.2.2.2.2.1
theorem dX10_settle_152 : decode cX10_settle 152 = .ok (.goto 122, 3) := dX10_settle_142g.2.2.2.2.2.2.1
theorem dX10_settle_155 : decode cX10_settle 155 = .ok (.aload_n 1, 1) := dX10_settle_142g.2.2.2.2.2.2.2.1
theorem dX10_settle_156 : decode cX10_settle 156 = .ok (.aload_n 0, 1) := dX10_settle_142g.2.2.2.2.2.2.2.2.1
theorem dX10_settle_157 : decode cX10_settle 157 = .ok (.getfield 9, 3) := dX10_settle_142g.2.2.2.2.2.2.2.2.2.1
theorem dX10_settle_160 : decode cX10_settle 160 = .ok (.aload_n 1, 1) := dX10_settle_142g.2.2.2.2.2.2.2.2.2.2.1
theorem dX10_settle_161 : decode cX10_settle 161 = .ok (.getstatic 103, 3) := dX10_settle_142g.2.2.2.2.2.2.2.2.2.2.2.1
theorem dX10_settle_164 : decode cX10_settle 164 = .ok (.invokevirtual 106, 3) := dX10_settle_142g.2.2.2.2.2.2.2.2.2.2.2.2.1
theorem dX10_settle_167 : decode cX10_settle 167 = .ok (.putfield 110, 3) := dX10_settle_142g.2.2.2.2.2.2.2.2.2.2.2.2.2.1
theorem dX10_settle_170 : decode cX10_settle 170 = .ok (.aload_n 1, 1) := dX10_settle_142g.2.2.2.2.2.2.2.2.2.2.2.2.2.2.1
theorem dX10_settle_171 : decode cX10_settle 171 = .ok (.aload_n 0, 1) := dX10_settle_142g.2.2.2.2.2.2.2.2.2.2.2.2.2.2.2
theorem dX10_settle_172g : decode cX10_settle 172 = .ok (.getfield 9, 3) ∧ decode cX10_settle 175 = .ok (.aload_n 1, 1) ∧ decode cX10_settle 176 = .ok (.getstatic 113, 3) ∧ decode cX10_settle 179 = .ok (.invokevirtual 116, 3) ∧ decode cX10_settle 182 = .ok (.putfield 119, 3) ∧ decode cX10_settle 185 = .ok (.aload_n 0, 1) ∧ decode cX10_settle 186 = .ok (.aload_n 1, 1) ∧ decode cX10_settle 187 = .ok (.invokevirtual 122, 3) ∧ decode cX10_settle 190 = .ok (.goto 84, 3) ∧ decode cX10_settle 193 = .ok (.aload_n 1, 1) ∧ decode cX10_settle 194 = .ok (.aload_n 0, 1) ∧ decode cX10_settle 195 = .ok (.getfield 9, 3) ∧ decode cX10_settle 198 = .ok (.aload_n 1, 1) ∧ decode cX10_settle 199 = .ok (.getstatic 86, 3) ∧ decode cX10_settle 202 = .ok (.invokevirtual 125, 3) ∧ decode cX10_settle 205 = .ok (.putfield 128, 3) := by decide +kernel
theorem dX10_settle_172 : decode cX10_settle 172 = .ok (.getfield 9, 3) := dX10_settle_172g.1
theorem dX10_settle_175 : decode cX10_settle 175 = .ok (.aload_n 1, 1) := dX10_settle_172g.2.1
theorem dX10_settle_176 : decode cX10_settle 176 = .ok (.getstatic 113, 3) := dX10_settle_172g.2.2.1
theorem dX10_settle_179 : decode cX10_settle 179 = .ok (.invokevirtual 116, 3) := dX10_settle_172g.2.2.2.1
theorem dX10_settle_182 : decode cX10_settle 182 = .ok (.putfield 119, 3) := dX10_settle_172g.2.2.2.2.1
theorem dX10_settle_185 : decode cX10_settle 185 = .ok (.aload_n 0, 1) := dX10_settle_172g.2.2.2.2.2.1
theorem dX10_settle_186 : decode cX10_settle 186 = .ok (.aload_n 1, 1) := dX10_settle_172g.2.2.2.2.2.2.1
theorem dX10_settle_187 : decode cX10_settle 187 = .ok (.invokevirtual 122, 3) := dX10_settle_172g.2.2.2.2.2.2.2.1
theorem dX10_settle_190 : decode cX10_settle 190 = .ok (.goto 84, 3) := dX10_settle_172g.2.2.2.2.2.2.2.2.1
theorem dX10_settle_193 : decode cX10_settle 193 = .ok (.aload_n 1, 1) := dX10_settle_172g.2.2.2.2.2.2.2.2.2.1
theorem dX10_settle_194 : decode cX10_settle 194 = .ok (.aload_n 0, 1) := dX10_settle_172g.2.2.2.2.2.2.2.2.2.2.1
theorem dX10_settle_195 : decode cX10_settle 195 = .ok (.getfield 9, 3) := dX10_settle_172g.2.2.2.2.2.2.2.2.2.2.2.1
theorem dX10_settle_198 : decode cX10_settle 198 = .ok (.aload_n 1, 1) := dX10_settle_172g.2.2.2.2.2.2.2.2.2.2.2.2.1
theorem dX10_settle_199 : decode cX10_settle 199 = .ok (.getstatic 86, 3) := dX10_settle_172g.2.2.2.2.2.2.2.2.2.2.2.2.2.1
theorem dX10_settle_202 : decode cX10_settle 202 = .ok (.invokevirtual 125, 3) := dX10_settle_172g.2.2.2.2.2.2.2.2.2.2.2.2.2.2.1
theorem dX10_settle_205 : decode cX10_settle 205 = .ok (.putfield 128, 3) := dX10_settle_172g.2.2.2.2.2.2.2.2.2.2.2.2.2.2.2
theorem dX10_settle_208g : decode cX10_settle 208 = .ok (.aload_n 0, 1) ∧ decode cX10_settle 209 = .ok (.aload_n 1, 1) ∧ decode cX10_settle 210 = .ok (.invokevirtual 122, 3) ∧ decode cX10_settle 213 = .ok (.goto 61, 3) ∧ decode cX10_settle 216 = .ok (.aload_n 1, 1) ∧ decode cX10_settle 217 = .ok (.aload_n 0, 1) ∧ decode cX10_settle 218 = .ok (.getfield 9, 3) ∧ decode cX10_settle 221 = .ok (.aload_n 1, 1) ∧ decode cX10_settle 222 = .ok (.getstatic 86, 3) ∧ decode cX10_settle 225 = .ok (.invokevirtual 125, 3) ∧ decode cX10_settle 228 = .ok (.putfield 128, 3) ∧ decode cX10_settle 231 = .ok (.aload_n 1, 1) ∧ decode cX10_settle 232 = .ok (.aload_n 0, 1) ∧ decode cX10_settle 233 = .ok (.getfield 9, 3) ∧ decode cX10_settle 236 = .ok (.aload_n 1, 1) ∧ decode cX10_settle 237 = .ok (.getstatic 131, 3) := by decide +kernel
theorem dX10_settle_208 : decode cX10_settle 208 = .ok (.aload_n 0, 1) := dX10_settle_208g.1
theorem dX10_settle_209 : decode cX10_settle 209 = .ok (.aload_n 1, 1) := dX10_settle_208g.2.1
theorem dX10_settle_210 : decode cX10_settle 210 = .ok (.invokevirtual 122, 3) := dX10_settle_208g.2.2.1
theorem dX10_settle_213 : decode cX10_settle 213 = .ok (.goto 61, 3) := dX10_settle_208g.2.2.2.1
theorem dX10_settle_216 : decode cX10_settle 216 = .ok (.aload_n 1, 1) := dX10_settle_208g.2.2.2.2.1
theorem dX10_settle_217 : decode cX10_settle 217 = .ok (.aload_n 0, 1) := dX10_settle_208g.2.2.2.2.2.1
theorem dX10_settle_218 : decode cX10_settle 218 = .ok (.getfield 9, 3) := dX10_settle_208g.2.2.2.2.2.2.1
theorem dX10_settle_221 : decode cX10_settle 221 = .ok (.aload_n 1, 1) := dX10_settle_208g.2.2.2.2.2.2.2.1
theorem dX10_settle_222 : decode cX10_settle 222 = .ok (.getstatic 86, 3) := dX10_settle_208g.2.2.2.2.2.2.2.2.1
theorem dX10_settle_225 : decode cX10_settle 225 = .ok (.invokevirtual 125, 3) := dX10_settle_208g.2.2.2.2.2.2.2.2.2.1
theorem dX10_settle_228 : decode cX10_settle 228 = .ok (.putfield 128, 3) := dX10_settle_208g.2.2.2.2.2.2.2.2.2.2.1
theorem dX10_settle_231 : decode cX10_settle 231 = .ok (.aload_n 1, 1) := dX10_settle_208g.2.2.2.2.2.2.2.2.2.2.2.1
theorem dX10_settle_232 : decode cX10_settle 232 = .ok (.aload_n 0, 1) := dX10_settle_208g.2.2.2.2.2.2.2.2.2.2.2.2.1
theorem dX10_settle_233 : decode cX10_settle 233 = .ok (.getfield 9, 3) := dX10_settle_208g.2.2.2.2.2.2.2.2.2.2.2.2.2.1
theorem dX10_settle_236 : decode cX10_settle 236 = .ok (.aload_n 1, 1) := dX10_settle_208g.2.2.2.2.2.2.2.2.2.2.2.2.2.2.1
theorem dX10_settle_237 : decode cX10_settle 237 = .ok (.getstatic 131, 3) := dX10_settle_208g.2.2.2.2.2.2.2.2.2.2.2.2.2.2.2
theorem dX10_settle_240g : decode cX10_settle 240 = .ok (.invokevirtual 78, 3) ∧ decode cX10_settle 243 = .ok (.putfield 89, 3) ∧ decode cX10_settle 246 = .ok (.goto 28, 3) ∧ decode cX10_settle 249 = .ok (.aload_n 1, 1) ∧ decode cX10_settle 250 = .ok (.aload_n 0, 1) ∧ decode cX10_settle 251 = .ok (.getfield 9, 3) ∧ decode cX10_settle 254 = .ok (.aload_n 1, 1) ∧ decode cX10_settle 255 = .ok (.getstatic 131, 3) ∧ decode cX10_settle 258 = .ok (.invokevirtual 78, 3) ∧ decode cX10_settle 261 = .ok (.putfield 89, 3) ∧ decode cX10_settle 264 = .ok (.goto 10, 3) ∧ decode cX10_settle 267 = .ok (.aload_n 1, 1) ∧ decode cX10_settle 268 = .ok (.invokevirtual 134, 3) ∧ decode cX10_settle 271 = .ok (.goto 3, 3) ∧ decode cX10_settle 274 = .ok (.return_, 1) := by decide +kernel
theorem dX10_settle_240 : decode cX10_settle 240 = .ok (.invokevirtual 78, 3) := dX10_settle_240g.1
theorem dX10_settle_243 : decode cX10_settle 243 = .ok (.putfield 89, 3) := dX10_settle_240g.2.1
theorem dX10_settle_246 : decode cX10_settle 246 = .ok (.goto 28, 3) := dX10_settle_240g.2.2.1
theorem dX10_settle_249 : decode cX10_settle 249 = .ok (.aload_n 1, 1) := dX10_settle_240g.2.2.2.1
theorem dX10_settle_250 : decode cX10_settle 250 = .ok (.aload_n 0, 1) := dX10_settle_240g.2.2.2.2.1
theorem dX10_settle_251 : decode cX10_settle 251 = .ok (.getfield 9, 3) := dX10_settle_240g.2.2.2.2.2.1
theorem dX10_settle_254 : decode cX10_settle 254 = .ok (.aload_n 1, 1) := dX10_settle_240g.2.2.2.2.2.2.1
theorem dX10_settle_255 : decode cX10_settle 255 = .ok (.getstatic 131, 3) := dX10_settle_240g.2.2.2.2.2.2.2.1
theorem dX10_settle_258 : decode cX10_settle 258 = .ok (.invokevirtual 78, 3) := dX10_settle_240g.2.2.2.2.2.2.2.2.1
theorem dX10_settle_261 : decode cX10_settle 261 = .ok (.putfield 89, 3) := dX10_settle_240g.2.2.2.2.2.2.2.2.2.1
theorem dX10_settle_264 : decode cX10_settle 264 = .ok (.goto 10, 3) := dX10_settle_240g.2.2.2.2.2.2.2.2.2.2.1
theorem dX10_settle_267 : decode cX10_settle 267 = .ok (.aload_n 1, 1) := dX10_settle_240g.2.2.2.2.2.2.2.2.2.2.2.1
theorem dX10_settle_268 : decode cX10_settle 268 = .ok (.invokevirtual 134, 3) := dX10_settle_240g.2.2.2.2.2.2.2.2.2.2.2.2.1
theorem dX10_settle_271 : decode cX10_settle 271 = .ok (.goto 3, 3) := dX10_settle_240g.2.2.2.2.2.2.2.2.2.2.2.2.2.1
theorem dX10_settle_274 : decode cX10_settle 274 = .ok (.return_, 1) := dX10_settle_240g.2.2.2.2.2.2.2.2.2.2.2.2.2.2
theorem dX10_settleContent_0g : decode cX10_settleContent 0 = .ok (.aload_n 1, 1) ∧ decode cX10_settleContent 1 = .ok (.getfield 137, 3) ∧ decode cX10_settleContent 4 = .ok (.ifnull 12, 3) ∧ decode cX10_settleContent 7 = .ok (.aload_n 1, 1) ∧ decode cX10_settleContent 8 = .ok (.aload_n 1, 1) ∧ decode cX10_settleContent 9 = .ok (.getfield 137, 3) ∧ decode cX10_settleContent 12 = .ok (.putfield 141, 3) ∧ decode cX10_settleContent 15 = .ok (.return_, 1) ∧ decode cX10_settleContent 16 = .ok (.aload_n 1, 1) ∧ decode cX10_settleContent 17 = .ok (.aload_n 1, 1) ∧ decode cX10_settleContent 18 = .ok (.putfield 141, 3) ∧ decode cX10_settleContent 21 = .ok (.aload_n 0, 1) ∧ decode cX10_settleContent 22 = .ok (.getfield 9, 3) ∧ decode cX10_settleContent 25 = .ok (.aload_n 1, 1) ∧ decode cX10_settleContent 26 = .ok (.getstatic 144, 3) ∧ decode cX10_settleContent 29 = .ok (.invokevirtual 147, 3) := by decide +kernel
theorem dX10_settleContent_0 : decode cX10_settleContent 0 = .ok (.aload_n 1, 1) := dX10_settleContent_0g.1
theorem dX10_settleContent_1 : decode cX10_settleContent 1 = .ok (.getfield 137, 3) := dX10_settleContent_0g.2.1
theorem dX10_settleContent_4 : decode cX10_settleContent 4 = .ok (.ifnull 12, 3) := dX10_settleContent_0g.2.2.1
theorem dX10_settleContent_7 : decode cX10_settleContent 7 = .ok (.aload_n 1, 1) := dX10_settleContent_0g.2.2.2.1
theorem dX10_settleContent_8 : decode cX10_settleContent 8 = .ok (.aload_n 1, 1) := dX10_settleContent_0g.2.2.2.2.1
theorem dX10_settleContent_9 : decode cX10_settleContent 9 = .ok (.getfield 137, 3) := dX10_settleContent_0g.2.2.2.2.2.1
theorem dX10_settleContent_12 : decode cX10_settleContent 12 = .ok (.putfield 141, 3) := dX10_settleContent_0g.2.2.2.2.2.2.1
theorem dX10_settleContent_15 : decode cX10_settleContent 15 = .ok (.return_, 1) := dX10_settleContent_0g.2.2.2.2.2.2.2.1
theorem dX10_settleContent_16 : decode cX10_settleContent 16 = .ok (.aload_n 1, 1) := dX10_settleContent_0g.2.2.2.2.2.2.2.2.1
theorem dX10_settleContent_17 : decode cX10_settleContent 17 = .ok (.aload_n 1, 1) := dX10_settleContent_0g.2.2.2.2.2.2.2.2.2.1
theorem dX10_settleContent_18 : decode cX10_settleContent 18 = .ok (.putfield 141, 3) := dX10_settleContent_0g.2.2.2.2.2.2.2.2.2.2.1
theorem dX10_settleContent_21 : decode cX10_settleContent 21 = .ok (.aload_n 0, 1) := dX10_settleContent_0g.2.2.2.2.2.2.2.2.2.2.2.1
theorem dX10_settleContent_22 : decode cX10_settleContent 22 = .ok (.getfield 9, 3) := dX10_settleContent_0g.2.2.2.2.2.2.2.2.2.2.2.2.1
theorem dX10_settleContent_25 : decode cX10_settleContent 25 = .ok (.aload_n 1, 1) := dX10_settleContent_0g.2.2.2.2.2.2.2.2.2.2.2.2.2.1
theorem dX10_settleContent_26 : decode cX10_settleContent 26 = .ok (.getstatic 144, 3) := dX10_settleContent_0g.2.2.2.2.2.2.2.2.2.2.2.2.2.2.1
theorem dX10_settleContent_29 : decode cX10_settleContent 29 = .ok (.invokevirtual 147, 3) := dX10_settleContent_0g.2.2.2.2.2.2.2.2.2.2.2.2.2.2.2
theorem dX10_settleContent_32g : decode cX10_settleContent 32 = .ok (.ifCond .eq 28, 3) ∧ decode cX10_settleContent 35 = .ok (.aload_n 1, 1) ∧ decode cX10_settleContent 36 = .ok (.getstatic 144, 3) ∧ decode cX10_settleContent 39 = .ok (.putfield 61, 3) ∧ decode cX10_settleContent 42 = .ok (.aload_n 0, 1) ∧ decode cX10_settleContent 43 = .ok (.getfield 9, 3) ∧ decode cX10_settleContent 46 = .ok (.aload_n 1, 1) ∧ decode cX10_settleContent 47 = .ok (.getstatic 144, 3) ∧ decode cX10_settleContent 50 = .ok (.invokevirtual 151, 3) ∧ decode cX10_settleContent 53 = .ok (.aload_n 1, 1) ∧ decode cX10_settleContent 54 = .ok (.invokevirtual 134, 3) ∧ decode cX10_settleContent 57 = .ok (.goto 25, 3) ∧ decode cX10_settleContent 60 = .ok (.aload_n 1, 1) ∧ decode cX10_settleContent 61 = .ok (.getstatic 155, 3) ∧ decode cX10_settleContent 64 = .ok (.putfield 61, 3) ∧ decode cX10_settleContent 67 = .ok (.aload_n 1, 1) := by decide +kernel
theorem dX10_settleContent_32 : decode cX10_settleContent 32 = .ok (.ifCond .eq 28, 3) := dX10_settleContent_32g.1
theorem dX10_settleContent_35 : decode cX10_settleContent 35 = .ok (.aload_n 1, 1) := dX10_settleContent_32g.2.1
theorem dX10_settleContent_36 : decode cX10_settleContent 36 = .ok (.getstatic 144, 3) := dX10_settleContent_32g.2.2.1
theorem dX10_settleContent_39 : decode cX10_settleContent 39 = .ok (.putfield 61, 3) := dX10_settleContent_32g.2.2.2.1
theorem dX10_settleContent_42 : decode cX10_settleContent 42 = .ok (.aload_n 0, 1) := dX10_settleContent_32g.2.2.2.2.1
theorem dX10_settleContent_43 : decode cX10_settleContent 43 = .ok (.getfield 9, 3) := dX10_settleContent_32g.2.2.2.2.2.1
theorem dX10_settleContent_46 : decode cX10_settleContent 46 = .ok (.aload_n 1, 1) := dX10_settleContent_32g.2.2.2.2.2.2.1
theorem dX10_settleContent_47 : decode cX10_settleContent 47 = .ok (.getstatic 144, 3) := dX10_settleContent_32g.2.2.2.2.2.2.2.1
theorem dX10_settleContent_50 : decode cX10_settleContent 50 = .ok (.invokevirtual 151, 3) := dX10_settleContent_32g.2.2.2.2.2.2.2.2.1
theorem dX10_settleContent_53 : decode cX10_settleContent 53 = .ok (.aload_n 1, 1) := dX10_settleContent_32g.2.2.2.2.2.2.2.2.2.1
theorem dX10_settleContent_54 : decode cX10_settleContent 54 = .ok (.invokevirtual 134, 3) := dX10_settleContent_32g.2.2.2.2.2.2.2.2.2.2.1
theorem dX10_settleContent_57 : decode cX10_settleContent 57 = .ok (.goto 25, 3) := dX10_settleContent_32g.2.2.2.2.2.2.2.2.2.2.2.1
theorem dX10_settleContent_60 : decode cX10_settleContent 60 = .ok (.aload_n 1, 1) := dX10_settleContent_32g.2.2.2.2.2.2.2.2.2.2.2.2.1
theorem dX10_settleContent_61 : decode cX10_settleContent 61 = .ok (.getstatic 155, 3) := dX10_settleContent_32g.2.2.2.2.2.2.2.2.2.2.2.2.2.1
theorem dX10_settleContent_64 : decode cX10_settleContent 64 = .ok (.putfield 61, 3) := dX10_settleContent_32g.2.2.2.2.2.2.2.2.2.2.2.2.2.2.1
theorem dX10_settleContent_67 : decode cX10_settleContent 67 = .ok (.aload_n 1, 1) := dX10_settleContent_32g.2.2.2.2.2.2.2.2.2.2.2.2.2.2.2
theorem dX10_settleContent_68g : decode cX10_settleContent 68 = .ok (.aload_n 0, 1) ∧ decode cX10_settleContent 69 = .ok (.getfield 9, 3) ∧ decode cX10_settleContent 72 = .ok (.aload_n 1, 1) ∧ decode cX10_settleContent 73 = .ok (.getstatic 155, 3) ∧ decode cX10_settleContent 76 = .ok (.invokevirtual 78, 3) ∧ decode cX10_settleContent 79 = .ok (.putfield 89, 3) ∧ decode cX10_settleContent 82 = .ok (.return_, 1) := by decide +kernel
theorem dX10_settleContent_68 : decode cX10_settleContent 68 = .ok (.aload_n 0, 1) := dX10_settleContent_68g.1
theorem dX10_settleContent_69 : decode cX10_settleContent 69 = .ok (.getfield 9, 3) := dX10_settleContent_68g.2.1
theorem dX10_settleContent_72 : decode cX10_settleContent 72 = .ok (.aload_n 1, 1) := dX10_settleContent_68g.2.2.1
theorem dX10_settleContent_73 : decode cX10_settleContent 73 = .ok (.getstatic 155, 3) := dX10_settleContent_68g.2.2.2.1
theorem dX10_settleContent_76 : decode cX10_settleContent 76 = .ok (.invokevirtual 78, 3) := dX10_settleContent_68g.2.2.2.2.1
theorem dX10_settleContent_79 : decode cX10_settleContent 79 = .ok (.putfield 89, 3) := dX10_settleContent_68g.2.2.2.2.2.1
theorem dX10_settleContent_82 : decode cX10_settleContent 82 = .ok (.return_, 1) := dX10_settleContent_68g.2.2.2.2.2.2
theorem dX10_isRight_0g : decode cX10_isRight 0 = .ok (.aload_n 0, 1) ∧ decode cX10_isRight 1 = .ok (.getfield 9, 3) ∧ decode cX10_isRight 4 = .ok (.iload_n 1, 1) ∧ decode cX10_isRight 5 = .ok (.invokevirtual 36, 3) ∧ decode cX10_isRight 8 = .ok (.astore_n 2, 1) ∧ decode cX10_isRight 9 = .ok (.aload_n 2, 1) ∧ decode cX10_isRight 10 = .ok (.getfield 82, 3) ∧ decode cX10_isRight 13 = .ok (.lconst 0, 1) ∧ decode cX10_isRight 14 = .ok (.lcmp, 1) ∧ decode cX10_isRight 15 = .ok (.ifCond .eq 37, 3) ∧ decode cX10_isRight 18 = .ok (.iconst 0, 1) ∧ decode cX10_isRight 19 = .ok (.istore_n 3, 1) ∧ decode cX10_isRight 20 = .ok (.iload_n 3, 1) ∧ decode cX10_isRight 21 = .ok (.iload_n 1, 1) ∧ decode cX10_isRight 22 = .ok (.if_icmp .ge 30, 3) ∧ decode cX10_isRight 25 = .ok (.aload_n 0, 1) := by decide +kernel
theorem dX10_isRight_0 : decode cX10_isRight 0 = .ok (.aload_n 0, 1) := dX10_isRight_0g.1
theorem dX10_isRight_1 : decode cX10_isRight 1 = .ok (.getfield 9, 3) := dX10_isRight_0g.2.1
theorem dX10_isRight_4 : decode cX10_isRight 4 = .ok (.iload_n 1, 1) := dX10_isRight_0g.2.2.1
theorem dX10_isRight_5 : decode cX10_isRight 5 = .ok (.invokevirtual 36, 3) := dX10_isRight_0g.2.2.2.1
theorem dX10_isRight_8 : decode cX10_isRight 8 = .ok (.astore_n 2, 1) := dX10_isRight_0g.2.2.2.2.1
theorem dX10_isRight_9 : decode cX10_isRight 9 = .ok (.aload_n 2, 1) := dX10_isRight_0g.2.2.2.2.2.1
theorem dX10_isRight_10 : decode cX10_isRight 10 = .ok (.getfield 82, 3) := dX10_isRight_0g.2.2.2.2.2.2.1
theorem dX10_isRight_13 : decode cX10_isRight 13 = .ok (.lconst 0, 1) := dX10_isRight_0g.2.2.2.2.2.2.2.1
theorem dX10_isRight_14 : decode cX10_isRight 14 = .ok (.lcmp, 1) := dX10_isRight_0g.2.2.2.2.2.2.2.2.1
theorem dX10_isRight_15 : decode cX10_isRight 15 = .ok (.ifCond .eq 37, 3) := dX10_isRight_0g.2.2.2.2.2.2.2.2.2.1
theorem dX10_isRight_18 : decode cX10_isRight 18 = .ok (.iconst 0, 1) := dX10_isRight_0g.2.2.2.2.2.2.2.2.2.2.1
theorem dX10_isRight_19 : decode cX10_isRight 19 = .ok (.istore_n 3, 1) := dX10_isRight_0g.2.2.2.2.2.2.2.2.2.2.2.1
theorem dX10_isRight_20 : decode cX10_isRight 20 = .ok (.iload_n 3, 1) := dX10_isRight_0g.2.2.2.2.2.2.2.2.2.2.2.2.1
theorem dX10_isRight_21 : decode cX10_isRight 21 = .ok (.iload_n 1, 1) := dX10_isRight_0g.2.2.2.2.2.2.2.2.2.2.2.2.2.1
theorem dX10_isRight_22 : decode cX10_isRight 22 = .ok (.if_icmp .ge 30, 3) := dX10_isRight_0g.2.2.2.2.2.2.2.2.2.2.2.2.2.2.1
theorem dX10_isRight_25 : decode cX10_isRight 25 = .ok (.aload_n 0, 1) := dX10_isRight_0g.2.2.2.2.2.2.2.2.2.2.2.2.2.2.2
theorem dX10_isRight_26g : decode cX10_isRight 26 = .ok (.getfield 9, 3) ∧ decode cX10_isRight 29 = .ok (.iload_n 3, 1) ∧ decode cX10_isRight 30 = .ok (.invokevirtual 36, 3) ∧ decode cX10_isRight 33 = .ok (.getfield 82, 3) ∧ decode cX10_isRight 36 = .ok (.aload_n 2, 1) ∧ decode cX10_isRight 37 = .ok (.getfield 82, 3) ∧ decode cX10_isRight 40 = .ok (.lcmp, 1) ∧ decode cX10_isRight 41 = .ok (.ifCond .ne 5, 3) ∧ decode cX10_isRight 44 = .ok (.iconst 0, 1) ∧ decode cX10_isRight 45 = .ok (.ireturn, 1) ∧ decode cX10_isRight 46 = .ok (.iinc 3 1, 3) ∧ decode cX10_isRight 49 = .ok (.goto (-29), 3) ∧ decode cX10_isRight 52 = .ok (.aload_n 2, 1) ∧ decode cX10_isRight 53 = .ok (.getfield 95, 3) ∧ decode cX10_isRight 56 = .ok (.ifnull 14, 3) ∧ decode cX10_isRight 59 = .ok (.aload_n 0, 1) := by decide +kernel
theorem dX10_isRight_26 : decode cX10_isRight 26 = .ok (.getfield 9, 3) := dX10_isRight_26g.1
theorem dX10_isRight_29 : decode cX10_isRight 29 = .ok (.iload_n 3, 1) := dX10_isRight_26g.2.1
theorem dX10_isRight_30 : decode cX10_isRight 30 = .ok (.invokevirtual 36, 3) := dX10_isRight_26g.2.2.1
theorem dX10_isRight_33 : decode cX10_isRight 33 = .ok (.getfield 82, 3) := dX10_isRight_26g.2.2.2.1
theorem dX10_isRight_36 : decode cX10_isRight 36 = .ok (.aload_n 2, 1) := dX10_isRight_26g.2.2.2.2.1
theorem dX10_isRight_37 : decode cX10_isRight 37 = .ok (.getfield 82, 3) := dX10_isRight_26g.2.2.2.2.2.1
theorem dX10_isRight_40 : decode cX10_isRight 40 = .ok (.lcmp, 1) := dX10_isRight_26g.2.2.2.2.2.2.1
theorem dX10_isRight_41 : decode cX10_isRight 41 = .ok (.ifCond .ne 5, 3) := dX10_isRight_26g.2.2.2.2.2.2.2.1
theorem dX10_isRight_44 : decode cX10_isRight 44 = .ok (.iconst 0, 1) := dX10_isRight_26g.2.2.2.2.2.2.2.2.1
theorem dX10_isRight_45 : decode cX10_isRight 45 = .ok (.ireturn, 1) := dX10_isRight_26g.2.2.2.2.2.2.2.2.2.1
theorem dX10_isRight_46 : decode cX10_isRight 46 = .ok (.iinc 3 1, 3) := dX10_isRight_26g.2.2.2.2.2.2.2.2.2.2.1
theorem dX10_isRight_49 : decode cX10_isRight 49 = .ok (.goto (-29), 3) := dX10_isRight_26g.2.2.2.2.2.2.2.2.2.2.2.1
theorem dX10_isRight_52 : decode cX10_isRight 52 = .ok (.aload_n 2, 1) := dX10_isRight_26g.2.2.2.2.2.2.2.2.2.2.2.2.1
theorem dX10_isRight_53 : decode cX10_isRight 53 = .ok (.getfield 95, 3) := dX10_isRight_26g.2.2.2.2.2.2.2.2.2.2.2.2.2.1
theorem dX10_isRight_56 : decode cX10_isRight 56 = .ok (.ifnull 14, 3) := dX10_isRight_26g.2.2.2.2.2.2.2.2.2.2.2.2.2.2.1
theorem dX10_isRight_59 : decode cX10_isRight 59 = .ok (.aload_n 0, 1) := dX10_isRight_26g.2.2.2.2.2.2.2.2.2.2.2.2.2.2.2
theorem dX10_isRight_60g : decode cX10_isRight 60 = .ok (.aload_n 2, 1) ∧ decode cX10_isRight 61 = .ok (.getfield 95, 3) ∧ decode cX10_isRight 64 = .ok (.invokevirtual 158, 3) ∧ decode cX10_isRight 67 = .ok (.ifCond .eq 7, 3) ∧ decode cX10_isRight 70 = .ok (.iconst 1, 1) ∧ decode cX10_isRight 71 = .ok (.goto 4, 3) ∧ decode cX10_isRight 74 = .ok (.iconst 0, 1) ∧ decode cX10_isRight 75 = .ok (.ireturn, 1) := by decide +kernel
theorem dX10_isRight_60 : decode cX10_isRight 60 = .ok (.aload_n 2, 1) := dX10_isRight_60g.1
theorem dX10_isRight_61 : decode cX10_isRight 61 = .ok (.getfield 95, 3) := dX10_isRight_60g.2.1
theorem dX10_isRight_64 : decode cX10_isRight 64 = .ok (.invokevirtual 158, 3) := dX10_isRight_60g.2.2.1
theorem dX10_isRight_67 : decode cX10_isRight 67 = .ok (.ifCond .eq 7, 3) := dX10_isRight_60g.2.2.2.1
theorem dX10_isRight_70 : decode cX10_isRight 70 = .ok (.iconst 1, 1) := dX10_isRight_60g.2.2.2.2.1
theorem dX10_isRight_71 : decode cX10_isRight 71 = .ok (.goto 4, 3) := dX10_isRight_60g.2.2.2.2.2.1
theorem dX10_isRight_74 : decode cX10_isRight 74 = .ok (.iconst 0, 1) := dX10_isRight_60g.2.2.2.2.2.2.1
theorem dX10_isRight_75 : decode cX10_isRight 75 = .ok (.ireturn, 1) := dX10_isRight_60g.2.2.2.2.2.2.2
theorem dX10_hasRightParent_0g : decode cX10_hasRightParent 0 = .ok (.aload_n 1, 1) ∧ decode cX10_hasRightParent 1 = .ok (.getfield 162, 3) ∧ decode cX10_hasRightParent 4 = .ok (.lconst 0, 1) ∧ decode cX10_hasRightParent 5 = .ok (.lcmp, 1) ∧ decode cX10_hasRightParent 6 = .ok (.ifCond .ne 5, 3) ∧ decode cX10_hasRightParent 9 = .ok (.iconst 1, 1) ∧ decode cX10_hasRightParent 10 = .ok (.ireturn, 1) ∧ decode cX10_hasRightParent 11 = .ok (.aload_n 0, 1) ∧ decode cX10_hasRightParent 12 = .ok (.aload_n 1, 1) ∧ decode cX10_hasRightParent 13 = .ok (.getfield 162, 3) ∧ decode cX10_hasRightParent 16 = .ok (.invokevirtual 165, 3) ∧ decode cX10_hasRightParent 19 = .ok (.astore_n 2, 1) ∧ decode cX10_hasRightParent 20 = .ok (.aload_n 2, 1) ∧ decode cX10_hasRightParent 21 = .ok (.ifnull 15, 3) ∧ decode cX10_hasRightParent 24 = .ok (.aload_n 0, 1) ∧ decode cX10_hasRightParent 25 = .ok (.aload_n 2, 1) := by decide +kernel
theorem dX10_hasRightParent_0 : decode cX10_hasRightParent 0 = .ok (.aload_n 1, 1) := dX10_hasRightParent_0g.1
theorem dX10_hasRightParent_1 : decode cX10_hasRightParent 1 = .ok (.getfield 162, 3) := dX10_hasRightParent_0g.2.1
theorem dX10_hasRightParent_4 : decode cX10_hasRightParent 4 = .ok (.lconst 0, 1) := dX10_hasRightParent_0g.2.2.1
theorem dX10_hasRightParent_5 : decode cX10_hasRightParent 5 = .ok (.lcmp, 1) := dX10_hasRightParent_0g.2.2.2.1
theorem dX10_hasRightParent_6 : decode cX10_hasRightParent 6 = .ok (.ifCond .ne 5, 3) := dX10_hasRightParent_0g.2.2.2.2.1
theorem dX10_hasRightParent_9 : decode cX10_hasRightParent 9 = .ok (.iconst 1, 1) := dX10_hasRightParent_0g.2.2.2.2.2.1
theorem dX10_hasRightParent_10 : decode cX10_hasRightParent 10 = .ok (.ireturn, 1) := dX10_hasRightParent_0g.2.2.2.2.2.2.1
theorem dX10_hasRightParent_11 : decode cX10_hasRightParent 11 = .ok (.aload_n 0, 1) := dX10_hasRightParent_0g.2.2.2.2.2.2.2.1
theorem dX10_hasRightParent_12 : decode cX10_hasRightParent 12 = .ok (.aload_n 1, 1) := dX10_hasRightParent_0g.2.2.2.2.2.2.2.2.1
theorem dX10_hasRightParent_13 : decode cX10_hasRightParent 13 = .ok (.getfield 162, 3) := dX10_hasRightParent_0g.2.2.2.2.2.2.2.2.2.1
theorem dX10_hasRightParent_16 : decode cX10_hasRightParent 16 = .ok (.invokevirtual 165, 3) := dX10_hasRightParent_0g.2.2.2.2.2.2.2.2.2.2.1
theorem dX10_hasRightParent_19 : decode cX10_hasRightParent 19 = .ok (.astore_n 2, 1) := dX10_hasRightParent_0g.2.2.2.2.2.2.2.2.2.2.2.1
theorem dX10_hasRightParent_20 : decode cX10_hasRightParent 20 = .ok (.aload_n 2, 1) := dX10_hasRightParent_0g.2.2.2.2.2.2.2.2.2.2.2.2.1
theorem dX10_hasRightParent_21 : decode cX10_hasRightParent 21 = .ok (.ifnull 15, 3) := dX10_hasRightParent_0g.2.2.2.2.2.2.2.2.2.2.2.2.2.1
theorem dX10_hasRightParent_24 : decode cX10_hasRightParent 24 = .ok (.aload_n 0, 1) := dX10_hasRightParent_0g.2.2.2.2.2.2.2.2.2.2.2.2.2.2.1
theorem dX10_hasRightParent_25 : decode cX10_hasRightParent 25 = .ok (.aload_n 2, 1) := dX10_hasRightParent_0g.2.2.2.2.2.2.2.2.2.2.2.2.2.2.2
theorem dX10_hasRightParent_26g : decode cX10_hasRightParent 26 = .ok (.invokevirtual 169, 3) ∧ decode cX10_hasRightParent 29 = .ok (.ifCond .ne 7, 3) ∧ decode cX10_hasRightParent 32 = .ok (.iconst 1, 1) ∧ decode cX10_hasRightParent 33 = .ok (.goto 4, 3) ∧ decode cX10_hasRightParent 36 = .ok (.iconst 0, 1) ∧ decode cX10_hasRightParent 37 = .ok (.ireturn, 1) := by decide +kernel
theorem dX10_hasRightParent_26 : decode cX10_hasRightParent 26 = .ok (.invokevirtual 169, 3) := dX10_hasRightParent_26g.1
theorem dX10_hasRightParent_29 : decode cX10_hasRightParent 29 = .ok (.ifCond .ne 7, 3) := dX10_hasRightParent_26g.2.1
theorem dX10_hasRightParent_32 : decode cX10_hasRightParent 32 = .ok (.iconst 1, 1) := dX10_hasRightParent_26g.2.2.1
theorem dX10_hasRightParent_33 : decode cX10_hasRightParent 33 = .ok (.goto 4, 3) := dX10_hasRightParent_26g.2.2.2.1
theorem dX10_hasRightParent_36 : decode cX10_hasRightParent 36 = .ok (.iconst 0, 1) := dX10_hasRightParent_26g.2.2.2.2.1
theorem dX10_hasRightParent_37 : decode cX10_hasRightParent 37 = .ok (.ireturn, 1) := dX10_hasRightParent_26g.2.2.2.2.2
theorem dX10_comesToItself_0g : decode cX10_comesToItself 0 = .ok (.aload_n 0, 1) ∧ decode cX10_comesToItself 1 = .ok (.aload_n 1, 1) ∧ decode cX10_comesToItself 2 = .ok (.getfield 162, 3) ∧ decode cX10_comesToItself 5 = .ok (.invokevirtual 165, 3) ∧ decode cX10_comesToItself 8 = .ok (.astore_n 2, 1) ∧ decode cX10_comesToItself 9 = .ok (.iconst 1, 1) ∧ decode cX10_comesToItself 10 = .ok (.istore_n 3, 1) ∧ decode cX10_comesToItself 11 = .ok (.iload_n 3, 1) ∧ decode cX10_comesToItself 12 = .ok (.bipush 80, 2) ∧ decode cX10_comesToItself 14 = .ok (.if_icmp .ge 27, 3) ∧ decode cX10_comesToItself 17 = .ok (.aload_n 2, 1) ∧ decode cX10_comesToItself 18 = .ok (.ifnull 23, 3) ∧ decode cX10_comesToItself 21 = .ok (.aload_n 2, 1) ∧ decode cX10_comesToItself 22 = .ok (.aload_n 1, 1) ∧ decode cX10_comesToItself 23 = .ok (.if_acmp .eq 18, 3) ∧ decode cX10_comesToItself 26 = .ok (.aload_n 0, 1) := by decide +kernel
theorem dX10_comesToItself_0 : decode cX10_comesToItself 0 = .ok (.aload_n 0, 1) := dX10_comesToItself_0g.1
theorem dX10_comesToItself_1 : decode cX10_comesToItself 1 = .ok (.aload_n 1, 1) := dX10_comesToItself_0g.2.1
theorem dX10_comesToItself_2 : decode cX10_comesToItself 2 = .ok (.getfield 162, 3) := dX10_comesToItself_0g.2.2.1
theorem dX10_comesToItself_5 : decode cX10_comesToItself 5 = .ok (.invokevirtual 165, 3) := dX10_comesToItself_0g.2.2.2.1
theorem dX10_comesToItself_8 : decode cX10_comesToItself 8 = .ok (.astore_n 2, 1) := dX10_comesToItself_0g.2.2.2.2.1
theorem dX10_comesToItself_9 : decode cX10_comesToItself 9 = .ok (.iconst 1, 1) := dX10_comesToItself_0g.2.2.2.2.2.1
theorem dX10_comesToItself_10 : decode cX10_comesToItself 10 = .ok (.istore_n 3, 1) := dX10_comesToItself_0g.2.2.2.2.2.2.1
theorem dX10_comesToItself_11 : decode cX10_comesToItself 11 = .ok (.iload_n 3, 1) := dX10_comesToItself_0g.2.2.2.2.2.2.2.1
theorem dX10_comesToItself_12 : decode cX10_comesToItself 12 = .ok (.bipush 80, 2) := dX10_comesToItself_0g.2.2.2.2.2.2.2.2.1
theorem dX10_comesToItself_14 : decode cX10_comesToItself 14 = .ok (.if_icmp .ge 27, 3) := dX10_comesToItself_0g.2.2.2.2.2.2.2.2.2.1
theorem dX10_comesToItself_17 : decode cX10_comesToItself 17 = .ok (.aload_n 2, 1) := dX10_comesToItself_0g.2.2.2.2.2.2.2.2.2.2.1
theorem dX10_comesToItself_18 : decode cX10_comesToItself 18 = .ok (.ifnull 23, 3) := dX10_comesToItself_0g.2.2.2.2.2.2.2.2.2.2.2.1
theorem dX10_comesToItself_21 : decode cX10_comesToItself 21 = .ok (.aload_n 2, 1) := dX10_comesToItself_0g.2.2.2.2.2.2.2.2.2.2.2.2.1
theorem dX10_comesToItself_22 : decode cX10_comesToItself 22 = .ok (.aload_n 1, 1) := dX10_comesToItself_0g.2.2.2.2.2.2.2.2.2.2.2.2.2.1
theorem dX10_comesToItself_23 : decode cX10_comesToItself 23 = .ok (.if_acmp .eq 18, 3) := dX10_comesToItself_0g.2.2.2.2.2.2.2.2.2.2.2.2.2.2.1
theorem dX10_comesToItself_26 : decode cX10_comesToItself 26 = .ok (.aload_n 0, 1) := dX10_comesToItself_0g.2.2.2.2.2.2.2.2.2.2.2.2.2.2.2
theorem dX10_comesToItself_27g : decode cX10_comesToItself 27 = .ok (.aload_n 2, 1) ∧ decode cX10_comesToItself 28 = .ok (.getfield 162, 3) ∧ decode cX10_comesToItself 31 = .ok (.invokevirtual 165, 3) ∧ decode cX10_comesToItself 34 = .ok (.astore_n 2, 1) ∧ decode cX10_comesToItself 35 = .ok (.iinc 3 1, 3) ∧ decode cX10_comesToItself 38 = .ok (.goto (-27), 3) ∧ decode cX10_comesToItself 41 = .ok (.aload_n 2, 1) ∧ decode cX10_comesToItself 42 = .ok (.aload_n 1, 1) ∧ decode cX10_comesToItself 43 = .ok (.if_acmp .ne 7, 3) ∧ decode cX10_comesToItself 46 = .ok (.iconst 1, 1) ∧ decode cX10_comesToItself 47 = .ok (.goto 4, 3) ∧ decode cX10_comesToItself 50 = .ok (.iconst 0, 1) ∧ decode cX10_comesToItself 51 = .ok (.ireturn, 1) := by decide +kernel
theorem dX10_comesToItself_27 : decode cX10_comesToItself 27 = .ok (.aload_n 2, 1) := dX10_comesToItself_27g.1
theorem dX10_comesToItself_28 : decode cX10_comesToItself 28 = .ok (.getfield 162, 3) := dX10_comesToItself_27g.2.1
theorem dX10_comesToItself_31 : decode cX10_comesToItself 31 = .ok (.invokevirtual 165, 3) := dX10_comesToItself_27g.2.2.1
theorem dX10_comesToItself_34 : decode cX10_comesToItself 34 = .ok (.astore_n 2, 1) := dX10_comesToItself_27g.2.2.2.1
theorem dX10_comesToItself_35 : decode cX10_comesToItself 35 = .ok (.iinc 3 1, 3) := dX10_comesToItself_27g.2.2.2.2.1
theorem dX10_comesToItself_38 : decode cX10_comesToItself 38 = .ok (.goto (-27), 3) := dX10_comesToItself_27g.2.2.2.2.2.1
theorem dX10_comesToItself_41 : decode cX10_comesToItself 41 = .ok (.aload_n 2, 1) := dX10_comesToItself_27g.2.2.2.2.2.2.1
theorem dX10_comesToItself_42 : decode cX10_comesToItself 42 = .ok (.aload_n 1, 1) := dX10_comesToItself_27g.2.2.2.2.2.2.2.1
theorem dX10_comesToItself_43 : decode cX10_comesToItself 43 = .ok (.if_acmp .ne 7, 3) := dX10_comesToItself_27g.2.2.2.2.2.2.2.2.1
theorem dX10_comesToItself_46 : decode cX10_comesToItself 46 = .ok (.iconst 1, 1) := dX10_comesToItself_27g.2.2.2.2.2.2.2.2.2.1
theorem dX10_comesToItself_47 : decode cX10_comesToItself 47 = .ok (.goto 4, 3) := dX10_comesToItself_27g.2.2.2.2.2.2.2.2.2.2.1
theorem dX10_comesToItself_50 : decode cX10_comesToItself 50 = .ok (.iconst 0, 1) := dX10_comesToItself_27g.2.2.2.2.2.2.2.2.2.2.2.1
theorem dX10_comesToItself_51 : decode cX10_comesToItself 51 = .ok (.ireturn, 1) := dX10_comesToItself_27g.2.2.2.2.2.2.2.2.2.2.2.2
theorem dX10_merge_0g : decode cX10_merge 0 = .ok (.iconst 0, 1) ∧ decode cX10_merge 1 = .ok (.istore_n 2, 1) ∧ decode cX10_merge 2 = .ok (.aload_n 1, 1) ∧ decode cX10_merge 3 = .ok (.astore_n 3, 1) ∧ decode cX10_merge 4 = .ok (.iload_n 2, 1) ∧ decode cX10_merge 5 = .ok (.aload_n 0, 1) ∧ decode cX10_merge 6 = .ok (.getfield 26, 3) ∧ decode cX10_merge 9 = .ok (.arraylength, 1) ∧ decode cX10_merge 10 = .ok (.if_icmp .ge 29, 3) ∧ decode cX10_merge 13 = .ok (.aload_n 3, 1) ∧ decode cX10_merge 14 = .ok (.ifnull 25, 3) ∧ decode cX10_merge 17 = .ok (.aload_n 0, 1) ∧ decode cX10_merge 18 = .ok (.getfield 26, 3) ∧ decode cX10_merge 21 = .ok (.iload_n 2, 1) ∧ decode cX10_merge 22 = .ok (.aload_n 3, 1) ∧ decode cX10_merge 23 = .ok (.aastore, 1) := by decide +kernel
theorem dX10_merge_0 : decode cX10_merge 0 = .ok (.iconst 0, 1) := dX10_merge_0g.1
theorem dX10_merge_1 : decode cX10_merge 1 = .ok (.istore_n 2, 1) := dX10_merge_0g.2.1
theorem dX10_merge_2 : decode cX10_merge 2 = .ok (.aload_n 1, 1) := dX10_merge_0g.2.2.1
theorem dX10_merge_3 : decode cX10_merge 3 = .ok (.astore_n 3, 1) := dX10_merge_0g.2.2.2.1
theorem dX10_merge_4 : decode cX10_merge 4 = .ok (.iload_n 2, 1) := dX10_merge_0g.2.2.2.2.1
theorem dX10_merge_5 : decode cX10_merge 5 = .ok (.aload_n 0, 1) := dX10_merge_0g.2.2.2.2.2.1
theorem dX10_merge_6 : decode cX10_merge 6 = .ok (.getfield 26, 3) := dX10_merge_0g.2.2.2.2.2.2.1
theorem dX10_merge_9 : decode cX10_merge 9 = .ok (.arraylength, 1) := dX10_merge_0g.2.2.2.2.2.2.2.1
theorem dX10_merge_10 : decode cX10_merge 10 = .ok (.if_icmp .ge 29, 3) := dX10_merge_0g.2.2.2.2.2.2.2.2.1
theorem dX10_merge_13 : decode cX10_merge 13 = .ok (.aload_n 3, 1) := dX10_merge_0g.2.2.2.2.2.2.2.2.2.1
theorem dX10_merge_14 : decode cX10_merge 14 = .ok (.ifnull 25, 3) := dX10_merge_0g.2.2.2.2.2.2.2.2.2.2.1
theorem dX10_merge_17 : decode cX10_merge 17 = .ok (.aload_n 0, 1) := dX10_merge_0g.2.2.2.2.2.2.2.2.2.2.2.1
theorem dX10_merge_18 : decode cX10_merge 18 = .ok (.getfield 26, 3) := dX10_merge_0g.2.2.2.2.2.2.2.2.2.2.2.2.1
theorem dX10_merge_21 : decode cX10_merge 21 = .ok (.iload_n 2, 1) := dX10_merge_0g.2.2.2.2.2.2.2.2.2.2.2.2.2.1
theorem dX10_merge_22 : decode cX10_merge 22 = .ok (.aload_n 3, 1) := dX10_merge_0g.2.2.2.2.2.2.2.2.2.2.2.2.2.2.1
theorem dX10_merge_23 : decode cX10_merge 23 = .ok (.aastore, 1) := dX10_merge_0g.2.2.2.2.2.2.2.2.2.2.2.2.2.2.2
theorem dX10_merge_24g : decode cX10_merge 24 = .ok (.iinc 2 1, 3) ∧ decode cX10_merge 27 = .ok (.aload_n 0, 1) ∧ decode cX10_merge 28 = .ok (.aload_n 3, 1) ∧ decode cX10_merge 29 = .ok (.getfield 162, 3) ∧ decode cX10_merge 32 = .ok (.invokevirtual 165, 3) ∧ decode cX10_merge 35 = .ok (.astore_n 3, 1) ∧ decode cX10_merge 36 = .ok (.goto (-32), 3) ∧ decode cX10_merge 39 = .ok (.iload_n 2, 1) ∧ decode cX10_merge 40 = .ok (.iconst 1, 1) ∧ decode cX10_merge 41 = .ok (.isub, 1) ∧ decode cX10_merge 42 = .ok (.istore 4, 2) ∧ decode cX10_merge 44 = .ok (.iload 4, 2) ∧ decode cX10_merge 46 = .ok (.ifCond .lt 27, 3) ∧ decode cX10_merge 49 = .ok (.aload_n 1, 1) ∧ decode cX10_merge 50 = .ok (.aload_n 0, 1) ∧ decode cX10_merge 51 = .ok (.getfield 26, 3) := by decide +kernel
theorem dX10_merge_24 : decode cX10_merge 24 = .ok (.iinc 2 1, 3) := dX10_merge_24g.1
theorem dX10_merge_27 : decode cX10_merge 27 = .ok (.aload_n 0, 1) := dX10_merge_24g.2.1
theorem dX10_merge_28 : decode cX10_merge 28 = .ok (.aload_n 3, 1) := dX10_merge_24g.2.2.1
theorem dX10_merge_29 : decode cX10_merge 29 = .ok (.getfield 162, 3) := dX10_merge_24g.2.2.2.1
theorem dX10_merge_32 : decode cX10_merge 32 = .ok (.invokevirtual 165, 3) := dX10_merge_24g.2.2.2.2.1
theorem dX10_merge_35 : decode cX10_merge 35 = .ok (.astore_n 3, 1) := dX10_merge_24g.2.2.2.2.2.1
theorem dX10_merge_36 : decode cX10_merge 36 = .ok (.goto (-32), 3) := dX10_merge_24g.2.2.2.2.2.2.1
theorem dX10_merge_39 : decode cX10_merge 39 = .ok (.iload_n 2, 1) := dX10_merge_24g.2.2.2.2.2.2.2.1
theorem dX10_merge_40 : decode cX10_merge 40 = .ok (.iconst 1, 1) := dX10_merge_24g.2.2.2.2.2.2.2.2.1
theorem dX10_merge_41 : decode cX10_merge 41 = .ok (.isub, 1) := dX10_merge_24g.2.2.2.2.2.2.2.2.2.1
theorem dX10_merge_42 : decode cX10_merge 42 = .ok (.istore 4, 2) := dX10_merge_24g.2.2.2.2.2.2.2.2.2.2.1
theorem dX10_merge_44 : decode cX10_merge 44 = .ok (.iload 4, 2) := dX10_merge_24g.2.2.2.2.2.2.2.2.2.2.2.1
theorem dX10_merge_46 : decode cX10_merge 46 = .ok (.ifCond .lt 27, 3) := dX10_merge_24g.2.2.2.2.2.2.2.2.2.2.2.2.1
theorem dX10_merge_49 : decode cX10_merge 49 = .ok (.aload_n 1, 1) := dX10_merge_24g.2.2.2.2.2.2.2.2.2.2.2.2.2.1
theorem dX10_merge_50 : decode cX10_merge 50 = .ok (.aload_n 0, 1) := dX10_merge_24g.2.2.2.2.2.2.2.2.2.2.2.2.2.2.1
theorem dX10_merge_51 : decode cX10_merge 51 = .ok (.getfield 26, 3) := dX10_merge_24g.2.2.2.2.2.2.2.2.2.2.2.2.2.2.2
theorem dX10_merge_54g : decode cX10_merge 54 = .ok (.iload 4, 2) ∧ decode cX10_merge 56 = .ok (.aaload, 1) ∧ decode cX10_merge 57 = .ok (.getfield 172, 3) ∧ decode cX10_merge 60 = .ok (.aload_n 0, 1) ∧ decode cX10_merge 61 = .ok (.getfield 9, 3) ∧ decode cX10_merge 64 = .ok (.invokevirtual 174, 3) ∧ decode cX10_merge 67 = .ok (.iinc 4 (-1), 3) ∧ decode cX10_merge 70 = .ok (.goto (-26), 3) ∧ decode cX10_merge 73 = .ok (.return_, 1) := by decide +kernel
theorem dX10_merge_54 : decode cX10_merge 54 = .ok (.iload 4, 2) := dX10_merge_54g.1
theorem dX10_merge_56 : decode cX10_merge 56 = .ok (.aaload, 1) := dX10_merge_54g.2.1
theorem dX10_merge_57 : decode cX10_merge 57 = .ok (.getfield 172, 3) := dX10_merge_54g.2.2.1
theorem dX10_merge_60 : decode cX10_merge 60 = .ok (.aload_n 0, 1) := dX10_merge_54g.2.2.2.1
theorem dX10_merge_61 : decode cX10_merge 61 = .ok (.getfield 9, 3) := dX10_merge_54g.2.2.2.2.1
theorem dX10_merge_64 : decode cX10_merge 64 = .ok (.invokevirtual 174, 3) := dX10_merge_54g.2.2.2.2.2.1
theorem dX10_merge_67 : decode cX10_merge 67 = .ok (.iinc 4 (-1), 3) := dX10_merge_54g.2.2.2.2.2.2.1
theorem dX10_merge_70 : decode cX10_merge 70 = .ok (.goto (-26), 3) := dX10_merge_54g.2.2.2.2.2.2.2.1
theorem dX10_merge_73 : decode cX10_merge 73 = .ok (.return_, 1) := dX10_merge_54g.2.2.2.2.2.2.2.2
theorem dX10_withId_0g : decode cX10_withId 0 = .ok (.iconst 0, 1) ∧ decode cX10_withId 1 = .ok (.istore_n 3, 1) ∧ decode cX10_withId 2 = .ok (.iload_n 3, 1) ∧ decode cX10_withId 3 = .ok (.aload_n 0, 1) ∧ decode cX10_withId 4 = .ok (.getfield 29, 3) ∧ decode cX10_withId 7 = .ok (.if_icmp .ge 36, 3) ∧ decode cX10_withId 10 = .ok (.lload_n 1, 1) ∧ decode cX10_withId 11 = .ok (.lconst 0, 1) ∧ decode cX10_withId 12 = .ok (.lcmp, 1) ∧ decode cX10_withId 13 = .ok (.ifCond .eq 30, 3) ∧ decode cX10_withId 16 = .ok (.aload_n 0, 1) ∧ decode cX10_withId 17 = .ok (.getfield 19, 3) ∧ decode cX10_withId 20 = .ok (.iload_n 3, 1) ∧ decode cX10_withId 21 = .ok (.aaload, 1) ∧ decode cX10_withId 22 = .ok (.getfield 177, 3) ∧ decode cX10_withId 25 = .ok (.lload_n 1, 1) := by decide +kernel
theorem dX10_withId_0 : decode cX10_withId 0 = .ok (.iconst 0, 1) := dX10_withId_0g.1
theorem dX10_withId_1 : decode cX10_withId 1 = .ok (.istore_n 3, 1) := dX10_withId_0g.2.1
theorem dX10_withId_2 : decode cX10_withId 2 = .ok (.iload_n 3, 1) := dX10_withId_0g.2.2.1
theorem dX10_withId_3 : decode cX10_withId 3 = .ok (.aload_n 0, 1) := dX10_withId_0g.2.2.2.1
theorem dX10_withId_4 : decode cX10_withId 4 = .ok (.getfield 29, 3) := dX10_withId_0g.2.2.2.2.1
theorem dX10_withId_7 : decode cX10_withId 7 = .ok (.if_icmp .ge 36, 3) := dX10_withId_0g.2.2.2.2.2.1
theorem dX10_withId_10 : decode cX10_withId 10 = .ok (.lload_n 1, 1) := dX10_withId_0g.2.2.2.2.2.2.1
theorem dX10_withId_11 : decode cX10_withId 11 = .ok (.lconst 0, 1) := dX10_withId_0g.2.2.2.2.2.2.2.1
theorem dX10_withId_12 : decode cX10_withId 12 = .ok (.lcmp, 1) := dX10_withId_0g.2.2.2.2.2.2.2.2.1
theorem dX10_withId_13 : decode cX10_withId 13 = .ok (.ifCond .eq 30, 3) := dX10_withId_0g.2.2.2.2.2.2.2.2.2.1
theorem dX10_withId_16 : decode cX10_withId 16 = .ok (.aload_n 0, 1) := dX10_withId_0g.2.2.2.2.2.2.2.2.2.2.1
theorem dX10_withId_17 : decode cX10_withId 17 = .ok (.getfield 19, 3) := dX10_withId_0g.2.2.2.2.2.2.2.2.2.2.2.1
theorem dX10_withId_20 : decode cX10_withId 20 = .ok (.iload_n 3, 1) := dX10_withId_0g.2.2.2.2.2.2.2.2.2.2.2.2.1
theorem dX10_withId_21 : decode cX10_withId 21 = .ok (.aaload, 1) := dX10_withId_0g.2.2.2.2.2.2.2.2.2.2.2.2.2.1
theorem dX10_withId_22 : decode cX10_withId 22 = .ok (.getfield 177, 3) := dX10_withId_0g.2.2.2.2.2.2.2.2.2.2.2.2.2.2.1
theorem dX10_withId_25 : decode cX10_withId 25 = .ok (.lload_n 1, 1) := dX10_withId_0g.2.2.2.2.2.2.2.2.2.2.2.2.2.2.2
theorem dX10_withId_26g : decode cX10_withId 26 = .ok (.lcmp, 1) ∧ decode cX10_withId 27 = .ok (.ifCond .ne 10, 3) ∧ decode cX10_withId 30 = .ok (.aload_n 0, 1) ∧ decode cX10_withId 31 = .ok (.getfield 19, 3) ∧ decode cX10_withId 34 = .ok (.iload_n 3, 1) ∧ decode cX10_withId 35 = .ok (.aaload, 1) ∧ decode cX10_withId 36 = .ok (.areturn, 1) ∧ decode cX10_withId 37 = .ok (.iinc 3 1, 3) ∧ decode cX10_withId 40 = .ok (.goto (-38), 3) ∧ decode cX10_withId 43 = .ok (.aconst_null, 1) ∧ decode cX10_withId 44 = .ok (.areturn, 1) := by decide +kernel
theorem dX10_withId_26 : decode cX10_withId 26 = .ok (.lcmp, 1) := dX10_withId_26g.1
theorem dX10_withId_27 : decode cX10_withId 27 = .ok (.ifCond .ne 10, 3) := dX10_withId_26g.2.1
theorem dX10_withId_30 : decode cX10_withId 30 = .ok (.aload_n 0, 1) := dX10_withId_26g.2.2.1
theorem dX10_withId_31 : decode cX10_withId 31 = .ok (.getfield 19, 3) := dX10_withId_26g.2.2.2.1
theorem dX10_withId_34 : decode cX10_withId 34 = .ok (.iload_n 3, 1) := dX10_withId_26g.2.2.2.2.1
theorem dX10_withId_35 : decode cX10_withId 35 = .ok (.aaload, 1) := dX10_withId_26g.2.2.2.2.2.1
theorem dX10_withId_36 : decode cX10_withId 36 = .ok (.areturn, 1) := dX10_withId_26g.2.2.2.2.2.2.1
theorem dX10_withId_37 : decode cX10_withId 37 = .ok (.iinc 3 1, 3) := dX10_withId_26g.2.2.2.2.2.2.2.1
theorem dX10_withId_40 : decode cX10_withId 40 = .ok (.goto (-38), 3) := dX10_withId_26g.2.2.2.2.2.2.2.2.1
theorem dX10_withId_43 : decode cX10_withId 43 = .ok (.aconst_null, 1) := dX10_withId_26g.2.2.2.2.2.2.2.2.2.1
theorem dX10_withId_44 : decode cX10_withId 44 = .ok (.areturn, 1) := dX10_withId_26g.2.2.2.2.2.2.2.2.2.2
theorem dX10_called_0g : decode cX10_called 0 = .ok (.lload_n 1, 1) ∧ decode cX10_called 1 = .ok (.lstore_n 3, 1) ∧ decode cX10_called 2 = .ok (.iconst 0, 1) ∧ decode cX10_called 3 = .ok (.istore 5, 2) ∧ decode cX10_called 5 = .ok (.iload 5, 2) ∧ decode cX10_called 7 = .ok (.bipush 20, 2) ∧ decode cX10_called 9 = .ok (.if_icmp .gt 36, 3) ∧ decode cX10_called 12 = .ok (.lload_n 3, 1) ∧ decode cX10_called 13 = .ok (.lconst 0, 1) ∧ decode cX10_called 14 = .ok (.lcmp, 1) ∧ decode cX10_called 15 = .ok (.ifCond .eq 30, 3) ∧ decode cX10_called 18 = .ok (.aload_n 0, 1) ∧ decode cX10_called 19 = .ok (.lload_n 3, 1) ∧ decode cX10_called 20 = .ok (.invokevirtual 165, 3) ∧ decode cX10_called 23 = .ok (.astore 6, 2) ∧ decode cX10_called 25 = .ok (.aload 6, 2) := by decide +kernel
theorem dX10_called_0 : decode cX10_called 0 = .ok (.lload_n 1, 1) := dX10_called_0g.1
theorem dX10_called_1 : decode cX10_called 1 = .ok (.lstore_n 3, 1) := dX10_called_0g.2.1
theorem dX10_called_2 : decode cX10_called 2 = .ok (.iconst 0, 1) := dX10_called_0g.2.2.1
theorem dX10_called_3 : decode cX10_called 3 = .ok (.istore 5, 2) := dX10_called_0g.2.2.2.1
theorem dX10_called_5 : decode cX10_called 5 = .ok (.iload 5, 2) := dX10_called_0g.2.2.2.2.1
theorem dX10_called_7 : decode cX10_called 7 = .ok (.bipush 20, 2) := dX10_called_0g.2.2.2.2.2.1
theorem dX10_called_9 : decode cX10_called 9 = .ok (.if_icmp .gt 36, 3) := dX10_called_0g.2.2.2.2.2.2.1
theorem dX10_called_12 : decode cX10_called 12 = .ok (.lload_n 3, 1) := dX10_called_0g.2.2.2.2.2.2.2.1
theorem dX10_called_13 : decode cX10_called 13 = .ok (.lconst 0, 1) := dX10_called_0g.2.2.2.2.2.2.2.2.1
theorem dX10_called_14 : decode cX10_called 14 = .ok (.lcmp, 1) := dX10_called_0g.2.2.2.2.2.2.2.2.2.1
theorem dX10_called_15 : decode cX10_called 15 = .ok (.ifCond .eq 30, 3) := dX10_called_0g.2.2.2.2.2.2.2.2.2.2.1
theorem dX10_called_18 : decode cX10_called 18 = .ok (.aload_n 0, 1) := dX10_called_0g.2.2.2.2.2.2.2.2.2.2.2.1
theorem dX10_called_19 : decode cX10_called 19 = .ok (.lload_n 3, 1) := dX10_called_0g.2.2.2.2.2.2.2.2.2.2.2.2.1
theorem dX10_called_20 : decode cX10_called 20 = .ok (.invokevirtual 165, 3) := dX10_called_0g.2.2.2.2.2.2.2.2.2.2.2.2.2.1
theorem dX10_called_23 : decode cX10_called 23 = .ok (.astore 6, 2) := dX10_called_0g.2.2.2.2.2.2.2.2.2.2.2.2.2.2.1
theorem dX10_called_25 : decode cX10_called 25 = .ok (.aload 6, 2) := dX10_called_0g.2.2.2.2.2.2.2.2.2.2.2.2.2.2.2
theorem dX10_called_27g : decode cX10_called 27 = .ok (.ifnull 6, 3) ∧ decode cX10_called 30 = .ok (.aload 6, 2) ∧ decode cX10_called 32 = .ok (.areturn, 1) ∧ decode cX10_called 33 = .ok (.aload_n 0, 1) ∧ decode cX10_called 34 = .ok (.lload_n 3, 1) ∧ decode cX10_called 35 = .ok (.invokevirtual 180, 3) ∧ decode cX10_called 38 = .ok (.lstore_n 3, 1) ∧ decode cX10_called 39 = .ok (.iinc 5 1, 3) ∧ decode cX10_called 42 = .ok (.goto (-37), 3) ∧ decode cX10_called 45 = .ok (.aconst_null, 1) ∧ decode cX10_called 46 = .ok (.areturn, 1) := by decide +kernel
theorem dX10_called_27 : decode cX10_called 27 = .ok (.ifnull 6, 3) := dX10_called_27g.1
theorem dX10_called_30 : decode cX10_called 30 = .ok (.aload 6, 2) := dX10_called_27g.2.1
theorem dX10_called_32 : decode cX10_called 32 = .ok (.areturn, 1) := dX10_called_27g.2.2.1
theorem dX10_called_33 : decode cX10_called 33 = .ok (.aload_n 0, 1) := dX10_called_27g.2.2.2.1
theorem dX10_called_34 : decode cX10_called 34 = .ok (.lload_n 3, 1) := dX10_called_27g.2.2.2.2.1
theorem dX10_called_35 : decode cX10_called 35 = .ok (.invokevirtual 180, 3) := dX10_called_27g.2.2.2.2.2.1
theorem dX10_called_38 : decode cX10_called 38 = .ok (.lstore_n 3, 1) := dX10_called_27g.2.2.2.2.2.2.1
theorem dX10_called_39 : decode cX10_called 39 = .ok (.iinc 5 1, 3) := dX10_called_27g.2.2.2.2.2.2.2.1
theorem dX10_called_42 : decode cX10_called 42 = .ok (.goto (-37), 3) := dX10_called_27g.2.2.2.2.2.2.2.2.1
theorem dX10_called_45 : decode cX10_called 45 = .ok (.aconst_null, 1) := dX10_called_27g.2.2.2.2.2.2.2.2.2.1
theorem dX10_called_46 : decode cX10_called 46 = .ok (.areturn, 1) := dX10_called_27g.2.2.2.2.2.2.2.2.2.2
theorem dX10_nameBehindAlias_0g : decode cX10_nameBehindAlias 0 = .ok (.iconst 0, 1) ∧ decode cX10_nameBehindAlias 1 = .ok (.istore_n 3, 1) ∧ decode cX10_nameBehindAlias 2 = .ok (.iload_n 3, 1) ∧ decode cX10_nameBehindAlias 3 = .ok (.aload_n 0, 1) ∧ decode cX10_nameBehindAlias 4 = .ok (.getfield 9, 3) ∧ decode cX10_nameBehindAlias 7 = .ok (.invokevirtual 33, 3) ∧ decode cX10_nameBehindAlias 10 = .ok (.if_icmp .ge 46, 3) ∧ decode cX10_nameBehindAlias 13 = .ok (.aload_n 0, 1) ∧ decode cX10_nameBehindAlias 14 = .ok (.getfield 9, 3) ∧ decode cX10_nameBehindAlias 17 = .ok (.iload_n 3, 1) ∧ decode cX10_nameBehindAlias 18 = .ok (.invokevirtual 36, 3) ∧ decode cX10_nameBehindAlias 21 = .ok (.astore 4, 2) ∧ decode cX10_nameBehindAlias 23 = .ok (.aload 4, 2) ∧ decode cX10_nameBehindAlias 25 = .ok (.getfield 57, 3) ∧ decode cX10_nameBehindAlias 28 = .ok (.getstatic 184, 3) ∧ decode cX10_nameBehindAlias 31 = .ok (.if_acmp .ne 19, 3) := by decide +kernel
theorem dX10_nameBehindAlias_0 : decode cX10_nameBehindAlias 0 = .ok (.iconst 0, 1) := dX10_nameBehindAlias_0g.1
theorem dX10_nameBehindAlias_1 : decode cX10_nameBehindAlias 1 = .ok (.istore_n 3, 1) := dX10_nameBehindAlias_0g.2.1
theorem dX10_nameBehindAlias_2 : decode cX10_nameBehindAlias 2 = .ok (.iload_n 3, 1) := dX10_nameBehindAlias_0g.2.2.1
theorem dX10_nameBehindAlias_3 : decode cX10_nameBehindAlias 3 = .ok (.aload_n 0, 1) := dX10_nameBehindAlias_0g.2.2.2.1
theorem dX10_nameBehindAlias_4 : decode cX10_nameBehindAlias 4 = .ok (.getfield 9, 3) := dX10_nameBehindAlias_0g.2.2.2.2.1
theorem dX10_nameBehindAlias_7 : decode cX10_nameBehindAlias 7 = .ok (.invokevirtual 33, 3) := dX10_nameBehindAlias_0g.2.2.2.2.2.1
theorem dX10_nameBehindAlias_10 : decode cX10_nameBehindAlias 10 = .ok (.if_icmp .ge 46, 3) := dX10_nameBehindAlias_0g.2.2.2.2.2.2.1
theorem dX10_nameBehindAlias_13 : decode cX10_nameBehindAlias 13 = .ok (.aload_n 0, 1) := dX10_nameBehindAlias_0g.2.2.2.2.2.2.2.1
theorem dX10_nameBehindAlias_14 : decode cX10_nameBehindAlias 14 = .ok (.getfield 9, 3) := dX10_nameBehindAlias_0g.2.2.2.2.2.2.2.2.1
theorem dX10_nameBehindAlias_17 : decode cX10_nameBehindAlias 17 = .ok (.iload_n 3, 1) := dX10_nameBehindAlias_0g.2.2.2.2.2.2.2.2.2.1
theorem dX10_nameBehindAlias_18 : decode cX10_nameBehindAlias 18 = .ok (.invokevirtual 36, 3) := dX10_nameBehindAlias_0g.2.2.2.2.2.2.2.2.2.2.1
theorem dX10_nameBehindAlias_21 : decode cX10_nameBehindAlias 21 = .ok (.astore 4, 2) := dX10_nameBehindAlias_0g.2.2.2.2.2.2.2.2.2.2.2.1
theorem dX10_nameBehindAlias_23 : decode cX10_nameBehindAlias 23 = .ok (.aload 4, 2) := dX10_nameBehindAlias_0g.2.2.2.2.2.2.2.2.2.2.2.2.1
theorem dX10_nameBehindAlias_25 : decode cX10_nameBehindAlias 25 = .ok (.getfield 57, 3) := dX10_nameBehindAlias_0g.2.2.2.2.2.2.2.2.2.2.2.2.2.1
theorem dX10_nameBehindAlias_28 : decode cX10_nameBehindAlias 28 = .ok (.getstatic 184, 3) := dX10_nameBehindAlias_0g.2.2.2.2.2.2.2.2.2.2.2.2.2.2.1
theorem dX10_nameBehindAlias_31 : decode cX10_nameBehindAlias 31 = .ok (.if_acmp .ne 19, 3) := dX10_nameBehindAlias_0g.2.2.2.2.2.2.2.2.2.2.2.2.2.2.2
theorem dX10_nameBehindAlias_34g : decode cX10_nameBehindAlias 34 = .ok (.aload 4, 2) ∧ decode cX10_nameBehindAlias 36 = .ok (.getfield 82, 3) ∧ decode cX10_nameBehindAlias 39 = .ok (.lload_n 1, 1) ∧ decode cX10_nameBehindAlias 40 = .ok (.lcmp, 1) ∧ decode cX10_nameBehindAlias 41 = .ok (.ifCond .ne 9, 3) ∧ decode cX10_nameBehindAlias 44 = .ok (.aload 4, 2) ∧ decode cX10_nameBehindAlias 46 = .ok (.getfield 89, 3) ∧ decode cX10_nameBehindAlias 49 = .ok (.lreturn, 1) ∧ decode cX10_nameBehindAlias 50 = .ok (.iinc 3 1, 3) ∧ decode cX10_nameBehindAlias 53 = .ok (.goto (-51), 3) ∧ decode cX10_nameBehindAlias 56 = .ok (.lconst 0, 1) ∧ decode cX10_nameBehindAlias 57 = .ok (.lreturn, 1) := by decide +kernel
theorem dX10_nameBehindAlias_34 : decode cX10_nameBehindAlias 34 = .ok (.aload 4, 2) := dX10_nameBehindAlias_34g.1
theorem dX10_nameBehindAlias_36 : decode cX10_nameBehindAlias 36 = .ok (.getfield 82, 3) := dX10_nameBehindAlias_34g.2.1
theorem dX10_nameBehindAlias_39 : decode cX10_nameBehindAlias 39 = .ok (.lload_n 1, 1) := dX10_nameBehindAlias_34g.2.2.1
theorem dX10_nameBehindAlias_40 : decode cX10_nameBehindAlias 40 = .ok (.lcmp, 1) := dX10_nameBehindAlias_34g.2.2.2.1
theorem dX10_nameBehindAlias_41 : decode cX10_nameBehindAlias 41 = .ok (.ifCond .ne 9, 3) := dX10_nameBehindAlias_34g.2.2.2.2.1
theorem dX10_nameBehindAlias_44 : decode cX10_nameBehindAlias 44 = .ok (.aload 4, 2) := dX10_nameBehindAlias_34g.2.2.2.2.2.1
theorem dX10_nameBehindAlias_46 : decode cX10_nameBehindAlias 46 = .ok (.getfield 89, 3) := dX10_nameBehindAlias_34g.2.2.2.2.2.2.1
theorem dX10_nameBehindAlias_49 : decode cX10_nameBehindAlias 49 = .ok (.lreturn, 1) := dX10_nameBehindAlias_34g.2.2.2.2.2.2.2.1
theorem dX10_nameBehindAlias_50 : decode cX10_nameBehindAlias 50 = .ok (.iinc 3 1, 3) := dX10_nameBehindAlias_34g.2.2.2.2.2.2.2.2.1
theorem dX10_nameBehindAlias_53 : decode cX10_nameBehindAlias 53 = .ok (.goto (-51), 3) := dX10_nameBehindAlias_34g.2.2.2.2.2.2.2.2.2.1
theorem dX10_nameBehindAlias_56 : decode cX10_nameBehindAlias 56 = .ok (.lconst 0, 1) := dX10_nameBehindAlias_34g.2.2.2.2.2.2.2.2.2.2.1
theorem dX10_nameBehindAlias_57 : decode cX10_nameBehindAlias 57 = .ok (.lreturn, 1) := dX10_nameBehindAlias_34g.2.2.2.2.2.2.2.2.2.2.2
theorem dX11_withKey_0g : decode cX11_withKey 0 = .ok (.getstatic 143, 3) ∧ decode cX11_withKey 3 = .ok (.astore_n 2, 1) ∧ decode cX11_withKey 4 = .ok (.aload_n 2, 1) ∧ decode cX11_withKey 5 = .ok (.arraylength, 1) ∧ decode cX11_withKey 6 = .ok (.istore_n 3, 1) ∧ decode cX11_withKey 7 = .ok (.iconst 0, 1) ∧ decode cX11_withKey 8 = .ok (.istore 4, 2) ∧ decode cX11_withKey 10 = .ok (.iload 4, 2) ∧ decode cX11_withKey 12 = .ok (.iload_n 3, 1) ∧ decode cX11_withKey 13 = .ok (.if_icmp .ge 28, 3) ∧ decode cX11_withKey 16 = .ok (.aload_n 2, 1) ∧ decode cX11_withKey 17 = .ok (.iload 4, 2) ∧ decode cX11_withKey 19 = .ok (.aaload, 1) ∧ decode cX11_withKey 20 = .ok (.astore 5, 2) ∧ decode cX11_withKey 22 = .ok (.aload 5, 2) ∧ decode cX11_withKey 24 = .ok (.getfield 129, 3) := by decide +kernel
theorem dX11_withKey_0 : decode cX11_withKey 0 = .ok (.getstatic 143, 3) := dX11_withKey_0g.1
theorem dX11_withKey_3 : decode cX11_withKey 3 = .ok (.astore_n 2, 1) := dX11_withKey_0g.2.1
theorem dX11_withKey_4 : decode cX11_withKey 4 = .ok (.aload_n 2, 1) := dX11_withKey_0g.2.2.1
theorem dX11_withKey_5 : decode cX11_withKey 5 = .ok (.arraylength, 1) := dX11_withKey_0g.2.2.2.1
theorem dX11_withKey_6 : decode cX11_withKey 6 = .ok (.istore_n 3, 1) := dX11_withKey_0g.2.2.2.2.1
theorem dX11_withKey_7 : decode cX11_withKey 7 = .ok (.iconst 0, 1) := dX11_withKey_0g.2.2.2.2.2.1
theorem dX11_withKey_8 : decode cX11_withKey 8 = .ok (.istore 4, 2) := dX11_withKey_0g.2.2.2.2.2.2.1
theorem dX11_withKey_10 : decode cX11_withKey 10 = .ok (.iload 4, 2) := dX11_withKey_0g.2.2.2.2.2.2.2.1
theorem dX11_withKey_12 : decode cX11_withKey 12 = .ok (.iload_n 3, 1) := dX11_withKey_0g.2.2.2.2.2.2.2.2.1
theorem dX11_withKey_13 : decode cX11_withKey 13 = .ok (.if_icmp .ge 28, 3) := dX11_withKey_0g.2.2.2.2.2.2.2.2.2.1
theorem dX11_withKey_16 : decode cX11_withKey 16 = .ok (.aload_n 2, 1) := dX11_withKey_0g.2.2.2.2.2.2.2.2.2.2.1
theorem dX11_withKey_17 : decode cX11_withKey 17 = .ok (.iload 4, 2) := dX11_withKey_0g.2.2.2.2.2.2.2.2.2.2.2.1
theorem dX11_withKey_19 : decode cX11_withKey 19 = .ok (.aaload, 1) := dX11_withKey_0g.2.2.2.2.2.2.2.2.2.2.2.2.1
theorem dX11_withKey_20 : decode cX11_withKey 20 = .ok (.astore 5, 2) := dX11_withKey_0g.2.2.2.2.2.2.2.2.2.2.2.2.2.1
theorem dX11_withKey_22 : decode cX11_withKey 22 = .ok (.aload 5, 2) := dX11_withKey_0g.2.2.2.2.2.2.2.2.2.2.2.2.2.2.1
theorem dX11_withKey_24 : decode cX11_withKey 24 = .ok (.getfield 129, 3) := dX11_withKey_0g.2.2.2.2.2.2.2.2.2.2.2.2.2.2.2
theorem dX11_withKey_27g : decode cX11_withKey 27 = .ok (.lload_n 0, 1) ∧ decode cX11_withKey 28 = .ok (.lcmp, 1) ∧ decode cX11_withKey 29 = .ok (.ifCond .ne 6, 3) ∧ decode cX11_withKey 32 = .ok (.aload 5, 2) ∧ decode cX11_withKey 34 = .ok (.areturn, 1) ∧ decode cX11_withKey 35 = .ok (.iinc 4 1, 3) ∧ decode cX11_withKey 38 = .ok (.goto (-28), 3) ∧ decode cX11_withKey 41 = .ok (.aconst_null, 1) ∧ decode cX11_withKey 42 = .ok (.areturn, 1) := by decide +kernel
theorem dX11_withKey_27 : decode cX11_withKey 27 = .ok (.lload_n 0, 1) := dX11_withKey_27g.1
theorem dX11_withKey_28 : decode cX11_withKey 28 = .ok (.lcmp, 1) := dX11_withKey_27g.2.1
theorem dX11_withKey_29 : decode cX11_withKey 29 = .ok (.ifCond .ne 6, 3) := dX11_withKey_27g.2.2.1
theorem dX11_withKey_32 : decode cX11_withKey 32 = .ok (.aload 5, 2) := dX11_withKey_27g.2.2.2.1
theorem dX11_withKey_34 : decode cX11_withKey 34 = .ok (.areturn, 1) := dX11_withKey_27g.2.2.2.2.1
theorem dX11_withKey_35 : decode cX11_withKey 35 = .ok (.iinc 4 1, 3) := dX11_withKey_27g.2.2.2.2.2.1
theorem dX11_withKey_38 : decode cX11_withKey 38 = .ok (.goto (-28), 3) := dX11_withKey_27g.2.2.2.2.2.2.1
theorem dX11_withKey_41 : decode cX11_withKey 41 = .ok (.aconst_null, 1) := dX11_withKey_27g.2.2.2.2.2.2.2.1
theorem dX11_withKey_42 : decode cX11_withKey 42 = .ok (.areturn, 1) := dX11_withKey_27g.2.2.2.2.2.2.2.2
theorem dX12_declare_0g : decode cX12_declare 0 = .ok (.iload_n 1, 1) ∧ decode cX12_declare 1 = .ok (.invokestatic 72, 3) ∧ decode cX12_declare 4 = .ok (.ifCond .eq 13, 3) ∧ decode cX12_declare 7 = .ok (.iload_n 2, 1) ∧ decode cX12_declare 8 = .ok (.iconst (-1), 1) ∧ decode cX12_declare 9 = .ok (.if_icmp .lt 8, 3) ∧ decode cX12_declare 12 = .ok (.iload_n 2, 1) ∧ decode cX12_declare 13 = .ok (.iload_n 1, 1) ∧ decode cX12_declare 14 = .ok (.if_icmp .lt 5, 3) ∧ decode cX12_declare 17 = .ok (.iconst 0, 1) ∧ decode cX12_declare 18 = .ok (.ireturn, 1) ∧ decode cX12_declare 19 = .ok (.aload_n 0, 1) ∧ decode cX12_declare 20 = .ok (.getfield 11, 3) ∧ decode cX12_declare 23 = .ok (.iload_n 1, 1) ∧ decode cX12_declare 24 = .ok (.aaload, 1) ∧ decode cX12_declare 25 = .ok (.iload_n 2, 1) := by decide +kernel
theorem dX12_declare_0 : decode cX12_declare 0 = .ok (.iload_n 1, 1) := dX12_declare_0g.1
theorem dX12_declare_1 : decode cX12_declare 1 = .ok (.invokestatic 72, 3) := dX12_declare_0g.2.1
theorem dX12_declare_4 : decode cX12_declare 4 = .ok (.ifCond .eq 13, 3) := dX12_declare_0g.2.2.1
theorem dX12_declare_7 : decode cX12_declare 7 = .ok (.iload_n 2, 1) := dX12_declare_0g.2.2.2.1
theorem dX12_declare_8 : decode cX12_declare 8 = .ok (.iconst (-1), 1) := dX12_declare_0g.2.2.2.2.1
theorem dX12_declare_9 : decode cX12_declare 9 = .ok (.if_icmp .lt 8, 3) := dX12_declare_0g.2.2.2.2.2.1
theorem dX12_declare_12 : decode cX12_declare 12 = .ok (.iload_n 2, 1) := dX12_declare_0g.2.2.2.2.2.2.1
theorem dX12_declare_13 : decode cX12_declare 13 = .ok (.iload_n 1, 1) := dX12_declare_0g.2.2.2.2.2.2.2.1
theorem dX12_declare_14 : decode cX12_declare 14 = .ok (.if_icmp .lt 5, 3) := dX12_declare_0g.2.2.2.2.2.2.2.2.1
theorem dX12_declare_17 : decode cX12_declare 17 = .ok (.iconst 0, 1) := dX12_declare_0g.2.2.2.2.2.2.2.2.2.1
theorem dX12_declare_18 : decode cX12_declare 18 = .ok (.ireturn, 1) := dX12_declare_0g.2.2.2.2.2.2.2.2.2.2.1
theorem dX12_declare_19 : decode cX12_declare 19 = .ok (.aload_n 0, 1) := dX12_declare_0g.2.2.2.2.2.2.2.2.2.2.2.1
theorem dX12_declare_20 : decode cX12_declare 20 = .ok (.getfield 11, 3) := dX12_declare_0g.2.2.2.2.2.2.2.2.2.2.2.2.1
theorem dX12_declare_23 : decode cX12_declare 23 = .ok (.iload_n 1, 1) := dX12_declare_0g.2.2.2.2.2.2.2.2.2.2.2.2.2.1
theorem dX12_declare_24 : decode cX12_declare 24 = .ok (.aaload, 1) := dX12_declare_0g.2.2.2.2.2.2.2.2.2.2.2.2.2.2.1
theorem dX12_declare_25 : decode cX12_declare 25 = .ok (.iload_n 2, 1) := dX12_declare_0g.2.2.2.2.2.2.2.2.2.2.2.2.2.2.2
theorem dX12_declare_26g : decode cX12_declare 26 = .ok (.iconst (-1), 1) ∧ decode cX12_declare 27 = .ok (.if_icmp .ne 7, 3) ∧ decode cX12_declare 30 = .ok (.aconst_null, 1) ∧ decode cX12_declare 31 = .ok (.goto 9, 3) ∧ decode cX12_declare 34 = .ok (.aload_n 0, 1) ∧ decode cX12_declare 35 = .ok (.getfield 11, 3) ∧ decode cX12_declare 38 = .ok (.iload_n 2, 1) ∧ decode cX12_declare 39 = .ok (.aaload, 1) ∧ decode cX12_declare 40 = .ok (.invokevirtual 76, 3) ∧ decode cX12_declare 43 = .ok (.iconst 1, 1) ∧ decode cX12_declare 44 = .ok (.ireturn, 1) := by decide +kernel
theorem dX12_declare_26 : decode cX12_declare 26 = .ok (.iconst (-1), 1) := dX12_declare_26g.1
theorem dX12_declare_27 : decode cX12_declare 27 = .ok (.if_icmp .ne 7, 3) := dX12_declare_26g.2.1
theorem dX12_declare_30 : decode cX12_declare 30 = .ok (.aconst_null, 1) := dX12_declare_26g.2.2.1
theorem dX12_declare_31 : decode cX12_declare 31 = .ok (.goto 9, 3) := dX12_declare_26g.2.2.2.1
theorem dX12_declare_34 : decode cX12_declare 34 = .ok (.aload_n 0, 1) := dX12_declare_26g.2.2.2.2.1
theorem dX12_declare_35 : decode cX12_declare 35 = .ok (.getfield 11, 3) := dX12_declare_26g.2.2.2.2.2.1
theorem dX12_declare_38 : decode cX12_declare 38 = .ok (.iload_n 2, 1) := dX12_declare_26g.2.2.2.2.2.2.1
theorem dX12_declare_39 : decode cX12_declare 39 = .ok (.aaload, 1) := dX12_declare_26g.2.2.2.2.2.2.2.1
theorem dX12_declare_40 : decode cX12_declare 40 = .ok (.invokevirtual 76, 3) := dX12_declare_26g.2.2.2.2.2.2.2.2.1
theorem dX12_declare_43 : decode cX12_declare 43 = .ok (.iconst 1, 1) := dX12_declare_26g.2.2.2.2.2.2.2.2.2.1
theorem dX12_declare_44 : decode cX12_declare 44 = .ok (.ireturn, 1) := dX12_declare_26g.2.2.2.2.2.2.2.2.2.2
theorem dX12_constructor_0g : decode cX12_constructor 0 = .ok (.iload_n 1, 1) ∧ decode cX12_constructor 1 = .ok (.invokestatic 72, 3) ∧ decode cX12_constructor 4 = .ok (.ifCond .eq 37, 3) ∧ decode cX12_constructor 7 = .ok (.iload_n 2, 1) ∧ decode cX12_constructor 8 = .ok (.iload_n 3, 1) ∧ decode cX12_constructor 9 = .ok (.iload 4, 2) ∧ decode cX12_constructor 11 = .ok (.iload 5, 2) ∧ decode cX12_constructor 13 = .ok (.invokestatic 80, 3) ∧ decode cX12_constructor 16 = .ok (.ifCond .eq 25, 3) ∧ decode cX12_constructor 19 = .ok (.aload_n 0, 1) ∧ decode cX12_constructor 20 = .ok (.getfield 11, 3) ∧ decode cX12_constructor 23 = .ok (.iload_n 1, 1) ∧ decode cX12_constructor 24 = .ok (.aaload, 1) ∧ decode cX12_constructor 25 = .ok (.iload_n 2, 1) ∧ decode cX12_constructor 26 = .ok (.iload_n 3, 1) ∧ decode cX12_constructor 27 = .ok (.iload 4, 2) := by decide +kernel
theorem dX12_constructor_0 : decode cX12_constructor 0 = .ok (.iload_n 1, 1) := dX12_constructor_0g.1
theorem dX12_constructor_1 : decode cX12_constructor 1 = .ok (.invokestatic 72, 3) := dX12_constructor_0g.2.1
theorem dX12_constructor_4 : decode cX12_constructor 4 = .ok (.ifCond .eq 37, 3) := dX12_constructor_0g.2.2.1
theorem dX12_constructor_7 : decode cX12_constructor 7 = .ok (.iload_n 2, 1) := dX12_constructor_0g.2.2.2.1
theorem dX12_constructor_8 : decode cX12_constructor 8 = .ok (.iload_n 3, 1) := dX12_constructor_0g.2.2.2.2.1
theorem dX12_constructor_9 : decode cX12_constructor 9 = .ok (.iload 4, 2) := dX12_constructor_0g.2.2.2.2.2.1
theorem dX12_constructor_11 : decode cX12_constructor 11 = .ok (.iload 5, 2) := dX12_constructor_0g.2.2.2.2.2.2.1
theorem dX12_constructor_13 : decode cX12_constructor 13 = .ok (.invokestatic 80, 3) := dX12_constructor_0g.2.2.2.2.2.2.2.1
theorem dX12_constructor_16 : decode cX12_constructor 16 = .ok (.ifCond .eq 25, 3) := dX12_constructor_0g.2.2.2.2.2.2.2.2.1
theorem dX12_constructor_19 : decode cX12_constructor 19 = .ok (.aload_n 0, 1) := dX12_constructor_0g.2.2.2.2.2.2.2.2.2.1
theorem dX12_constructor_20 : decode cX12_constructor 20 = .ok (.getfield 11, 3) := dX12_constructor_0g.2.2.2.2.2.2.2.2.2.2.1
theorem dX12_constructor_23 : decode cX12_constructor 23 = .ok (.iload_n 1, 1) := dX12_constructor_0g.2.2.2.2.2.2.2.2.2.2.2.1
theorem dX12_constructor_24 : decode cX12_constructor 24 = .ok (.aaload, 1) := dX12_constructor_0g.2.2.2.2.2.2.2.2.2.2.2.2.1
theorem dX12_constructor_25 : decode cX12_constructor 25 = .ok (.iload_n 2, 1) := dX12_constructor_0g.2.2.2.2.2.2.2.2.2.2.2.2.2.1
theorem dX12_constructor_26 : decode cX12_constructor 26 = .ok (.iload_n 3, 1) := dX12_constructor_0g.2.2.2.2.2.2.2.2.2.2.2.2.2.2.1
theorem dX12_constructor_27 : decode cX12_constructor 27 = .ok (.iload 4, 2) := dX12_constructor_0g.2.2.2.2.2.2.2.2.2.2.2.2.2.2.2
theorem dX12_constructor_29g : decode cX12_constructor 29 = .ok (.iload 5, 2) ∧ decode cX12_constructor 31 = .ok (.invokevirtual 84, 3) ∧ decode cX12_constructor 34 = .ok (.ifCond .eq 7, 3) ∧ decode cX12_constructor 37 = .ok (.iconst 1, 1) ∧ decode cX12_constructor 38 = .ok (.goto 4, 3) ∧ decode cX12_constructor 41 = .ok (.iconst 0, 1) ∧ decode cX12_constructor 42 = .ok (.ireturn, 1) := by decide +kernel
theorem dX12_constructor_29 : decode cX12_constructor 29 = .ok (.iload 5, 2) := dX12_constructor_29g.1
theorem dX12_constructor_31 : decode cX12_constructor 31 = .ok (.invokevirtual 84, 3) := dX12_constructor_29g.2.1
theorem dX12_constructor_34 : decode cX12_constructor 34 = .ok (.ifCond .eq 7, 3) := dX12_constructor_29g.2.2.1
theorem dX12_constructor_37 : decode cX12_constructor 37 = .ok (.iconst 1, 1) := dX12_constructor_29g.2.2.2.1
theorem dX12_constructor_38 : decode cX12_constructor 38 = .ok (.goto 4, 3) := dX12_constructor_29g.2.2.2.2.1
theorem dX12_constructor_41 : decode cX12_constructor 41 = .ok (.iconst 0, 1) := dX12_constructor_29g.2.2.2.2.2.1
theorem dX12_constructor_42 : decode cX12_constructor 42 = .ok (.ireturn, 1) := dX12_constructor_29g.2.2.2.2.2.2
theorem dX12_setter_0g : decode cX12_setter 0 = .ok (.iload_n 1, 1) ∧ decode cX12_setter 1 = .ok (.invokestatic 72, 3) ∧ decode cX12_setter 4 = .ok (.ifCond .eq 35, 3) ∧ decode cX12_setter 7 = .ok (.iload_n 2, 1) ∧ decode cX12_setter 8 = .ok (.invokestatic 87, 3) ∧ decode cX12_setter 11 = .ok (.ifCond .eq 28, 3) ∧ decode cX12_setter 14 = .ok (.iload_n 3, 1) ∧ decode cX12_setter 15 = .ok (.invokestatic 90, 3) ∧ decode cX12_setter 18 = .ok (.ifCond .eq 21, 3) ∧ decode cX12_setter 21 = .ok (.aload_n 0, 1) ∧ decode cX12_setter 22 = .ok (.getfield 11, 3) ∧ decode cX12_setter 25 = .ok (.iload_n 1, 1) ∧ decode cX12_setter 26 = .ok (.aaload, 1) ∧ decode cX12_setter 27 = .ok (.iload_n 2, 1) ∧ decode cX12_setter 28 = .ok (.iload_n 3, 1) ∧ decode cX12_setter 29 = .ok (.invokevirtual 93, 3) := by decide +kernel
theorem dX12_setter_0 : decode cX12_setter 0 = .ok (.iload_n 1, 1) := dX12_setter_0g.1
theorem dX12_setter_1 : decode cX12_setter 1 = .ok (.invokestatic 72, 3) := dX12_setter_0g.2.1
theorem dX12_setter_4 : decode cX12_setter 4 = .ok (.ifCond .eq 35, 3) := dX12_setter_0g.2.2.1
theorem dX12_setter_7 : decode cX12_setter 7 = .ok (.iload_n 2, 1) := dX12_setter_0g.2.2.2.1
theorem dX12_setter_8 : decode cX12_setter 8 = .ok (.invokestatic 87, 3) := dX12_setter_0g.2.2.2.2.1
theorem dX12_setter_11 : decode cX12_setter 11 = .ok (.ifCond .eq 28, 3) := dX12_setter_0g.2.2.2.2.2.1
theorem dX12_setter_14 : decode cX12_setter 14 = .ok (.iload_n 3, 1) := dX12_setter_0g.2.2.2.2.2.2.1
theorem dX12_setter_15 : decode cX12_setter 15 = .ok (.invokestatic 90, 3) := dX12_setter_0g.2.2.2.2.2.2.2.1
theorem dX12_setter_18 : decode cX12_setter 18 = .ok (.ifCond .eq 21, 3) := dX12_setter_0g.2.2.2.2.2.2.2.2.1
theorem dX12_setter_21 : decode cX12_setter 21 = .ok (.aload_n 0, 1) := dX12_setter_0g.2.2.2.2.2.2.2.2.2.1
theorem dX12_setter_22 : decode cX12_setter 22 = .ok (.getfield 11, 3) := dX12_setter_0g.2.2.2.2.2.2.2.2.2.2.1
theorem dX12_setter_25 : decode cX12_setter 25 = .ok (.iload_n 1, 1) := dX12_setter_0g.2.2.2.2.2.2.2.2.2.2.2.1
theorem dX12_setter_26 : decode cX12_setter 26 = .ok (.aaload, 1) := dX12_setter_0g.2.2.2.2.2.2.2.2.2.2.2.2.1
theorem dX12_setter_27 : decode cX12_setter 27 = .ok (.iload_n 2, 1) := dX12_setter_0g.2.2.2.2.2.2.2.2.2.2.2.2.2.1
theorem dX12_setter_28 : decode cX12_setter 28 = .ok (.iload_n 3, 1) := dX12_setter_0g.2.2.2.2.2.2.2.2.2.2.2.2.2.2.1
theorem dX12_setter_29 : decode cX12_setter 29 = .ok (.invokevirtual 93, 3) := dX12_setter_0g.2.2.2.2.2.2.2.2.2.2.2.2.2.2.2
theorem dX12_setter_32g : decode cX12_setter 32 = .ok (.ifCond .eq 7, 3) ∧ decode cX12_setter 35 = .ok (.iconst 1, 1) ∧ decode cX12_setter 36 = .ok (.goto 4, 3) ∧ decode cX12_setter 39 = .ok (.iconst 0, 1) ∧ decode cX12_setter 40 = .ok (.ireturn, 1) := by decide +kernel
theorem dX12_setter_32 : decode cX12_setter 32 = .ok (.ifCond .eq 7, 3) := dX12_setter_32g.1
theorem dX12_setter_35 : decode cX12_setter 35 = .ok (.iconst 1, 1) := dX12_setter_32g.2.1
theorem dX12_setter_36 : decode cX12_setter 36 = .ok (.goto 4, 3) := dX12_setter_32g.2.2.1
theorem dX12_setter_39 : decode cX12_setter 39 = .ok (.iconst 0, 1) := dX12_setter_32g.2.2.2.1
theorem dX12_setter_40 : decode cX12_setter 40 = .ok (.ireturn, 1) := dX12_setter_32g.2.2.2.2
theorem dX12_factory_0g : decode cX12_factory 0 = .ok (.iload_n 1, 1) ∧ decode cX12_factory 1 = .ok (.invokestatic 72, 3) ∧ decode cX12_factory 4 = .ok (.ifCond .eq 60, 3) ∧ decode cX12_factory 7 = .ok (.iload_n 2, 1) ∧ decode cX12_factory 8 = .ok (.invokestatic 87, 3) ∧ decode cX12_factory 11 = .ok (.ifCond .eq 53, 3) ∧ decode cX12_factory 14 = .ok (.iload 4, 2) ∧ decode cX12_factory 16 = .ok (.invokestatic 72, 3) ∧ decode cX12_factory 19 = .ok (.ifCond .eq 45, 3) ∧ decode cX12_factory 22 = .ok (.iload 5, 2) ∧ decode cX12_factory 24 = .ok (.iload 6, 2) ∧ decode cX12_factory 26 = .ok (.iload 7, 2) ∧ decode cX12_factory 28 = .ok (.iload 8, 2) ∧ decode cX12_factory 30 = .ok (.invokestatic 80, 3) ∧ decode cX12_factory 33 = .ok (.ifCond .eq 31, 3) ∧ decode cX12_factory 36 = .ok (.aload_n 0, 1) := by decide +kernel
theorem dX12_factory_0 : decode cX12_factory 0 = .ok (.iload_n 1, 1) := dX12_factory_0g.1
theorem dX12_factory_1 : decode cX12_factory 1 = .ok (.invokestatic 72, 3) := dX12_factory_0g.2.1
theorem dX12_factory_4 : decode cX12_factory 4 = .ok (.ifCond .eq 60, 3) := dX12_factory_0g.2.2.1
theorem dX12_factory_7 : decode cX12_factory 7 = .ok (.iload_n 2, 1) := dX12_factory_0g.2.2.2.1
theorem dX12_factory_8 : decode cX12_factory 8 = .ok (.invokestatic 87, 3) := dX12_factory_0g.2.2.2.2.1
theorem dX12_factory_11 : decode cX12_factory 11 = .ok (.ifCond .eq 53, 3) := dX12_factory_0g.2.2.2.2.2.1
theorem dX12_factory_14 : decode cX12_factory 14 = .ok (.iload 4, 2) := dX12_factory_0g.2.2.2.2.2.2.1
theorem dX12_factory_16 : decode cX12_factory 16 = .ok (.invokestatic 72, 3) := dX12_factory_0g.2.2.2.2.2.2.2.1
theorem dX12_factory_19 : decode cX12_factory 19 = .ok (.ifCond .eq 45, 3) := dX12_factory_0g.2.2.2.2.2.2.2.2.1
theorem dX12_factory_22 : decode cX12_factory 22 = .ok (.iload 5, 2) := dX12_factory_0g.2.2.2.2.2.2.2.2.2.1
theorem dX12_factory_24 : decode cX12_factory 24 = .ok (.iload 6, 2) := dX12_factory_0g.2.2.2.2.2.2.2.2.2.2.1
theorem dX12_factory_26 : decode cX12_factory 26 = .ok (.iload 7, 2) := dX12_factory_0g.2.2.2.2.2.2.2.2.2.2.2.1
theorem dX12_factory_28 : decode cX12_factory 28 = .ok (.iload 8, 2) := dX12_factory_0g.2.2.2.2.2.2.2.2.2.2.2.2.1
theorem dX12_factory_30 : decode cX12_factory 30 = .ok (.invokestatic 80, 3) := dX12_factory_0g.2.2.2.2.2.2.2.2.2.2.2.2.2.1
theorem dX12_factory_33 : decode cX12_factory 33 = .ok (.ifCond .eq 31, 3) := dX12_factory_0g.2.2.2.2.2.2.2.2.2.2.2.2.2.2.1
theorem dX12_factory_36 : decode cX12_factory 36 = .ok (.aload_n 0, 1) := dX12_factory_0g.2.2.2.2.2.2.2.2.2.2.2.2.2.2.2
theorem dX12_factory_37g : decode cX12_factory 37 = .ok (.getfield 11, 3) ∧ decode cX12_factory 40 = .ok (.iload_n 1, 1) ∧ decode cX12_factory 41 = .ok (.aaload, 1) ∧ decode cX12_factory 42 = .ok (.iload_n 2, 1) ∧ decode cX12_factory 43 = .ok (.iload_n 3, 1) ∧ decode cX12_factory 44 = .ok (.iload 4, 2) ∧ decode cX12_factory 46 = .ok (.iload 5, 2) ∧ decode cX12_factory 48 = .ok (.iload 6, 2) ∧ decode cX12_factory 50 = .ok (.iload 7, 2) ∧ decode cX12_factory 52 = .ok (.iload 8, 2) ∧ decode cX12_factory 54 = .ok (.invokevirtual 97, 3) ∧ decode cX12_factory 57 = .ok (.ifCond .eq 7, 3) ∧ decode cX12_factory 60 = .ok (.iconst 1, 1) ∧ decode cX12_factory 61 = .ok (.goto 4, 3) ∧ decode cX12_factory 64 = .ok (.iconst 0, 1) ∧ decode cX12_factory 65 = .ok (.ireturn, 1) := by decide +kernel
theorem dX12_factory_37 : decode cX12_factory 37 = .ok (.getfield 11, 3) := dX12_factory_37g.1
theorem dX12_factory_40 : decode cX12_factory 40 = .ok (.iload_n 1, 1) := dX12_factory_37g.2.1
theorem dX12_factory_41 : decode cX12_factory 41 = .ok (.aaload, 1) := dX12_factory_37g.2.2.1
theorem dX12_factory_42 : decode cX12_factory 42 = .ok (.iload_n 2, 1) := dX12_factory_37g.2.2.2.1
theorem dX12_factory_43 : decode cX12_factory 43 = .ok (.iload_n 3, 1) := dX12_factory_37g.2.2.2.2.1
theorem dX12_factory_44 : decode cX12_factory 44 = .ok (.iload 4, 2) := dX12_factory_37g.2.2.2.2.2.1
theorem dX12_factory_46 : decode cX12_factory 46 = .ok (.iload 5, 2) := dX12_factory_37g.2.2.2.2.2.2.1
theorem dX12_factory_48 : decode cX12_factory 48 = .ok (.iload 6, 2) := dX12_factory_37g.2.2.2.2.2.2.2.1
theorem dX12_factory_50 : decode cX12_factory 50 = .ok (.iload 7, 2) := dX12_factory_37g.2.2.2.2.2.2.2.2.1
theorem dX12_factory_52 : decode cX12_factory 52 = .ok (.iload 8, 2) := dX12_factory_37g.2.2.2.2.2.2.2.2.2.1
theorem dX12_factory_54 : decode cX12_factory 54 = .ok (.invokevirtual 97, 3) := dX12_factory_37g.2.2.2.2.2.2.2.2.2.2.1
theorem dX12_factory_57 : decode cX12_factory 57 = .ok (.ifCond .eq 7, 3) := dX12_factory_37g.2.2.2.2.2.2.2.2.2.2.2.1
theorem dX12_factory_60 : decode cX12_factory 60 = .ok (.iconst 1, 1) := dX12_factory_37g.2.2.2.2.2.2.2.2.2.2.2.2.1
theorem dX12_factory_61 : decode cX12_factory 61 = .ok (.goto 4, 3) := dX12_factory_37g.2.2.2.2.2.2.2.2.2.2.2.2.2.1
theorem dX12_factory_64 : decode cX12_factory 64 = .ok (.iconst 0, 1) := dX12_factory_37g.2.2.2.2.2.2.2.2.2.2.2.2.2.2.1
theorem dX12_factory_65 : decode cX12_factory 65 = .ok (.ireturn, 1) := dX12_factory_37g.2.2.2.2.2.2.2.2.2.2.2.2.2.2.2
theorem dX12_type_0g : decode cX12_type 0 = .ok (.aload_n 0, 1) ∧ decode cX12_type 1 = .ok (.aload_n 0, 1) ∧ decode cX12_type 2 = .ok (.getfield 101, 3) ∧ decode cX12_type 5 = .ok (.iload_n 1, 1) ∧ decode cX12_type 6 = .ok (.invokevirtual 104, 3) ∧ decode cX12_type 9 = .ok (.istore 6, 2) ∧ decode cX12_type 11 = .ok (.aload_n 0, 1) ∧ decode cX12_type 12 = .ok (.iload 6, 2) ∧ decode cX12_type 14 = .ok (.iload_n 2, 1) ∧ decode cX12_type 15 = .ok (.invokevirtual 104, 3) ∧ decode cX12_type 18 = .ok (.istore 6, 2) ∧ decode cX12_type 20 = .ok (.aload_n 0, 1) ∧ decode cX12_type 21 = .ok (.iload 6, 2) ∧ decode cX12_type 23 = .ok (.iload_n 3, 1) ∧ decode cX12_type 24 = .ok (.invokevirtual 104, 3) ∧ decode cX12_type 27 = .ok (.istore 6, 2) := by decide +kernel
theorem dX12_type_0 : decode cX12_type 0 = .ok (.aload_n 0, 1) := dX12_type_0g.1
theorem dX12_type_1 : decode cX12_type 1 = .ok (.aload_n 0, 1) := dX12_type_0g.2.1
theorem dX12_type_2 : decode cX12_type 2 = .ok (.getfield 101, 3) := dX12_type_0g.2.2.1
theorem dX12_type_5 : decode cX12_type 5 = .ok (.iload_n 1, 1) := dX12_type_0g.2.2.2.1
theorem dX12_type_6 : decode cX12_type 6 = .ok (.invokevirtual 104, 3) := dX12_type_0g.2.2.2.2.1
theorem dX12_type_9 : decode cX12_type 9 = .ok (.istore 6, 2) := dX12_type_0g.2.2.2.2.2.1
theorem dX12_type_11 : decode cX12_type 11 = .ok (.aload_n 0, 1) := dX12_type_0g.2.2.2.2.2.2.1
theorem dX12_type_12 : decode cX12_type 12 = .ok (.iload 6, 2) := dX12_type_0g.2.2.2.2.2.2.2.1
theorem dX12_type_14 : decode cX12_type 14 = .ok (.iload_n 2, 1) := dX12_type_0g.2.2.2.2.2.2.2.2.1
theorem dX12_type_15 : decode cX12_type 15 = .ok (.invokevirtual 104, 3) := dX12_type_0g.2.2.2.2.2.2.2.2.2.1
theorem dX12_type_18 : decode cX12_type 18 = .ok (.istore 6, 2) := dX12_type_0g.2.2.2.2.2.2.2.2.2.2.1
theorem dX12_type_20 : decode cX12_type 20 = .ok (.aload_n 0, 1) := dX12_type_0g.2.2.2.2.2.2.2.2.2.2.2.1
theorem dX12_type_21 : decode cX12_type 21 = .ok (.iload 6, 2) := dX12_type_0g.2.2.2.2.2.2.2.2.2.2.2.2.1
theorem dX12_type_23 : decode cX12_type 23 = .ok (.iload_n 3, 1) := dX12_type_0g.2.2.2.2.2.2.2.2.2.2.2.2.2.1
theorem dX12_type_24 : decode cX12_type 24 = .ok (.invokevirtual 104, 3) := dX12_type_0g.2.2.2.2.2.2.2.2.2.2.2.2.2.2.1
theorem dX12_type_27 : decode cX12_type 27 = .ok (.istore 6, 2) := dX12_type_0g.2.2.2.2.2.2.2.2.2.2.2.2.2.2.2
theorem dX12_type_29g : decode cX12_type 29 = .ok (.aload_n 0, 1) ∧ decode cX12_type 30 = .ok (.iload 6, 2) ∧ decode cX12_type 32 = .ok (.iload 4, 2) ∧ decode cX12_type 34 = .ok (.invokevirtual 104, 3) ∧ decode cX12_type 37 = .ok (.istore 6, 2) ∧ decode cX12_type 39 = .ok (.aload_n 0, 1) ∧ decode cX12_type 40 = .ok (.iload 6, 2) ∧ decode cX12_type 42 = .ok (.iload 5, 2) ∧ decode cX12_type 44 = .ok (.invokevirtual 104, 3) ∧ decode cX12_type 47 = .ok (.istore 6, 2) ∧ decode cX12_type 49 = .ok (.iload 6, 2) ∧ decode cX12_type 51 = .ok (.iconst (-1), 1) ∧ decode cX12_type 52 = .ok (.if_icmp .eq 9, 3) ∧ decode cX12_type 55 = .ok (.aload_n 0, 1) ∧ decode cX12_type 56 = .ok (.iload 6, 2) ∧ decode cX12_type 58 = .ok (.putfield 101, 3) := by decide +kernel
theorem dX12_type_29 : decode cX12_type 29 = .ok (.aload_n 0, 1) := dX12_type_29g.1
theorem dX12_type_30 : decode cX12_type 30 = .ok (.iload 6, 2) := dX12_type_29g.2.1
theorem dX12_type_32 : decode cX12_type 32 = .ok (.iload 4, 2) := dX12_type_29g.2.2.1
theorem dX12_type_34 : decode cX12_type 34 = .ok (.invokevirtual 104, 3) := dX12_type_29g.2.2.2.1
theorem dX12_type_37 : decode cX12_type 37 = .ok (.istore 6, 2) := dX12_type_29g.2.2.2.2.1
theorem dX12_type_39 : decode cX12_type 39 = .ok (.aload_n 0, 1) := dX12_type_29g.2.2.2.2.2.1
theorem dX12_type_40 : decode cX12_type 40 = .ok (.iload 6, 2) := dX12_type_29g.2.2.2.2.2.2.1
theorem dX12_type_42 : decode cX12_type 42 = .ok (.iload 5, 2) := dX12_type_29g.2.2.2.2.2.2.2.1
theorem dX12_type_44 : decode cX12_type 44 = .ok (.invokevirtual 104, 3) := dX12_type_29g.2.2.2.2.2.2.2.2.1
theorem dX12_type_47 : decode cX12_type 47 = .ok (.istore 6, 2) := dX12_type_29g.2.2.2.2.2.2.2.2.2.1
theorem dX12_type_49 : decode cX12_type 49 = .ok (.iload 6, 2) := dX12_type_29g.2.2.2.2.2.2.2.2.2.2.1
theorem dX12_type_51 : decode cX12_type 51 = .ok (.iconst (-1), 1) := dX12_type_29g.2.2.2.2.2.2.2.2.2.2.2.1
theorem dX12_type_52 : decode cX12_type 52 = .ok (.if_icmp .eq 9, 3) := dX12_type_29g.2.2.2.2.2.2.2.2.2.2.2.2.1
theorem dX12_type_55 : decode cX12_type 55 = .ok (.aload_n 0, 1) := dX12_type_29g.2.2.2.2.2.2.2.2.2.2.2.2.2.1
theorem dX12_type_56 : decode cX12_type 56 = .ok (.iload 6, 2) := dX12_type_29g.2.2.2.2.2.2.2.2.2.2.2.2.2.2.1
theorem dX12_type_58 : decode cX12_type 58 = .ok (.putfield 101, 3) := dX12_type_29g.2.2.2.2.2.2.2.2.2.2.2.2.2.2.2
theorem dX12_type_61 : decode cX12_type 61 = .ok (.iload 6, 2) := by decide +kernel
theorem dX12_type_63 : decode cX12_type 63 = .ok (.ireturn, 1) := by decide +kernel
theorem dX12_read_0g : decode cX12_read 0 = .ok (.aload_n 0, 1) ∧ decode cX12_read 1 = .ok (.getfield 64, 3) ∧ decode cX12_read 4 = .ok (.invokevirtual 108, 3) ∧ decode cX12_read 7 = .ok (.aload_n 0, 1) ∧ decode cX12_read 8 = .ok (.iconst 1, 1) ∧ decode cX12_read 9 = .ok (.putfield 111, 3) ∧ decode cX12_read 12 = .ok (.aload_n 0, 1) ∧ decode cX12_read 13 = .ok (.aload_n 0, 1) ∧ decode cX12_read 14 = .ok (.getfield 34, 3) ∧ decode cX12_read 17 = .ok (.aload_n 0, 1) ∧ decode cX12_read 18 = .ok (.getfield 18, 3) ∧ decode cX12_read 21 = .ok (.aload_n 0, 1) ∧ decode cX12_read 22 = .ok (.getfield 101, 3) ∧ decode cX12_read 25 = .ok (.invokevirtual 114, 3) ∧ decode cX12_read 28 = .ok (.putfield 68, 3) ∧ decode cX12_read 31 = .ok (.aload_n 0, 1) := by decide +kernel
theorem dX12_read_0 : decode cX12_read 0 = .ok (.aload_n 0, 1) := dX12_read_0g.1
theorem dX12_read_1 : decode cX12_read 1 = .ok (.getfield 64, 3) := dX12_read_0g.2.1
theorem dX12_read_4 : decode cX12_read 4 = .ok (.invokevirtual 108, 3) := dX12_read_0g.2.2.1
theorem dX12_read_7 : decode cX12_read 7 = .ok (.aload_n 0, 1) := dX12_read_0g.2.2.2.1
theorem dX12_read_8 : decode cX12_read 8 = .ok (.iconst 1, 1) := dX12_read_0g.2.2.2.2.1
theorem dX12_read_9 : decode cX12_read 9 = .ok (.putfield 111, 3) := dX12_read_0g.2.2.2.2.2.1
theorem dX12_read_12 : decode cX12_read 12 = .ok (.aload_n 0, 1) := dX12_read_0g.2.2.2.2.2.2.1
theorem dX12_read_13 : decode cX12_read 13 = .ok (.aload_n 0, 1) := dX12_read_0g.2.2.2.2.2.2.2.1
theorem dX12_read_14 : decode cX12_read 14 = .ok (.getfield 34, 3) := dX12_read_0g.2.2.2.2.2.2.2.2.1
theorem dX12_read_17 : decode cX12_read 17 = .ok (.aload_n 0, 1) := dX12_read_0g.2.2.2.2.2.2.2.2.2.1
theorem dX12_read_18 : decode cX12_read 18 = .ok (.getfield 18, 3) := dX12_read_0g.2.2.2.2.2.2.2.2.2.2.1
theorem dX12_read_21 : decode cX12_read 21 = .ok (.aload_n 0, 1) := dX12_read_0g.2.2.2.2.2.2.2.2.2.2.2.1
theorem dX12_read_22 : decode cX12_read 22 = .ok (.getfield 101, 3) := dX12_read_0g.2.2.2.2.2.2.2.2.2.2.2.2.1
theorem dX12_read_25 : decode cX12_read 25 = .ok (.invokevirtual 114, 3) := dX12_read_0g.2.2.2.2.2.2.2.2.2.2.2.2.2.1
theorem dX12_read_28 : decode cX12_read 28 = .ok (.putfield 68, 3) := dX12_read_0g.2.2.2.2.2.2.2.2.2.2.2.2.2.2.1
theorem dX12_read_31 : decode cX12_read 31 = .ok (.aload_n 0, 1) := dX12_read_0g.2.2.2.2.2.2.2.2.2.2.2.2.2.2.2
theorem dX12_read_32g : decode cX12_read 32 = .ok (.iconst 0, 1) ∧ decode cX12_read 33 = .ok (.putfield 101, 3) ∧ decode cX12_read 36 = .ok (.aload_n 0, 1) ∧ decode cX12_read 37 = .ok (.getfield 68, 3) ∧ decode cX12_read 40 = .ok (.iconst (-1), 1) ∧ decode cX12_read 41 = .ok (.if_icmp .ne 19, 3) ∧ decode cX12_read 44 = .ok (.aload_n 0, 1) ∧ decode cX12_read 45 = .ok (.iconst 2, 1) ∧ decode cX12_read 46 = .ok (.putfield 111, 3) ∧ decode cX12_read 49 = .ok (.aload_n 0, 1) ∧ decode cX12_read 50 = .ok (.aload_n 0, 1) ∧ decode cX12_read 51 = .ok (.getfield 41, 3) ∧ decode cX12_read 54 = .ok (.invokevirtual 118, 3) ∧ decode cX12_read 57 = .ok (.putfield 68, 3) ∧ decode cX12_read 60 = .ok (.aload_n 0, 1) ∧ decode cX12_read 61 = .ok (.getfield 68, 3) := by decide +kernel
theorem dX12_read_32 : decode cX12_read 32 = .ok (.iconst 0, 1) := dX12_read_32g.1
theorem dX12_read_33 : decode cX12_read 33 = .ok (.putfield 101, 3) := dX12_read_32g.2.1
theorem dX12_read_36 : decode cX12_read 36 = .ok (.aload_n 0, 1) := dX12_read_32g.2.2.1
theorem dX12_read_37 : decode cX12_read 37 = .ok (.getfield 68, 3) := dX12_read_32g.2.2.2.1
theorem dX12_read_40 : decode cX12_read 40 = .ok (.iconst (-1), 1) := dX12_read_32g.2.2.2.2.1
theorem dX12_read_41 : decode cX12_read 41 = .ok (.if_icmp .ne 19, 3) := dX12_read_32g.2.2.2.2.2.1
theorem dX12_read_44 : decode cX12_read 44 = .ok (.aload_n 0, 1) := dX12_read_32g.2.2.2.2.2.2.1
theorem dX12_read_45 : decode cX12_read 45 = .ok (.iconst 2, 1) := dX12_read_32g.2.2.2.2.2.2.2.1
theorem dX12_read_46 : decode cX12_read 46 = .ok (.putfield 111, 3) := dX12_read_32g.2.2.2.2.2.2.2.2.1
theorem dX12_read_49 : decode cX12_read 49 = .ok (.aload_n 0, 1) := dX12_read_32g.2.2.2.2.2.2.2.2.2.1
theorem dX12_read_50 : decode cX12_read 50 = .ok (.aload_n 0, 1) := dX12_read_32g.2.2.2.2.2.2.2.2.2.2.1
theorem dX12_read_51 : decode cX12_read 51 = .ok (.getfield 41, 3) := dX12_read_32g.2.2.2.2.2.2.2.2.2.2.2.1
theorem dX12_read_54 : decode cX12_read 54 = .ok (.invokevirtual 118, 3) := dX12_read_32g.2.2.2.2.2.2.2.2.2.2.2.2.1
theorem dX12_read_57 : decode cX12_read 57 = .ok (.putfield 68, 3) := dX12_read_32g.2.2.2.2.2.2.2.2.2.2.2.2.2.1
theorem dX12_read_60 : decode cX12_read 60 = .ok (.aload_n 0, 1) := dX12_read_32g.2.2.2.2.2.2.2.2.2.2.2.2.2.2.1
theorem dX12_read_61 : decode cX12_read 61 = .ok (.getfield 68, 3) := dX12_read_32g.2.2.2.2.2.2.2.2.2.2.2.2.2.2.2
theorem dX12_read_64g : decode cX12_read 64 = .ok (.iconst (-1), 1) ∧ decode cX12_read 65 = .ok (.if_icmp .ne 19, 3) ∧ decode cX12_read 68 = .ok (.aload_n 0, 1) ∧ decode cX12_read 69 = .ok (.iconst 3, 1) ∧ decode cX12_read 70 = .ok (.putfield 111, 3) ∧ decode cX12_read 73 = .ok (.aload_n 0, 1) ∧ decode cX12_read 74 = .ok (.aload_n 0, 1) ∧ decode cX12_read 75 = .ok (.getfield 48, 3) ∧ decode cX12_read 78 = .ok (.invokevirtual 121, 3) ∧ decode cX12_read 81 = .ok (.putfield 68, 3) ∧ decode cX12_read 84 = .ok (.aload_n 0, 1) ∧ decode cX12_read 85 = .ok (.aload_n 0, 1) ∧ decode cX12_read 86 = .ok (.getfield 68, 3) ∧ decode cX12_read 89 = .ok (.iconst (-1), 1) ∧ decode cX12_read 90 = .ok (.if_icmp .ne 7, 3) ∧ decode cX12_read 93 = .ok (.iconst 1, 1) := by decide +kernel
theorem dX12_read_64 : decode cX12_read 64 = .ok (.iconst (-1), 1) := dX12_read_64g.1
theorem dX12_read_65 : decode cX12_read 65 = .ok (.if_icmp .ne 19, 3) := dX12_read_64g.2.1
theorem dX12_read_68 : decode cX12_read 68 = .ok (.aload_n 0, 1) := dX12_read_64g.2.2.1
theorem dX12_read_69 : decode cX12_read 69 = .ok (.iconst 3, 1) := dX12_read_64g.2.2.2.1
theorem dX12_read_70 : decode cX12_read 70 = .ok (.putfield 111, 3) := dX12_read_64g.2.2.2.2.1
theorem dX12_read_73 : decode cX12_read 73 = .ok (.aload_n 0, 1) := dX12_read_64g.2.2.2.2.2.1
theorem dX12_read_74 : decode cX12_read 74 = .ok (.aload_n 0, 1) := dX12_read_64g.2.2.2.2.2.2.1
theorem dX12_read_75 : decode cX12_read 75 = .ok (.getfield 48, 3) := dX12_read_64g.2.2.2.2.2.2.2.1
theorem dX12_read_78 : decode cX12_read 78 = .ok (.invokevirtual 121, 3) := dX12_read_64g.2.2.2.2.2.2.2.2.1
theorem dX12_read_81 : decode cX12_read 81 = .ok (.putfield 68, 3) := dX12_read_64g.2.2.2.2.2.2.2.2.2.1
theorem dX12_read_84 : decode cX12_read 84 = .ok (.aload_n 0, 1) := dX12_read_64g.2.2.2.2.2.2.2.2.2.2.1
theorem dX12_read_85 : decode cX12_read 85 = .ok (.aload_n 0, 1) := dX12_read_64g.2.2.2.2.2.2.2.2.2.2.2.1
theorem dX12_read_86 : decode cX12_read 86 = .ok (.getfield 68, 3) := dX12_read_64g.2.2.2.2.2.2.2.2.2.2.2.2.1
theorem dX12_read_89 : decode cX12_read 89 = .ok (.iconst (-1), 1) := dX12_read_64g.2.2.2.2.2.2.2.2.2.2.2.2.2.1
theorem dX12_read_90 : decode cX12_read 90 = .ok (.if_icmp .ne 7, 3) := dX12_read_64g.2.2.2.2.2.2.2.2.2.2.2.2.2.2.1
theorem dX12_read_93 : decode cX12_read 93 = .ok (.iconst 1, 1) := dX12_read_64g.2.2.2.2.2.2.2.2.2.2.2.2.2.2.2
theorem dX12_read_94g : decode cX12_read 94 = .ok (.goto 4, 3) ∧ decode cX12_read 97 = .ok (.iconst 0, 1) ∧ decode cX12_read 98 = .ok (.putfield 122, 3) ∧ decode cX12_read 101 = .ok (.aload_n 0, 1) ∧ decode cX12_read 102 = .ok (.getfield 122, 3) ∧ decode cX12_read 105 = .ok (.ifCond .ne 18, 3) ∧ decode cX12_read 108 = .ok (.aload_n 0, 1) ∧ decode cX12_read 109 = .ok (.getfield 48, 3) ∧ decode cX12_read 112 = .ok (.invokevirtual 126, 3) ∧ decode cX12_read 115 = .ok (.new 129, 3) ∧ decode cX12_read 118 = .ok (.dup, 1) ∧ decode cX12_read 119 = .ok (.invokespecial 131, 3) ∧ decode cX12_read 122 = .ok (.athrow, 1) ∧ decode cX12_read 123 = .ok (.aload_n 0, 1) ∧ decode cX12_read 124 = .ok (.iconst 0, 1) ∧ decode cX12_read 125 = .ok (.putfield 111, 3) := by decide +kernel
theorem dX12_read_94 : decode cX12_read 94 = .ok (.goto 4, 3) := dX12_read_94g.1
theorem dX12_read_97 : decode cX12_read 97 = .ok (.iconst 0, 1) := dX12_read_94g.2.1
theorem dX12_read_98 : decode cX12_read 98 = .ok (.putfield 122, 3) := dX12_read_94g.2.2.1
theorem dX12_read_101 : decode cX12_read 101 = .ok (.aload_n 0, 1) := dX12_read_94g.2.2.2.1
theorem dX12_read_102 : decode cX12_read 102 = .ok (.getfield 122, 3) := dX12_read_94g.2.2.2.2.1
theorem dX12_read_105 : decode cX12_read 105 = .ok (.ifCond .ne 18, 3) := dX12_read_94g.2.2.2.2.2.1
theorem dX12_read_108 : decode cX12_read 108 = .ok (.aload_n 0, 1) := dX12_read_94g.2.2.2.2.2.2.1
theorem dX12_read_109 : decode cX12_read 109 = .ok (.getfield 48, 3) := dX12_read_94g.2.2.2.2.2.2.2.1
theorem dX12_read_112 : decode cX12_read 112 = .ok (.invokevirtual 126, 3) := dX12_read_94g.2.2.2.2.2.2.2.2.1
theorem dX12_read_115 : decode cX12_read 115 = .ok (.new 129, 3) := dX12_read_94g.2.2.2.2.2.2.2.2.2.1
theorem dX12_read_118 : decode cX12_read 118 = .ok (.dup, 1) := dX12_read_94g.2.2.2.2.2.2.2.2.2.2.1
theorem dX12_read_119 : decode cX12_read 119 = .ok (.invokespecial 131, 3) := dX12_read_94g.2.2.2.2.2.2.2.2.2.2.2.1
theorem dX12_read_122 : decode cX12_read 122 = .ok (.athrow, 1) := dX12_read_94g.2.2.2.2.2.2.2.2.2.2.2.2.1
theorem dX12_read_123 : decode cX12_read 123 = .ok (.aload_n 0, 1) := dX12_read_94g.2.2.2.2.2.2.2.2.2.2.2.2.2.1
theorem dX12_read_124 : decode cX12_read 124 = .ok (.iconst 0, 1) := dX12_read_94g.2.2.2.2.2.2.2.2.2.2.2.2.2.2.1
theorem dX12_read_125 : decode cX12_read 125 = .ok (.putfield 111, 3) := dX12_read_94g.2.2.2.2.2.2.2.2.2.2.2.2.2.2.2
theorem dX12_read_128g : decode cX12_read 128 = .ok (.aload_n 0, 1) ∧ decode cX12_read 129 = .ok (.getfield 48, 3) ∧ decode cX12_read 132 = .ok (.invokevirtual 132, 3) ∧ decode cX12_read 135 = .ok (.ireturn, 1) := by decide +kernel
theorem dX12_read_128 : decode cX12_read 128 = .ok (.aload_n 0, 1) := dX12_read_128g.1
theorem dX12_read_129 : decode cX12_read 129 = .ok (.getfield 48, 3) := dX12_read_128g.2.1
theorem dX12_read_132 : decode cX12_read 132 = .ok (.invokevirtual 132, 3) := dX12_read_128g.2.2.1
theorem dX12_read_135 : decode cX12_read 135 = .ok (.ireturn, 1) := dX12_read_128g.2.2.2
theorem dX12_fault_0g : decode cX12_fault 0 = .ok (.iload_n 1, 1) ∧ decode cX12_fault 1 = .ok (.tableswitch 57 0 3 #[31, 36, 41, 49], 31) ∧ decode cX12_fault 32 = .ok (.aload_n 0, 1) ∧ decode cX12_fault 33 = .ok (.getfield 111, 3) ∧ decode cX12_fault 36 = .ok (.ireturn, 1) ∧ decode cX12_fault 37 = .ok (.aload_n 0, 1) ∧ decode cX12_fault 38 = .ok (.getfield 68, 3) ∧ decode cX12_fault 41 = .ok (.ireturn, 1) ∧ decode cX12_fault 42 = .ok (.aload_n 0, 1) ∧ decode cX12_fault 43 = .ok (.getfield 64, 3) ∧ decode cX12_fault 46 = .ok (.invokevirtual 135, 3) ∧ decode cX12_fault 49 = .ok (.ireturn, 1) ∧ decode cX12_fault 50 = .ok (.aload_n 0, 1) ∧ decode cX12_fault 51 = .ok (.getfield 64, 3) ∧ decode cX12_fault 54 = .ok (.invokevirtual 138, 3) ∧ decode cX12_fault 57 = .ok (.ireturn, 1) := by decide +kernel
theorem dX12_fault_0 : decode cX12_fault 0 = .ok (.iload_n 1, 1) := dX12_fault_0g.1
theorem dX12_fault_1 : decode cX12_fault 1 = .ok (.tableswitch 57 0 3 #[31, 36, 41, 49], 31) := dX12_fault_0g.2.1
theorem dX12_fault_32 : decode cX12_fault 32 = .ok (.aload_n 0, 1) := dX12_fault_0g.2.2.1
theorem dX12_fault_33 : decode cX12_fault 33 = .ok (.getfield 111, 3) := dX12_fault_0g.2.2.2.1
theorem dX12_fault_36 : decode cX12_fault 36 = .ok (.ireturn, 1) := dX12_fault_0g.2.2.2.2.1
theorem dX12_fault_37 : decode cX12_fault 37 = .ok (.aload_n 0, 1) := dX12_fault_0g.2.2.2.2.2.1
theorem dX12_fault_38 : decode cX12_fault 38 = .ok (.getfield 68, 3) := dX12_fault_0g.2.2.2.2.2.2.1
theorem dX12_fault_41 : decode cX12_fault 41 = .ok (.ireturn, 1) := dX12_fault_0g.2.2.2.2.2.2.2.1
theorem dX12_fault_42 : decode cX12_fault 42 = .ok (.aload_n 0, 1) := dX12_fault_0g.2.2.2.2.2.2.2.2.1
theorem dX12_fault_43 : decode cX12_fault 43 = .ok (.getfield 64, 3) := dX12_fault_0g.2.2.2.2.2.2.2.2.2.1
theorem dX12_fault_46 : decode cX12_fault 46 = .ok (.invokevirtual 135, 3) := dX12_fault_0g.2.2.2.2.2.2.2.2.2.2.1
theorem dX12_fault_49 : decode cX12_fault 49 = .ok (.ireturn, 1) := dX12_fault_0g.2.2.2.2.2.2.2.2.2.2.2.1
theorem dX12_fault_50 : decode cX12_fault 50 = .ok (.aload_n 0, 1) := dX12_fault_0g.2.2.2.2.2.2.2.2.2.2.2.2.1
theorem dX12_fault_51 : decode cX12_fault 51 = .ok (.getfield 64, 3) := dX12_fault_0g.2.2.2.2.2.2.2.2.2.2.2.2.2.1
theorem dX12_fault_54 : decode cX12_fault 54 = .ok (.invokevirtual 138, 3) := dX12_fault_0g.2.2.2.2.2.2.2.2.2.2.2.2.2.2.1
theorem dX12_fault_57 : decode cX12_fault 57 = .ok (.ireturn, 1) := dX12_fault_0g.2.2.2.2.2.2.2.2.2.2.2.2.2.2.2
theorem dX12_fault_58 : decode cX12_fault 58 = .ok (.iconst (-1), 1) := by decide +kernel
theorem dX12_fault_59 : decode cX12_fault 59 = .ok (.ireturn, 1) := by decide +kernel
theorem dX12_refresh_0g : decode cX12_refresh 0 = .ok (.aload_n 0, 1) ∧ decode cX12_refresh 1 = .ok (.getfield 64, 3) ∧ decode cX12_refresh 4 = .ok (.invokevirtual 141, 3) ∧ decode cX12_refresh 7 = .ok (.aload_n 0, 1) ∧ decode cX12_refresh 8 = .ok (.getfield 122, 3) ∧ decode cX12_refresh 11 = .ok (.ifCond .ne 11, 3) ∧ decode cX12_refresh 14 = .ok (.new 144, 3) ∧ decode cX12_refresh 17 = .ok (.dup, 1) ∧ decode cX12_refresh 18 = .ok (.invokespecial 146, 3) ∧ decode cX12_refresh 21 = .ok (.athrow, 1) ∧ decode cX12_refresh 22 = .ok (.aload_n 0, 1) ∧ decode cX12_refresh 23 = .ok (.getfield 64, 3) ∧ decode cX12_refresh 26 = .ok (.invokevirtual 147, 3) ∧ decode cX12_refresh 29 = .ok (.ifCond .ne 11, 3) ∧ decode cX12_refresh 32 = .ok (.new 151, 3) ∧ decode cX12_refresh 35 = .ok (.dup, 1) := by decide +kernel
theorem dX12_refresh_0 : decode cX12_refresh 0 = .ok (.aload_n 0, 1) := dX12_refresh_0g.1
theorem dX12_refresh_1 : decode cX12_refresh 1 = .ok (.getfield 64, 3) := dX12_refresh_0g.2.1
theorem dX12_refresh_4 : decode cX12_refresh 4 = .ok (.invokevirtual 141, 3) := dX12_refresh_0g.2.2.1
theorem dX12_refresh_7 : decode cX12_refresh 7 = .ok (.aload_n 0, 1) := dX12_refresh_0g.2.2.2.1
theorem dX12_refresh_8 : decode cX12_refresh 8 = .ok (.getfield 122, 3) := dX12_refresh_0g.2.2.2.2.1
theorem dX12_refresh_11 : decode cX12_refresh 11 = .ok (.ifCond .ne 11, 3) := dX12_refresh_0g.2.2.2.2.2.1
theorem dX12_refresh_14 : decode cX12_refresh 14 = .ok (.new 144, 3) := dX12_refresh_0g.2.2.2.2.2.2.1
theorem dX12_refresh_17 : decode cX12_refresh 17 = .ok (.dup, 1) := dX12_refresh_0g.2.2.2.2.2.2.2.1
theorem dX12_refresh_18 : decode cX12_refresh 18 = .ok (.invokespecial 146, 3) := dX12_refresh_0g.2.2.2.2.2.2.2.2.1
theorem dX12_refresh_21 : decode cX12_refresh 21 = .ok (.athrow, 1) := dX12_refresh_0g.2.2.2.2.2.2.2.2.2.1
theorem dX12_refresh_22 : decode cX12_refresh 22 = .ok (.aload_n 0, 1) := dX12_refresh_0g.2.2.2.2.2.2.2.2.2.2.1
theorem dX12_refresh_23 : decode cX12_refresh 23 = .ok (.getfield 64, 3) := dX12_refresh_0g.2.2.2.2.2.2.2.2.2.2.2.1
theorem dX12_refresh_26 : decode cX12_refresh 26 = .ok (.invokevirtual 147, 3) := dX12_refresh_0g.2.2.2.2.2.2.2.2.2.2.2.2.1
theorem dX12_refresh_29 : decode cX12_refresh 29 = .ok (.ifCond .ne 11, 3) := dX12_refresh_0g.2.2.2.2.2.2.2.2.2.2.2.2.2.1
theorem dX12_refresh_32 : decode cX12_refresh 32 = .ok (.new 151, 3) := dX12_refresh_0g.2.2.2.2.2.2.2.2.2.2.2.2.2.2.1
theorem dX12_refresh_35 : decode cX12_refresh 35 = .ok (.dup, 1) := dX12_refresh_0g.2.2.2.2.2.2.2.2.2.2.2.2.2.2.2
theorem dX12_refresh_36g : decode cX12_refresh 36 = .ok (.invokespecial 153, 3) ∧ decode cX12_refresh 39 = .ok (.athrow, 1) ∧ decode cX12_refresh 40 = .ok (.aload_n 0, 1) ∧ decode cX12_refresh 41 = .ok (.getfield 64, 3) ∧ decode cX12_refresh 44 = .ok (.invokevirtual 154, 3) ∧ decode cX12_refresh 47 = .ok (.ireturn, 1) := by decide +kernel
theorem dX12_refresh_36 : decode cX12_refresh 36 = .ok (.invokespecial 153, 3) := dX12_refresh_36g.1
theorem dX12_refresh_39 : decode cX12_refresh 39 = .ok (.athrow, 1) := dX12_refresh_36g.2.1
theorem dX12_refresh_40 : decode cX12_refresh 40 = .ok (.aload_n 0, 1) := dX12_refresh_36g.2.2.1
theorem dX12_refresh_41 : decode cX12_refresh 41 = .ok (.getfield 64, 3) := dX12_refresh_36g.2.2.2.1
theorem dX12_refresh_44 : decode cX12_refresh 44 = .ok (.invokevirtual 154, 3) := dX12_refresh_36g.2.2.2.2.1
theorem dX12_refresh_47 : decode cX12_refresh 47 = .ok (.ireturn, 1) := dX12_refresh_36g.2.2.2.2.2
theorem dX12_get_0g : decode cX12_get 0 = .ok (.aload_n 0, 1) ∧ decode cX12_get 1 = .ok (.getfield 64, 3) ∧ decode cX12_get 4 = .ok (.invokevirtual 141, 3) ∧ decode cX12_get 7 = .ok (.aload_n 0, 1) ∧ decode cX12_get 8 = .ok (.getfield 122, 3) ∧ decode cX12_get 11 = .ok (.ifCond .ne 11, 3) ∧ decode cX12_get 14 = .ok (.new 144, 3) ∧ decode cX12_get 17 = .ok (.dup, 1) ∧ decode cX12_get 18 = .ok (.invokespecial 146, 3) ∧ decode cX12_get 21 = .ok (.athrow, 1) ∧ decode cX12_get 22 = .ok (.aload_n 0, 1) ∧ decode cX12_get 23 = .ok (.getfield 64, 3) ∧ decode cX12_get 26 = .ok (.lload_n 1, 1) ∧ decode cX12_get 27 = .ok (.invokestatic 157, 3) ∧ decode cX12_get 30 = .ok (.invokevirtual 161, 3) ∧ decode cX12_get 33 = .ok (.istore_n 3, 1) := by decide +kernel
theorem dX12_get_0 : decode cX12_get 0 = .ok (.aload_n 0, 1) := dX12_get_0g.1
theorem dX12_get_1 : decode cX12_get 1 = .ok (.getfield 64, 3) := dX12_get_0g.2.1
theorem dX12_get_4 : decode cX12_get 4 = .ok (.invokevirtual 141, 3) := dX12_get_0g.2.2.1
theorem dX12_get_7 : decode cX12_get 7 = .ok (.aload_n 0, 1) := dX12_get_0g.2.2.2.1
theorem dX12_get_8 : decode cX12_get 8 = .ok (.getfield 122, 3) := dX12_get_0g.2.2.2.2.1
theorem dX12_get_11 : decode cX12_get 11 = .ok (.ifCond .ne 11, 3) := dX12_get_0g.2.2.2.2.2.1
theorem dX12_get_14 : decode cX12_get 14 = .ok (.new 144, 3) := dX12_get_0g.2.2.2.2.2.2.1
theorem dX12_get_17 : decode cX12_get 17 = .ok (.dup, 1) := dX12_get_0g.2.2.2.2.2.2.2.1
theorem dX12_get_18 : decode cX12_get 18 = .ok (.invokespecial 146, 3) := dX12_get_0g.2.2.2.2.2.2.2.2.1
theorem dX12_get_21 : decode cX12_get 21 = .ok (.athrow, 1) := dX12_get_0g.2.2.2.2.2.2.2.2.2.1
theorem dX12_get_22 : decode cX12_get 22 = .ok (.aload_n 0, 1) := dX12_get_0g.2.2.2.2.2.2.2.2.2.2.1
theorem dX12_get_23 : decode cX12_get 23 = .ok (.getfield 64, 3) := dX12_get_0g.2.2.2.2.2.2.2.2.2.2.2.1
theorem dX12_get_26 : decode cX12_get 26 = .ok (.lload_n 1, 1) := dX12_get_0g.2.2.2.2.2.2.2.2.2.2.2.2.1
theorem dX12_get_27 : decode cX12_get 27 = .ok (.invokestatic 157, 3) := dX12_get_0g.2.2.2.2.2.2.2.2.2.2.2.2.2.1
theorem dX12_get_30 : decode cX12_get 30 = .ok (.invokevirtual 161, 3) := dX12_get_0g.2.2.2.2.2.2.2.2.2.2.2.2.2.2.1
theorem dX12_get_33 : decode cX12_get 33 = .ok (.istore_n 3, 1) := dX12_get_0g.2.2.2.2.2.2.2.2.2.2.2.2.2.2.2
theorem dX12_get_34g : decode cX12_get 34 = .ok (.iload_n 3, 1) ∧ decode cX12_get 35 = .ok (.iconst (-1), 1) ∧ decode cX12_get 36 = .ok (.if_icmp .ne 11, 3) ∧ decode cX12_get 39 = .ok (.new 151, 3) ∧ decode cX12_get 42 = .ok (.dup, 1) ∧ decode cX12_get 43 = .ok (.invokespecial 153, 3) ∧ decode cX12_get 46 = .ok (.athrow, 1) ∧ decode cX12_get 47 = .ok (.iload_n 3, 1) ∧ decode cX12_get 48 = .ok (.ireturn, 1) := by decide +kernel
theorem dX12_get_34 : decode cX12_get 34 = .ok (.iload_n 3, 1) := dX12_get_34g.1
theorem dX12_get_35 : decode cX12_get 35 = .ok (.iconst (-1), 1) := dX12_get_34g.2.1
theorem dX12_get_36 : decode cX12_get 36 = .ok (.if_icmp .ne 11, 3) := dX12_get_34g.2.2.1
theorem dX12_get_39 : decode cX12_get 39 = .ok (.new 151, 3) := dX12_get_34g.2.2.2.1
theorem dX12_get_42 : decode cX12_get 42 = .ok (.dup, 1) := dX12_get_34g.2.2.2.2.1
theorem dX12_get_43 : decode cX12_get 43 = .ok (.invokespecial 153, 3) := dX12_get_34g.2.2.2.2.2.1
theorem dX12_get_46 : decode cX12_get 46 = .ok (.athrow, 1) := dX12_get_34g.2.2.2.2.2.2.1
theorem dX12_get_47 : decode cX12_get 47 = .ok (.iload_n 3, 1) := dX12_get_34g.2.2.2.2.2.2.2.1
theorem dX12_get_48 : decode cX12_get 48 = .ok (.ireturn, 1) := dX12_get_34g.2.2.2.2.2.2.2.2
theorem dX12_call_0g : decode cX12_call 0 = .ok (.aload_n 0, 1) ∧ decode cX12_call 1 = .ok (.getfield 64, 3) ∧ decode cX12_call 4 = .ok (.invokevirtual 141, 3) ∧ decode cX12_call 7 = .ok (.aload_n 0, 1) ∧ decode cX12_call 8 = .ok (.getfield 122, 3) ∧ decode cX12_call 11 = .ok (.ifCond .ne 11, 3) ∧ decode cX12_call 14 = .ok (.new 144, 3) ∧ decode cX12_call 17 = .ok (.dup, 1) ∧ decode cX12_call 18 = .ok (.invokespecial 146, 3) ∧ decode cX12_call 21 = .ok (.athrow, 1) ∧ decode cX12_call 22 = .ok (.aload_n 0, 1) ∧ decode cX12_call 23 = .ok (.getfield 64, 3) ∧ decode cX12_call 26 = .ok (.iload_n 1, 1) ∧ decode cX12_call 27 = .ok (.iload_n 2, 1) ∧ decode cX12_call 28 = .ok (.invokevirtual 165, 3) ∧ decode cX12_call 31 = .ok (.astore_n 3, 1) := by decide +kernel
theorem dX12_call_0 : decode cX12_call 0 = .ok (.aload_n 0, 1) := dX12_call_0g.1
theorem dX12_call_1 : decode cX12_call 1 = .ok (.getfield 64, 3) := dX12_call_0g.2.1
theorem dX12_call_4 : decode cX12_call 4 = .ok (.invokevirtual 141, 3) := dX12_call_0g.2.2.1
theorem dX12_call_7 : decode cX12_call 7 = .ok (.aload_n 0, 1) := dX12_call_0g.2.2.2.1
theorem dX12_call_8 : decode cX12_call 8 = .ok (.getfield 122, 3) := dX12_call_0g.2.2.2.2.1
theorem dX12_call_11 : decode cX12_call 11 = .ok (.ifCond .ne 11, 3) := dX12_call_0g.2.2.2.2.2.1
theorem dX12_call_14 : decode cX12_call 14 = .ok (.new 144, 3) := dX12_call_0g.2.2.2.2.2.2.1
theorem dX12_call_17 : decode cX12_call 17 = .ok (.dup, 1) := dX12_call_0g.2.2.2.2.2.2.2.1
theorem dX12_call_18 : decode cX12_call 18 = .ok (.invokespecial 146, 3) := dX12_call_0g.2.2.2.2.2.2.2.2.1
theorem dX12_call_21 : decode cX12_call 21 = .ok (.athrow, 1) := dX12_call_0g.2.2.2.2.2.2.2.2.2.1
theorem dX12_call_22 : decode cX12_call 22 = .ok (.aload_n 0, 1) := dX12_call_0g.2.2.2.2.2.2.2.2.2.2.1
theorem dX12_call_23 : decode cX12_call 23 = .ok (.getfield 64, 3) := dX12_call_0g.2.2.2.2.2.2.2.2.2.2.2.1
theorem dX12_call_26 : decode cX12_call 26 = .ok (.iload_n 1, 1) := dX12_call_0g.2.2.2.2.2.2.2.2.2.2.2.2.1
theorem dX12_call_27 : decode cX12_call 27 = .ok (.iload_n 2, 1) := dX12_call_0g.2.2.2.2.2.2.2.2.2.2.2.2.2.1
theorem dX12_call_28 : decode cX12_call 28 = .ok (.invokevirtual 165, 3) := dX12_call_0g.2.2.2.2.2.2.2.2.2.2.2.2.2.2.1
theorem dX12_call_31 : decode cX12_call 31 = .ok (.astore_n 3, 1) := dX12_call_0g.2.2.2.2.2.2.2.2.2.2.2.2.2.2.2
theorem dX12_call_32g : decode cX12_call 32 = .ok (.aload_n 3, 1) ∧ decode cX12_call 33 = .ok (.ifnonnull 11, 3) ∧ decode cX12_call 36 = .ok (.new 169, 3) ∧ decode cX12_call 39 = .ok (.dup, 1) ∧ decode cX12_call 40 = .ok (.invokespecial 171, 3) ∧ decode cX12_call 43 = .ok (.athrow, 1) ∧ decode cX12_call 44 = .ok (.aload_n 0, 1) ∧ decode cX12_call 45 = .ok (.getfield 64, 3) ∧ decode cX12_call 48 = .ok (.aload_n 3, 1) ∧ decode cX12_call 49 = .ok (.getfield 172, 3) ∧ decode cX12_call 52 = .ok (.invokevirtual 161, 3) ∧ decode cX12_call 55 = .ok (.istore 4, 2) ∧ decode cX12_call 57 = .ok (.iload 4, 2) ∧ decode cX12_call 59 = .ok (.iconst (-1), 1) ∧ decode cX12_call 60 = .ok (.if_icmp .ne 11, 3) ∧ decode cX12_call 63 = .ok (.new 151, 3) := by decide +kernel
theorem dX12_call_32 : decode cX12_call 32 = .ok (.aload_n 3, 1) := dX12_call_32g.1
theorem dX12_call_33 : decode cX12_call 33 = .ok (.ifnonnull 11, 3) := dX12_call_32g.2.1
theorem dX12_call_36 : decode cX12_call 36 = .ok (.new 169, 3) := dX12_call_32g.2.2.1
theorem dX12_call_39 : decode cX12_call 39 = .ok (.dup, 1) := dX12_call_32g.2.2.2.1
theorem dX12_call_40 : decode cX12_call 40 = .ok (.invokespecial 171, 3) := dX12_call_32g.2.2.2.2.1
theorem dX12_call_43 : decode cX12_call 43 = .ok (.athrow, 1) := dX12_call_32g.2.2.2.2.2.1
theorem dX12_call_44 : decode cX12_call 44 = .ok (.aload_n 0, 1) := dX12_call_32g.2.2.2.2.2.2.1
theorem dX12_call_45 : decode cX12_call 45 = .ok (.getfield 64, 3) := dX12_call_32g.2.2.2.2.2.2.2.1
theorem dX12_call_48 : decode cX12_call 48 = .ok (.aload_n 3, 1) := dX12_call_32g.2.2.2.2.2.2.2.2.1
theorem dX12_call_49 : decode cX12_call 49 = .ok (.getfield 172, 3) := dX12_call_32g.2.2.2.2.2.2.2.2.2.1
theorem dX12_call_52 : decode cX12_call 52 = .ok (.invokevirtual 161, 3) := dX12_call_32g.2.2.2.2.2.2.2.2.2.2.1
theorem dX12_call_55 : decode cX12_call 55 = .ok (.istore 4, 2) := dX12_call_32g.2.2.2.2.2.2.2.2.2.2.2.1
theorem dX12_call_57 : decode cX12_call 57 = .ok (.iload 4, 2) := dX12_call_32g.2.2.2.2.2.2.2.2.2.2.2.2.1
theorem dX12_call_59 : decode cX12_call 59 = .ok (.iconst (-1), 1) := dX12_call_32g.2.2.2.2.2.2.2.2.2.2.2.2.2.1
theorem dX12_call_60 : decode cX12_call 60 = .ok (.if_icmp .ne 11, 3) := dX12_call_32g.2.2.2.2.2.2.2.2.2.2.2.2.2.2.1
theorem dX12_call_63 : decode cX12_call 63 = .ok (.new 151, 3) := dX12_call_32g.2.2.2.2.2.2.2.2.2.2.2.2.2.2.2
theorem dX12_call_66g : decode cX12_call 66 = .ok (.dup, 1) ∧ decode cX12_call 67 = .ok (.invokespecial 153, 3) ∧ decode cX12_call 70 = .ok (.athrow, 1) ∧ decode cX12_call 71 = .ok (.iload 4, 2) ∧ decode cX12_call 73 = .ok (.ireturn, 1) := by decide +kernel
theorem dX12_call_66 : decode cX12_call 66 = .ok (.dup, 1) := dX12_call_66g.1
theorem dX12_call_67 : decode cX12_call 67 = .ok (.invokespecial 153, 3) := dX12_call_66g.2.1
theorem dX12_call_70 : decode cX12_call 70 = .ok (.athrow, 1) := dX12_call_66g.2.2.1
theorem dX12_call_71 : decode cX12_call 71 = .ok (.iload 4, 2) := dX12_call_66g.2.2.2.1
theorem dX12_call_73 : decode cX12_call 73 = .ok (.ireturn, 1) := dX12_call_66g.2.2.2.2
theorem dX12_close_0g : decode cX12_close 0 = .ok (.aload_n 0, 1) ∧ decode cX12_close 1 = .ok (.getfield 64, 3) ∧ decode cX12_close 4 = .ok (.invokevirtual 178, 3) ∧ decode cX12_close 7 = .ok (.aload_n 0, 1) ∧ decode cX12_close 8 = .ok (.getfield 55, 3) ∧ decode cX12_close 11 = .ok (.invokevirtual 181, 3) ∧ decode cX12_close 14 = .ok (.ireturn, 1) := by decide +kernel
theorem dX12_close_0 : decode cX12_close 0 = .ok (.aload_n 0, 1) := dX12_close_0g.1
theorem dX12_close_1 : decode cX12_close 1 = .ok (.getfield 64, 3) := dX12_close_0g.2.1
theorem dX12_close_4 : decode cX12_close 4 = .ok (.invokevirtual 178, 3) := dX12_close_0g.2.2.1
theorem dX12_close_7 : decode cX12_close 7 = .ok (.aload_n 0, 1) := dX12_close_0g.2.2.2.1
theorem dX12_close_8 : decode cX12_close 8 = .ok (.getfield 55, 3) := dX12_close_0g.2.2.2.2.1
theorem dX12_close_11 : decode cX12_close 11 = .ok (.invokevirtual 181, 3) := dX12_close_0g.2.2.2.2.2.1
theorem dX12_close_14 : decode cX12_close 14 = .ok (.ireturn, 1) := dX12_close_0g.2.2.2.2.2.2
theorem dX12_events_0g : decode cX12_events 0 = .ok (.aload_n 0, 1) ∧ decode cX12_events 1 = .ok (.getfield 55, 3) ∧ decode cX12_events 4 = .ok (.invokevirtual 181, 3) ∧ decode cX12_events 7 = .ok (.ireturn, 1) := by decide +kernel
theorem dX12_events_0 : decode cX12_events 0 = .ok (.aload_n 0, 1) := dX12_events_0g.1
theorem dX12_events_1 : decode cX12_events 1 = .ok (.getfield 55, 3) := dX12_events_0g.2.1
theorem dX12_events_4 : decode cX12_events 4 = .ok (.invokevirtual 181, 3) := dX12_events_0g.2.2.1
theorem dX12_events_7 : decode cX12_events 7 = .ok (.ireturn, 1) := dX12_events_0g.2.2.2
theorem dX12_event_0g : decode cX12_event 0 = .ok (.aload_n 0, 1) ∧ decode cX12_event 1 = .ok (.getfield 55, 3) ∧ decode cX12_event 4 = .ok (.iload_n 1, 1) ∧ decode cX12_event 5 = .ok (.iload_n 2, 1) ∧ decode cX12_event 6 = .ok (.invokevirtual 182, 3) ∧ decode cX12_event 9 = .ok (.ireturn, 1) := by decide +kernel
theorem dX12_event_0 : decode cX12_event 0 = .ok (.aload_n 0, 1) := dX12_event_0g.1
theorem dX12_event_1 : decode cX12_event 1 = .ok (.getfield 55, 3) := dX12_event_0g.2.1
theorem dX12_event_4 : decode cX12_event 4 = .ok (.iload_n 1, 1) := dX12_event_0g.2.2.1
theorem dX12_event_5 : decode cX12_event 5 = .ok (.iload_n 2, 1) := dX12_event_0g.2.2.2.1
theorem dX12_event_6 : decode cX12_event 6 = .ok (.invokevirtual 182, 3) := dX12_event_0g.2.2.2.2.1
theorem dX12_event_9 : decode cX12_event 9 = .ok (.ireturn, 1) := dX12_event_0g.2.2.2.2.2
theorem dX12_object_0g : decode cX12_object 0 = .ok (.iload_n 2, 1) ∧ decode cX12_object 1 = .ok (.ifCond .ne 12, 3) ∧ decode cX12_object 4 = .ok (.aload_n 0, 1) ∧ decode cX12_object 5 = .ok (.getfield 64, 3) ∧ decode cX12_object 8 = .ok (.iload_n 1, 1) ∧ decode cX12_object 9 = .ok (.invokevirtual 185, 3) ∧ decode cX12_object 12 = .ok (.ireturn, 1) ∧ decode cX12_object 13 = .ok (.iload_n 2, 1) ∧ decode cX12_object 14 = .ok (.iconst 1, 1) ∧ decode cX12_object 15 = .ok (.if_icmp .ne 14, 3) ∧ decode cX12_object 18 = .ok (.aload_n 0, 1) ∧ decode cX12_object 19 = .ok (.getfield 64, 3) ∧ decode cX12_object 22 = .ok (.iload_n 1, 1) ∧ decode cX12_object 23 = .ok (.invokevirtual 189, 3) ∧ decode cX12_object 26 = .ok (.goto 4, 3) ∧ decode cX12_object 29 = .ok (.iconst (-1), 1) := by decide +kernel
theorem dX12_object_0 : decode cX12_object 0 = .ok (.iload_n 2, 1) := dX12_object_0g.1
theorem dX12_object_1 : decode cX12_object 1 = .ok (.ifCond .ne 12, 3) := dX12_object_0g.2.1
theorem dX12_object_4 : decode cX12_object 4 = .ok (.aload_n 0, 1) := dX12_object_0g.2.2.1
theorem dX12_object_5 : decode cX12_object 5 = .ok (.getfield 64, 3) := dX12_object_0g.2.2.2.1
theorem dX12_object_8 : decode cX12_object 8 = .ok (.iload_n 1, 1) := dX12_object_0g.2.2.2.2.1
theorem dX12_object_9 : decode cX12_object 9 = .ok (.invokevirtual 185, 3) := dX12_object_0g.2.2.2.2.2.1
theorem dX12_object_12 : decode cX12_object 12 = .ok (.ireturn, 1) := dX12_object_0g.2.2.2.2.2.2.1
theorem dX12_object_13 : decode cX12_object 13 = .ok (.iload_n 2, 1) := dX12_object_0g.2.2.2.2.2.2.2.1
theorem dX12_object_14 : decode cX12_object 14 = .ok (.iconst 1, 1) := dX12_object_0g.2.2.2.2.2.2.2.2.1
theorem dX12_object_15 : decode cX12_object 15 = .ok (.if_icmp .ne 14, 3) := dX12_object_0g.2.2.2.2.2.2.2.2.2.1
theorem dX12_object_18 : decode cX12_object 18 = .ok (.aload_n 0, 1) := dX12_object_0g.2.2.2.2.2.2.2.2.2.2.1
theorem dX12_object_19 : decode cX12_object 19 = .ok (.getfield 64, 3) := dX12_object_0g.2.2.2.2.2.2.2.2.2.2.2.1
theorem dX12_object_22 : decode cX12_object 22 = .ok (.iload_n 1, 1) := dX12_object_0g.2.2.2.2.2.2.2.2.2.2.2.2.1
theorem dX12_object_23 : decode cX12_object 23 = .ok (.invokevirtual 189, 3) := dX12_object_0g.2.2.2.2.2.2.2.2.2.2.2.2.2.1
theorem dX12_object_26 : decode cX12_object 26 = .ok (.goto 4, 3) := dX12_object_0g.2.2.2.2.2.2.2.2.2.2.2.2.2.2.1
theorem dX12_object_29 : decode cX12_object 29 = .ok (.iconst (-1), 1) := dX12_object_0g.2.2.2.2.2.2.2.2.2.2.2.2.2.2.2
theorem dX12_object_30 : decode cX12_object 30 = .ok (.ireturn, 1) := by decide +kernel
theorem dX12_bean_0g : decode cX12_bean 0 = .ok (.iload_n 1, 1) ∧ decode cX12_bean 1 = .ok (.ifCond .lt 29, 3) ∧ decode cX12_bean 4 = .ok (.iload_n 1, 1) ∧ decode cX12_bean 5 = .ok (.aload_n 0, 1) ∧ decode cX12_bean 6 = .ok (.getfield 48, 3) ∧ decode cX12_bean 9 = .ok (.invokevirtual 132, 3) ∧ decode cX12_bean 12 = .ok (.if_icmp .ge 18, 3) ∧ decode cX12_bean 15 = .ok (.aload_n 0, 1) ∧ decode cX12_bean 16 = .ok (.getfield 48, 3) ∧ decode cX12_bean 19 = .ok (.iload_n 1, 1) ∧ decode cX12_bean 20 = .ok (.invokevirtual 192, 3) ∧ decode cX12_bean 23 = .ok (.iload_n 2, 1) ∧ decode cX12_bean 24 = .ok (.invokevirtual 196, 3) ∧ decode cX12_bean 27 = .ok (.goto 4, 3) ∧ decode cX12_bean 30 = .ok (.iconst (-1), 1) ∧ decode cX12_bean 31 = .ok (.ireturn, 1) := by decide +kernel
theorem dX12_bean_0 : decode cX12_bean 0 = .ok (.iload_n 1, 1) := dX12_bean_0g.1
theorem dX12_bean_1 : decode cX12_bean 1 = .ok (.ifCond .lt 29, 3) := dX12_bean_0g.2.1
theorem dX12_bean_4 : decode cX12_bean 4 = .ok (.iload_n 1, 1) := dX12_bean_0g.2.2.1
theorem dX12_bean_5 : decode cX12_bean 5 = .ok (.aload_n 0, 1) := dX12_bean_0g.2.2.2.1
theorem dX12_bean_6 : decode cX12_bean 6 = .ok (.getfield 48, 3) := dX12_bean_0g.2.2.2.2.1
theorem dX12_bean_9 : decode cX12_bean 9 = .ok (.invokevirtual 132, 3) := dX12_bean_0g.2.2.2.2.2.1
theorem dX12_bean_12 : decode cX12_bean 12 = .ok (.if_icmp .ge 18, 3) := dX12_bean_0g.2.2.2.2.2.2.1
theorem dX12_bean_15 : decode cX12_bean 15 = .ok (.aload_n 0, 1) := dX12_bean_0g.2.2.2.2.2.2.2.1
theorem dX12_bean_16 : decode cX12_bean 16 = .ok (.getfield 48, 3) := dX12_bean_0g.2.2.2.2.2.2.2.2.1
theorem dX12_bean_19 : decode cX12_bean 19 = .ok (.iload_n 1, 1) := dX12_bean_0g.2.2.2.2.2.2.2.2.2.1
theorem dX12_bean_20 : decode cX12_bean 20 = .ok (.invokevirtual 192, 3) := dX12_bean_0g.2.2.2.2.2.2.2.2.2.2.1
theorem dX12_bean_23 : decode cX12_bean 23 = .ok (.iload_n 2, 1) := dX12_bean_0g.2.2.2.2.2.2.2.2.2.2.2.1
theorem dX12_bean_24 : decode cX12_bean 24 = .ok (.invokevirtual 196, 3) := dX12_bean_0g.2.2.2.2.2.2.2.2.2.2.2.2.1
theorem dX12_bean_27 : decode cX12_bean 27 = .ok (.goto 4, 3) := dX12_bean_0g.2.2.2.2.2.2.2.2.2.2.2.2.2.1
theorem dX12_bean_30 : decode cX12_bean 30 = .ok (.iconst (-1), 1) := dX12_bean_0g.2.2.2.2.2.2.2.2.2.2.2.2.2.2.1
theorem dX12_bean_31 : decode cX12_bean 31 = .ok (.ireturn, 1) := dX12_bean_0g.2.2.2.2.2.2.2.2.2.2.2.2.2.2.2
theorem dX12_isClass_0g : decode cX12_isClass 0 = .ok (.iload_n 0, 1) ∧ decode cX12_isClass 1 = .ok (.ifCond .lt 13, 3) ∧ decode cX12_isClass 4 = .ok (.iload_n 0, 1) ∧ decode cX12_isClass 5 = .ok (.bipush 8, 2) ∧ decode cX12_isClass 7 = .ok (.if_icmp .ge 7, 3) ∧ decode cX12_isClass 10 = .ok (.iconst 1, 1) ∧ decode cX12_isClass 11 = .ok (.goto 4, 3) ∧ decode cX12_isClass 14 = .ok (.iconst 0, 1) ∧ decode cX12_isClass 15 = .ok (.ireturn, 1) := by decide +kernel
theorem dX12_isClass_0 : decode cX12_isClass 0 = .ok (.iload_n 0, 1) := dX12_isClass_0g.1
theorem dX12_isClass_1 : decode cX12_isClass 1 = .ok (.ifCond .lt 13, 3) := dX12_isClass_0g.2.1
theorem dX12_isClass_4 : decode cX12_isClass 4 = .ok (.iload_n 0, 1) := dX12_isClass_0g.2.2.1
theorem dX12_isClass_5 : decode cX12_isClass 5 = .ok (.bipush 8, 2) := dX12_isClass_0g.2.2.2.1
theorem dX12_isClass_7 : decode cX12_isClass 7 = .ok (.if_icmp .ge 7, 3) := dX12_isClass_0g.2.2.2.2.1
theorem dX12_isClass_10 : decode cX12_isClass 10 = .ok (.iconst 1, 1) := dX12_isClass_0g.2.2.2.2.2.1
theorem dX12_isClass_11 : decode cX12_isClass 11 = .ok (.goto 4, 3) := dX12_isClass_0g.2.2.2.2.2.2.1
theorem dX12_isClass_14 : decode cX12_isClass 14 = .ok (.iconst 0, 1) := dX12_isClass_0g.2.2.2.2.2.2.2.1
theorem dX12_isClass_15 : decode cX12_isClass 15 = .ok (.ireturn, 1) := dX12_isClass_0g.2.2.2.2.2.2.2.2
theorem dX12_isLetter_0g : decode cX12_isLetter 0 = .ok (.iload_n 0, 1) ∧ decode cX12_isLetter 1 = .ok (.ifCond .lt 13, 3) ∧ decode cX12_isLetter 4 = .ok (.iload_n 0, 1) ∧ decode cX12_isLetter 5 = .ok (.bipush 26, 2) ∧ decode cX12_isLetter 7 = .ok (.if_icmp .ge 7, 3) ∧ decode cX12_isLetter 10 = .ok (.iconst 1, 1) ∧ decode cX12_isLetter 11 = .ok (.goto 4, 3) ∧ decode cX12_isLetter 14 = .ok (.iconst 0, 1) ∧ decode cX12_isLetter 15 = .ok (.ireturn, 1) := by decide +kernel
theorem dX12_isLetter_0 : decode cX12_isLetter 0 = .ok (.iload_n 0, 1) := dX12_isLetter_0g.1
theorem dX12_isLetter_1 : decode cX12_isLetter 1 = .ok (.ifCond .lt 13, 3) := dX12_isLetter_0g.2.1
theorem dX12_isLetter_4 : decode cX12_isLetter 4 = .ok (.iload_n 0, 1) := dX12_isLetter_0g.2.2.1
theorem dX12_isLetter_5 : decode cX12_isLetter 5 = .ok (.bipush 26, 2) := dX12_isLetter_0g.2.2.2.1
theorem dX12_isLetter_7 : decode cX12_isLetter 7 = .ok (.if_icmp .ge 7, 3) := dX12_isLetter_0g.2.2.2.2.1
theorem dX12_isLetter_10 : decode cX12_isLetter 10 = .ok (.iconst 1, 1) := dX12_isLetter_0g.2.2.2.2.2.1
theorem dX12_isLetter_11 : decode cX12_isLetter 11 = .ok (.goto 4, 3) := dX12_isLetter_0g.2.2.2.2.2.2.1
theorem dX12_isLetter_14 : decode cX12_isLetter 14 = .ok (.iconst 0, 1) := dX12_isLetter_0g.2.2.2.2.2.2.2.1
theorem dX12_isLetter_15 : decode cX12_isLetter 15 = .ok (.ireturn, 1) := dX12_isLetter_0g.2.2.2.2.2.2.2.2
theorem dX12_isType_0g : decode cX12_isType 0 = .ok (.iload_n 0, 1) ∧ decode cX12_isType 1 = .ok (.ifCond .lt 8, 3) ∧ decode cX12_isType 4 = .ok (.iload_n 0, 1) ∧ decode cX12_isType 5 = .ok (.iconst 4, 1) ∧ decode cX12_isType 6 = .ok (.if_icmp .le 15, 3) ∧ decode cX12_isType 9 = .ok (.iload_n 0, 1) ∧ decode cX12_isType 10 = .ok (.bipush 8, 2) ∧ decode cX12_isType 12 = .ok (.if_icmp .lt 13, 3) ∧ decode cX12_isType 15 = .ok (.iload_n 0, 1) ∧ decode cX12_isType 16 = .ok (.bipush 16, 2) ∧ decode cX12_isType 18 = .ok (.if_icmp .ge 7, 3) ∧ decode cX12_isType 21 = .ok (.iconst 1, 1) ∧ decode cX12_isType 22 = .ok (.goto 4, 3) ∧ decode cX12_isType 25 = .ok (.iconst 0, 1) ∧ decode cX12_isType 26 = .ok (.ireturn, 1) := by decide +kernel
theorem dX12_isType_0 : decode cX12_isType 0 = .ok (.iload_n 0, 1) := dX12_isType_0g.1
theorem dX12_isType_1 : decode cX12_isType 1 = .ok (.ifCond .lt 8, 3) := dX12_isType_0g.2.1
theorem dX12_isType_4 : decode cX12_isType 4 = .ok (.iload_n 0, 1) := dX12_isType_0g.2.2.1
theorem dX12_isType_5 : decode cX12_isType 5 = .ok (.iconst 4, 1) := dX12_isType_0g.2.2.2.1
theorem dX12_isType_6 : decode cX12_isType 6 = .ok (.if_icmp .le 15, 3) := dX12_isType_0g.2.2.2.2.1
theorem dX12_isType_9 : decode cX12_isType 9 = .ok (.iload_n 0, 1) := dX12_isType_0g.2.2.2.2.2.1
theorem dX12_isType_10 : decode cX12_isType 10 = .ok (.bipush 8, 2) := dX12_isType_0g.2.2.2.2.2.2.1
theorem dX12_isType_12 : decode cX12_isType 12 = .ok (.if_icmp .lt 13, 3) := dX12_isType_0g.2.2.2.2.2.2.2.1
theorem dX12_isType_15 : decode cX12_isType 15 = .ok (.iload_n 0, 1) := dX12_isType_0g.2.2.2.2.2.2.2.2.1
theorem dX12_isType_16 : decode cX12_isType 16 = .ok (.bipush 16, 2) := dX12_isType_0g.2.2.2.2.2.2.2.2.2.1
theorem dX12_isType_18 : decode cX12_isType 18 = .ok (.if_icmp .ge 7, 3) := dX12_isType_0g.2.2.2.2.2.2.2.2.2.2.1
theorem dX12_isType_21 : decode cX12_isType 21 = .ok (.iconst 1, 1) := dX12_isType_0g.2.2.2.2.2.2.2.2.2.2.2.1
theorem dX12_isType_22 : decode cX12_isType 22 = .ok (.goto 4, 3) := dX12_isType_0g.2.2.2.2.2.2.2.2.2.2.2.2.1
theorem dX12_isType_25 : decode cX12_isType 25 = .ok (.iconst 0, 1) := dX12_isType_0g.2.2.2.2.2.2.2.2.2.2.2.2.2.1
theorem dX12_isType_26 : decode cX12_isType 26 = .ok (.ireturn, 1) := dX12_isType_0g.2.2.2.2.2.2.2.2.2.2.2.2.2.2
theorem dX12_areTypes_0g : decode cX12_areTypes 0 = .ok (.iload_n 0, 1) ∧ decode cX12_areTypes 1 = .ok (.ifCond .lt 48, 3) ∧ decode cX12_areTypes 4 = .ok (.iload_n 0, 1) ∧ decode cX12_areTypes 5 = .ok (.iconst 3, 1) ∧ decode cX12_areTypes 6 = .ok (.if_icmp .gt 43, 3) ∧ decode cX12_areTypes 9 = .ok (.iload_n 0, 1) ∧ decode cX12_areTypes 10 = .ok (.iconst 1, 1) ∧ decode cX12_areTypes 11 = .ok (.if_icmp .lt 10, 3) ∧ decode cX12_areTypes 14 = .ok (.iload_n 1, 1) ∧ decode cX12_areTypes 15 = .ok (.invokestatic 90, 3) ∧ decode cX12_areTypes 18 = .ok (.ifCond .eq 31, 3) ∧ decode cX12_areTypes 21 = .ok (.iload_n 0, 1) ∧ decode cX12_areTypes 22 = .ok (.iconst 2, 1) ∧ decode cX12_areTypes 23 = .ok (.if_icmp .lt 10, 3) ∧ decode cX12_areTypes 26 = .ok (.iload_n 2, 1) ∧ decode cX12_areTypes 27 = .ok (.invokestatic 90, 3) := by decide +kernel
theorem dX12_areTypes_0 : decode cX12_areTypes 0 = .ok (.iload_n 0, 1) := dX12_areTypes_0g.1
theorem dX12_areTypes_1 : decode cX12_areTypes 1 = .ok (.ifCond .lt 48, 3) := dX12_areTypes_0g.2.1
theorem dX12_areTypes_4 : decode cX12_areTypes 4 = .ok (.iload_n 0, 1) := dX12_areTypes_0g.2.2.1
theorem dX12_areTypes_5 : decode cX12_areTypes 5 = .ok (.iconst 3, 1) := dX12_areTypes_0g.2.2.2.1
theorem dX12_areTypes_6 : decode cX12_areTypes 6 = .ok (.if_icmp .gt 43, 3) := dX12_areTypes_0g.2.2.2.2.1
theorem dX12_areTypes_9 : decode cX12_areTypes 9 = .ok (.iload_n 0, 1) := dX12_areTypes_0g.2.2.2.2.2.1
theorem dX12_areTypes_10 : decode cX12_areTypes 10 = .ok (.iconst 1, 1) := dX12_areTypes_0g.2.2.2.2.2.2.1
theorem dX12_areTypes_11 : decode cX12_areTypes 11 = .ok (.if_icmp .lt 10, 3) := dX12_areTypes_0g.2.2.2.2.2.2.2.1
theorem dX12_areTypes_14 : decode cX12_areTypes 14 = .ok (.iload_n 1, 1) := dX12_areTypes_0g.2.2.2.2.2.2.2.2.1
theorem dX12_areTypes_15 : decode cX12_areTypes 15 = .ok (.invokestatic 90, 3) := dX12_areTypes_0g.2.2.2.2.2.2.2.2.2.1
theorem dX12_areTypes_18 : decode cX12_areTypes 18 = .ok (.ifCond .eq 31, 3) := dX12_areTypes_0g.2.2.2.2.2.2.2.2.2.2.1
theorem dX12_areTypes_21 : decode cX12_areTypes 21 = .ok (.iload_n 0, 1) := dX12_areTypes_0g.2.2.2.2.2.2.2.2.2.2.2.1
theorem dX12_areTypes_22 : decode cX12_areTypes 22 = .ok (.iconst 2, 1) := dX12_areTypes_0g.2.2.2.2.2.2.2.2.2.2.2.2.1
theorem dX12_areTypes_23 : decode cX12_areTypes 23 = .ok (.if_icmp .lt 10, 3) := dX12_areTypes_0g.2.2.2.2.2.2.2.2.2.2.2.2.2.1
theorem dX12_areTypes_26 : decode cX12_areTypes 26 = .ok (.iload_n 2, 1) := dX12_areTypes_0g.2.2.2.2.2.2.2.2.2.2.2.2.2.2.1
theorem dX12_areTypes_27 : decode cX12_areTypes 27 = .ok (.invokestatic 90, 3) := dX12_areTypes_0g.2.2.2.2.2.2.2.2.2.2.2.2.2.2.2
theorem dX12_areTypes_30g : decode cX12_areTypes 30 = .ok (.ifCond .eq 19, 3) ∧ decode cX12_areTypes 33 = .ok (.iload_n 0, 1) ∧ decode cX12_areTypes 34 = .ok (.iconst 3, 1) ∧ decode cX12_areTypes 35 = .ok (.if_icmp .lt 10, 3) ∧ decode cX12_areTypes 38 = .ok (.iload_n 3, 1) ∧ decode cX12_areTypes 39 = .ok (.invokestatic 90, 3) ∧ decode cX12_areTypes 42 = .ok (.ifCond .eq 7, 3) ∧ decode cX12_areTypes 45 = .ok (.iconst 1, 1) ∧ decode cX12_areTypes 46 = .ok (.goto 4, 3) ∧ decode cX12_areTypes 49 = .ok (.iconst 0, 1) ∧ decode cX12_areTypes 50 = .ok (.ireturn, 1) := by decide +kernel
theorem dX12_areTypes_30 : decode cX12_areTypes 30 = .ok (.ifCond .eq 19, 3) := dX12_areTypes_30g.1
theorem dX12_areTypes_33 : decode cX12_areTypes 33 = .ok (.iload_n 0, 1) := dX12_areTypes_30g.2.1
theorem dX12_areTypes_34 : decode cX12_areTypes 34 = .ok (.iconst 3, 1) := dX12_areTypes_30g.2.2.1
theorem dX12_areTypes_35 : decode cX12_areTypes 35 = .ok (.if_icmp .lt 10, 3) := dX12_areTypes_30g.2.2.2.1
theorem dX12_areTypes_38 : decode cX12_areTypes 38 = .ok (.iload_n 3, 1) := dX12_areTypes_30g.2.2.2.2.1
theorem dX12_areTypes_39 : decode cX12_areTypes 39 = .ok (.invokestatic 90, 3) := dX12_areTypes_30g.2.2.2.2.2.1
theorem dX12_areTypes_42 : decode cX12_areTypes 42 = .ok (.ifCond .eq 7, 3) := dX12_areTypes_30g.2.2.2.2.2.2.1
theorem dX12_areTypes_45 : decode cX12_areTypes 45 = .ok (.iconst 1, 1) := dX12_areTypes_30g.2.2.2.2.2.2.2.1
theorem dX12_areTypes_46 : decode cX12_areTypes 46 = .ok (.goto 4, 3) := dX12_areTypes_30g.2.2.2.2.2.2.2.2.1
theorem dX12_areTypes_49 : decode cX12_areTypes 49 = .ok (.iconst 0, 1) := dX12_areTypes_30g.2.2.2.2.2.2.2.2.2.1
theorem dX12_areTypes_50 : decode cX12_areTypes 50 = .ok (.ireturn, 1) := dX12_areTypes_30g.2.2.2.2.2.2.2.2.2.2
theorem dX12_typedBehind_0g : decode cX12_typedBehind 0 = .ok (.iload_n 1, 1) ∧ decode cX12_typedBehind 1 = .ok (.iconst (-1), 1) ∧ decode cX12_typedBehind 2 = .ok (.if_icmp .ne 5, 3) ∧ decode cX12_typedBehind 5 = .ok (.iconst (-1), 1) ∧ decode cX12_typedBehind 6 = .ok (.ireturn, 1) ∧ decode cX12_typedBehind 7 = .ok (.iload_n 1, 1) ∧ decode cX12_typedBehind 8 = .ok (.istore_n 3, 1) ∧ decode cX12_typedBehind 9 = .ok (.bipush 24, 2) ∧ decode cX12_typedBehind 11 = .ok (.istore 4, 2) ∧ decode cX12_typedBehind 13 = .ok (.iload 4, 2) ∧ decode cX12_typedBehind 15 = .ok (.ifCond .lt 71, 3) ∧ decode cX12_typedBehind 18 = .ok (.iload_n 2, 1) ∧ decode cX12_typedBehind 19 = .ok (.iload 4, 2) ∧ decode cX12_typedBehind 21 = .ok (.iushr, 1) ∧ decode cX12_typedBehind 22 = .ok (.sipush 255, 3) ∧ decode cX12_typedBehind 25 = .ok (.iand, 1) := by decide +kernel
theorem dX12_typedBehind_0 : decode cX12_typedBehind 0 = .ok (.iload_n 1, 1) := dX12_typedBehind_0g.1
theorem dX12_typedBehind_1 : decode cX12_typedBehind 1 = .ok (.iconst (-1), 1) := dX12_typedBehind_0g.2.1
theorem dX12_typedBehind_2 : decode cX12_typedBehind 2 = .ok (.if_icmp .ne 5, 3) := dX12_typedBehind_0g.2.2.1
theorem dX12_typedBehind_5 : decode cX12_typedBehind 5 = .ok (.iconst (-1), 1) := dX12_typedBehind_0g.2.2.2.1
theorem dX12_typedBehind_6 : decode cX12_typedBehind 6 = .ok (.ireturn, 1) := dX12_typedBehind_0g.2.2.2.2.1
theorem dX12_typedBehind_7 : decode cX12_typedBehind 7 = .ok (.iload_n 1, 1) := dX12_typedBehind_0g.2.2.2.2.2.1
theorem dX12_typedBehind_8 : decode cX12_typedBehind 8 = .ok (.istore_n 3, 1) := dX12_typedBehind_0g.2.2.2.2.2.2.1
theorem dX12_typedBehind_9 : decode cX12_typedBehind 9 = .ok (.bipush 24, 2) := dX12_typedBehind_0g.2.2.2.2.2.2.2.1
theorem dX12_typedBehind_11 : decode cX12_typedBehind 11 = .ok (.istore 4, 2) := dX12_typedBehind_0g.2.2.2.2.2.2.2.2.1
theorem dX12_typedBehind_13 : decode cX12_typedBehind 13 = .ok (.iload 4, 2) := dX12_typedBehind_0g.2.2.2.2.2.2.2.2.2.1
theorem dX12_typedBehind_15 : decode cX12_typedBehind 15 = .ok (.ifCond .lt 71, 3) := dX12_typedBehind_0g.2.2.2.2.2.2.2.2.2.2.1
theorem dX12_typedBehind_18 : decode cX12_typedBehind 18 = .ok (.iload_n 2, 1) := dX12_typedBehind_0g.2.2.2.2.2.2.2.2.2.2.2.1
theorem dX12_typedBehind_19 : decode cX12_typedBehind 19 = .ok (.iload 4, 2) := dX12_typedBehind_0g.2.2.2.2.2.2.2.2.2.2.2.2.1
theorem dX12_typedBehind_21 : decode cX12_typedBehind 21 = .ok (.iushr, 1) := dX12_typedBehind_0g.2.2.2.2.2.2.2.2.2.2.2.2.2.1
theorem dX12_typedBehind_22 : decode cX12_typedBehind 22 = .ok (.sipush 255, 3) := dX12_typedBehind_0g.2.2.2.2.2.2.2.2.2.2.2.2.2.2.1
theorem dX12_typedBehind_25 : decode cX12_typedBehind 25 = .ok (.iand, 1) := dX12_typedBehind_0g.2.2.2.2.2.2.2.2.2.2.2.2.2.2.2
theorem dX12_typedBehind_26g : decode cX12_typedBehind 26 = .ok (.istore 5, 2) ∧ decode cX12_typedBehind 28 = .ok (.iload 5, 2) ∧ decode cX12_typedBehind 30 = .ok (.ifCond .ne 6, 3) ∧ decode cX12_typedBehind 33 = .ok (.goto 47, 3) ∧ decode cX12_typedBehind 36 = .ok (.iload 5, 2) ∧ decode cX12_typedBehind 38 = .ok (.bipush 10, 2) ∧ decode cX12_typedBehind 40 = .ok (.if_icmp .eq 17, 3) ∧ decode cX12_typedBehind 43 = .ok (.iload 5, 2) ∧ decode cX12_typedBehind 45 = .ok (.bipush 32, 2) ∧ decode cX12_typedBehind 47 = .ok (.if_icmp .lt 19, 3) ∧ decode cX12_typedBehind 50 = .ok (.iload 5, 2) ∧ decode cX12_typedBehind 52 = .ok (.bipush 126, 2) ∧ decode cX12_typedBehind 54 = .ok (.if_icmp .gt 12, 3) ∧ decode cX12_typedBehind 57 = .ok (.iload_n 3, 1) ∧ decode cX12_typedBehind 58 = .ok (.aload_n 0, 1) ∧ decode cX12_typedBehind 59 = .ok (.getfield 18, 3) := by decide +kernel
theorem dX12_typedBehind_26 : decode cX12_typedBehind 26 = .ok (.istore 5, 2) := dX12_typedBehind_26g.1
theorem dX12_typedBehind_28 : decode cX12_typedBehind 28 = .ok (.iload 5, 2) := dX12_typedBehind_26g.2.1
theorem dX12_typedBehind_30 : decode cX12_typedBehind 30 = .ok (.ifCond .ne 6, 3) := dX12_typedBehind_26g.2.2.1
theorem dX12_typedBehind_33 : decode cX12_typedBehind 33 = .ok (.goto 47, 3) := dX12_typedBehind_26g.2.2.2.1
theorem dX12_typedBehind_36 : decode cX12_typedBehind 36 = .ok (.iload 5, 2) := dX12_typedBehind_26g.2.2.2.2.1
theorem dX12_typedBehind_38 : decode cX12_typedBehind 38 = .ok (.bipush 10, 2) := dX12_typedBehind_26g.2.2.2.2.2.1
theorem dX12_typedBehind_40 : decode cX12_typedBehind 40 = .ok (.if_icmp .eq 17, 3) := dX12_typedBehind_26g.2.2.2.2.2.2.1
theorem dX12_typedBehind_43 : decode cX12_typedBehind 43 = .ok (.iload 5, 2) := dX12_typedBehind_26g.2.2.2.2.2.2.2.1
theorem dX12_typedBehind_45 : decode cX12_typedBehind 45 = .ok (.bipush 32, 2) := dX12_typedBehind_26g.2.2.2.2.2.2.2.2.1
theorem dX12_typedBehind_47 : decode cX12_typedBehind 47 = .ok (.if_icmp .lt 19, 3) := dX12_typedBehind_26g.2.2.2.2.2.2.2.2.2.1
theorem dX12_typedBehind_50 : decode cX12_typedBehind 50 = .ok (.iload 5, 2) := dX12_typedBehind_26g.2.2.2.2.2.2.2.2.2.2.1
theorem dX12_typedBehind_52 : decode cX12_typedBehind 52 = .ok (.bipush 126, 2) := dX12_typedBehind_26g.2.2.2.2.2.2.2.2.2.2.2.1
theorem dX12_typedBehind_54 : decode cX12_typedBehind 54 = .ok (.if_icmp .gt 12, 3) := dX12_typedBehind_26g.2.2.2.2.2.2.2.2.2.2.2.2.1
theorem dX12_typedBehind_57 : decode cX12_typedBehind 57 = .ok (.iload_n 3, 1) := dX12_typedBehind_26g.2.2.2.2.2.2.2.2.2.2.2.2.2.1
theorem dX12_typedBehind_58 : decode cX12_typedBehind 58 = .ok (.aload_n 0, 1) := dX12_typedBehind_26g.2.2.2.2.2.2.2.2.2.2.2.2.2.2.1
theorem dX12_typedBehind_59 : decode cX12_typedBehind 59 = .ok (.getfield 18, 3) := dX12_typedBehind_26g.2.2.2.2.2.2.2.2.2.2.2.2.2.2.2
theorem dX12_typedBehind_62g : decode cX12_typedBehind 62 = .ok (.arraylength, 1) ∧ decode cX12_typedBehind 63 = .ok (.if_icmp .lt 5, 3) ∧ decode cX12_typedBehind 66 = .ok (.iconst (-1), 1) ∧ decode cX12_typedBehind 67 = .ok (.ireturn, 1) ∧ decode cX12_typedBehind 68 = .ok (.aload_n 0, 1) ∧ decode cX12_typedBehind 69 = .ok (.getfield 18, 3) ∧ decode cX12_typedBehind 72 = .ok (.iload_n 3, 1) ∧ decode cX12_typedBehind 73 = .ok (.iload 5, 2) ∧ decode cX12_typedBehind 75 = .ok (.i2c, 1) ∧ decode cX12_typedBehind 76 = .ok (.castore, 1) ∧ decode cX12_typedBehind 77 = .ok (.iinc 3 1, 3) ∧ decode cX12_typedBehind 80 = .ok (.iinc 4 (-8), 3) ∧ decode cX12_typedBehind 83 = .ok (.goto (-70), 3) ∧ decode cX12_typedBehind 86 = .ok (.iload_n 3, 1) ∧ decode cX12_typedBehind 87 = .ok (.ireturn, 1) := by decide +kernel
theorem dX12_typedBehind_62 : decode cX12_typedBehind 62 = .ok (.arraylength, 1) := dX12_typedBehind_62g.1
theorem dX12_typedBehind_63 : decode cX12_typedBehind 63 = .ok (.if_icmp .lt 5, 3) := dX12_typedBehind_62g.2.1
theorem dX12_typedBehind_66 : decode cX12_typedBehind 66 = .ok (.iconst (-1), 1) := dX12_typedBehind_62g.2.2.1
theorem dX12_typedBehind_67 : decode cX12_typedBehind 67 = .ok (.ireturn, 1) := dX12_typedBehind_62g.2.2.2.1
theorem dX12_typedBehind_68 : decode cX12_typedBehind 68 = .ok (.aload_n 0, 1) := dX12_typedBehind_62g.2.2.2.2.1
theorem dX12_typedBehind_69 : decode cX12_typedBehind 69 = .ok (.getfield 18, 3) := dX12_typedBehind_62g.2.2.2.2.2.1
theorem dX12_typedBehind_72 : decode cX12_typedBehind 72 = .ok (.iload_n 3, 1) := dX12_typedBehind_62g.2.2.2.2.2.2.1
theorem dX12_typedBehind_73 : decode cX12_typedBehind 73 = .ok (.iload 5, 2) := dX12_typedBehind_62g.2.2.2.2.2.2.2.1
theorem dX12_typedBehind_75 : decode cX12_typedBehind 75 = .ok (.i2c, 1) := dX12_typedBehind_62g.2.2.2.2.2.2.2.2.1
theorem dX12_typedBehind_76 : decode cX12_typedBehind 76 = .ok (.castore, 1) := dX12_typedBehind_62g.2.2.2.2.2.2.2.2.2.1
theorem dX12_typedBehind_77 : decode cX12_typedBehind 77 = .ok (.iinc 3 1, 3) := dX12_typedBehind_62g.2.2.2.2.2.2.2.2.2.2.1
theorem dX12_typedBehind_80 : decode cX12_typedBehind 80 = .ok (.iinc 4 (-8), 3) := dX12_typedBehind_62g.2.2.2.2.2.2.2.2.2.2.2.1
theorem dX12_typedBehind_83 : decode cX12_typedBehind 83 = .ok (.goto (-70), 3) := dX12_typedBehind_62g.2.2.2.2.2.2.2.2.2.2.2.2.1
theorem dX12_typedBehind_86 : decode cX12_typedBehind 86 = .ok (.iload_n 3, 1) := dX12_typedBehind_62g.2.2.2.2.2.2.2.2.2.2.2.2.2.1
theorem dX12_typedBehind_87 : decode cX12_typedBehind 87 = .ok (.ireturn, 1) := dX12_typedBehind_62g.2.2.2.2.2.2.2.2.2.2.2.2.2.2
theorem dX12_withoutZeros_0g : decode cX12_withoutZeros 0 = .ok (.lconst 0, 1) ∧ decode cX12_withoutZeros 1 = .ok (.lstore_n 2, 1) ∧ decode cX12_withoutZeros 2 = .ok (.bipush 56, 2) ∧ decode cX12_withoutZeros 4 = .ok (.istore 4, 2) ∧ decode cX12_withoutZeros 6 = .ok (.iload 4, 2) ∧ decode cX12_withoutZeros 8 = .ok (.ifCond .lt 34, 3) ∧ decode cX12_withoutZeros 11 = .ok (.lload_n 0, 1) ∧ decode cX12_withoutZeros 12 = .ok (.iload 4, 2) ∧ decode cX12_withoutZeros 14 = .ok (.lushr, 1) ∧ decode cX12_withoutZeros 15 = .ok (.ldc2_w 201, 3) ∧ decode cX12_withoutZeros 18 = .ok (.land, 1) ∧ decode cX12_withoutZeros 19 = .ok (.lstore 5, 2) ∧ decode cX12_withoutZeros 21 = .ok (.lload 5, 2) ∧ decode cX12_withoutZeros 23 = .ok (.lconst 0, 1) ∧ decode cX12_withoutZeros 24 = .ok (.lcmp, 1) ∧ decode cX12_withoutZeros 25 = .ok (.ifCond .eq 11, 3) := by decide +kernel
theorem dX12_withoutZeros_0 : decode cX12_withoutZeros 0 = .ok (.lconst 0, 1) := dX12_withoutZeros_0g.1
theorem dX12_withoutZeros_1 : decode cX12_withoutZeros 1 = .ok (.lstore_n 2, 1) := dX12_withoutZeros_0g.2.1
theorem dX12_withoutZeros_2 : decode cX12_withoutZeros 2 = .ok (.bipush 56, 2) := dX12_withoutZeros_0g.2.2.1
theorem dX12_withoutZeros_4 : decode cX12_withoutZeros 4 = .ok (.istore 4, 2) := dX12_withoutZeros_0g.2.2.2.1
theorem dX12_withoutZeros_6 : decode cX12_withoutZeros 6 = .ok (.iload 4, 2) := dX12_withoutZeros_0g.2.2.2.2.1
theorem dX12_withoutZeros_8 : decode cX12_withoutZeros 8 = .ok (.ifCond .lt 34, 3) := dX12_withoutZeros_0g.2.2.2.2.2.1
theorem dX12_withoutZeros_11 : decode cX12_withoutZeros 11 = .ok (.lload_n 0, 1) := dX12_withoutZeros_0g.2.2.2.2.2.2.1
theorem dX12_withoutZeros_12 : decode cX12_withoutZeros 12 = .ok (.iload 4, 2) := dX12_withoutZeros_0g.2.2.2.2.2.2.2.1
theorem dX12_withoutZeros_14 : decode cX12_withoutZeros 14 = .ok (.lushr, 1) := dX12_withoutZeros_0g.2.2.2.2.2.2.2.2.1
theorem dX12_withoutZeros_15 : decode cX12_withoutZeros 15 = .ok (.ldc2_w 201, 3) := dX12_withoutZeros_0g.2.2.2.2.2.2.2.2.2.1
theorem dX12_withoutZeros_18 : decode cX12_withoutZeros 18 = .ok (.land, 1) := dX12_withoutZeros_0g.2.2.2.2.2.2.2.2.2.2.1
theorem dX12_withoutZeros_19 : decode cX12_withoutZeros 19 = .ok (.lstore 5, 2) := dX12_withoutZeros_0g.2.2.2.2.2.2.2.2.2.2.2.1
theorem dX12_withoutZeros_21 : decode cX12_withoutZeros 21 = .ok (.lload 5, 2) := dX12_withoutZeros_0g.2.2.2.2.2.2.2.2.2.2.2.2.1
theorem dX12_withoutZeros_23 : decode cX12_withoutZeros 23 = .ok (.lconst 0, 1) := dX12_withoutZeros_0g.2.2.2.2.2.2.2.2.2.2.2.2.2.1
theorem dX12_withoutZeros_24 : decode cX12_withoutZeros 24 = .ok (.lcmp, 1) := dX12_withoutZeros_0g.2.2.2.2.2.2.2.2.2.2.2.2.2.2.1
theorem dX12_withoutZeros_25 : decode cX12_withoutZeros 25 = .ok (.ifCond .eq 11, 3) := dX12_withoutZeros_0g.2.2.2.2.2.2.2.2.2.2.2.2.2.2.2
theorem dX12_withoutZeros_28g : decode cX12_withoutZeros 28 = .ok (.lload_n 2, 1) ∧ decode cX12_withoutZeros 29 = .ok (.bipush 8, 2) ∧ decode cX12_withoutZeros 31 = .ok (.lshl, 1) ∧ decode cX12_withoutZeros 32 = .ok (.lload 5, 2) ∧ decode cX12_withoutZeros 34 = .ok (.lor, 1) ∧ decode cX12_withoutZeros 35 = .ok (.lstore_n 2, 1) ∧ decode cX12_withoutZeros 36 = .ok (.iinc 4 (-8), 3) ∧ decode cX12_withoutZeros 39 = .ok (.goto (-33), 3) ∧ decode cX12_withoutZeros 42 = .ok (.lload_n 2, 1) ∧ decode cX12_withoutZeros 43 = .ok (.lreturn, 1) := by decide +kernel
theorem dX12_withoutZeros_28 : decode cX12_withoutZeros 28 = .ok (.lload_n 2, 1) := dX12_withoutZeros_28g.1
theorem dX12_withoutZeros_29 : decode cX12_withoutZeros 29 = .ok (.bipush 8, 2) := dX12_withoutZeros_28g.2.1
theorem dX12_withoutZeros_31 : decode cX12_withoutZeros 31 = .ok (.lshl, 1) := dX12_withoutZeros_28g.2.2.1
theorem dX12_withoutZeros_32 : decode cX12_withoutZeros 32 = .ok (.lload 5, 2) := dX12_withoutZeros_28g.2.2.2.1
theorem dX12_withoutZeros_34 : decode cX12_withoutZeros 34 = .ok (.lor, 1) := dX12_withoutZeros_28g.2.2.2.2.1
theorem dX12_withoutZeros_35 : decode cX12_withoutZeros 35 = .ok (.lstore_n 2, 1) := dX12_withoutZeros_28g.2.2.2.2.2.1
theorem dX12_withoutZeros_36 : decode cX12_withoutZeros 36 = .ok (.iinc 4 (-8), 3) := dX12_withoutZeros_28g.2.2.2.2.2.2.1
theorem dX12_withoutZeros_39 : decode cX12_withoutZeros 39 = .ok (.goto (-33), 3) := dX12_withoutZeros_28g.2.2.2.2.2.2.2.1
theorem dX12_withoutZeros_42 : decode cX12_withoutZeros 42 = .ok (.lload_n 2, 1) := dX12_withoutZeros_28g.2.2.2.2.2.2.2.2.1
theorem dX12_withoutZeros_43 : decode cX12_withoutZeros 43 = .ok (.lreturn, 1) := dX12_withoutZeros_28g.2.2.2.2.2.2.2.2.2
