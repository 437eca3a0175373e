theorem dL_arePanes_102 : decode cL_arePanes 102 = .ok (.iconst 3, 1) := by decide +kernel
theorem dL_arePanes_103 : decode cL_arePanes 103 = .ok (.if_icmp .ne 7, 3) := by decide +kernel
theorem dL_arePanes_106 : decode cL_arePanes 106 = .ok (.iconst 1, 1) := by decide +kernel
theorem dL_arePanes_107 : decode cL_arePanes 107 = .ok (.goto 4, 3) := by decide +kernel
theorem dL_arePanes_110 : decode cL_arePanes 110 = .ok (.iconst 0, 1) := by decide +kernel
theorem dL_arePanes_111 : decode cL_arePanes 111 = .ok (.iadd, 1) := by decide +kernel
theorem dL_arePanes_112 : decode cL_arePanes 112 = .ok (.istore_n 3, 1) := by decide +kernel
theorem dL_arePanes_113 : decode cL_arePanes 113 = .ok (.iload 7, 2) := by decide +kernel
theorem dL_arePanes_115 : decode cL_arePanes 115 = .ok (.ifCond .le 44, 3) := by decide +kernel
theorem dL_arePanes_118 : decode cL_arePanes 118 = .ok (.iload 9, 2) := by decide +kernel
theorem dL_arePanes_120 : decode cL_arePanes 120 = .ok (.iload 6, 2) := by decide +kernel
theorem dL_arePanes_122 : decode cL_arePanes 122 = .ok (.iconst 1, 1) := by decide +kernel
theorem dL_arePanes_123 : decode cL_arePanes 123 = .ok (.if_icmp .eq 9, 3) := by decide +kernel
theorem dL_arePanes_126 : decode cL_arePanes 126 = .ok (.iload 6, 2) := by decide +kernel
theorem dL_arePanes_128 : decode cL_arePanes 128 = .ok (.iconst 3, 1) := by decide +kernel
theorem dL_arePanes_129 : decode cL_arePanes 129 = .ok (.if_icmp .ne 7, 3) := by decide +kernel
theorem dL_arePanes_132 : decode cL_arePanes 132 = .ok (.iconst 1, 1) := by decide +kernel
theorem dL_arePanes_133 : decode cL_arePanes 133 = .ok (.goto 4, 3) := by decide +kernel
theorem dL_arePanes_136 : decode cL_arePanes 136 = .ok (.iconst 0, 1) := by decide +kernel
theorem dL_arePanes_137 : decode cL_arePanes 137 = .ok (.if_icmp .ne 22, 3) := by decide +kernel
theorem dL_arePanes_140 : decode cL_arePanes 140 = .ok (.iload 8, 2) := by decide +kernel
theorem dL_arePanes_142 : decode cL_arePanes 142 = .ok (.iload 9, 2) := by decide +kernel
theorem dL_arePanes_144 : decode cL_arePanes 144 = .ok (.ifCond .eq 7, 3) := by decide +kernel
theorem dL_arePanes_147 : decode cL_arePanes 147 = .ok (.iconst 1, 1) := by decide +kernel
theorem dL_arePanes_148 : decode cL_arePanes 148 = .ok (.goto 4, 3) := by decide +kernel
theorem dL_arePanes_151 : decode cL_arePanes 151 = .ok (.iconst 0, 1) := by decide +kernel
theorem dL_arePanes_152 : decode cL_arePanes 152 = .ok (.if_icmp .ne 7, 3) := by decide +kernel
theorem dL_arePanes_155 : decode cL_arePanes 155 = .ok (.iconst 1, 1) := by decide +kernel
theorem dL_arePanes_156 : decode cL_arePanes 156 = .ok (.goto 4, 3) := by decide +kernel
theorem dL_arePanes_159 : decode cL_arePanes 159 = .ok (.iconst 0, 1) := by decide +kernel
theorem dL_arePanes_160 : decode cL_arePanes 160 = .ok (.istore 4, 2) := by decide +kernel
theorem dL_arePanes_162 : decode cL_arePanes 162 = .ok (.iload 4, 2) := by decide +kernel
theorem dL_arePanes_164 : decode cL_arePanes 164 = .ok (.ifCond .eq 41, 3) := by decide +kernel
theorem dL_arePanes_167 : decode cL_arePanes 167 = .ok (.iload 9, 2) := by decide +kernel
theorem dL_arePanes_169 : decode cL_arePanes 169 = .ok (.ifCond .eq 32, 3) := by decide +kernel
theorem dL_arePanes_172 : decode cL_arePanes 172 = .ok (.aload_n 0, 1) := by decide +kernel
theorem dL_arePanes_173 : decode cL_arePanes 173 = .ok (.iload 5, 2) := by decide +kernel
theorem dL_arePanes_175 : decode cL_arePanes 175 = .ok (.iconst 0, 1) := by decide +kernel
theorem dL_arePanes_176 : decode cL_arePanes 176 = .ok (.invokevirtual 38, 3) := by decide +kernel
theorem dL_arePanes_179 : decode cL_arePanes 179 = .ok (.iload 7, 2) := by decide +kernel
theorem dL_arePanes_181 : decode cL_arePanes 181 = .ok (.if_icmp .ne 24, 3) := by decide +kernel
theorem dL_arePanes_184 : decode cL_arePanes 184 = .ok (.aload_n 0, 1) := by decide +kernel
theorem dL_arePanes_185 : decode cL_arePanes 185 = .ok (.iload 5, 2) := by decide +kernel
theorem dL_arePanes_187 : decode cL_arePanes 187 = .ok (.iconst 1, 1) := by decide +kernel
theorem dL_arePanes_188 : decode cL_arePanes 188 = .ok (.invokevirtual 38, 3) := by decide +kernel
theorem dL_arePanes_191 : decode cL_arePanes 191 = .ok (.aload_n 0, 1) := by decide +kernel
theorem dL_arePanes_192 : decode cL_arePanes 192 = .ok (.iload 5, 2) := by decide +kernel
theorem dL_arePanes_194 : decode cL_arePanes 194 = .ok (.iconst 2, 1) := by decide +kernel
theorem dL_arePanes_195 : decode cL_arePanes 195 = .ok (.invokevirtual 32, 3) := by decide +kernel
theorem dL_arePanes_198 : decode cL_arePanes 198 = .ok (.if_icmp .ne 7, 3) := by decide +kernel
theorem dL_arePanes_201 : decode cL_arePanes 201 = .ok (.iconst 1, 1) := by decide +kernel
theorem dL_arePanes_202 : decode cL_arePanes 202 = .ok (.goto 4, 3) := by decide +kernel
theorem dL_arePanes_205 : decode cL_arePanes 205 = .ok (.iconst 0, 1) := by decide +kernel
theorem dL_arePanes_206 : decode cL_arePanes 206 = .ok (.istore 4, 2) := by decide +kernel
theorem dL_arePanes_208 : decode cL_arePanes 208 = .ok (.iload 4, 2) := by decide +kernel
theorem dL_arePanes_210 : decode cL_arePanes 210 = .ok (.ifCond .eq 59, 3) := by decide +kernel
theorem dL_arePanes_213 : decode cL_arePanes 213 = .ok (.iload 6, 2) := by decide +kernel
theorem dL_arePanes_215 : decode cL_arePanes 215 = .ok (.iconst 2, 1) := by decide +kernel
theorem dL_arePanes_216 : decode cL_arePanes 216 = .ok (.if_icmp .ne 18, 3) := by decide +kernel
theorem dL_arePanes_219 : decode cL_arePanes 219 = .ok (.aload_n 0, 1) := by decide +kernel
