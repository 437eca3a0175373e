theorem dL_view_106 : decode cL_view 106 = .ok (.iload_n 3, 1) := by decide +kernel
theorem dL_view_107 : decode cL_view 107 = .ok (.aload_n 0, 1) := by decide +kernel
theorem dL_view_108 : decode cL_view 108 = .ok (.bipush 7, 2) := by decide +kernel
theorem dL_view_110 : decode cL_view 110 = .ok (.invokevirtual 13, 3) := by decide +kernel
theorem dL_view_113 : decode cL_view 113 = .ok (.if_icmp .ge 39, 3) := by decide +kernel
theorem dL_view_116 : decode cL_view 116 = .ok (.iconst 0, 1) := by decide +kernel
theorem dL_view_117 : decode cL_view 117 = .ok (.istore 4, 2) := by decide +kernel
theorem dL_view_119 : decode cL_view 119 = .ok (.iload 4, 2) := by decide +kernel
theorem dL_view_121 : decode cL_view 121 = .ok (.iconst 4, 1) := by decide +kernel
theorem dL_view_122 : decode cL_view 122 = .ok (.if_icmp .ge 24, 3) := by decide +kernel
theorem dL_view_125 : decode cL_view 125 = .ok (.ldc2_w 11, 3) := by decide +kernel
theorem dL_view_128 : decode cL_view 128 = .ok (.lload_n 1, 1) := by decide +kernel
theorem dL_view_129 : decode cL_view 129 = .ok (.lmul, 1) := by decide +kernel
theorem dL_view_130 : decode cL_view 130 = .ok (.aload_n 0, 1) := by decide +kernel
theorem dL_view_131 : decode cL_view 131 = .ok (.iload_n 3, 1) := by decide +kernel
theorem dL_view_132 : decode cL_view 132 = .ok (.iload 4, 2) := by decide +kernel
theorem dL_view_134 : decode cL_view 134 = .ok (.invokevirtual 23, 3) := by decide +kernel
theorem dL_view_137 : decode cL_view 137 = .ok (.i2l, 1) := by decide +kernel
theorem dL_view_138 : decode cL_view 138 = .ok (.ladd, 1) := by decide +kernel
theorem dL_view_139 : decode cL_view 139 = .ok (.lstore_n 1, 1) := by decide +kernel
theorem dL_view_140 : decode cL_view 140 = .ok (.iinc 4 1, 3) := by decide +kernel
theorem dL_view_143 : decode cL_view 143 = .ok (.goto (-24), 3) := by decide +kernel
theorem dL_view_146 : decode cL_view 146 = .ok (.iinc 3 1, 3) := by decide +kernel
theorem dL_view_149 : decode cL_view 149 = .ok (.goto (-43), 3) := by decide +kernel
theorem dL_view_152 : decode cL_view 152 = .ok (.iconst 0, 1) := by decide +kernel
theorem dL_view_153 : decode cL_view 153 = .ok (.istore_n 3, 1) := by decide +kernel
theorem dL_view_154 : decode cL_view 154 = .ok (.iload_n 3, 1) := by decide +kernel
theorem dL_view_155 : decode cL_view 155 = .ok (.bipush 12, 2) := by decide +kernel
theorem dL_view_157 : decode cL_view 157 = .ok (.if_icmp .ge 27, 3) := by decide +kernel
theorem dL_view_160 : decode cL_view 160 = .ok (.ldc2_w 11, 3) := by decide +kernel
theorem dL_view_163 : decode cL_view 163 = .ok (.lload_n 1, 1) := by decide +kernel
theorem dL_view_164 : decode cL_view 164 = .ok (.lmul, 1) := by decide +kernel
theorem dL_view_165 : decode cL_view 165 = .ok (.aload_n 0, 1) := by decide +kernel
theorem dL_view_166 : decode cL_view 166 = .ok (.iload_n 3, 1) := by decide +kernel
theorem dL_view_167 : decode cL_view 167 = .ok (.iconst 2, 1) := by decide +kernel
theorem dL_view_168 : decode cL_view 168 = .ok (.ishr, 1) := by decide +kernel
theorem dL_view_169 : decode cL_view 169 = .ok (.iload_n 3, 1) := by decide +kernel
theorem dL_view_170 : decode cL_view 170 = .ok (.iconst 3, 1) := by decide +kernel
theorem dL_view_171 : decode cL_view 171 = .ok (.iand, 1) := by decide +kernel
theorem dL_view_172 : decode cL_view 172 = .ok (.invokevirtual 26, 3) := by decide +kernel
theorem dL_view_175 : decode cL_view 175 = .ok (.i2l, 1) := by decide +kernel
theorem dL_view_176 : decode cL_view 176 = .ok (.ladd, 1) := by decide +kernel
theorem dL_view_177 : decode cL_view 177 = .ok (.lstore_n 1, 1) := by decide +kernel
theorem dL_view_178 : decode cL_view 178 = .ok (.iinc 3 1, 3) := by decide +kernel
theorem dL_view_181 : decode cL_view 181 = .ok (.goto (-27), 3) := by decide +kernel
theorem dL_view_184 : decode cL_view 184 = .ok (.aload_n 0, 1) := by decide +kernel
theorem dL_view_185 : decode cL_view 185 = .ok (.iconst (-1), 1) := by decide +kernel
theorem dL_view_186 : decode cL_view 186 = .ok (.invokevirtual 29, 3) := by decide +kernel
theorem dL_view_189 : decode cL_view 189 = .ok (.istore_n 3, 1) := by decide +kernel
theorem dL_view_190 : decode cL_view 190 = .ok (.iload_n 3, 1) := by decide +kernel
theorem dL_view_191 : decode cL_view 191 = .ok (.ifCond .lt 68, 3) := by decide +kernel
theorem dL_view_194 : decode cL_view 194 = .ok (.iconst 0, 1) := by decide +kernel
theorem dL_view_195 : decode cL_view 195 = .ok (.istore 4, 2) := by decide +kernel
theorem dL_view_197 : decode cL_view 197 = .ok (.iload 4, 2) := by decide +kernel
theorem dL_view_199 : decode cL_view 199 = .ok (.bipush 7, 2) := by decide +kernel
theorem dL_view_201 : decode cL_view 201 = .ok (.if_icmp .ge 24, 3) := by decide +kernel
theorem dL_view_204 : decode cL_view 204 = .ok (.ldc2_w 11, 3) := by decide +kernel
theorem dL_view_207 : decode cL_view 207 = .ok (.lload_n 1, 1) := by decide +kernel
theorem dL_view_208 : decode cL_view 208 = .ok (.lmul, 1) := by decide +kernel
theorem dL_view_209 : decode cL_view 209 = .ok (.aload_n 0, 1) := by decide +kernel
