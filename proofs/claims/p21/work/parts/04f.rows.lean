theorem dL_hints_152 : decode cL_hints 152 = .ok (.iload_n 2, 1) := by decide +kernel
theorem dL_hints_153 : decode cL_hints 153 = .ok (.if_icmp .ne 7, 3) := by decide +kernel
theorem dL_hints_156 : decode cL_hints 156 = .ok (.iconst 1, 1) := by decide +kernel
theorem dL_hints_157 : decode cL_hints 157 = .ok (.goto 4, 3) := by decide +kernel
theorem dL_hints_160 : decode cL_hints 160 = .ok (.iconst 0, 1) := by decide +kernel
theorem dL_hints_161 : decode cL_hints 161 = .ok (.istore 7, 2) := by decide +kernel
theorem dL_hints_163 : decode cL_hints 163 = .ok (.iload 7, 2) := by decide +kernel
theorem dL_hints_165 : decode cL_hints 165 = .ok (.ifCond .eq 16, 3) := by decide +kernel
theorem dL_hints_168 : decode cL_hints 168 = .ok (.aload_n 0, 1) := by decide +kernel
theorem dL_hints_169 : decode cL_hints 169 = .ok (.iload_n 1, 1) := by decide +kernel
theorem dL_hints_170 : decode cL_hints 170 = .ok (.invokevirtual 73, 3) := by decide +kernel
theorem dL_hints_173 : decode cL_hints 173 = .ok (.iload_n 3, 1) := by decide +kernel
theorem dL_hints_174 : decode cL_hints 174 = .ok (.if_icmp .ne 7, 3) := by decide +kernel
theorem dL_hints_177 : decode cL_hints 177 = .ok (.iconst 1, 1) := by decide +kernel
theorem dL_hints_178 : decode cL_hints 178 = .ok (.goto 4, 3) := by decide +kernel
theorem dL_hints_181 : decode cL_hints 181 = .ok (.iconst 0, 1) := by decide +kernel
theorem dL_hints_182 : decode cL_hints 182 = .ok (.ireturn, 1) := by decide +kernel
