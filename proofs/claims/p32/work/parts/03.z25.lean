theorem dL_law_1242 : decode cL_law 1242 = .ok (.iload_n 3, 1) := by decide +kernel
theorem dL_law_1243 : decode cL_law 1243 = .ok (.iconst 1, 1) := by decide +kernel
theorem dL_law_1244 : decode cL_law 1244 = .ok (.iadd, 1) := by decide +kernel
theorem dL_law_1245 : decode cL_law 1245 = .ok (.iaload, 1) := by decide +kernel
theorem dL_law_1246 : decode cL_law 1246 = .ok (.invokevirtual 158, 3) := by decide +kernel
theorem dL_law_1249 : decode cL_law 1249 = .ok (.pop, 1) := by decide +kernel
theorem dL_law_1250 : decode cL_law 1250 = .ok (.goto 3, 3) := by decide +kernel
theorem dL_law_1253 : decode cL_law 1253 = .ok (.iinc 3 6, 3) := by decide +kernel
theorem dL_law_1256 : decode cL_law 1256 = .ok (.goto (-1238), 3) := by decide +kernel
theorem dL_law_1259 : decode cL_law 1259 = .ok (.iconst 1, 1) := by decide +kernel
theorem dL_law_1260 : decode cL_law 1260 = .ok (.ireturn, 1) := by decide +kernel
