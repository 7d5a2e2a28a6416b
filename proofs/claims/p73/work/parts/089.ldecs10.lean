theorem dL_law_2258 : decode cL_law 2258 = .ok (.iload_n 3, 1) := by decide +kernel
theorem dL_law_2259 : decode cL_law 2259 = .ok (.iconst 5, 1) := by decide +kernel
theorem dL_law_2260 : decode cL_law 2260 = .ok (.iadd, 1) := by decide +kernel
theorem dL_law_2261 : decode cL_law 2261 = .ok (.iaload, 1) := by decide +kernel
theorem dL_law_2262 : decode cL_law 2262 = .ok (.invokevirtual 314, 3) := by decide +kernel
theorem dL_law_2265 : decode cL_law 2265 = .ok (.pop, 1) := by decide +kernel
theorem dL_law_2266 : decode cL_law 2266 = .ok (.goto 3, 3) := by decide +kernel
theorem dL_law_2269 : decode cL_law 2269 = .ok (.iinc 3 6, 3) := by decide +kernel
theorem dL_law_2272 : decode cL_law 2272 = .ok (.goto (-2254), 3) := by decide +kernel
theorem dL_law_2275 : decode cL_law 2275 = .ok (.iconst 1, 1) := by decide +kernel
theorem dL_law_2276 : decode cL_law 2276 = .ok (.ireturn, 1) := by decide +kernel
