theorem dL_law_2258 : decode cL_law 2258 = .ok (.iconst 5, 1) := by decide +kernel
theorem dL_law_2259 : decode cL_law 2259 = .ok (.iadd, 1) := by decide +kernel
theorem dL_law_2260 : decode cL_law 2260 = .ok (.iaload, 1) := by decide +kernel
theorem dL_law_2261 : decode cL_law 2261 = .ok (.invokevirtual 314, 3) := by decide +kernel
theorem dL_law_2264 : decode cL_law 2264 = .ok (.if_icmp .eq 5, 3) := by decide +kernel
theorem dL_law_2267 : decode cL_law 2267 = .ok (.iconst 0, 1) := by decide +kernel
theorem dL_law_2268 : decode cL_law 2268 = .ok (.ireturn, 1) := by decide +kernel
theorem dL_law_2269 : decode cL_law 2269 = .ok (.iinc 3 6, 3) := by decide +kernel
theorem dL_law_2272 : decode cL_law 2272 = .ok (.goto (-2254), 3) := by decide +kernel
theorem dL_law_2275 : decode cL_law 2275 = .ok (.iconst 1, 1) := by decide +kernel
theorem dL_law_2276 : decode cL_law 2276 = .ok (.ireturn, 1) := by decide +kernel
