theorem dL_law_2252 : decode cL_law 2252 = .ok (.iaload, 1) := by decide +kernel
theorem dL_law_2253 : decode cL_law 2253 = .ok (.aload_n 0, 1) := by decide +kernel
theorem dL_law_2254 : decode cL_law 2254 = .ok (.iload_n 3, 1) := by decide +kernel
theorem dL_law_2255 : decode cL_law 2255 = .ok (.iconst 4, 1) := by decide +kernel
theorem dL_law_2256 : decode cL_law 2256 = .ok (.iadd, 1) := by decide +kernel
theorem dL_law_2257 : decode cL_law 2257 = .ok (.iaload, 1) := by decide +kernel
theorem dL_law_2258 : decode cL_law 2258 = .ok (.aload_n 0, 1) := by decide +kernel
theorem dL_law_2259 : decode cL_law 2259 = .ok (.iload_n 3, 1) := by decide +kernel
theorem dL_law_2260 : decode cL_law 2260 = .ok (.iconst 5, 1) := by decide +kernel
theorem dL_law_2261 : decode cL_law 2261 = .ok (.iadd, 1) := by decide +kernel
theorem dL_law_2262 : decode cL_law 2262 = .ok (.iaload, 1) := by decide +kernel
theorem dL_law_2263 : decode cL_law 2263 = .ok (.invokevirtual 314, 3) := by decide +kernel
theorem dL_law_2266 : decode cL_law 2266 = .ok (.if_icmp .eq 5, 3) := by decide +kernel
theorem dL_law_2271 : decode cL_law 2271 = .ok (.iinc 3 6, 3) := by decide +kernel
theorem dL_law_2274 : decode cL_law 2274 = .ok (.goto (-2256), 3) := by decide +kernel
theorem dL_law_2277 : decode cL_law 2277 = .ok (.iconst 1, 1) := by decide +kernel
theorem dL_law_2278 : decode cL_law 2278 = .ok (.ireturn, 1) := by decide +kernel
