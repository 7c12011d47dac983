/-! the law, instruction by instruction -/
theorem dL_law_3162 : decode cL_law 3162 = .ok (.fstore 7, 2) := by decide +kernel
theorem dL_law_3164 : decode cL_law 3164 = .ok (.aload_n 2, 1) := by decide +kernel
theorem dL_law_3165 : decode cL_law 3165 = .ok (.invokevirtual 171, 3) := by decide +kernel
theorem dL_law_3168 : decode cL_law 3168 = .ok (.iload 6, 2) := by decide +kernel
theorem dL_law_3170 : decode cL_law 3170 = .ok (.if_icmp .eq 5, 3) := by decide +kernel
theorem dL_law_3175 : decode cL_law 3175 = .ok (.iload 6, 2) := by decide +kernel
theorem dL_law_3177 : decode cL_law 3177 = .ok (.ifCond .ne 36, 3) := by decide +kernel
theorem dL_law_3213 : decode cL_law 3213 = .ok (.goto 107, 3) := by decide +kernel
theorem dL_law_3216 : decode cL_law 3216 = .ok (.aload_n 1, 1) := by decide +kernel
theorem dL_law_3217 : decode cL_law 3217 = .ok (.aload_n 0, 1) := by decide +kernel
theorem dL_law_3218 : decode cL_law 3218 = .ok (.iload 5, 2) := by decide +kernel
theorem dL_law_3220 : decode cL_law 3220 = .ok (.iconst 1, 1) := by decide +kernel
theorem dL_law_3221 : decode cL_law 3221 = .ok (.iadd, 1) := by decide +kernel
theorem dL_law_3222 : decode cL_law 3222 = .ok (.iaload, 1) := by decide +kernel
theorem dL_law_3223 : decode cL_law 3223 = .ok (.aload 4, 2) := by decide +kernel
theorem dL_law_3225 : decode cL_law 3225 = .ok (.invokestatic 311, 3) := by decide +kernel
theorem dL_law_3228 : decode cL_law 3228 = .ok (.istore 6, 2) := by decide +kernel
theorem dL_law_3230 : decode cL_law 3230 = .ok (.aload_n 2, 1) := by decide +kernel
theorem dL_law_3231 : decode cL_law 3231 = .ok (.aload_n 0, 1) := by decide +kernel
theorem dL_law_3232 : decode cL_law 3232 = .ok (.iload 5, 2) := by decide +kernel
theorem dL_law_3234 : decode cL_law 3234 = .ok (.iconst 1, 1) := by decide +kernel
theorem dL_law_3235 : decode cL_law 3235 = .ok (.iadd, 1) := by decide +kernel
theorem dL_law_3236 : decode cL_law 3236 = .ok (.iaload, 1) := by decide +kernel
theorem dL_law_3237 : decode cL_law 3237 = .ok (.invokevirtual 313, 3) := by decide +kernel
theorem dL_law_3240 : decode cL_law 3240 = .ok (.dstore 7, 2) := by decide +kernel
theorem dL_law_3242 : decode cL_law 3242 = .ok (.aload_n 2, 1) := by decide +kernel
theorem dL_law_3243 : decode cL_law 3243 = .ok (.invokevirtual 171, 3) := by decide +kernel
theorem dL_law_3246 : decode cL_law 3246 = .ok (.iload 6, 2) := by decide +kernel
theorem dL_law_3248 : decode cL_law 3248 = .ok (.if_icmp .eq 5, 3) := by decide +kernel
theorem dL_law_3253 : decode cL_law 3253 = .ok (.iload 6, 2) := by decide +kernel
theorem dL_law_3255 : decode cL_law 3255 = .ok (.ifCond .ne 35, 3) := by decide +kernel
theorem dL_law_3290 : decode cL_law 3290 = .ok (.goto 30, 3) := by decide +kernel
theorem dL_law_3293 : decode cL_law 3293 = .ok (.aload_n 1, 1) := by decide +kernel
theorem dL_law_3294 : decode cL_law 3294 = .ok (.invokevirtual 314, 3) := by decide +kernel
theorem dL_law_3297 : decode cL_law 3297 = .ok (.aload_n 2, 1) := by decide +kernel
theorem dL_law_3298 : decode cL_law 3298 = .ok (.invokevirtual 318, 3) := by decide +kernel
theorem dL_law_3301 : decode cL_law 3301 = .ok (.lcmp, 1) := by decide +kernel
theorem dL_law_3302 : decode cL_law 3302 = .ok (.ifCond .eq 18, 3) := by decide +kernel
theorem dL_law_3307 : decode cL_law 3307 = .ok (.aload_n 1, 1) := by decide +kernel
theorem dL_law_3308 : decode cL_law 3308 = .ok (.invokevirtual 319, 3) := by decide +kernel
theorem dL_law_3311 : decode cL_law 3311 = .ok (.aload_n 2, 1) := by decide +kernel
theorem dL_law_3312 : decode cL_law 3312 = .ok (.invokevirtual 322, 3) := by decide +kernel
theorem dL_law_3315 : decode cL_law 3315 = .ok (.if_icmp .eq 5, 3) := by decide +kernel
