/-! the law, instruction by instruction -/
theorem dL_law_3065 : decode cL_law 3065 = .ok (.iload 5, 2) := by decide +kernel
theorem dL_law_3067 : decode cL_law 3067 = .ok (.iconst 1, 1) := by decide +kernel
theorem dL_law_3068 : decode cL_law 3068 = .ok (.iadd, 1) := by decide +kernel
theorem dL_law_3069 : decode cL_law 3069 = .ok (.iaload, 1) := by decide +kernel
theorem dL_law_3070 : decode cL_law 3070 = .ok (.aload_n 0, 1) := by decide +kernel
theorem dL_law_3071 : decode cL_law 3071 = .ok (.iload 5, 2) := by decide +kernel
theorem dL_law_3073 : decode cL_law 3073 = .ok (.iconst 2, 1) := by decide +kernel
theorem dL_law_3074 : decode cL_law 3074 = .ok (.iadd, 1) := by decide +kernel
theorem dL_law_3075 : decode cL_law 3075 = .ok (.iaload, 1) := by decide +kernel
theorem dL_law_3076 : decode cL_law 3076 = .ok (.aload_n 3, 1) := by decide +kernel
theorem dL_law_3077 : decode cL_law 3077 = .ok (.invokestatic 304, 3) := by decide +kernel
theorem dL_law_3080 : decode cL_law 3080 = .ok (.istore 6, 2) := by decide +kernel
theorem dL_law_3082 : decode cL_law 3082 = .ok (.aload_n 2, 1) := by decide +kernel
theorem dL_law_3083 : decode cL_law 3083 = .ok (.aload_n 0, 1) := by decide +kernel
theorem dL_law_3084 : decode cL_law 3084 = .ok (.iload 5, 2) := by decide +kernel
theorem dL_law_3086 : decode cL_law 3086 = .ok (.iconst 1, 1) := by decide +kernel
theorem dL_law_3087 : decode cL_law 3087 = .ok (.iadd, 1) := by decide +kernel
theorem dL_law_3088 : decode cL_law 3088 = .ok (.iaload, 1) := by decide +kernel
theorem dL_law_3089 : decode cL_law 3089 = .ok (.aload_n 0, 1) := by decide +kernel
theorem dL_law_3090 : decode cL_law 3090 = .ok (.iload 5, 2) := by decide +kernel
theorem dL_law_3092 : decode cL_law 3092 = .ok (.iconst 2, 1) := by decide +kernel
theorem dL_law_3093 : decode cL_law 3093 = .ok (.iadd, 1) := by decide +kernel
theorem dL_law_3094 : decode cL_law 3094 = .ok (.iaload, 1) := by decide +kernel
theorem dL_law_3095 : decode cL_law 3095 = .ok (.invokevirtual 306, 3) := by decide +kernel
theorem dL_law_3098 : decode cL_law 3098 = .ok (.istore 7, 2) := by decide +kernel
theorem dL_law_3100 : decode cL_law 3100 = .ok (.aload_n 2, 1) := by decide +kernel
theorem dL_law_3101 : decode cL_law 3101 = .ok (.invokevirtual 171, 3) := by decide +kernel
theorem dL_law_3104 : decode cL_law 3104 = .ok (.iload 6, 2) := by decide +kernel
theorem dL_law_3106 : decode cL_law 3106 = .ok (.if_icmp .eq 5, 3) := by decide +kernel
theorem dL_law_3111 : decode cL_law 3111 = .ok (.iload 6, 2) := by decide +kernel
theorem dL_law_3113 : decode cL_law 3113 = .ok (.ifCond .ne 22, 3) := by decide +kernel
theorem dL_law_3135 : decode cL_law 3135 = .ok (.goto 185, 3) := by decide +kernel
theorem dL_law_3138 : decode cL_law 3138 = .ok (.aload_n 1, 1) := by decide +kernel
theorem dL_law_3139 : decode cL_law 3139 = .ok (.aload_n 0, 1) := by decide +kernel
theorem dL_law_3140 : decode cL_law 3140 = .ok (.iload 5, 2) := by decide +kernel
theorem dL_law_3142 : decode cL_law 3142 = .ok (.iconst 1, 1) := by decide +kernel
theorem dL_law_3143 : decode cL_law 3143 = .ok (.iadd, 1) := by decide +kernel
theorem dL_law_3144 : decode cL_law 3144 = .ok (.iaload, 1) := by decide +kernel
theorem dL_law_3145 : decode cL_law 3145 = .ok (.aload 4, 2) := by decide +kernel
theorem dL_law_3147 : decode cL_law 3147 = .ok (.invokestatic 307, 3) := by decide +kernel
theorem dL_law_3150 : decode cL_law 3150 = .ok (.istore 6, 2) := by decide +kernel
theorem dL_law_3152 : decode cL_law 3152 = .ok (.aload_n 2, 1) := by decide +kernel
theorem dL_law_3153 : decode cL_law 3153 = .ok (.aload_n 0, 1) := by decide +kernel
theorem dL_law_3154 : decode cL_law 3154 = .ok (.iload 5, 2) := by decide +kernel
theorem dL_law_3156 : decode cL_law 3156 = .ok (.iconst 1, 1) := by decide +kernel
theorem dL_law_3157 : decode cL_law 3157 = .ok (.iadd, 1) := by decide +kernel
theorem dL_law_3158 : decode cL_law 3158 = .ok (.iaload, 1) := by decide +kernel
theorem dL_law_3159 : decode cL_law 3159 = .ok (.invokevirtual 310, 3) := by decide +kernel
theorem dL_law_3162 : decode cL_law 3162 = .ok (.fstore 7, 2) := by decide +kernel
theorem dL_law_3164 : decode cL_law 3164 = .ok (.aload_n 2, 1) := by decide +kernel
theorem dL_law_3165 : decode cL_law 3165 = .ok (.invokevirtual 171, 3) := by decide +kernel
theorem dL_law_3168 : decode cL_law 3168 = .ok (.iload 6, 2) := by decide +kernel
theorem dL_law_3170 : decode cL_law 3170 = .ok (.if_icmp .eq 5, 3) := by decide +kernel
theorem dL_law_3175 : decode cL_law 3175 = .ok (.iload 6, 2) := by decide +kernel
theorem dL_law_3177 : decode cL_law 3177 = .ok (.ifCond .ne 36, 3) := by decide +kernel
theorem dL_law_3213 : decode cL_law 3213 = .ok (.goto 107, 3) := by decide +kernel
theorem dL_law_3216 : decode cL_law 3216 = .ok (.aload_n 1, 1) := by decide +kernel
theorem dL_law_3217 : decode cL_law 3217 = .ok (.aload_n 0, 1) := by decide +kernel
theorem dL_law_3218 : decode cL_law 3218 = .ok (.iload 5, 2) := by decide +kernel
theorem dL_law_3220 : decode cL_law 3220 = .ok (.iconst 1, 1) := by decide +kernel
theorem dL_law_3221 : decode cL_law 3221 = .ok (.iadd, 1) := by decide +kernel
theorem dL_law_3222 : decode cL_law 3222 = .ok (.iaload, 1) := by decide +kernel
theorem dL_law_3223 : decode cL_law 3223 = .ok (.aload 4, 2) := by decide +kernel
theorem dL_law_3225 : decode cL_law 3225 = .ok (.invokestatic 311, 3) := by decide +kernel
theorem dL_law_3228 : decode cL_law 3228 = .ok (.istore 6, 2) := by decide +kernel
theorem dL_law_3230 : decode cL_law 3230 = .ok (.aload_n 2, 1) := by decide +kernel
theorem dL_law_3231 : decode cL_law 3231 = .ok (.aload_n 0, 1) := by decide +kernel
theorem dL_law_3232 : decode cL_law 3232 = .ok (.iload 5, 2) := by decide +kernel
theorem dL_law_3234 : decode cL_law 3234 = .ok (.iconst 1, 1) := by decide +kernel
theorem dL_law_3235 : decode cL_law 3235 = .ok (.iadd, 1) := by decide +kernel
theorem dL_law_3236 : decode cL_law 3236 = .ok (.iaload, 1) := by decide +kernel
theorem dL_law_3237 : decode cL_law 3237 = .ok (.invokevirtual 313, 3) := by decide +kernel
theorem dL_law_3240 : decode cL_law 3240 = .ok (.dstore 7, 2) := by decide +kernel
theorem dL_law_3242 : decode cL_law 3242 = .ok (.aload_n 2, 1) := by decide +kernel
theorem dL_law_3243 : decode cL_law 3243 = .ok (.invokevirtual 171, 3) := by decide +kernel
theorem dL_law_3246 : decode cL_law 3246 = .ok (.iload 6, 2) := by decide +kernel
theorem dL_law_3248 : decode cL_law 3248 = .ok (.if_icmp .eq 5, 3) := by decide +kernel
theorem dL_law_3253 : decode cL_law 3253 = .ok (.iload 6, 2) := by decide +kernel
theorem dL_law_3255 : decode cL_law 3255 = .ok (.ifCond .ne 35, 3) := by decide +kernel
theorem dL_law_3290 : decode cL_law 3290 = .ok (.goto 30, 3) := by decide +kernel
theorem dL_law_3293 : decode cL_law 3293 = .ok (.aload_n 1, 1) := by decide +kernel
theorem dL_law_3294 : decode cL_law 3294 = .ok (.invokevirtual 314, 3) := by decide +kernel
theorem dL_law_3297 : decode cL_law 3297 = .ok (.aload_n 2, 1) := by decide +kernel
theorem dL_law_3298 : decode cL_law 3298 = .ok (.invokevirtual 318, 3) := by decide +kernel
theorem dL_law_3301 : decode cL_law 3301 = .ok (.lcmp, 1) := by decide +kernel
theorem dL_law_3302 : decode cL_law 3302 = .ok (.ifCond .eq 18, 3) := by decide +kernel
theorem dL_law_3307 : decode cL_law 3307 = .ok (.aload_n 1, 1) := by decide +kernel
theorem dL_law_3308 : decode cL_law 3308 = .ok (.invokevirtual 319, 3) := by decide +kernel
theorem dL_law_3311 : decode cL_law 3311 = .ok (.aload_n 2, 1) := by decide +kernel
theorem dL_law_3312 : decode cL_law 3312 = .ok (.invokevirtual 322, 3) := by decide +kernel
theorem dL_law_3315 : decode cL_law 3315 = .ok (.if_icmp .eq 5, 3) := by decide +kernel
