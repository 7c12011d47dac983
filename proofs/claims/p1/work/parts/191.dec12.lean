/-! the law, instruction by instruction -/
theorem dL_law_2935 : decode cL_law 2935 = .ok (.aload_n 0, 1) := by decide +kernel
theorem dL_law_2936 : decode cL_law 2936 = .ok (.iload 5, 2) := by decide +kernel
theorem dL_law_2938 : decode cL_law 2938 = .ok (.iconst 2, 1) := by decide +kernel
theorem dL_law_2939 : decode cL_law 2939 = .ok (.iadd, 1) := by decide +kernel
theorem dL_law_2940 : decode cL_law 2940 = .ok (.iaload, 1) := by decide +kernel
theorem dL_law_2941 : decode cL_law 2941 = .ok (.aload_n 0, 1) := by decide +kernel
theorem dL_law_2942 : decode cL_law 2942 = .ok (.iload 5, 2) := by decide +kernel
theorem dL_law_2944 : decode cL_law 2944 = .ok (.iconst 3, 1) := by decide +kernel
theorem dL_law_2945 : decode cL_law 2945 = .ok (.iadd, 1) := by decide +kernel
theorem dL_law_2946 : decode cL_law 2946 = .ok (.iaload, 1) := by decide +kernel
theorem dL_law_2947 : decode cL_law 2947 = .ok (.invokevirtual 300, 3) := by decide +kernel
theorem dL_law_2950 : decode cL_law 2950 = .ok (.istore 7, 2) := by decide +kernel
theorem dL_law_2952 : decode cL_law 2952 = .ok (.aload_n 2, 1) := by decide +kernel
theorem dL_law_2953 : decode cL_law 2953 = .ok (.invokevirtual 171, 3) := by decide +kernel
theorem dL_law_2956 : decode cL_law 2956 = .ok (.iload 6, 2) := by decide +kernel
theorem dL_law_2958 : decode cL_law 2958 = .ok (.if_icmp .eq 5, 3) := by decide +kernel
theorem dL_law_2963 : decode cL_law 2963 = .ok (.iload 6, 2) := by decide +kernel
theorem dL_law_2965 : decode cL_law 2965 = .ok (.ifCond .ne 15, 3) := by decide +kernel
theorem dL_law_2968 : decode cL_law 2968 = .ok (.aload_n 3, 1) := by decide +kernel
theorem dL_law_2969 : decode cL_law 2969 = .ok (.iconst 0, 1) := by decide +kernel
theorem dL_law_2970 : decode cL_law 2970 = .ok (.laload, 1) := by decide +kernel
theorem dL_law_2971 : decode cL_law 2971 = .ok (.iload 7, 2) := by decide +kernel
theorem dL_law_2973 : decode cL_law 2973 = .ok (.i2l, 1) := by decide +kernel
theorem dL_law_2974 : decode cL_law 2974 = .ok (.lcmp, 1) := by decide +kernel
theorem dL_law_2975 : decode cL_law 2975 = .ok (.ifCond .eq 5, 3) := by decide +kernel
theorem dL_law_2980 : decode cL_law 2980 = .ok (.goto 340, 3) := by decide +kernel
theorem dL_law_2983 : decode cL_law 2983 = .ok (.aload_n 1, 1) := by decide +kernel
theorem dL_law_2984 : decode cL_law 2984 = .ok (.aload_n 0, 1) := by decide +kernel
theorem dL_law_2985 : decode cL_law 2985 = .ok (.iload 5, 2) := by decide +kernel
theorem dL_law_2987 : decode cL_law 2987 = .ok (.iconst 1, 1) := by decide +kernel
theorem dL_law_2988 : decode cL_law 2988 = .ok (.iadd, 1) := by decide +kernel
theorem dL_law_2989 : decode cL_law 2989 = .ok (.iaload, 1) := by decide +kernel
theorem dL_law_2990 : decode cL_law 2990 = .ok (.aload_n 0, 1) := by decide +kernel
theorem dL_law_2991 : decode cL_law 2991 = .ok (.iload 5, 2) := by decide +kernel
theorem dL_law_2993 : decode cL_law 2993 = .ok (.iconst 2, 1) := by decide +kernel
theorem dL_law_2994 : decode cL_law 2994 = .ok (.iadd, 1) := by decide +kernel
theorem dL_law_2995 : decode cL_law 2995 = .ok (.iaload, 1) := by decide +kernel
theorem dL_law_2996 : decode cL_law 2996 = .ok (.aload_n 0, 1) := by decide +kernel
theorem dL_law_2997 : decode cL_law 2997 = .ok (.iload 5, 2) := by decide +kernel
theorem dL_law_2999 : decode cL_law 2999 = .ok (.iconst 3, 1) := by decide +kernel
theorem dL_law_3000 : decode cL_law 3000 = .ok (.iadd, 1) := by decide +kernel
theorem dL_law_3001 : decode cL_law 3001 = .ok (.iaload, 1) := by decide +kernel
theorem dL_law_3002 : decode cL_law 3002 = .ok (.aload_n 3, 1) := by decide +kernel
theorem dL_law_3003 : decode cL_law 3003 = .ok (.invokestatic 301, 3) := by decide +kernel
theorem dL_law_3006 : decode cL_law 3006 = .ok (.istore 6, 2) := by decide +kernel
theorem dL_law_3008 : decode cL_law 3008 = .ok (.aload_n 2, 1) := by decide +kernel
theorem dL_law_3009 : decode cL_law 3009 = .ok (.aload_n 0, 1) := by decide +kernel
theorem dL_law_3010 : decode cL_law 3010 = .ok (.iload 5, 2) := by decide +kernel
theorem dL_law_3012 : decode cL_law 3012 = .ok (.iconst 1, 1) := by decide +kernel
theorem dL_law_3013 : decode cL_law 3013 = .ok (.iadd, 1) := by decide +kernel
theorem dL_law_3014 : decode cL_law 3014 = .ok (.iaload, 1) := by decide +kernel
theorem dL_law_3015 : decode cL_law 3015 = .ok (.aload_n 0, 1) := by decide +kernel
theorem dL_law_3016 : decode cL_law 3016 = .ok (.iload 5, 2) := by decide +kernel
theorem dL_law_3018 : decode cL_law 3018 = .ok (.iconst 2, 1) := by decide +kernel
theorem dL_law_3019 : decode cL_law 3019 = .ok (.iadd, 1) := by decide +kernel
theorem dL_law_3020 : decode cL_law 3020 = .ok (.iaload, 1) := by decide +kernel
theorem dL_law_3021 : decode cL_law 3021 = .ok (.aload_n 0, 1) := by decide +kernel
theorem dL_law_3022 : decode cL_law 3022 = .ok (.iload 5, 2) := by decide +kernel
theorem dL_law_3024 : decode cL_law 3024 = .ok (.iconst 3, 1) := by decide +kernel
theorem dL_law_3025 : decode cL_law 3025 = .ok (.iadd, 1) := by decide +kernel
theorem dL_law_3026 : decode cL_law 3026 = .ok (.iaload, 1) := by decide +kernel
theorem dL_law_3027 : decode cL_law 3027 = .ok (.invokevirtual 303, 3) := by decide +kernel
theorem dL_law_3030 : decode cL_law 3030 = .ok (.istore 7, 2) := by decide +kernel
theorem dL_law_3032 : decode cL_law 3032 = .ok (.aload_n 2, 1) := by decide +kernel
theorem dL_law_3033 : decode cL_law 3033 = .ok (.invokevirtual 171, 3) := by decide +kernel
theorem dL_law_3036 : decode cL_law 3036 = .ok (.iload 6, 2) := by decide +kernel
theorem dL_law_3038 : decode cL_law 3038 = .ok (.if_icmp .eq 5, 3) := by decide +kernel
theorem dL_law_3043 : decode cL_law 3043 = .ok (.iload 6, 2) := by decide +kernel
theorem dL_law_3045 : decode cL_law 3045 = .ok (.ifCond .ne 15, 3) := by decide +kernel
theorem dL_law_3060 : decode cL_law 3060 = .ok (.goto 260, 3) := by decide +kernel
theorem dL_law_3063 : decode cL_law 3063 = .ok (.aload_n 1, 1) := by decide +kernel
theorem dL_law_3064 : decode cL_law 3064 = .ok (.aload_n 0, 1) := by decide +kernel
theorem dL_law_3065 : decode cL_law 3065 = .ok (.iload 5, 2) := by decide +kernel
theorem dL_law_3067 : decode cL_law 3067 = .ok (.iconst 1, 1) := by decide +kernel
theorem dL_law_3068 : decode cL_law 3068 = .ok (.iadd, 1) := by decide +kernel
theorem dL_law_3069 : decode cL_law 3069 = .ok (.iaload, 1) := by decide +kernel
theorem dL_law_3070 : decode cL_law 3070 = .ok (.aload_n 0, 1) := by decide +kernel
theorem dL_law_3071 : decode cL_law 3071 = .ok (.iload 5, 2) := by decide +kernel
theorem dL_law_3073 : decode cL_law 3073 = .ok (.iconst 2, 1) := by decide +kernel
theorem dL_law_3074 : decode cL_law 3074 = .ok (.iadd, 1) := by decide +kernel
theorem dL_law_3075 : decode cL_law 3075 = .ok (.iaload, 1) := by decide +kernel
theorem dL_law_3076 : decode cL_law 3076 = .ok (.aload_n 3, 1) := by decide +kernel
theorem dL_law_3077 : decode cL_law 3077 = .ok (.invokestatic 304, 3) := by decide +kernel
theorem dL_law_3080 : decode cL_law 3080 = .ok (.istore 6, 2) := by decide +kernel
theorem dL_law_3082 : decode cL_law 3082 = .ok (.aload_n 2, 1) := by decide +kernel
theorem dL_law_3083 : decode cL_law 3083 = .ok (.aload_n 0, 1) := by decide +kernel
theorem dL_law_3084 : decode cL_law 3084 = .ok (.iload 5, 2) := by decide +kernel
theorem dL_law_3086 : decode cL_law 3086 = .ok (.iconst 1, 1) := by decide +kernel
theorem dL_law_3087 : decode cL_law 3087 = .ok (.iadd, 1) := by decide +kernel
theorem dL_law_3088 : decode cL_law 3088 = .ok (.iaload, 1) := by decide +kernel
theorem dL_law_3089 : decode cL_law 3089 = .ok (.aload_n 0, 1) := by decide +kernel
theorem dL_law_3090 : decode cL_law 3090 = .ok (.iload 5, 2) := by decide +kernel
theorem dL_law_3092 : decode cL_law 3092 = .ok (.iconst 2, 1) := by decide +kernel
theorem dL_law_3093 : decode cL_law 3093 = .ok (.iadd, 1) := by decide +kernel
theorem dL_law_3094 : decode cL_law 3094 = .ok (.iaload, 1) := by decide +kernel
theorem dL_law_3095 : decode cL_law 3095 = .ok (.invokevirtual 306, 3) := by decide +kernel
theorem dL_law_3098 : decode cL_law 3098 = .ok (.istore 7, 2) := by decide +kernel
theorem dL_law_3100 : decode cL_law 3100 = .ok (.aload_n 2, 1) := by decide +kernel
theorem dL_law_3101 : decode cL_law 3101 = .ok (.invokevirtual 171, 3) := by decide +kernel
theorem dL_law_3104 : decode cL_law 3104 = .ok (.iload 6, 2) := by decide +kernel
theorem dL_law_3106 : decode cL_law 3106 = .ok (.if_icmp .eq 5, 3) := by decide +kernel
theorem dL_law_3111 : decode cL_law 3111 = .ok (.iload 6, 2) := by decide +kernel
theorem dL_law_3113 : decode cL_law 3113 = .ok (.ifCond .ne 22, 3) := by decide +kernel
theorem dL_law_3135 : decode cL_law 3135 = .ok (.goto 185, 3) := by decide +kernel
theorem dL_law_3138 : decode cL_law 3138 = .ok (.aload_n 1, 1) := by decide +kernel
theorem dL_law_3139 : decode cL_law 3139 = .ok (.aload_n 0, 1) := by decide +kernel
theorem dL_law_3140 : decode cL_law 3140 = .ok (.iload 5, 2) := by decide +kernel
theorem dL_law_3142 : decode cL_law 3142 = .ok (.iconst 1, 1) := by decide +kernel
theorem dL_law_3143 : decode cL_law 3143 = .ok (.iadd, 1) := by decide +kernel
theorem dL_law_3144 : decode cL_law 3144 = .ok (.iaload, 1) := by decide +kernel
theorem dL_law_3145 : decode cL_law 3145 = .ok (.aload 4, 2) := by decide +kernel
theorem dL_law_3147 : decode cL_law 3147 = .ok (.invokestatic 307, 3) := by decide +kernel
theorem dL_law_3150 : decode cL_law 3150 = .ok (.istore 6, 2) := by decide +kernel
theorem dL_law_3152 : decode cL_law 3152 = .ok (.aload_n 2, 1) := by decide +kernel
theorem dL_law_3153 : decode cL_law 3153 = .ok (.aload_n 0, 1) := by decide +kernel
theorem dL_law_3154 : decode cL_law 3154 = .ok (.iload 5, 2) := by decide +kernel
theorem dL_law_3156 : decode cL_law 3156 = .ok (.iconst 1, 1) := by decide +kernel
theorem dL_law_3157 : decode cL_law 3157 = .ok (.iadd, 1) := by decide +kernel
theorem dL_law_3158 : decode cL_law 3158 = .ok (.iaload, 1) := by decide +kernel
theorem dL_law_3159 : decode cL_law 3159 = .ok (.invokevirtual 310, 3) := by decide +kernel
