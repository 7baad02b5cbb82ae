theorem dL_law_3057 : decode cL_law 3057 = .ok (.goto 395, 3) := by decide +kernel
theorem dL_law_3060 : decode cL_law 3060 = .ok (.aload_n 1, 1) := by decide +kernel
theorem dL_law_3061 : decode cL_law 3061 = .ok (.aload_n 0, 1) := by decide +kernel
theorem dL_law_3062 : decode cL_law 3062 = .ok (.iload 4, 2) := by decide +kernel
theorem dL_law_3064 : decode cL_law 3064 = .ok (.iconst 1, 1) := by decide +kernel
theorem dL_law_3065 : decode cL_law 3065 = .ok (.iadd, 1) := by decide +kernel
theorem dL_law_3066 : decode cL_law 3066 = .ok (.iaload, 1) := by decide +kernel
theorem dL_law_3067 : decode cL_law 3067 = .ok (.aload_n 0, 1) := by decide +kernel
theorem dL_law_3068 : decode cL_law 3068 = .ok (.iload 4, 2) := by decide +kernel
theorem dL_law_3070 : decode cL_law 3070 = .ok (.iconst 2, 1) := by decide +kernel
theorem dL_law_3071 : decode cL_law 3071 = .ok (.iadd, 1) := by decide +kernel
theorem dL_law_3072 : decode cL_law 3072 = .ok (.iaload, 1) := by decide +kernel
theorem dL_law_3073 : decode cL_law 3073 = .ok (.aload_n 3, 1) := by decide +kernel
theorem dL_law_3074 : decode cL_law 3074 = .ok (.invokestatic 369, 3) := by decide +kernel
theorem dL_law_3077 : decode cL_law 3077 = .ok (.istore 5, 2) := by decide +kernel
theorem dL_law_3079 : decode cL_law 3079 = .ok (.aload_n 2, 1) := by decide +kernel
theorem dL_law_3080 : decode cL_law 3080 = .ok (.aload_n 0, 1) := by decide +kernel
theorem dL_law_3081 : decode cL_law 3081 = .ok (.iload 4, 2) := by decide +kernel
theorem dL_law_3083 : decode cL_law 3083 = .ok (.iconst 1, 1) := by decide +kernel
theorem dL_law_3084 : decode cL_law 3084 = .ok (.iadd, 1) := by decide +kernel
theorem dL_law_3085 : decode cL_law 3085 = .ok (.iaload, 1) := by decide +kernel
theorem dL_law_3086 : decode cL_law 3086 = .ok (.aload_n 0, 1) := by decide +kernel
theorem dL_law_3087 : decode cL_law 3087 = .ok (.iload 4, 2) := by decide +kernel
theorem dL_law_3089 : decode cL_law 3089 = .ok (.iconst 2, 1) := by decide +kernel
theorem dL_law_3090 : decode cL_law 3090 = .ok (.iadd, 1) := by decide +kernel
theorem dL_law_3091 : decode cL_law 3091 = .ok (.iaload, 1) := by decide +kernel
theorem dL_law_3092 : decode cL_law 3092 = .ok (.invokevirtual 371, 3) := by decide +kernel
theorem dL_law_3095 : decode cL_law 3095 = .ok (.istore 6, 2) := by decide +kernel
theorem dL_law_3097 : decode cL_law 3097 = .ok (.aload_n 2, 1) := by decide +kernel
theorem dL_law_3098 : decode cL_law 3098 = .ok (.invokevirtual 175, 3) := by decide +kernel
theorem dL_law_3101 : decode cL_law 3101 = .ok (.iload 5, 2) := by decide +kernel
theorem dL_law_3103 : decode cL_law 3103 = .ok (.if_icmp .eq 5, 3) := by decide +kernel
theorem dL_law_3106 : decode cL_law 3106 = .ok (.iconst 0, 1) := by decide +kernel
theorem dL_law_3107 : decode cL_law 3107 = .ok (.ireturn, 1) := by decide +kernel
theorem dL_law_3108 : decode cL_law 3108 = .ok (.iload 5, 2) := by decide +kernel
theorem dL_law_3110 : decode cL_law 3110 = .ok (.ifCond .ne 15, 3) := by decide +kernel
theorem dL_law_3113 : decode cL_law 3113 = .ok (.aload_n 3, 1) := by decide +kernel
theorem dL_law_3114 : decode cL_law 3114 = .ok (.iconst 0, 1) := by decide +kernel
theorem dL_law_3115 : decode cL_law 3115 = .ok (.laload, 1) := by decide +kernel
theorem dL_law_3116 : decode cL_law 3116 = .ok (.iload 6, 2) := by decide +kernel
theorem dL_law_3118 : decode cL_law 3118 = .ok (.i2l, 1) := by decide +kernel
theorem dL_law_3119 : decode cL_law 3119 = .ok (.lcmp, 1) := by decide +kernel
theorem dL_law_3120 : decode cL_law 3120 = .ok (.ifCond .eq 5, 3) := by decide +kernel
theorem dL_law_3123 : decode cL_law 3123 = .ok (.iconst 0, 1) := by decide +kernel
theorem dL_law_3124 : decode cL_law 3124 = .ok (.ireturn, 1) := by decide +kernel
theorem dL_law_3125 : decode cL_law 3125 = .ok (.goto 327, 3) := by decide +kernel
theorem dL_law_3128 : decode cL_law 3128 = .ok (.aload_n 1, 1) := by decide +kernel
theorem dL_law_3129 : decode cL_law 3129 = .ok (.aload_n 0, 1) := by decide +kernel
theorem dL_law_3130 : decode cL_law 3130 = .ok (.iload 4, 2) := by decide +kernel
theorem dL_law_3132 : decode cL_law 3132 = .ok (.iconst 1, 1) := by decide +kernel
theorem dL_law_3133 : decode cL_law 3133 = .ok (.iadd, 1) := by decide +kernel
theorem dL_law_3134 : decode cL_law 3134 = .ok (.iaload, 1) := by decide +kernel
theorem dL_law_3135 : decode cL_law 3135 = .ok (.aload_n 3, 1) := by decide +kernel
theorem dL_law_3136 : decode cL_law 3136 = .ok (.invokestatic 372, 3) := by decide +kernel
theorem dL_law_3139 : decode cL_law 3139 = .ok (.istore 5, 2) := by decide +kernel
theorem dL_law_3141 : decode cL_law 3141 = .ok (.aload_n 2, 1) := by decide +kernel
theorem dL_law_3142 : decode cL_law 3142 = .ok (.aload_n 0, 1) := by decide +kernel
theorem dL_law_3143 : decode cL_law 3143 = .ok (.iload 4, 2) := by decide +kernel
theorem dL_law_3145 : decode cL_law 3145 = .ok (.iconst 1, 1) := by decide +kernel
theorem dL_law_3146 : decode cL_law 3146 = .ok (.iadd, 1) := by decide +kernel
theorem dL_law_3147 : decode cL_law 3147 = .ok (.iaload, 1) := by decide +kernel
theorem dL_law_3148 : decode cL_law 3148 = .ok (.invokevirtual 374, 3) := by decide +kernel
theorem dL_law_3151 : decode cL_law 3151 = .ok (.istore 6, 2) := by decide +kernel
theorem dL_law_3153 : decode cL_law 3153 = .ok (.aload_n 2, 1) := by decide +kernel
theorem dL_law_3154 : decode cL_law 3154 = .ok (.invokevirtual 175, 3) := by decide +kernel
theorem dL_law_3157 : decode cL_law 3157 = .ok (.iload 5, 2) := by decide +kernel
theorem dL_law_3159 : decode cL_law 3159 = .ok (.if_icmp .eq 5, 3) := by decide +kernel
theorem dL_law_3162 : decode cL_law 3162 = .ok (.iconst 0, 1) := by decide +kernel
theorem dL_law_3163 : decode cL_law 3163 = .ok (.ireturn, 1) := by decide +kernel
theorem dL_law_3164 : decode cL_law 3164 = .ok (.iload 5, 2) := by decide +kernel
theorem dL_law_3166 : decode cL_law 3166 = .ok (.ifCond .ne 15, 3) := by decide +kernel
theorem dL_law_3169 : decode cL_law 3169 = .ok (.aload_n 3, 1) := by decide +kernel
theorem dL_law_3170 : decode cL_law 3170 = .ok (.iconst 0, 1) := by decide +kernel
theorem dL_law_3171 : decode cL_law 3171 = .ok (.laload, 1) := by decide +kernel
theorem dL_law_3172 : decode cL_law 3172 = .ok (.iload 6, 2) := by decide +kernel
theorem dL_law_3174 : decode cL_law 3174 = .ok (.i2l, 1) := by decide +kernel
theorem dL_law_3175 : decode cL_law 3175 = .ok (.lcmp, 1) := by decide +kernel
theorem dL_law_3176 : decode cL_law 3176 = .ok (.ifCond .eq 5, 3) := by decide +kernel
theorem dL_law_3179 : decode cL_law 3179 = .ok (.iconst 0, 1) := by decide +kernel
theorem dL_law_3180 : decode cL_law 3180 = .ok (.ireturn, 1) := by decide +kernel
theorem dL_law_3181 : decode cL_law 3181 = .ok (.goto 271, 3) := by decide +kernel
theorem dL_law_3184 : decode cL_law 3184 = .ok (.aload_n 1, 1) := by decide +kernel
theorem dL_law_3185 : decode cL_law 3185 = .ok (.aload_n 0, 1) := by decide +kernel
theorem dL_law_3186 : decode cL_law 3186 = .ok (.iload 4, 2) := by decide +kernel
theorem dL_law_3188 : decode cL_law 3188 = .ok (.iconst 1, 1) := by decide +kernel
theorem dL_law_3189 : decode cL_law 3189 = .ok (.iadd, 1) := by decide +kernel
theorem dL_law_3190 : decode cL_law 3190 = .ok (.iaload, 1) := by decide +kernel
theorem dL_law_3191 : decode cL_law 3191 = .ok (.aload_n 3, 1) := by decide +kernel
theorem dL_law_3192 : decode cL_law 3192 = .ok (.invokestatic 375, 3) := by decide +kernel
theorem dL_law_3195 : decode cL_law 3195 = .ok (.istore 5, 2) := by decide +kernel
theorem dL_law_3197 : decode cL_law 3197 = .ok (.aload_n 2, 1) := by decide +kernel
theorem dL_law_3198 : decode cL_law 3198 = .ok (.aload_n 0, 1) := by decide +kernel
theorem dL_law_3199 : decode cL_law 3199 = .ok (.iload 4, 2) := by decide +kernel
theorem dL_law_3201 : decode cL_law 3201 = .ok (.iconst 1, 1) := by decide +kernel
theorem dL_law_3202 : decode cL_law 3202 = .ok (.iadd, 1) := by decide +kernel
theorem dL_law_3203 : decode cL_law 3203 = .ok (.iaload, 1) := by decide +kernel
theorem dL_law_3204 : decode cL_law 3204 = .ok (.invokevirtual 377, 3) := by decide +kernel
theorem dL_law_3207 : decode cL_law 3207 = .ok (.istore 6, 2) := by decide +kernel
theorem dL_law_3209 : decode cL_law 3209 = .ok (.aload_n 2, 1) := by decide +kernel
theorem dL_law_3210 : decode cL_law 3210 = .ok (.invokevirtual 175, 3) := by decide +kernel
theorem dL_law_3213 : decode cL_law 3213 = .ok (.iload 5, 2) := by decide +kernel
theorem dL_law_3215 : decode cL_law 3215 = .ok (.if_icmp .eq 5, 3) := by decide +kernel
theorem dL_law_3218 : decode cL_law 3218 = .ok (.iconst 0, 1) := by decide +kernel
theorem dL_law_3219 : decode cL_law 3219 = .ok (.ireturn, 1) := by decide +kernel
theorem dL_law_3220 : decode cL_law 3220 = .ok (.iload 5, 2) := by decide +kernel
theorem dL_law_3222 : decode cL_law 3222 = .ok (.ifCond .ne 15, 3) := by decide +kernel
theorem dL_law_3225 : decode cL_law 3225 = .ok (.aload_n 3, 1) := by decide +kernel
theorem dL_law_3226 : decode cL_law 3226 = .ok (.iconst 0, 1) := by decide +kernel
theorem dL_law_3227 : decode cL_law 3227 = .ok (.laload, 1) := by decide +kernel
theorem dL_law_3228 : decode cL_law 3228 = .ok (.iload 6, 2) := by decide +kernel
theorem dL_law_3230 : decode cL_law 3230 = .ok (.i2l, 1) := by decide +kernel
theorem dL_law_3231 : decode cL_law 3231 = .ok (.lcmp, 1) := by decide +kernel
theorem dL_law_3232 : decode cL_law 3232 = .ok (.ifCond .eq 5, 3) := by decide +kernel
theorem dL_law_3235 : decode cL_law 3235 = .ok (.iconst 0, 1) := by decide +kernel
theorem dL_law_3236 : decode cL_law 3236 = .ok (.ireturn, 1) := by decide +kernel
theorem dL_law_3237 : decode cL_law 3237 = .ok (.goto 215, 3) := by decide +kernel
theorem dL_law_3240 : decode cL_law 3240 = .ok (.aload_n 1, 1) := by decide +kernel
theorem dL_law_3241 : decode cL_law 3241 = .ok (.aload_n 0, 1) := by decide +kernel
theorem dL_law_3242 : decode cL_law 3242 = .ok (.iload 4, 2) := by decide +kernel
theorem dL_law_3244 : decode cL_law 3244 = .ok (.iconst 1, 1) := by decide +kernel
theorem dL_law_3245 : decode cL_law 3245 = .ok (.iadd, 1) := by decide +kernel
theorem dL_law_3246 : decode cL_law 3246 = .ok (.iaload, 1) := by decide +kernel
theorem dL_law_3247 : decode cL_law 3247 = .ok (.aload_n 3, 1) := by decide +kernel
theorem dL_law_3248 : decode cL_law 3248 = .ok (.invokestatic 378, 3) := by decide +kernel
theorem dL_law_3251 : decode cL_law 3251 = .ok (.istore 5, 2) := by decide +kernel
theorem dL_law_3253 : decode cL_law 3253 = .ok (.aload_n 2, 1) := by decide +kernel
theorem dL_law_3254 : decode cL_law 3254 = .ok (.aload_n 0, 1) := by decide +kernel
theorem dL_law_3255 : decode cL_law 3255 = .ok (.iload 4, 2) := by decide +kernel
theorem dL_law_3257 : decode cL_law 3257 = .ok (.iconst 1, 1) := by decide +kernel
theorem dL_law_3258 : decode cL_law 3258 = .ok (.iadd, 1) := by decide +kernel
theorem dL_law_3259 : decode cL_law 3259 = .ok (.iaload, 1) := by decide +kernel
theorem dL_law_3260 : decode cL_law 3260 = .ok (.invokevirtual 380, 3) := by decide +kernel
theorem dL_law_3263 : decode cL_law 3263 = .ok (.istore 6, 2) := by decide +kernel
theorem dL_law_3265 : decode cL_law 3265 = .ok (.aload_n 2, 1) := by decide +kernel
theorem dL_law_3266 : decode cL_law 3266 = .ok (.invokevirtual 175, 3) := by decide +kernel
theorem dL_law_3269 : decode cL_law 3269 = .ok (.iload 5, 2) := by decide +kernel
theorem dL_law_3271 : decode cL_law 3271 = .ok (.if_icmp .eq 5, 3) := by decide +kernel
theorem dL_law_3274 : decode cL_law 3274 = .ok (.iconst 0, 1) := by decide +kernel
theorem dL_law_3275 : decode cL_law 3275 = .ok (.ireturn, 1) := by decide +kernel
theorem dL_law_3276 : decode cL_law 3276 = .ok (.iload 5, 2) := by decide +kernel
theorem dL_law_3278 : decode cL_law 3278 = .ok (.ifCond .ne 15, 3) := by decide +kernel
theorem dL_law_3281 : decode cL_law 3281 = .ok (.aload_n 3, 1) := by decide +kernel
theorem dL_law_3282 : decode cL_law 3282 = .ok (.iconst 0, 1) := by decide +kernel
theorem dL_law_3283 : decode cL_law 3283 = .ok (.laload, 1) := by decide +kernel
theorem dL_law_3284 : decode cL_law 3284 = .ok (.iload 6, 2) := by decide +kernel
theorem dL_law_3286 : decode cL_law 3286 = .ok (.i2l, 1) := by decide +kernel
theorem dL_law_3287 : decode cL_law 3287 = .ok (.lcmp, 1) := by decide +kernel
theorem dL_law_3288 : decode cL_law 3288 = .ok (.ifCond .eq 5, 3) := by decide +kernel
theorem dL_law_3291 : decode cL_law 3291 = .ok (.iconst 0, 1) := by decide +kernel
theorem dL_law_3292 : decode cL_law 3292 = .ok (.ireturn, 1) := by decide +kernel
theorem dL_law_3293 : decode cL_law 3293 = .ok (.goto 159, 3) := by decide +kernel
theorem dL_law_3296 : decode cL_law 3296 = .ok (.aload_n 1, 1) := by decide +kernel
theorem dL_law_3297 : decode cL_law 3297 = .ok (.aload_n 0, 1) := by decide +kernel
theorem dL_law_3298 : decode cL_law 3298 = .ok (.iload 4, 2) := by decide +kernel
theorem dL_law_3300 : decode cL_law 3300 = .ok (.iconst 1, 1) := by decide +kernel
theorem dL_law_3301 : decode cL_law 3301 = .ok (.iadd, 1) := by decide +kernel
theorem dL_law_3302 : decode cL_law 3302 = .ok (.iaload, 1) := by decide +kernel
theorem dL_law_3303 : decode cL_law 3303 = .ok (.aload_n 3, 1) := by decide +kernel
theorem dL_law_3304 : decode cL_law 3304 = .ok (.invokestatic 381, 3) := by decide +kernel
theorem dL_law_3307 : decode cL_law 3307 = .ok (.istore 5, 2) := by decide +kernel
theorem dL_law_3309 : decode cL_law 3309 = .ok (.aload_n 2, 1) := by decide +kernel
theorem dL_law_3310 : decode cL_law 3310 = .ok (.aload_n 0, 1) := by decide +kernel
theorem dL_law_3311 : decode cL_law 3311 = .ok (.iload 4, 2) := by decide +kernel
theorem dL_law_3313 : decode cL_law 3313 = .ok (.iconst 1, 1) := by decide +kernel
theorem dL_law_3314 : decode cL_law 3314 = .ok (.iadd, 1) := by decide +kernel
theorem dL_law_3315 : decode cL_law 3315 = .ok (.iaload, 1) := by decide +kernel
theorem dL_law_3316 : decode cL_law 3316 = .ok (.invokevirtual 383, 3) := by decide +kernel
theorem dL_law_3319 : decode cL_law 3319 = .ok (.istore 6, 2) := by decide +kernel
theorem dL_law_3321 : decode cL_law 3321 = .ok (.aload_n 2, 1) := by decide +kernel
theorem dL_law_3322 : decode cL_law 3322 = .ok (.invokevirtual 175, 3) := by decide +kernel
theorem dL_law_3325 : decode cL_law 3325 = .ok (.iload 5, 2) := by decide +kernel
theorem dL_law_3327 : decode cL_law 3327 = .ok (.if_icmp .eq 5, 3) := by decide +kernel
theorem dL_law_3330 : decode cL_law 3330 = .ok (.iconst 0, 1) := by decide +kernel
theorem dL_law_3331 : decode cL_law 3331 = .ok (.ireturn, 1) := by decide +kernel
theorem dL_law_3332 : decode cL_law 3332 = .ok (.iload 5, 2) := by decide +kernel
theorem dL_law_3334 : decode cL_law 3334 = .ok (.ifCond .ne 15, 3) := by decide +kernel
theorem dL_law_3337 : decode cL_law 3337 = .ok (.aload_n 3, 1) := by decide +kernel
theorem dL_law_3338 : decode cL_law 3338 = .ok (.iconst 0, 1) := by decide +kernel
theorem dL_law_3339 : decode cL_law 3339 = .ok (.laload, 1) := by decide +kernel
theorem dL_law_3340 : decode cL_law 3340 = .ok (.iload 6, 2) := by decide +kernel
theorem dL_law_3342 : decode cL_law 3342 = .ok (.i2l, 1) := by decide +kernel
theorem dL_law_3343 : decode cL_law 3343 = .ok (.lcmp, 1) := by decide +kernel
theorem dL_law_3344 : decode cL_law 3344 = .ok (.ifCond .eq 5, 3) := by decide +kernel
theorem dL_law_3347 : decode cL_law 3347 = .ok (.iconst 0, 1) := by decide +kernel
theorem dL_law_3348 : decode cL_law 3348 = .ok (.ireturn, 1) := by decide +kernel
theorem dL_law_3349 : decode cL_law 3349 = .ok (.goto 103, 3) := by decide +kernel
theorem dL_law_3352 : decode cL_law 3352 = .ok (.aload_n 1, 1) := by decide +kernel
theorem dL_law_3353 : decode cL_law 3353 = .ok (.aload_n 0, 1) := by decide +kernel
theorem dL_law_3354 : decode cL_law 3354 = .ok (.iload 4, 2) := by decide +kernel
theorem dL_law_3356 : decode cL_law 3356 = .ok (.iconst 1, 1) := by decide +kernel
theorem dL_law_3357 : decode cL_law 3357 = .ok (.iadd, 1) := by decide +kernel
theorem dL_law_3358 : decode cL_law 3358 = .ok (.iaload, 1) := by decide +kernel
theorem dL_law_3359 : decode cL_law 3359 = .ok (.aload_n 3, 1) := by decide +kernel
theorem dL_law_3360 : decode cL_law 3360 = .ok (.invokestatic 384, 3) := by decide +kernel
theorem dL_law_3363 : decode cL_law 3363 = .ok (.istore 5, 2) := by decide +kernel
theorem dL_law_3365 : decode cL_law 3365 = .ok (.aload_n 2, 1) := by decide +kernel
theorem dL_law_3366 : decode cL_law 3366 = .ok (.aload_n 0, 1) := by decide +kernel
theorem dL_law_3367 : decode cL_law 3367 = .ok (.iload 4, 2) := by decide +kernel
theorem dL_law_3369 : decode cL_law 3369 = .ok (.iconst 1, 1) := by decide +kernel
theorem dL_law_3370 : decode cL_law 3370 = .ok (.iadd, 1) := by decide +kernel
theorem dL_law_3371 : decode cL_law 3371 = .ok (.iaload, 1) := by decide +kernel
theorem dL_law_3372 : decode cL_law 3372 = .ok (.invokevirtual 386, 3) := by decide +kernel
theorem dL_law_3375 : decode cL_law 3375 = .ok (.istore 6, 2) := by decide +kernel
theorem dL_law_3377 : decode cL_law 3377 = .ok (.aload_n 2, 1) := by decide +kernel
theorem dL_law_3378 : decode cL_law 3378 = .ok (.invokevirtual 175, 3) := by decide +kernel
theorem dL_law_3381 : decode cL_law 3381 = .ok (.iload 5, 2) := by decide +kernel
theorem dL_law_3383 : decode cL_law 3383 = .ok (.if_icmp .eq 5, 3) := by decide +kernel
theorem dL_law_3386 : decode cL_law 3386 = .ok (.iconst 0, 1) := by decide +kernel
theorem dL_law_3387 : decode cL_law 3387 = .ok (.ireturn, 1) := by decide +kernel
theorem dL_law_3388 : decode cL_law 3388 = .ok (.iload 5, 2) := by decide +kernel
theorem dL_law_3390 : decode cL_law 3390 = .ok (.ifCond .ne 15, 3) := by decide +kernel
theorem dL_law_3393 : decode cL_law 3393 = .ok (.aload_n 3, 1) := by decide +kernel
theorem dL_law_3394 : decode cL_law 3394 = .ok (.iconst 0, 1) := by decide +kernel
theorem dL_law_3395 : decode cL_law 3395 = .ok (.laload, 1) := by decide +kernel
theorem dL_law_3396 : decode cL_law 3396 = .ok (.iload 6, 2) := by decide +kernel
theorem dL_law_3398 : decode cL_law 3398 = .ok (.i2l, 1) := by decide +kernel
theorem dL_law_3399 : decode cL_law 3399 = .ok (.lcmp, 1) := by decide +kernel
theorem dL_law_3400 : decode cL_law 3400 = .ok (.ifCond .eq 5, 3) := by decide +kernel
theorem dL_law_3403 : decode cL_law 3403 = .ok (.iconst 0, 1) := by decide +kernel
theorem dL_law_3404 : decode cL_law 3404 = .ok (.ireturn, 1) := by decide +kernel
theorem dL_law_3405 : decode cL_law 3405 = .ok (.goto 47, 3) := by decide +kernel
theorem dL_law_3408 : decode cL_law 3408 = .ok (.aload_n 1, 1) := by decide +kernel
theorem dL_law_3409 : decode cL_law 3409 = .ok (.aload_n 3, 1) := by decide +kernel
theorem dL_law_3410 : decode cL_law 3410 = .ok (.invokestatic 387, 3) := by decide +kernel
theorem dL_law_3413 : decode cL_law 3413 = .ok (.istore 5, 2) := by decide +kernel
theorem dL_law_3415 : decode cL_law 3415 = .ok (.aload_n 2, 1) := by decide +kernel
theorem dL_law_3416 : decode cL_law 3416 = .ok (.invokevirtual 389, 3) := by decide +kernel
theorem dL_law_3419 : decode cL_law 3419 = .ok (.istore 6, 2) := by decide +kernel
theorem dL_law_3421 : decode cL_law 3421 = .ok (.aload_n 2, 1) := by decide +kernel
theorem dL_law_3422 : decode cL_law 3422 = .ok (.invokevirtual 175, 3) := by decide +kernel
theorem dL_law_3425 : decode cL_law 3425 = .ok (.iload 5, 2) := by decide +kernel
theorem dL_law_3427 : decode cL_law 3427 = .ok (.if_icmp .eq 5, 3) := by decide +kernel
theorem dL_law_3430 : decode cL_law 3430 = .ok (.iconst 0, 1) := by decide +kernel
theorem dL_law_3431 : decode cL_law 3431 = .ok (.ireturn, 1) := by decide +kernel
theorem dL_law_3432 : decode cL_law 3432 = .ok (.iload 5, 2) := by decide +kernel
theorem dL_law_3434 : decode cL_law 3434 = .ok (.ifCond .ne 15, 3) := by decide +kernel
theorem dL_law_3437 : decode cL_law 3437 = .ok (.aload_n 3, 1) := by decide +kernel
theorem dL_law_3438 : decode cL_law 3438 = .ok (.iconst 0, 1) := by decide +kernel
theorem dL_law_3439 : decode cL_law 3439 = .ok (.laload, 1) := by decide +kernel
theorem dL_law_3440 : decode cL_law 3440 = .ok (.iload 6, 2) := by decide +kernel
theorem dL_law_3442 : decode cL_law 3442 = .ok (.i2l, 1) := by decide +kernel
theorem dL_law_3443 : decode cL_law 3443 = .ok (.lcmp, 1) := by decide +kernel
theorem dL_law_3444 : decode cL_law 3444 = .ok (.ifCond .eq 5, 3) := by decide +kernel
theorem dL_law_3447 : decode cL_law 3447 = .ok (.iconst 0, 1) := by decide +kernel
theorem dL_law_3448 : decode cL_law 3448 = .ok (.ireturn, 1) := by decide +kernel
theorem dL_law_3449 : decode cL_law 3449 = .ok (.goto 3, 3) := by decide +kernel
theorem dL_law_3452 : decode cL_law 3452 = .ok (.iinc 4 6, 3) := by decide +kernel
theorem dL_law_3455 : decode cL_law 3455 = .ok (.goto (-3432), 3) := by decide +kernel
theorem dL_law_3458 : decode cL_law 3458 = .ok (.iconst 1, 1) := by decide +kernel
theorem dL_law_3459 : decode cL_law 3459 = .ok (.ireturn, 1) := by decide +kernel
