theorem dL_law_3208 : decode cL_law 3208 = .ok (.iload 6, 2) := by decide +kernel
theorem dL_law_3210 : decode cL_law 3210 = .ok (.i2l, 1) := by decide +kernel
theorem dL_law_3211 : decode cL_law 3211 = .ok (.lcmp, 1) := by decide +kernel
theorem dL_law_3212 : decode cL_law 3212 = .ok (.ifCond .eq 5, 3) := by decide +kernel
theorem dL_law_3215 : decode cL_law 3215 = .ok (.iconst 0, 1) := by decide +kernel
theorem dL_law_3216 : decode cL_law 3216 = .ok (.ireturn, 1) := by decide +kernel
theorem dL_law_3217 : decode cL_law 3217 = .ok (.goto 339, 3) := by decide +kernel
theorem dL_law_3220 : decode cL_law 3220 = .ok (.aload_n 1, 1) := by decide +kernel
theorem dL_law_3221 : decode cL_law 3221 = .ok (.aload_n 3, 1) := by decide +kernel
theorem dL_law_3222 : decode cL_law 3222 = .ok (.invokestatic 390, 3) := by decide +kernel
theorem dL_law_3225 : decode cL_law 3225 = .ok (.istore 5, 2) := by decide +kernel
theorem dL_law_3227 : decode cL_law 3227 = .ok (.aload_n 2, 1) := by decide +kernel
theorem dL_law_3228 : decode cL_law 3228 = .ok (.invokevirtual 392, 3) := by decide +kernel
theorem dL_law_3231 : decode cL_law 3231 = .ok (.istore 6, 2) := by decide +kernel
theorem dL_law_3233 : decode cL_law 3233 = .ok (.aload_n 2, 1) := by decide +kernel
theorem dL_law_3234 : decode cL_law 3234 = .ok (.invokevirtual 190, 3) := by decide +kernel
theorem dL_law_3237 : decode cL_law 3237 = .ok (.iload 5, 2) := by decide +kernel
theorem dL_law_3239 : decode cL_law 3239 = .ok (.if_icmp .eq 5, 3) := by decide +kernel
theorem dL_law_3242 : decode cL_law 3242 = .ok (.iconst 0, 1) := by decide +kernel
theorem dL_law_3243 : decode cL_law 3243 = .ok (.ireturn, 1) := by decide +kernel
theorem dL_law_3244 : decode cL_law 3244 = .ok (.iload 5, 2) := by decide +kernel
theorem dL_law_3246 : decode cL_law 3246 = .ok (.ifCond .ne 15, 3) := by decide +kernel
theorem dL_law_3249 : decode cL_law 3249 = .ok (.aload_n 3, 1) := by decide +kernel
theorem dL_law_3250 : decode cL_law 3250 = .ok (.iconst 0, 1) := by decide +kernel
theorem dL_law_3251 : decode cL_law 3251 = .ok (.laload, 1) := by decide +kernel
theorem dL_law_3252 : decode cL_law 3252 = .ok (.iload 6, 2) := by decide +kernel
theorem dL_law_3254 : decode cL_law 3254 = .ok (.i2l, 1) := by decide +kernel
theorem dL_law_3255 : decode cL_law 3255 = .ok (.lcmp, 1) := by decide +kernel
theorem dL_law_3256 : decode cL_law 3256 = .ok (.ifCond .eq 5, 3) := by decide +kernel
theorem dL_law_3259 : decode cL_law 3259 = .ok (.iconst 0, 1) := by decide +kernel
theorem dL_law_3260 : decode cL_law 3260 = .ok (.ireturn, 1) := by decide +kernel
theorem dL_law_3261 : decode cL_law 3261 = .ok (.goto 295, 3) := by decide +kernel
theorem dL_law_3264 : decode cL_law 3264 = .ok (.aload_n 1, 1) := by decide +kernel
theorem dL_law_3265 : decode cL_law 3265 = .ok (.invokevirtual 393, 3) := by decide +kernel
theorem dL_law_3268 : decode cL_law 3268 = .ok (.aload_n 2, 1) := by decide +kernel
theorem dL_law_3269 : decode cL_law 3269 = .ok (.invokevirtual 396, 3) := by decide +kernel
theorem dL_law_3272 : decode cL_law 3272 = .ok (.if_icmp .eq 284, 3) := by decide +kernel
theorem dL_law_3275 : decode cL_law 3275 = .ok (.iconst 0, 1) := by decide +kernel
theorem dL_law_3276 : decode cL_law 3276 = .ok (.ireturn, 1) := by decide +kernel
theorem dL_law_3277 : decode cL_law 3277 = .ok (.aload_n 1, 1) := by decide +kernel
theorem dL_law_3278 : decode cL_law 3278 = .ok (.invokevirtual 397, 3) := by decide +kernel
theorem dL_law_3281 : decode cL_law 3281 = .ok (.aload_n 2, 1) := by decide +kernel
theorem dL_law_3282 : decode cL_law 3282 = .ok (.invokevirtual 400, 3) := by decide +kernel
theorem dL_law_3285 : decode cL_law 3285 = .ok (.if_icmp .eq 271, 3) := by decide +kernel
theorem dL_law_3288 : decode cL_law 3288 = .ok (.iconst 0, 1) := by decide +kernel
theorem dL_law_3289 : decode cL_law 3289 = .ok (.ireturn, 1) := by decide +kernel
theorem dL_law_3290 : decode cL_law 3290 = .ok (.aload_n 1, 1) := by decide +kernel
theorem dL_law_3291 : decode cL_law 3291 = .ok (.invokevirtual 401, 3) := by decide +kernel
theorem dL_law_3294 : decode cL_law 3294 = .ok (.aload_n 2, 1) := by decide +kernel
theorem dL_law_3295 : decode cL_law 3295 = .ok (.invokevirtual 404, 3) := by decide +kernel
theorem dL_law_3298 : decode cL_law 3298 = .ok (.if_icmp .eq 258, 3) := by decide +kernel
theorem dL_law_3301 : decode cL_law 3301 = .ok (.iconst 0, 1) := by decide +kernel
theorem dL_law_3302 : decode cL_law 3302 = .ok (.ireturn, 1) := by decide +kernel
theorem dL_law_3303 : decode cL_law 3303 = .ok (.aload_n 1, 1) := by decide +kernel
theorem dL_law_3304 : decode cL_law 3304 = .ok (.aload_n 0, 1) := by decide +kernel
theorem dL_law_3305 : decode cL_law 3305 = .ok (.iload 4, 2) := by decide +kernel
theorem dL_law_3307 : decode cL_law 3307 = .ok (.iconst 1, 1) := by decide +kernel
theorem dL_law_3308 : decode cL_law 3308 = .ok (.iadd, 1) := by decide +kernel
theorem dL_law_3309 : decode cL_law 3309 = .ok (.iaload, 1) := by decide +kernel
theorem dL_law_3310 : decode cL_law 3310 = .ok (.aload_n 3, 1) := by decide +kernel
theorem dL_law_3311 : decode cL_law 3311 = .ok (.invokestatic 405, 3) := by decide +kernel
theorem dL_law_3314 : decode cL_law 3314 = .ok (.istore 5, 2) := by decide +kernel
theorem dL_law_3316 : decode cL_law 3316 = .ok (.aload_n 2, 1) := by decide +kernel
theorem dL_law_3317 : decode cL_law 3317 = .ok (.aload_n 0, 1) := by decide +kernel
theorem dL_law_3318 : decode cL_law 3318 = .ok (.iload 4, 2) := by decide +kernel
theorem dL_law_3320 : decode cL_law 3320 = .ok (.iconst 1, 1) := by decide +kernel
theorem dL_law_3321 : decode cL_law 3321 = .ok (.iadd, 1) := by decide +kernel
theorem dL_law_3322 : decode cL_law 3322 = .ok (.iaload, 1) := by decide +kernel
theorem dL_law_3323 : decode cL_law 3323 = .ok (.invokevirtual 407, 3) := by decide +kernel
theorem dL_law_3326 : decode cL_law 3326 = .ok (.istore 6, 2) := by decide +kernel
theorem dL_law_3328 : decode cL_law 3328 = .ok (.aload_n 2, 1) := by decide +kernel
theorem dL_law_3329 : decode cL_law 3329 = .ok (.invokevirtual 190, 3) := by decide +kernel
theorem dL_law_3332 : decode cL_law 3332 = .ok (.iload 5, 2) := by decide +kernel
theorem dL_law_3334 : decode cL_law 3334 = .ok (.if_icmp .eq 5, 3) := by decide +kernel
theorem dL_law_3337 : decode cL_law 3337 = .ok (.iconst 0, 1) := by decide +kernel
theorem dL_law_3338 : decode cL_law 3338 = .ok (.ireturn, 1) := by decide +kernel
theorem dL_law_3339 : decode cL_law 3339 = .ok (.iload 5, 2) := by decide +kernel
theorem dL_law_3341 : decode cL_law 3341 = .ok (.ifCond .ne 15, 3) := by decide +kernel
theorem dL_law_3344 : decode cL_law 3344 = .ok (.aload_n 3, 1) := by decide +kernel
theorem dL_law_3345 : decode cL_law 3345 = .ok (.iconst 0, 1) := by decide +kernel
theorem dL_law_3346 : decode cL_law 3346 = .ok (.laload, 1) := by decide +kernel
theorem dL_law_3347 : decode cL_law 3347 = .ok (.iload 6, 2) := by decide +kernel
theorem dL_law_3349 : decode cL_law 3349 = .ok (.i2l, 1) := by decide +kernel
theorem dL_law_3350 : decode cL_law 3350 = .ok (.lcmp, 1) := by decide +kernel
theorem dL_law_3351 : decode cL_law 3351 = .ok (.ifCond .eq 5, 3) := by decide +kernel
theorem dL_law_3354 : decode cL_law 3354 = .ok (.iconst 0, 1) := by decide +kernel
theorem dL_law_3355 : decode cL_law 3355 = .ok (.ireturn, 1) := by decide +kernel
theorem dL_law_3356 : decode cL_law 3356 = .ok (.goto 200, 3) := by decide +kernel
theorem dL_law_3359 : decode cL_law 3359 = .ok (.aload_n 1, 1) := by decide +kernel
theorem dL_law_3360 : decode cL_law 3360 = .ok (.aload_n 3, 1) := by decide +kernel
theorem dL_law_3361 : decode cL_law 3361 = .ok (.invokestatic 408, 3) := by decide +kernel
theorem dL_law_3364 : decode cL_law 3364 = .ok (.istore 5, 2) := by decide +kernel
theorem dL_law_3366 : decode cL_law 3366 = .ok (.aload_n 2, 1) := by decide +kernel
theorem dL_law_3367 : decode cL_law 3367 = .ok (.invokevirtual 410, 3) := by decide +kernel
theorem dL_law_3370 : decode cL_law 3370 = .ok (.istore 6, 2) := by decide +kernel
theorem dL_law_3372 : decode cL_law 3372 = .ok (.aload_n 2, 1) := by decide +kernel
theorem dL_law_3373 : decode cL_law 3373 = .ok (.invokevirtual 190, 3) := by decide +kernel
theorem dL_law_3376 : decode cL_law 3376 = .ok (.iload 5, 2) := by decide +kernel
theorem dL_law_3378 : decode cL_law 3378 = .ok (.if_icmp .eq 5, 3) := by decide +kernel
theorem dL_law_3381 : decode cL_law 3381 = .ok (.iconst 0, 1) := by decide +kernel
theorem dL_law_3382 : decode cL_law 3382 = .ok (.ireturn, 1) := by decide +kernel
theorem dL_law_3383 : decode cL_law 3383 = .ok (.iload 5, 2) := by decide +kernel
theorem dL_law_3385 : decode cL_law 3385 = .ok (.ifCond .ne 15, 3) := by decide +kernel
theorem dL_law_3388 : decode cL_law 3388 = .ok (.aload_n 3, 1) := by decide +kernel
theorem dL_law_3389 : decode cL_law 3389 = .ok (.iconst 0, 1) := by decide +kernel
theorem dL_law_3390 : decode cL_law 3390 = .ok (.laload, 1) := by decide +kernel
theorem dL_law_3391 : decode cL_law 3391 = .ok (.iload 6, 2) := by decide +kernel
theorem dL_law_3393 : decode cL_law 3393 = .ok (.i2l, 1) := by decide +kernel
theorem dL_law_3394 : decode cL_law 3394 = .ok (.lcmp, 1) := by decide +kernel
theorem dL_law_3395 : decode cL_law 3395 = .ok (.ifCond .eq 5, 3) := by decide +kernel
theorem dL_law_3398 : decode cL_law 3398 = .ok (.iconst 0, 1) := by decide +kernel
theorem dL_law_3399 : decode cL_law 3399 = .ok (.ireturn, 1) := by decide +kernel
theorem dL_law_3400 : decode cL_law 3400 = .ok (.goto 156, 3) := by decide +kernel
theorem dL_law_3403 : decode cL_law 3403 = .ok (.aload_n 1, 1) := by decide +kernel
theorem dL_law_3404 : decode cL_law 3404 = .ok (.aload_n 3, 1) := by decide +kernel
theorem dL_law_3405 : decode cL_law 3405 = .ok (.invokestatic 411, 3) := by decide +kernel
theorem dL_law_3408 : decode cL_law 3408 = .ok (.istore 5, 2) := by decide +kernel
theorem dL_law_3410 : decode cL_law 3410 = .ok (.aload_n 2, 1) := by decide +kernel
theorem dL_law_3411 : decode cL_law 3411 = .ok (.invokevirtual 413, 3) := by decide +kernel
theorem dL_law_3414 : decode cL_law 3414 = .ok (.istore 6, 2) := by decide +kernel
theorem dL_law_3416 : decode cL_law 3416 = .ok (.aload_n 2, 1) := by decide +kernel
theorem dL_law_3417 : decode cL_law 3417 = .ok (.invokevirtual 190, 3) := by decide +kernel
theorem dL_law_3420 : decode cL_law 3420 = .ok (.iload 5, 2) := by decide +kernel
theorem dL_law_3422 : decode cL_law 3422 = .ok (.if_icmp .eq 5, 3) := by decide +kernel
theorem dL_law_3425 : decode cL_law 3425 = .ok (.iconst 0, 1) := by decide +kernel
theorem dL_law_3426 : decode cL_law 3426 = .ok (.ireturn, 1) := by decide +kernel
theorem dL_law_3427 : decode cL_law 3427 = .ok (.iload 5, 2) := by decide +kernel
theorem dL_law_3429 : decode cL_law 3429 = .ok (.ifCond .ne 15, 3) := by decide +kernel
theorem dL_law_3432 : decode cL_law 3432 = .ok (.aload_n 3, 1) := by decide +kernel
theorem dL_law_3433 : decode cL_law 3433 = .ok (.iconst 0, 1) := by decide +kernel
theorem dL_law_3434 : decode cL_law 3434 = .ok (.laload, 1) := by decide +kernel
theorem dL_law_3435 : decode cL_law 3435 = .ok (.iload 6, 2) := by decide +kernel
theorem dL_law_3437 : decode cL_law 3437 = .ok (.i2l, 1) := by decide +kernel
theorem dL_law_3438 : decode cL_law 3438 = .ok (.lcmp, 1) := by decide +kernel
theorem dL_law_3439 : decode cL_law 3439 = .ok (.ifCond .eq 5, 3) := by decide +kernel
theorem dL_law_3442 : decode cL_law 3442 = .ok (.iconst 0, 1) := by decide +kernel
theorem dL_law_3443 : decode cL_law 3443 = .ok (.ireturn, 1) := by decide +kernel
theorem dL_law_3444 : decode cL_law 3444 = .ok (.goto 112, 3) := by decide +kernel
theorem dL_law_3447 : decode cL_law 3447 = .ok (.aload_n 1, 1) := by decide +kernel
theorem dL_law_3448 : decode cL_law 3448 = .ok (.invokevirtual 414, 3) := by decide +kernel
theorem dL_law_3451 : decode cL_law 3451 = .ok (.aload_n 2, 1) := by decide +kernel
theorem dL_law_3452 : decode cL_law 3452 = .ok (.invokevirtual 417, 3) := by decide +kernel
theorem dL_law_3455 : decode cL_law 3455 = .ok (.if_icmp .eq 101, 3) := by decide +kernel
theorem dL_law_3458 : decode cL_law 3458 = .ok (.iconst 0, 1) := by decide +kernel
theorem dL_law_3459 : decode cL_law 3459 = .ok (.ireturn, 1) := by decide +kernel
theorem dL_law_3460 : decode cL_law 3460 = .ok (.aload_n 1, 1) := by decide +kernel
theorem dL_law_3461 : decode cL_law 3461 = .ok (.invokevirtual 418, 3) := by decide +kernel
theorem dL_law_3464 : decode cL_law 3464 = .ok (.dstore 5, 2) := by decide +kernel
theorem dL_law_3466 : decode cL_law 3466 = .ok (.aload_n 2, 1) := by decide +kernel
theorem dL_law_3467 : decode cL_law 3467 = .ok (.invokevirtual 422, 3) := by decide +kernel
theorem dL_law_3470 : decode cL_law 3470 = .ok (.dstore 7, 2) := by decide +kernel
theorem dL_law_3472 : decode cL_law 3472 = .ok (.dload 5, 2) := by decide +kernel
theorem dL_law_3474 : decode cL_law 3474 = .ok (.dload 7, 2) := by decide +kernel
theorem dL_law_3476 : decode cL_law 3476 = .ok (.dcmp .l, 1) := by decide +kernel
theorem dL_law_3477 : decode cL_law 3477 = .ok (.ifCond .eq 21, 3) := by decide +kernel
theorem dL_law_3480 : decode cL_law 3480 = .ok (.dload 5, 2) := by decide +kernel
theorem dL_law_3482 : decode cL_law 3482 = .ok (.dload 5, 2) := by decide +kernel
theorem dL_law_3484 : decode cL_law 3484 = .ok (.dcmp .l, 1) := by decide +kernel
theorem dL_law_3485 : decode cL_law 3485 = .ok (.ifCond .eq 11, 3) := by decide +kernel
theorem dL_law_3488 : decode cL_law 3488 = .ok (.dload 7, 2) := by decide +kernel
theorem dL_law_3490 : decode cL_law 3490 = .ok (.dload 7, 2) := by decide +kernel
theorem dL_law_3492 : decode cL_law 3492 = .ok (.dcmp .l, 1) := by decide +kernel
theorem dL_law_3493 : decode cL_law 3493 = .ok (.ifCond .ne 5, 3) := by decide +kernel
theorem dL_law_3496 : decode cL_law 3496 = .ok (.iconst 0, 1) := by decide +kernel
theorem dL_law_3497 : decode cL_law 3497 = .ok (.ireturn, 1) := by decide +kernel
theorem dL_law_3498 : decode cL_law 3498 = .ok (.goto 58, 3) := by decide +kernel
theorem dL_law_3501 : decode cL_law 3501 = .ok (.aload_n 1, 1) := by decide +kernel
theorem dL_law_3502 : decode cL_law 3502 = .ok (.invokevirtual 423, 3) := by decide +kernel
theorem dL_law_3505 : decode cL_law 3505 = .ok (.dstore 5, 2) := by decide +kernel
theorem dL_law_3507 : decode cL_law 3507 = .ok (.aload_n 2, 1) := by decide +kernel
theorem dL_law_3508 : decode cL_law 3508 = .ok (.invokevirtual 426, 3) := by decide +kernel
theorem dL_law_3511 : decode cL_law 3511 = .ok (.dstore 7, 2) := by decide +kernel
theorem dL_law_3513 : decode cL_law 3513 = .ok (.dload 5, 2) := by decide +kernel
theorem dL_law_3515 : decode cL_law 3515 = .ok (.dload 7, 2) := by decide +kernel
theorem dL_law_3517 : decode cL_law 3517 = .ok (.dcmp .l, 1) := by decide +kernel
theorem dL_law_3518 : decode cL_law 3518 = .ok (.ifCond .eq 21, 3) := by decide +kernel
theorem dL_law_3521 : decode cL_law 3521 = .ok (.dload 5, 2) := by decide +kernel
theorem dL_law_3523 : decode cL_law 3523 = .ok (.dload 5, 2) := by decide +kernel
theorem dL_law_3525 : decode cL_law 3525 = .ok (.dcmp .l, 1) := by decide +kernel
theorem dL_law_3526 : decode cL_law 3526 = .ok (.ifCond .eq 11, 3) := by decide +kernel
theorem dL_law_3529 : decode cL_law 3529 = .ok (.dload 7, 2) := by decide +kernel
theorem dL_law_3531 : decode cL_law 3531 = .ok (.dload 7, 2) := by decide +kernel
theorem dL_law_3533 : decode cL_law 3533 = .ok (.dcmp .l, 1) := by decide +kernel
theorem dL_law_3534 : decode cL_law 3534 = .ok (.ifCond .ne 5, 3) := by decide +kernel
theorem dL_law_3537 : decode cL_law 3537 = .ok (.iconst 0, 1) := by decide +kernel
theorem dL_law_3538 : decode cL_law 3538 = .ok (.ireturn, 1) := by decide +kernel
theorem dL_law_3539 : decode cL_law 3539 = .ok (.goto 17, 3) := by decide +kernel
theorem dL_law_3542 : decode cL_law 3542 = .ok (.aload_n 1, 1) := by decide +kernel
theorem dL_law_3543 : decode cL_law 3543 = .ok (.invokevirtual 427, 3) := by decide +kernel
theorem dL_law_3546 : decode cL_law 3546 = .ok (.aload_n 2, 1) := by decide +kernel
theorem dL_law_3547 : decode cL_law 3547 = .ok (.invokevirtual 431, 3) := by decide +kernel
theorem dL_law_3550 : decode cL_law 3550 = .ok (.lcmp, 1) := by decide +kernel
theorem dL_law_3551 : decode cL_law 3551 = .ok (.ifCond .eq 5, 3) := by decide +kernel
theorem dL_law_3554 : decode cL_law 3554 = .ok (.iconst 0, 1) := by decide +kernel
theorem dL_law_3555 : decode cL_law 3555 = .ok (.ireturn, 1) := by decide +kernel
theorem dL_law_3556 : decode cL_law 3556 = .ok (.iinc 4 3, 3) := by decide +kernel
theorem dL_law_3559 : decode cL_law 3559 = .ok (.goto (-3536), 3) := by decide +kernel
theorem dL_law_3562 : decode cL_law 3562 = .ok (.iconst 1, 1) := by decide +kernel
theorem dL_law_3563 : decode cL_law 3563 = .ok (.ireturn, 1) := by decide +kernel
