theorem dL_law_2883 : decode cL_law 2883 = .ok (.goto 4, 3) := by decide +kernel
theorem dL_law_2886 : decode cL_law 2886 = .ok (.lconst 0, 1) := by decide +kernel
theorem dL_law_2887 : decode cL_law 2887 = .ok (.lcmp, 1) := by decide +kernel
theorem dL_law_2888 : decode cL_law 2888 = .ok (.ifCond .eq 5, 3) := by decide +kernel
theorem dL_law_2891 : decode cL_law 2891 = .ok (.iconst 0, 1) := by decide +kernel
theorem dL_law_2892 : decode cL_law 2892 = .ok (.ireturn, 1) := by decide +kernel
theorem dL_law_2893 : decode cL_law 2893 = .ok (.goto 663, 3) := by decide +kernel
theorem dL_law_2896 : decode cL_law 2896 = .ok (.aload_n 1, 1) := by decide +kernel
theorem dL_law_2897 : decode cL_law 2897 = .ok (.aload_n 0, 1) := by decide +kernel
theorem dL_law_2898 : decode cL_law 2898 = .ok (.iload 4, 2) := by decide +kernel
theorem dL_law_2900 : decode cL_law 2900 = .ok (.iconst 1, 1) := by decide +kernel
theorem dL_law_2901 : decode cL_law 2901 = .ok (.iadd, 1) := by decide +kernel
theorem dL_law_2902 : decode cL_law 2902 = .ok (.iaload, 1) := by decide +kernel
theorem dL_law_2903 : decode cL_law 2903 = .ok (.aload_n 3, 1) := by decide +kernel
theorem dL_law_2904 : decode cL_law 2904 = .ok (.invokestatic 372, 3) := by decide +kernel
theorem dL_law_2907 : decode cL_law 2907 = .ok (.istore 5, 2) := by decide +kernel
theorem dL_law_2909 : decode cL_law 2909 = .ok (.aload_n 2, 1) := by decide +kernel
theorem dL_law_2910 : decode cL_law 2910 = .ok (.aload_n 0, 1) := by decide +kernel
theorem dL_law_2911 : decode cL_law 2911 = .ok (.iload 4, 2) := by decide +kernel
theorem dL_law_2913 : decode cL_law 2913 = .ok (.iconst 1, 1) := by decide +kernel
theorem dL_law_2914 : decode cL_law 2914 = .ok (.iadd, 1) := by decide +kernel
theorem dL_law_2915 : decode cL_law 2915 = .ok (.iaload, 1) := by decide +kernel
theorem dL_law_2916 : decode cL_law 2916 = .ok (.invokevirtual 374, 3) := by decide +kernel
theorem dL_law_2919 : decode cL_law 2919 = .ok (.istore 6, 2) := by decide +kernel
theorem dL_law_2921 : decode cL_law 2921 = .ok (.aload_n 2, 1) := by decide +kernel
theorem dL_law_2922 : decode cL_law 2922 = .ok (.invokevirtual 190, 3) := by decide +kernel
theorem dL_law_2925 : decode cL_law 2925 = .ok (.iload 5, 2) := by decide +kernel
theorem dL_law_2927 : decode cL_law 2927 = .ok (.if_icmp .eq 5, 3) := by decide +kernel
theorem dL_law_2930 : decode cL_law 2930 = .ok (.iconst 0, 1) := by decide +kernel
theorem dL_law_2931 : decode cL_law 2931 = .ok (.ireturn, 1) := by decide +kernel
theorem dL_law_2932 : decode cL_law 2932 = .ok (.iload 5, 2) := by decide +kernel
theorem dL_law_2934 : decode cL_law 2934 = .ok (.ifCond .ne 15, 3) := by decide +kernel
theorem dL_law_2937 : decode cL_law 2937 = .ok (.aload_n 3, 1) := by decide +kernel
theorem dL_law_2938 : decode cL_law 2938 = .ok (.iconst 0, 1) := by decide +kernel
theorem dL_law_2939 : decode cL_law 2939 = .ok (.laload, 1) := by decide +kernel
theorem dL_law_2940 : decode cL_law 2940 = .ok (.iload 6, 2) := by decide +kernel
theorem dL_law_2942 : decode cL_law 2942 = .ok (.i2l, 1) := by decide +kernel
theorem dL_law_2943 : decode cL_law 2943 = .ok (.lcmp, 1) := by decide +kernel
theorem dL_law_2944 : decode cL_law 2944 = .ok (.ifCond .eq 5, 3) := by decide +kernel
theorem dL_law_2947 : decode cL_law 2947 = .ok (.iconst 0, 1) := by decide +kernel
theorem dL_law_2948 : decode cL_law 2948 = .ok (.ireturn, 1) := by decide +kernel
theorem dL_law_2949 : decode cL_law 2949 = .ok (.goto 607, 3) := by decide +kernel
theorem dL_law_2952 : decode cL_law 2952 = .ok (.aload_n 1, 1) := by decide +kernel
theorem dL_law_2953 : decode cL_law 2953 = .ok (.aload_n 0, 1) := by decide +kernel
theorem dL_law_2954 : decode cL_law 2954 = .ok (.iload 4, 2) := by decide +kernel
theorem dL_law_2956 : decode cL_law 2956 = .ok (.iconst 1, 1) := by decide +kernel
theorem dL_law_2957 : decode cL_law 2957 = .ok (.iadd, 1) := by decide +kernel
theorem dL_law_2958 : decode cL_law 2958 = .ok (.iaload, 1) := by decide +kernel
theorem dL_law_2959 : decode cL_law 2959 = .ok (.aload_n 3, 1) := by decide +kernel
theorem dL_law_2960 : decode cL_law 2960 = .ok (.invokestatic 375, 3) := by decide +kernel
theorem dL_law_2963 : decode cL_law 2963 = .ok (.istore 5, 2) := by decide +kernel
theorem dL_law_2965 : decode cL_law 2965 = .ok (.aload_n 2, 1) := by decide +kernel
theorem dL_law_2966 : decode cL_law 2966 = .ok (.aload_n 0, 1) := by decide +kernel
theorem dL_law_2967 : decode cL_law 2967 = .ok (.iload 4, 2) := by decide +kernel
theorem dL_law_2969 : decode cL_law 2969 = .ok (.iconst 1, 1) := by decide +kernel
theorem dL_law_2970 : decode cL_law 2970 = .ok (.iadd, 1) := by decide +kernel
theorem dL_law_2971 : decode cL_law 2971 = .ok (.iaload, 1) := by decide +kernel
theorem dL_law_2972 : decode cL_law 2972 = .ok (.invokevirtual 377, 3) := by decide +kernel
theorem dL_law_2975 : decode cL_law 2975 = .ok (.istore 6, 2) := by decide +kernel
theorem dL_law_2977 : decode cL_law 2977 = .ok (.aload_n 2, 1) := by decide +kernel
theorem dL_law_2978 : decode cL_law 2978 = .ok (.invokevirtual 190, 3) := by decide +kernel
theorem dL_law_2981 : decode cL_law 2981 = .ok (.iload 5, 2) := by decide +kernel
theorem dL_law_2983 : decode cL_law 2983 = .ok (.if_icmp .eq 5, 3) := by decide +kernel
theorem dL_law_2986 : decode cL_law 2986 = .ok (.iconst 0, 1) := by decide +kernel
theorem dL_law_2987 : decode cL_law 2987 = .ok (.ireturn, 1) := by decide +kernel
theorem dL_law_2988 : decode cL_law 2988 = .ok (.iload 5, 2) := by decide +kernel
theorem dL_law_2990 : decode cL_law 2990 = .ok (.ifCond .ne 15, 3) := by decide +kernel
theorem dL_law_2993 : decode cL_law 2993 = .ok (.aload_n 3, 1) := by decide +kernel
theorem dL_law_2994 : decode cL_law 2994 = .ok (.iconst 0, 1) := by decide +kernel
theorem dL_law_2995 : decode cL_law 2995 = .ok (.laload, 1) := by decide +kernel
theorem dL_law_2996 : decode cL_law 2996 = .ok (.iload 6, 2) := by decide +kernel
theorem dL_law_2998 : decode cL_law 2998 = .ok (.i2l, 1) := by decide +kernel
theorem dL_law_2999 : decode cL_law 2999 = .ok (.lcmp, 1) := by decide +kernel
theorem dL_law_3000 : decode cL_law 3000 = .ok (.ifCond .eq 5, 3) := by decide +kernel
theorem dL_law_3003 : decode cL_law 3003 = .ok (.iconst 0, 1) := by decide +kernel
theorem dL_law_3004 : decode cL_law 3004 = .ok (.ireturn, 1) := by decide +kernel
theorem dL_law_3005 : decode cL_law 3005 = .ok (.goto 551, 3) := by decide +kernel
theorem dL_law_3008 : decode cL_law 3008 = .ok (.aload_n 1, 1) := by decide +kernel
theorem dL_law_3009 : decode cL_law 3009 = .ok (.aload_n 0, 1) := by decide +kernel
theorem dL_law_3010 : decode cL_law 3010 = .ok (.iload 4, 2) := by decide +kernel
theorem dL_law_3012 : decode cL_law 3012 = .ok (.iconst 1, 1) := by decide +kernel
theorem dL_law_3013 : decode cL_law 3013 = .ok (.iadd, 1) := by decide +kernel
theorem dL_law_3014 : decode cL_law 3014 = .ok (.iaload, 1) := by decide +kernel
theorem dL_law_3015 : decode cL_law 3015 = .ok (.aload_n 3, 1) := by decide +kernel
theorem dL_law_3016 : decode cL_law 3016 = .ok (.invokestatic 378, 3) := by decide +kernel
theorem dL_law_3019 : decode cL_law 3019 = .ok (.istore 5, 2) := by decide +kernel
theorem dL_law_3021 : decode cL_law 3021 = .ok (.aload_n 2, 1) := by decide +kernel
theorem dL_law_3022 : decode cL_law 3022 = .ok (.aload_n 0, 1) := by decide +kernel
theorem dL_law_3023 : decode cL_law 3023 = .ok (.iload 4, 2) := by decide +kernel
theorem dL_law_3025 : decode cL_law 3025 = .ok (.iconst 1, 1) := by decide +kernel
theorem dL_law_3026 : decode cL_law 3026 = .ok (.iadd, 1) := by decide +kernel
theorem dL_law_3027 : decode cL_law 3027 = .ok (.iaload, 1) := by decide +kernel
theorem dL_law_3028 : decode cL_law 3028 = .ok (.invokevirtual 380, 3) := by decide +kernel
theorem dL_law_3031 : decode cL_law 3031 = .ok (.istore 6, 2) := by decide +kernel
theorem dL_law_3033 : decode cL_law 3033 = .ok (.aload_n 2, 1) := by decide +kernel
theorem dL_law_3034 : decode cL_law 3034 = .ok (.invokevirtual 190, 3) := by decide +kernel
theorem dL_law_3037 : decode cL_law 3037 = .ok (.iload 5, 2) := by decide +kernel
theorem dL_law_3039 : decode cL_law 3039 = .ok (.if_icmp .eq 5, 3) := by decide +kernel
theorem dL_law_3042 : decode cL_law 3042 = .ok (.iconst 0, 1) := by decide +kernel
theorem dL_law_3043 : decode cL_law 3043 = .ok (.ireturn, 1) := by decide +kernel
theorem dL_law_3044 : decode cL_law 3044 = .ok (.iload 5, 2) := by decide +kernel
theorem dL_law_3046 : decode cL_law 3046 = .ok (.ifCond .ne 15, 3) := by decide +kernel
theorem dL_law_3049 : decode cL_law 3049 = .ok (.aload_n 3, 1) := by decide +kernel
theorem dL_law_3050 : decode cL_law 3050 = .ok (.iconst 0, 1) := by decide +kernel
theorem dL_law_3051 : decode cL_law 3051 = .ok (.laload, 1) := by decide +kernel
theorem dL_law_3052 : decode cL_law 3052 = .ok (.iload 6, 2) := by decide +kernel
theorem dL_law_3054 : decode cL_law 3054 = .ok (.i2l, 1) := by decide +kernel
theorem dL_law_3055 : decode cL_law 3055 = .ok (.lcmp, 1) := by decide +kernel
theorem dL_law_3056 : decode cL_law 3056 = .ok (.ifCond .eq 5, 3) := by decide +kernel
theorem dL_law_3059 : decode cL_law 3059 = .ok (.iconst 0, 1) := by decide +kernel
theorem dL_law_3060 : decode cL_law 3060 = .ok (.ireturn, 1) := by decide +kernel
theorem dL_law_3061 : decode cL_law 3061 = .ok (.goto 495, 3) := by decide +kernel
theorem dL_law_3064 : decode cL_law 3064 = .ok (.aload_n 1, 1) := by decide +kernel
theorem dL_law_3065 : decode cL_law 3065 = .ok (.aload_n 0, 1) := by decide +kernel
theorem dL_law_3066 : decode cL_law 3066 = .ok (.iload 4, 2) := by decide +kernel
theorem dL_law_3068 : decode cL_law 3068 = .ok (.iconst 1, 1) := by decide +kernel
theorem dL_law_3069 : decode cL_law 3069 = .ok (.iadd, 1) := by decide +kernel
theorem dL_law_3070 : decode cL_law 3070 = .ok (.iaload, 1) := by decide +kernel
theorem dL_law_3071 : decode cL_law 3071 = .ok (.aload_n 3, 1) := by decide +kernel
theorem dL_law_3072 : decode cL_law 3072 = .ok (.invokestatic 381, 3) := by decide +kernel
theorem dL_law_3075 : decode cL_law 3075 = .ok (.istore 5, 2) := by decide +kernel
theorem dL_law_3077 : decode cL_law 3077 = .ok (.aload_n 2, 1) := by decide +kernel
theorem dL_law_3078 : decode cL_law 3078 = .ok (.aload_n 0, 1) := by decide +kernel
theorem dL_law_3079 : decode cL_law 3079 = .ok (.iload 4, 2) := by decide +kernel
theorem dL_law_3081 : decode cL_law 3081 = .ok (.iconst 1, 1) := by decide +kernel
theorem dL_law_3082 : decode cL_law 3082 = .ok (.iadd, 1) := by decide +kernel
theorem dL_law_3083 : decode cL_law 3083 = .ok (.iaload, 1) := by decide +kernel
theorem dL_law_3084 : decode cL_law 3084 = .ok (.invokevirtual 383, 3) := by decide +kernel
theorem dL_law_3087 : decode cL_law 3087 = .ok (.istore 6, 2) := by decide +kernel
theorem dL_law_3089 : decode cL_law 3089 = .ok (.aload_n 2, 1) := by decide +kernel
theorem dL_law_3090 : decode cL_law 3090 = .ok (.invokevirtual 190, 3) := by decide +kernel
theorem dL_law_3093 : decode cL_law 3093 = .ok (.iload 5, 2) := by decide +kernel
theorem dL_law_3095 : decode cL_law 3095 = .ok (.if_icmp .eq 5, 3) := by decide +kernel
theorem dL_law_3098 : decode cL_law 3098 = .ok (.iconst 0, 1) := by decide +kernel
theorem dL_law_3099 : decode cL_law 3099 = .ok (.ireturn, 1) := by decide +kernel
theorem dL_law_3100 : decode cL_law 3100 = .ok (.iload 5, 2) := by decide +kernel
theorem dL_law_3102 : decode cL_law 3102 = .ok (.ifCond .ne 15, 3) := by decide +kernel
theorem dL_law_3105 : decode cL_law 3105 = .ok (.aload_n 3, 1) := by decide +kernel
theorem dL_law_3106 : decode cL_law 3106 = .ok (.iconst 0, 1) := by decide +kernel
theorem dL_law_3107 : decode cL_law 3107 = .ok (.laload, 1) := by decide +kernel
theorem dL_law_3108 : decode cL_law 3108 = .ok (.iload 6, 2) := by decide +kernel
theorem dL_law_3110 : decode cL_law 3110 = .ok (.i2l, 1) := by decide +kernel
theorem dL_law_3111 : decode cL_law 3111 = .ok (.lcmp, 1) := by decide +kernel
theorem dL_law_3112 : decode cL_law 3112 = .ok (.ifCond .eq 5, 3) := by decide +kernel
theorem dL_law_3115 : decode cL_law 3115 = .ok (.iconst 0, 1) := by decide +kernel
theorem dL_law_3116 : decode cL_law 3116 = .ok (.ireturn, 1) := by decide +kernel
theorem dL_law_3117 : decode cL_law 3117 = .ok (.goto 439, 3) := by decide +kernel
theorem dL_law_3120 : decode cL_law 3120 = .ok (.aload_n 1, 1) := by decide +kernel
theorem dL_law_3121 : decode cL_law 3121 = .ok (.aload_n 0, 1) := by decide +kernel
theorem dL_law_3122 : decode cL_law 3122 = .ok (.iload 4, 2) := by decide +kernel
theorem dL_law_3124 : decode cL_law 3124 = .ok (.iconst 1, 1) := by decide +kernel
theorem dL_law_3125 : decode cL_law 3125 = .ok (.iadd, 1) := by decide +kernel
theorem dL_law_3126 : decode cL_law 3126 = .ok (.iaload, 1) := by decide +kernel
theorem dL_law_3127 : decode cL_law 3127 = .ok (.aload_n 3, 1) := by decide +kernel
theorem dL_law_3128 : decode cL_law 3128 = .ok (.invokestatic 384, 3) := by decide +kernel
theorem dL_law_3131 : decode cL_law 3131 = .ok (.istore 5, 2) := by decide +kernel
theorem dL_law_3133 : decode cL_law 3133 = .ok (.aload_n 2, 1) := by decide +kernel
theorem dL_law_3134 : decode cL_law 3134 = .ok (.aload_n 0, 1) := by decide +kernel
theorem dL_law_3135 : decode cL_law 3135 = .ok (.iload 4, 2) := by decide +kernel
theorem dL_law_3137 : decode cL_law 3137 = .ok (.iconst 1, 1) := by decide +kernel
theorem dL_law_3138 : decode cL_law 3138 = .ok (.iadd, 1) := by decide +kernel
theorem dL_law_3139 : decode cL_law 3139 = .ok (.iaload, 1) := by decide +kernel
theorem dL_law_3140 : decode cL_law 3140 = .ok (.invokevirtual 386, 3) := by decide +kernel
theorem dL_law_3143 : decode cL_law 3143 = .ok (.istore 6, 2) := by decide +kernel
theorem dL_law_3145 : decode cL_law 3145 = .ok (.aload_n 2, 1) := by decide +kernel
theorem dL_law_3146 : decode cL_law 3146 = .ok (.invokevirtual 190, 3) := by decide +kernel
theorem dL_law_3149 : decode cL_law 3149 = .ok (.iload 5, 2) := by decide +kernel
theorem dL_law_3151 : decode cL_law 3151 = .ok (.if_icmp .eq 5, 3) := by decide +kernel
theorem dL_law_3154 : decode cL_law 3154 = .ok (.iconst 0, 1) := by decide +kernel
theorem dL_law_3155 : decode cL_law 3155 = .ok (.ireturn, 1) := by decide +kernel
theorem dL_law_3156 : decode cL_law 3156 = .ok (.iload 5, 2) := by decide +kernel
theorem dL_law_3158 : decode cL_law 3158 = .ok (.ifCond .ne 15, 3) := by decide +kernel
theorem dL_law_3161 : decode cL_law 3161 = .ok (.aload_n 3, 1) := by decide +kernel
theorem dL_law_3162 : decode cL_law 3162 = .ok (.iconst 0, 1) := by decide +kernel
theorem dL_law_3163 : decode cL_law 3163 = .ok (.laload, 1) := by decide +kernel
theorem dL_law_3164 : decode cL_law 3164 = .ok (.iload 6, 2) := by decide +kernel
theorem dL_law_3166 : decode cL_law 3166 = .ok (.i2l, 1) := by decide +kernel
theorem dL_law_3167 : decode cL_law 3167 = .ok (.lcmp, 1) := by decide +kernel
theorem dL_law_3168 : decode cL_law 3168 = .ok (.ifCond .eq 5, 3) := by decide +kernel
theorem dL_law_3171 : decode cL_law 3171 = .ok (.iconst 0, 1) := by decide +kernel
theorem dL_law_3172 : decode cL_law 3172 = .ok (.ireturn, 1) := by decide +kernel
theorem dL_law_3173 : decode cL_law 3173 = .ok (.goto 383, 3) := by decide +kernel
theorem dL_law_3176 : decode cL_law 3176 = .ok (.aload_n 1, 1) := by decide +kernel
theorem dL_law_3177 : decode cL_law 3177 = .ok (.aload_n 3, 1) := by decide +kernel
theorem dL_law_3178 : decode cL_law 3178 = .ok (.invokestatic 387, 3) := by decide +kernel
theorem dL_law_3181 : decode cL_law 3181 = .ok (.istore 5, 2) := by decide +kernel
theorem dL_law_3183 : decode cL_law 3183 = .ok (.aload_n 2, 1) := by decide +kernel
theorem dL_law_3184 : decode cL_law 3184 = .ok (.invokevirtual 389, 3) := by decide +kernel
theorem dL_law_3187 : decode cL_law 3187 = .ok (.istore 6, 2) := by decide +kernel
theorem dL_law_3189 : decode cL_law 3189 = .ok (.aload_n 2, 1) := by decide +kernel
theorem dL_law_3190 : decode cL_law 3190 = .ok (.invokevirtual 190, 3) := by decide +kernel
theorem dL_law_3193 : decode cL_law 3193 = .ok (.iload 5, 2) := by decide +kernel
theorem dL_law_3195 : decode cL_law 3195 = .ok (.if_icmp .eq 5, 3) := by decide +kernel
theorem dL_law_3198 : decode cL_law 3198 = .ok (.iconst 0, 1) := by decide +kernel
theorem dL_law_3199 : decode cL_law 3199 = .ok (.ireturn, 1) := by decide +kernel
theorem dL_law_3200 : decode cL_law 3200 = .ok (.iload 5, 2) := by decide +kernel
theorem dL_law_3202 : decode cL_law 3202 = .ok (.ifCond .ne 15, 3) := by decide +kernel
theorem dL_law_3205 : decode cL_law 3205 = .ok (.aload_n 3, 1) := by decide +kernel
theorem dL_law_3206 : decode cL_law 3206 = .ok (.iconst 0, 1) := by decide +kernel
theorem dL_law_3207 : decode cL_law 3207 = .ok (.laload, 1) := by decide +kernel
