set_option maxRecDepth 100000 in
theorem dL_law_2948 : decode code 2948 = .ok (.laload, 1) := by decide +kernel
set_option maxRecDepth 100000 in
theorem dL_law_2949 : decode code 2949 = .ok (.iload 6, 2) := by decide +kernel
set_option maxRecDepth 100000 in
theorem dL_law_2951 : decode code 2951 = .ok (.i2l, 1) := by decide +kernel
set_option maxRecDepth 100000 in
theorem dL_law_2952 : decode code 2952 = .ok (.lcmp, 1) := by decide +kernel
set_option maxRecDepth 100000 in
theorem dL_law_2953 : decode code 2953 = .ok (.ifCond .eq 5, 3) := by decide +kernel
set_option maxRecDepth 100000 in
theorem dL_law_2956 : decode code 2956 = .ok (.iconst 0, 1) := by decide +kernel
set_option maxRecDepth 100000 in
theorem dL_law_2957 : decode code 2957 = .ok (.ireturn, 1) := by decide +kernel
set_option maxRecDepth 100000 in
theorem dL_law_2958 : decode code 2958 = .ok (.goto 1141, 3) := by decide +kernel
set_option maxRecDepth 100000 in
theorem dL_law_2961 : decode code 2961 = .ok (.aload_n 1, 1) := by decide +kernel
set_option maxRecDepth 100000 in
theorem dL_law_2962 : decode code 2962 = .ok (.aload_n 0, 1) := by decide +kernel
set_option maxRecDepth 100000 in
theorem dL_law_2963 : decode code 2963 = .ok (.iload 4, 2) := by decide +kernel
set_option maxRecDepth 100000 in
theorem dL_law_2965 : decode code 2965 = .ok (.iconst 1, 1) := by decide +kernel
set_option maxRecDepth 100000 in
theorem dL_law_2966 : decode code 2966 = .ok (.iadd, 1) := by decide +kernel
set_option maxRecDepth 100000 in
theorem dL_law_2967 : decode code 2967 = .ok (.iaload, 1) := by decide +kernel
set_option maxRecDepth 100000 in
theorem dL_law_2968 : decode code 2968 = .ok (.aload_n 0, 1) := by decide +kernel
set_option maxRecDepth 100000 in
theorem dL_law_2969 : decode code 2969 = .ok (.iload 4, 2) := by decide +kernel
set_option maxRecDepth 100000 in
theorem dL_law_2971 : decode code 2971 = .ok (.iconst 2, 1) := by decide +kernel
set_option maxRecDepth 100000 in
theorem dL_law_2972 : decode code 2972 = .ok (.iadd, 1) := by decide +kernel
set_option maxRecDepth 100000 in
theorem dL_law_2973 : decode code 2973 = .ok (.iaload, 1) := by decide +kernel
set_option maxRecDepth 100000 in
theorem dL_law_2974 : decode code 2974 = .ok (.aload_n 0, 1) := by decide +kernel
set_option maxRecDepth 100000 in
theorem dL_law_2975 : decode code 2975 = .ok (.iload 4, 2) := by decide +kernel
set_option maxRecDepth 100000 in
theorem dL_law_2977 : decode code 2977 = .ok (.iconst 3, 1) := by decide +kernel
set_option maxRecDepth 100000 in
theorem dL_law_2978 : decode code 2978 = .ok (.iadd, 1) := by decide +kernel
set_option maxRecDepth 100000 in
theorem dL_law_2979 : decode code 2979 = .ok (.iaload, 1) := by decide +kernel
set_option maxRecDepth 100000 in
theorem dL_law_2980 : decode code 2980 = .ok (.aload_n 3, 1) := by decide +kernel
set_option maxRecDepth 100000 in
theorem dL_law_2981 : decode code 2981 = .ok (.invokestatic 324, 3) := by decide +kernel
set_option maxRecDepth 100000 in
theorem dL_law_2984 : decode code 2984 = .ok (.istore 5, 2) := by decide +kernel
set_option maxRecDepth 100000 in
theorem dL_law_2986 : decode code 2986 = .ok (.aload_n 2, 1) := by decide +kernel
set_option maxRecDepth 100000 in
theorem dL_law_2987 : decode code 2987 = .ok (.aload_n 0, 1) := by decide +kernel
set_option maxRecDepth 100000 in
theorem dL_law_2988 : decode code 2988 = .ok (.iload 4, 2) := by decide +kernel
set_option maxRecDepth 100000 in
theorem dL_law_2990 : decode code 2990 = .ok (.iconst 1, 1) := by decide +kernel
set_option maxRecDepth 100000 in
theorem dL_law_2991 : decode code 2991 = .ok (.iadd, 1) := by decide +kernel
set_option maxRecDepth 100000 in
theorem dL_law_2992 : decode code 2992 = .ok (.iaload, 1) := by decide +kernel
set_option maxRecDepth 100000 in
theorem dL_law_2993 : decode code 2993 = .ok (.aload_n 0, 1) := by decide +kernel
set_option maxRecDepth 100000 in
theorem dL_law_2994 : decode code 2994 = .ok (.iload 4, 2) := by decide +kernel
set_option maxRecDepth 100000 in
theorem dL_law_2996 : decode code 2996 = .ok (.iconst 2, 1) := by decide +kernel
set_option maxRecDepth 100000 in
theorem dL_law_2997 : decode code 2997 = .ok (.iadd, 1) := by decide +kernel
set_option maxRecDepth 100000 in
theorem dL_law_2998 : decode code 2998 = .ok (.iaload, 1) := by decide +kernel
set_option maxRecDepth 100000 in
theorem dL_law_2999 : decode code 2999 = .ok (.aload_n 0, 1) := by decide +kernel
set_option maxRecDepth 100000 in
theorem dL_law_3000 : decode code 3000 = .ok (.iload 4, 2) := by decide +kernel
set_option maxRecDepth 100000 in
theorem dL_law_3002 : decode code 3002 = .ok (.iconst 3, 1) := by decide +kernel
set_option maxRecDepth 100000 in
theorem dL_law_3003 : decode code 3003 = .ok (.iadd, 1) := by decide +kernel
set_option maxRecDepth 100000 in
theorem dL_law_3004 : decode code 3004 = .ok (.iaload, 1) := by decide +kernel
set_option maxRecDepth 100000 in
theorem dL_law_3005 : decode code 3005 = .ok (.invokevirtual 326, 3) := by decide +kernel
set_option maxRecDepth 100000 in
theorem dL_law_3008 : decode code 3008 = .ok (.istore 6, 2) := by decide +kernel
set_option maxRecDepth 100000 in
theorem dL_law_3010 : decode code 3010 = .ok (.aload_n 2, 1) := by decide +kernel
set_option maxRecDepth 100000 in
theorem dL_law_3011 : decode code 3011 = .ok (.invokevirtual 197, 3) := by decide +kernel
set_option maxRecDepth 100000 in
theorem dL_law_3014 : decode code 3014 = .ok (.iload 5, 2) := by decide +kernel
set_option maxRecDepth 100000 in
theorem dL_law_3016 : decode code 3016 = .ok (.if_icmp .eq 5, 3) := by decide +kernel
set_option maxRecDepth 100000 in
theorem dL_law_3019 : decode code 3019 = .ok (.iconst 0, 1) := by decide +kernel
set_option maxRecDepth 100000 in
theorem dL_law_3020 : decode code 3020 = .ok (.ireturn, 1) := by decide +kernel
set_option maxRecDepth 100000 in
theorem dL_law_3021 : decode code 3021 = .ok (.iload 5, 2) := by decide +kernel
set_option maxRecDepth 100000 in
theorem dL_law_3023 : decode code 3023 = .ok (.ifCond .ne 15, 3) := by decide +kernel
set_option maxRecDepth 100000 in
theorem dL_law_3026 : decode code 3026 = .ok (.aload_n 3, 1) := by decide +kernel
set_option maxRecDepth 100000 in
theorem dL_law_3027 : decode code 3027 = .ok (.iconst 0, 1) := by decide +kernel
set_option maxRecDepth 100000 in
theorem dL_law_3028 : decode code 3028 = .ok (.laload, 1) := by decide +kernel
set_option maxRecDepth 100000 in
theorem dL_law_3029 : decode code 3029 = .ok (.iload 6, 2) := by decide +kernel
set_option maxRecDepth 100000 in
theorem dL_law_3031 : decode code 3031 = .ok (.i2l, 1) := by decide +kernel
set_option maxRecDepth 100000 in
theorem dL_law_3032 : decode code 3032 = .ok (.lcmp, 1) := by decide +kernel
set_option maxRecDepth 100000 in
theorem dL_law_3033 : decode code 3033 = .ok (.ifCond .eq 5, 3) := by decide +kernel
set_option maxRecDepth 100000 in
theorem dL_law_3036 : decode code 3036 = .ok (.iconst 0, 1) := by decide +kernel
set_option maxRecDepth 100000 in
theorem dL_law_3037 : decode code 3037 = .ok (.ireturn, 1) := by decide +kernel
set_option maxRecDepth 100000 in
theorem dL_law_3038 : decode code 3038 = .ok (.goto 1061, 3) := by decide +kernel
set_option maxRecDepth 100000 in
theorem dL_law_3041 : decode code 3041 = .ok (.aload_n 1, 1) := by decide +kernel
set_option maxRecDepth 100000 in
theorem dL_law_3042 : decode code 3042 = .ok (.aload_n 0, 1) := by decide +kernel
set_option maxRecDepth 100000 in
theorem dL_law_3043 : decode code 3043 = .ok (.iload 4, 2) := by decide +kernel
set_option maxRecDepth 100000 in
theorem dL_law_3045 : decode code 3045 = .ok (.iconst 1, 1) := by decide +kernel
set_option maxRecDepth 100000 in
theorem dL_law_3046 : decode code 3046 = .ok (.iadd, 1) := by decide +kernel
set_option maxRecDepth 100000 in
theorem dL_law_3047 : decode code 3047 = .ok (.iaload, 1) := by decide +kernel
set_option maxRecDepth 100000 in
theorem dL_law_3048 : decode code 3048 = .ok (.aload_n 0, 1) := by decide +kernel
set_option maxRecDepth 100000 in
theorem dL_law_3049 : decode code 3049 = .ok (.iload 4, 2) := by decide +kernel
set_option maxRecDepth 100000 in
theorem dL_law_3051 : decode code 3051 = .ok (.iconst 2, 1) := by decide +kernel
set_option maxRecDepth 100000 in
theorem dL_law_3052 : decode code 3052 = .ok (.iadd, 1) := by decide +kernel
set_option maxRecDepth 100000 in
theorem dL_law_3053 : decode code 3053 = .ok (.iaload, 1) := by decide +kernel
set_option maxRecDepth 100000 in
theorem dL_law_3054 : decode code 3054 = .ok (.aload_n 3, 1) := by decide +kernel
set_option maxRecDepth 100000 in
theorem dL_law_3055 : decode code 3055 = .ok (.invokestatic 327, 3) := by decide +kernel
set_option maxRecDepth 100000 in
theorem dL_law_3058 : decode code 3058 = .ok (.istore 5, 2) := by decide +kernel
set_option maxRecDepth 100000 in
theorem dL_law_3060 : decode code 3060 = .ok (.aload_n 2, 1) := by decide +kernel
set_option maxRecDepth 100000 in
theorem dL_law_3061 : decode code 3061 = .ok (.aload_n 0, 1) := by decide +kernel
set_option maxRecDepth 100000 in
theorem dL_law_3062 : decode code 3062 = .ok (.iload 4, 2) := by decide +kernel
set_option maxRecDepth 100000 in
theorem dL_law_3064 : decode code 3064 = .ok (.iconst 1, 1) := by decide +kernel
set_option maxRecDepth 100000 in
theorem dL_law_3065 : decode code 3065 = .ok (.iadd, 1) := by decide +kernel
set_option maxRecDepth 100000 in
theorem dL_law_3066 : decode code 3066 = .ok (.iaload, 1) := by decide +kernel
set_option maxRecDepth 100000 in
theorem dL_law_3067 : decode code 3067 = .ok (.aload_n 0, 1) := by decide +kernel
set_option maxRecDepth 100000 in
theorem dL_law_3068 : decode code 3068 = .ok (.iload 4, 2) := by decide +kernel
set_option maxRecDepth 100000 in
theorem dL_law_3070 : decode code 3070 = .ok (.iconst 2, 1) := by decide +kernel
set_option maxRecDepth 100000 in
theorem dL_law_3071 : decode code 3071 = .ok (.iadd, 1) := by decide +kernel
set_option maxRecDepth 100000 in
theorem dL_law_3072 : decode code 3072 = .ok (.iaload, 1) := by decide +kernel
set_option maxRecDepth 100000 in
theorem dL_law_3073 : decode code 3073 = .ok (.invokevirtual 329, 3) := by decide +kernel
set_option maxRecDepth 100000 in
theorem dL_law_3076 : decode code 3076 = .ok (.istore 6, 2) := by decide +kernel
set_option maxRecDepth 100000 in
theorem dL_law_3078 : decode code 3078 = .ok (.aload_n 2, 1) := by decide +kernel
set_option maxRecDepth 100000 in
theorem dL_law_3079 : decode code 3079 = .ok (.invokevirtual 197, 3) := by decide +kernel
set_option maxRecDepth 100000 in
theorem dL_law_3082 : decode code 3082 = .ok (.iload 5, 2) := by decide +kernel
set_option maxRecDepth 100000 in
theorem dL_law_3084 : decode code 3084 = .ok (.if_icmp .eq 5, 3) := by decide +kernel
set_option maxRecDepth 100000 in
theorem dL_law_3087 : decode code 3087 = .ok (.iconst 0, 1) := by decide +kernel
set_option maxRecDepth 100000 in
theorem dL_law_3088 : decode code 3088 = .ok (.ireturn, 1) := by decide +kernel
set_option maxRecDepth 100000 in
theorem dL_law_3089 : decode code 3089 = .ok (.iload 5, 2) := by decide +kernel
set_option maxRecDepth 100000 in
theorem dL_law_3091 : decode code 3091 = .ok (.ifCond .ne 15, 3) := by decide +kernel
set_option maxRecDepth 100000 in
theorem dL_law_3094 : decode code 3094 = .ok (.aload_n 3, 1) := by decide +kernel
set_option maxRecDepth 100000 in
theorem dL_law_3095 : decode code 3095 = .ok (.iconst 0, 1) := by decide +kernel
set_option maxRecDepth 100000 in
theorem dL_law_3096 : decode code 3096 = .ok (.laload, 1) := by decide +kernel
set_option maxRecDepth 100000 in
theorem dL_law_3097 : decode code 3097 = .ok (.iload 6, 2) := by decide +kernel
set_option maxRecDepth 100000 in
theorem dL_law_3099 : decode code 3099 = .ok (.i2l, 1) := by decide +kernel
set_option maxRecDepth 100000 in
theorem dL_law_3100 : decode code 3100 = .ok (.lcmp, 1) := by decide +kernel
set_option maxRecDepth 100000 in
theorem dL_law_3101 : decode code 3101 = .ok (.ifCond .eq 5, 3) := by decide +kernel
set_option maxRecDepth 100000 in
theorem dL_law_3104 : decode code 3104 = .ok (.iconst 0, 1) := by decide +kernel
set_option maxRecDepth 100000 in
theorem dL_law_3105 : decode code 3105 = .ok (.ireturn, 1) := by decide +kernel
set_option maxRecDepth 100000 in
theorem dL_law_3106 : decode code 3106 = .ok (.goto 993, 3) := by decide +kernel
set_option maxRecDepth 100000 in
theorem dL_law_3109 : decode code 3109 = .ok (.aload_n 1, 1) := by decide +kernel
set_option maxRecDepth 100000 in
theorem dL_law_3110 : decode code 3110 = .ok (.aload_n 0, 1) := by decide +kernel
set_option maxRecDepth 100000 in
theorem dL_law_3111 : decode code 3111 = .ok (.iload 4, 2) := by decide +kernel
set_option maxRecDepth 100000 in
theorem dL_law_3113 : decode code 3113 = .ok (.iconst 1, 1) := by decide +kernel
set_option maxRecDepth 100000 in
theorem dL_law_3114 : decode code 3114 = .ok (.iadd, 1) := by decide +kernel
set_option maxRecDepth 100000 in
theorem dL_law_3115 : decode code 3115 = .ok (.iaload, 1) := by decide +kernel
set_option maxRecDepth 100000 in
theorem dL_law_3116 : decode code 3116 = .ok (.aload_n 0, 1) := by decide +kernel
set_option maxRecDepth 100000 in
theorem dL_law_3117 : decode code 3117 = .ok (.iload 4, 2) := by decide +kernel
set_option maxRecDepth 100000 in
theorem dL_law_3119 : decode code 3119 = .ok (.iconst 2, 1) := by decide +kernel
set_option maxRecDepth 100000 in
theorem dL_law_3120 : decode code 3120 = .ok (.iadd, 1) := by decide +kernel
set_option maxRecDepth 100000 in
theorem dL_law_3121 : decode code 3121 = .ok (.iaload, 1) := by decide +kernel
set_option maxRecDepth 100000 in
theorem dL_law_3122 : decode code 3122 = .ok (.aload_n 0, 1) := by decide +kernel
set_option maxRecDepth 100000 in
theorem dL_law_3123 : decode code 3123 = .ok (.iload 4, 2) := by decide +kernel
set_option maxRecDepth 100000 in
theorem dL_law_3125 : decode code 3125 = .ok (.iconst 3, 1) := by decide +kernel
set_option maxRecDepth 100000 in
theorem dL_law_3126 : decode code 3126 = .ok (.iadd, 1) := by decide +kernel
set_option maxRecDepth 100000 in
theorem dL_law_3127 : decode code 3127 = .ok (.iaload, 1) := by decide +kernel
set_option maxRecDepth 100000 in
theorem dL_law_3128 : decode code 3128 = .ok (.ifCond .eq 7, 3) := by decide +kernel
set_option maxRecDepth 100000 in
theorem dL_law_3131 : decode code 3131 = .ok (.iconst 1, 1) := by decide +kernel
set_option maxRecDepth 100000 in
theorem dL_law_3132 : decode code 3132 = .ok (.goto 4, 3) := by decide +kernel
set_option maxRecDepth 100000 in
theorem dL_law_3135 : decode code 3135 = .ok (.iconst 0, 1) := by decide +kernel
set_option maxRecDepth 100000 in
theorem dL_law_3136 : decode code 3136 = .ok (.aload_n 3, 1) := by decide +kernel
set_option maxRecDepth 100000 in
theorem dL_law_3137 : decode code 3137 = .ok (.invokestatic 330, 3) := by decide +kernel
set_option maxRecDepth 100000 in
theorem dL_law_3140 : decode code 3140 = .ok (.istore 5, 2) := by decide +kernel
set_option maxRecDepth 100000 in
theorem dL_law_3142 : decode code 3142 = .ok (.aload_n 2, 1) := by decide +kernel
set_option maxRecDepth 100000 in
theorem dL_law_3143 : decode code 3143 = .ok (.aload_n 0, 1) := by decide +kernel
set_option maxRecDepth 100000 in
theorem dL_law_3144 : decode code 3144 = .ok (.iload 4, 2) := by decide +kernel
set_option maxRecDepth 100000 in
theorem dL_law_3146 : decode code 3146 = .ok (.iconst 1, 1) := by decide +kernel
set_option maxRecDepth 100000 in
theorem dL_law_3147 : decode code 3147 = .ok (.iadd, 1) := by decide +kernel
set_option maxRecDepth 100000 in
theorem dL_law_3148 : decode code 3148 = .ok (.iaload, 1) := by decide +kernel
set_option maxRecDepth 100000 in
theorem dL_law_3149 : decode code 3149 = .ok (.aload_n 0, 1) := by decide +kernel
set_option maxRecDepth 100000 in
theorem dL_law_3150 : decode code 3150 = .ok (.iload 4, 2) := by decide +kernel
set_option maxRecDepth 100000 in
theorem dL_law_3152 : decode code 3152 = .ok (.iconst 2, 1) := by decide +kernel
set_option maxRecDepth 100000 in
theorem dL_law_3153 : decode code 3153 = .ok (.iadd, 1) := by decide +kernel
set_option maxRecDepth 100000 in
theorem dL_law_3154 : decode code 3154 = .ok (.iaload, 1) := by decide +kernel
set_option maxRecDepth 100000 in
theorem dL_law_3155 : decode code 3155 = .ok (.aload_n 0, 1) := by decide +kernel
set_option maxRecDepth 100000 in
theorem dL_law_3156 : decode code 3156 = .ok (.iload 4, 2) := by decide +kernel
set_option maxRecDepth 100000 in
theorem dL_law_3158 : decode code 3158 = .ok (.iconst 3, 1) := by decide +kernel
set_option maxRecDepth 100000 in
theorem dL_law_3159 : decode code 3159 = .ok (.iadd, 1) := by decide +kernel
set_option maxRecDepth 100000 in
theorem dL_law_3160 : decode code 3160 = .ok (.iaload, 1) := by decide +kernel
set_option maxRecDepth 100000 in
theorem dL_law_3161 : decode code 3161 = .ok (.ifCond .eq 7, 3) := by decide +kernel
set_option maxRecDepth 100000 in
theorem dL_law_3164 : decode code 3164 = .ok (.iconst 1, 1) := by decide +kernel
set_option maxRecDepth 100000 in
theorem dL_law_3165 : decode code 3165 = .ok (.goto 4, 3) := by decide +kernel
set_option maxRecDepth 100000 in
theorem dL_law_3168 : decode code 3168 = .ok (.iconst 0, 1) := by decide +kernel
set_option maxRecDepth 100000 in
theorem dL_law_3169 : decode code 3169 = .ok (.invokevirtual 332, 3) := by decide +kernel
set_option maxRecDepth 100000 in
theorem dL_law_3172 : decode code 3172 = .ok (.istore 6, 2) := by decide +kernel
set_option maxRecDepth 100000 in
theorem dL_law_3174 : decode code 3174 = .ok (.aload_n 2, 1) := by decide +kernel
set_option maxRecDepth 100000 in
theorem dL_law_3175 : decode code 3175 = .ok (.invokevirtual 197, 3) := by decide +kernel
set_option maxRecDepth 100000 in
theorem dL_law_3178 : decode code 3178 = .ok (.iload 5, 2) := by decide +kernel
set_option maxRecDepth 100000 in
theorem dL_law_3180 : decode code 3180 = .ok (.if_icmp .eq 5, 3) := by decide +kernel
set_option maxRecDepth 100000 in
theorem dL_law_3183 : decode code 3183 = .ok (.iconst 0, 1) := by decide +kernel
set_option maxRecDepth 100000 in
theorem dL_law_3184 : decode code 3184 = .ok (.ireturn, 1) := by decide +kernel
set_option maxRecDepth 100000 in
theorem dL_law_3185 : decode code 3185 = .ok (.iload 5, 2) := by decide +kernel
set_option maxRecDepth 100000 in
theorem dL_law_3187 : decode code 3187 = .ok (.ifCond .ne 15, 3) := by decide +kernel
set_option maxRecDepth 100000 in
theorem dL_law_3190 : decode code 3190 = .ok (.aload_n 3, 1) := by decide +kernel
set_option maxRecDepth 100000 in
theorem dL_law_3191 : decode code 3191 = .ok (.iconst 0, 1) := by decide +kernel
set_option maxRecDepth 100000 in
theorem dL_law_3192 : decode code 3192 = .ok (.laload, 1) := by decide +kernel
set_option maxRecDepth 100000 in
theorem dL_law_3193 : decode code 3193 = .ok (.iload 6, 2) := by decide +kernel
set_option maxRecDepth 100000 in
theorem dL_law_3195 : decode code 3195 = .ok (.i2l, 1) := by decide +kernel
set_option maxRecDepth 100000 in
theorem dL_law_3196 : decode code 3196 = .ok (.lcmp, 1) := by decide +kernel
set_option maxRecDepth 100000 in
theorem dL_law_3197 : decode code 3197 = .ok (.ifCond .eq 5, 3) := by decide +kernel
set_option maxRecDepth 100000 in
theorem dL_law_3200 : decode code 3200 = .ok (.iconst 0, 1) := by decide +kernel
set_option maxRecDepth 100000 in
theorem dL_law_3201 : decode code 3201 = .ok (.ireturn, 1) := by decide +kernel
set_option maxRecDepth 100000 in
theorem dL_law_3202 : decode code 3202 = .ok (.goto 897, 3) := by decide +kernel
set_option maxRecDepth 100000 in
theorem dL_law_3205 : decode code 3205 = .ok (.aload_n 1, 1) := by decide +kernel
set_option maxRecDepth 100000 in
theorem dL_law_3206 : decode code 3206 = .ok (.aload_n 0, 1) := by decide +kernel
set_option maxRecDepth 100000 in
theorem dL_law_3207 : decode code 3207 = .ok (.iload 4, 2) := by decide +kernel
set_option maxRecDepth 100000 in
theorem dL_law_3209 : decode code 3209 = .ok (.iconst 1, 1) := by decide +kernel
set_option maxRecDepth 100000 in
theorem dL_law_3210 : decode code 3210 = .ok (.iadd, 1) := by decide +kernel
set_option maxRecDepth 100000 in
theorem dL_law_3211 : decode code 3211 = .ok (.iaload, 1) := by decide +kernel
set_option maxRecDepth 100000 in
theorem dL_law_3212 : decode code 3212 = .ok (.aload_n 0, 1) := by decide +kernel
set_option maxRecDepth 100000 in
theorem dL_law_3213 : decode code 3213 = .ok (.iload 4, 2) := by decide +kernel
set_option maxRecDepth 100000 in
theorem dL_law_3215 : decode code 3215 = .ok (.iconst 2, 1) := by decide +kernel
set_option maxRecDepth 100000 in
theorem dL_law_3216 : decode code 3216 = .ok (.iadd, 1) := by decide +kernel
set_option maxRecDepth 100000 in
theorem dL_law_3217 : decode code 3217 = .ok (.iaload, 1) := by decide +kernel
set_option maxRecDepth 100000 in
theorem dL_law_3218 : decode code 3218 = .ok (.aload_n 0, 1) := by decide +kernel
set_option maxRecDepth 100000 in
theorem dL_law_3219 : decode code 3219 = .ok (.iload 4, 2) := by decide +kernel
set_option maxRecDepth 100000 in
theorem dL_law_3221 : decode code 3221 = .ok (.iconst 3, 1) := by decide +kernel
set_option maxRecDepth 100000 in
theorem dL_law_3222 : decode code 3222 = .ok (.iadd, 1) := by decide +kernel
set_option maxRecDepth 100000 in
theorem dL_law_3223 : decode code 3223 = .ok (.iaload, 1) := by decide +kernel
set_option maxRecDepth 100000 in
theorem dL_law_3224 : decode code 3224 = .ok (.aload_n 3, 1) := by decide +kernel
set_option maxRecDepth 100000 in
theorem dL_law_3225 : decode code 3225 = .ok (.invokestatic 333, 3) := by decide +kernel
set_option maxRecDepth 100000 in
theorem dL_law_3228 : decode code 3228 = .ok (.istore 5, 2) := by decide +kernel
set_option maxRecDepth 100000 in
theorem dL_law_3230 : decode code 3230 = .ok (.aload_n 2, 1) := by decide +kernel
set_option maxRecDepth 100000 in
theorem dL_law_3231 : decode code 3231 = .ok (.aload_n 0, 1) := by decide +kernel
set_option maxRecDepth 100000 in
theorem dL_law_3232 : decode code 3232 = .ok (.iload 4, 2) := by decide +kernel
set_option maxRecDepth 100000 in
theorem dL_law_3234 : decode code 3234 = .ok (.iconst 1, 1) := by decide +kernel
set_option maxRecDepth 100000 in
theorem dL_law_3235 : decode code 3235 = .ok (.iadd, 1) := by decide +kernel
set_option maxRecDepth 100000 in
theorem dL_law_3236 : decode code 3236 = .ok (.iaload, 1) := by decide +kernel
set_option maxRecDepth 100000 in
theorem dL_law_3237 : decode code 3237 = .ok (.aload_n 0, 1) := by decide +kernel
set_option maxRecDepth 100000 in
theorem dL_law_3238 : decode code 3238 = .ok (.iload 4, 2) := by decide +kernel
set_option maxRecDepth 100000 in
theorem dL_law_3240 : decode code 3240 = .ok (.iconst 2, 1) := by decide +kernel
set_option maxRecDepth 100000 in
theorem dL_law_3241 : decode code 3241 = .ok (.iadd, 1) := by decide +kernel
set_option maxRecDepth 100000 in
theorem dL_law_3242 : decode code 3242 = .ok (.iaload, 1) := by decide +kernel
set_option maxRecDepth 100000 in
theorem dL_law_3243 : decode code 3243 = .ok (.aload_n 0, 1) := by decide +kernel
set_option maxRecDepth 100000 in
theorem dL_law_3244 : decode code 3244 = .ok (.iload 4, 2) := by decide +kernel
set_option maxRecDepth 100000 in
theorem dL_law_3246 : decode code 3246 = .ok (.iconst 3, 1) := by decide +kernel
set_option maxRecDepth 100000 in
theorem dL_law_3247 : decode code 3247 = .ok (.iadd, 1) := by decide +kernel
set_option maxRecDepth 100000 in
theorem dL_law_3248 : decode code 3248 = .ok (.iaload, 1) := by decide +kernel
set_option maxRecDepth 100000 in
theorem dL_law_3249 : decode code 3249 = .ok (.invokevirtual 335, 3) := by decide +kernel
set_option maxRecDepth 100000 in
theorem dL_law_3252 : decode code 3252 = .ok (.istore 6, 2) := by decide +kernel
set_option maxRecDepth 100000 in
theorem dL_law_3254 : decode code 3254 = .ok (.aload_n 2, 1) := by decide +kernel
set_option maxRecDepth 100000 in
theorem dL_law_3255 : decode code 3255 = .ok (.invokevirtual 197, 3) := by decide +kernel
set_option maxRecDepth 100000 in
theorem dL_law_3258 : decode code 3258 = .ok (.iload 5, 2) := by decide +kernel
set_option maxRecDepth 100000 in
theorem dL_law_3260 : decode code 3260 = .ok (.if_icmp .eq 5, 3) := by decide +kernel
set_option maxRecDepth 100000 in
theorem dL_law_3263 : decode code 3263 = .ok (.iconst 0, 1) := by decide +kernel
set_option maxRecDepth 100000 in
theorem dL_law_3264 : decode code 3264 = .ok (.ireturn, 1) := by decide +kernel
set_option maxRecDepth 100000 in
theorem dL_law_3265 : decode code 3265 = .ok (.iload 5, 2) := by decide +kernel
set_option maxRecDepth 100000 in
theorem dL_law_3267 : decode code 3267 = .ok (.ifCond .ne 22, 3) := by decide +kernel
set_option maxRecDepth 100000 in
theorem dL_law_3270 : decode code 3270 = .ok (.aload_n 3, 1) := by decide +kernel
set_option maxRecDepth 100000 in
theorem dL_law_3271 : decode code 3271 = .ok (.iconst 0, 1) := by decide +kernel
set_option maxRecDepth 100000 in
theorem dL_law_3272 : decode code 3272 = .ok (.laload, 1) := by decide +kernel
set_option maxRecDepth 100000 in
theorem dL_law_3273 : decode code 3273 = .ok (.iload 6, 2) := by decide +kernel
set_option maxRecDepth 100000 in
theorem dL_law_3275 : decode code 3275 = .ok (.ifCond .eq 7, 3) := by decide +kernel
set_option maxRecDepth 100000 in
theorem dL_law_3278 : decode code 3278 = .ok (.lconst 1, 1) := by decide +kernel
set_option maxRecDepth 100000 in
theorem dL_law_3279 : decode code 3279 = .ok (.goto 4, 3) := by decide +kernel
set_option maxRecDepth 100000 in
theorem dL_law_3282 : decode code 3282 = .ok (.lconst 0, 1) := by decide +kernel
set_option maxRecDepth 100000 in
theorem dL_law_3283 : decode code 3283 = .ok (.lcmp, 1) := by decide +kernel
set_option maxRecDepth 100000 in
theorem dL_law_3284 : decode code 3284 = .ok (.ifCond .eq 5, 3) := by decide +kernel
set_option maxRecDepth 100000 in
theorem dL_law_3287 : decode code 3287 = .ok (.iconst 0, 1) := by decide +kernel
set_option maxRecDepth 100000 in
theorem dL_law_3288 : decode code 3288 = .ok (.ireturn, 1) := by decide +kernel
set_option maxRecDepth 100000 in
theorem dL_law_3289 : decode code 3289 = .ok (.goto 810, 3) := by decide +kernel
set_option maxRecDepth 100000 in
theorem dL_law_3292 : decode code 3292 = .ok (.aload_n 1, 1) := by decide +kernel
set_option maxRecDepth 100000 in
theorem dL_law_3293 : decode code 3293 = .ok (.aload_n 0, 1) := by decide +kernel
set_option maxRecDepth 100000 in
theorem dL_law_3294 : decode code 3294 = .ok (.iload 4, 2) := by decide +kernel
set_option maxRecDepth 100000 in
theorem dL_law_3296 : decode code 3296 = .ok (.iconst 1, 1) := by decide +kernel
set_option maxRecDepth 100000 in
theorem dL_law_3297 : decode code 3297 = .ok (.iadd, 1) := by decide +kernel
set_option maxRecDepth 100000 in
theorem dL_law_3298 : decode code 3298 = .ok (.iaload, 1) := by decide +kernel
set_option maxRecDepth 100000 in
theorem dL_law_3299 : decode code 3299 = .ok (.aload_n 0, 1) := by decide +kernel
set_option maxRecDepth 100000 in
theorem dL_law_3300 : decode code 3300 = .ok (.iload 4, 2) := by decide +kernel
set_option maxRecDepth 100000 in
theorem dL_law_3302 : decode code 3302 = .ok (.iconst 2, 1) := by decide +kernel
set_option maxRecDepth 100000 in
theorem dL_law_3303 : decode code 3303 = .ok (.iadd, 1) := by decide +kernel
set_option maxRecDepth 100000 in
theorem dL_law_3304 : decode code 3304 = .ok (.iaload, 1) := by decide +kernel
set_option maxRecDepth 100000 in
theorem dL_law_3305 : decode code 3305 = .ok (.aload_n 0, 1) := by decide +kernel
set_option maxRecDepth 100000 in
theorem dL_law_3306 : decode code 3306 = .ok (.iload 4, 2) := by decide +kernel
set_option maxRecDepth 100000 in
theorem dL_law_3308 : decode code 3308 = .ok (.iconst 3, 1) := by decide +kernel
set_option maxRecDepth 100000 in
theorem dL_law_3309 : decode code 3309 = .ok (.iadd, 1) := by decide +kernel
set_option maxRecDepth 100000 in
theorem dL_law_3310 : decode code 3310 = .ok (.iaload, 1) := by decide +kernel
set_option maxRecDepth 100000 in
theorem dL_law_3311 : decode code 3311 = .ok (.aload_n 3, 1) := by decide +kernel
set_option maxRecDepth 100000 in
theorem dL_law_3312 : decode code 3312 = .ok (.invokestatic 336, 3) := by decide +kernel
set_option maxRecDepth 100000 in
theorem dL_law_3315 : decode code 3315 = .ok (.istore 5, 2) := by decide +kernel
set_option maxRecDepth 100000 in
theorem dL_law_3317 : decode code 3317 = .ok (.aload_n 2, 1) := by decide +kernel
set_option maxRecDepth 100000 in
theorem dL_law_3318 : decode code 3318 = .ok (.aload_n 0, 1) := by decide +kernel
set_option maxRecDepth 100000 in
theorem dL_law_3319 : decode code 3319 = .ok (.iload 4, 2) := by decide +kernel
set_option maxRecDepth 100000 in
theorem dL_law_3321 : decode code 3321 = .ok (.iconst 1, 1) := by decide +kernel
set_option maxRecDepth 100000 in
theorem dL_law_3322 : decode code 3322 = .ok (.iadd, 1) := by decide +kernel
set_option maxRecDepth 100000 in
theorem dL_law_3323 : decode code 3323 = .ok (.iaload, 1) := by decide +kernel
set_option maxRecDepth 100000 in
theorem dL_law_3324 : decode code 3324 = .ok (.aload_n 0, 1) := by decide +kernel
set_option maxRecDepth 100000 in
theorem dL_law_3325 : decode code 3325 = .ok (.iload 4, 2) := by decide +kernel
set_option maxRecDepth 100000 in
theorem dL_law_3327 : decode code 3327 = .ok (.iconst 2, 1) := by decide +kernel
set_option maxRecDepth 100000 in
theorem dL_law_3328 : decode code 3328 = .ok (.iadd, 1) := by decide +kernel
set_option maxRecDepth 100000 in
theorem dL_law_3329 : decode code 3329 = .ok (.iaload, 1) := by decide +kernel
set_option maxRecDepth 100000 in
theorem dL_law_3330 : decode code 3330 = .ok (.aload_n 0, 1) := by decide +kernel
set_option maxRecDepth 100000 in
theorem dL_law_3331 : decode code 3331 = .ok (.iload 4, 2) := by decide +kernel
set_option maxRecDepth 100000 in
theorem dL_law_3333 : decode code 3333 = .ok (.iconst 3, 1) := by decide +kernel
set_option maxRecDepth 100000 in
theorem dL_law_3334 : decode code 3334 = .ok (.iadd, 1) := by decide +kernel
set_option maxRecDepth 100000 in
theorem dL_law_3335 : decode code 3335 = .ok (.iaload, 1) := by decide +kernel
set_option maxRecDepth 100000 in
theorem dL_law_3336 : decode code 3336 = .ok (.invokevirtual 338, 3) := by decide +kernel
set_option maxRecDepth 100000 in
theorem dL_law_3339 : decode code 3339 = .ok (.istore 6, 2) := by decide +kernel
set_option maxRecDepth 100000 in
theorem dL_law_3341 : decode code 3341 = .ok (.aload_n 2, 1) := by decide +kernel
set_option maxRecDepth 100000 in
theorem dL_law_3342 : decode code 3342 = .ok (.invokevirtual 197, 3) := by decide +kernel
set_option maxRecDepth 100000 in
theorem dL_law_3345 : decode code 3345 = .ok (.iload 5, 2) := by decide +kernel
set_option maxRecDepth 100000 in
theorem dL_law_3347 : decode code 3347 = .ok (.if_icmp .eq 5, 3) := by decide +kernel
set_option maxRecDepth 100000 in
theorem dL_law_3350 : decode code 3350 = .ok (.iconst 0, 1) := by decide +kernel
set_option maxRecDepth 100000 in
theorem dL_law_3351 : decode code 3351 = .ok (.ireturn, 1) := by decide +kernel
set_option maxRecDepth 100000 in
theorem dL_law_3352 : decode code 3352 = .ok (.iload 5, 2) := by decide +kernel
set_option maxRecDepth 100000 in
theorem dL_law_3354 : decode code 3354 = .ok (.ifCond .ne 15, 3) := by decide +kernel
set_option maxRecDepth 100000 in
theorem dL_law_3357 : decode code 3357 = .ok (.aload_n 3, 1) := by decide +kernel
set_option maxRecDepth 100000 in
theorem dL_law_3358 : decode code 3358 = .ok (.iconst 0, 1) := by decide +kernel
set_option maxRecDepth 100000 in
theorem dL_law_3359 : decode code 3359 = .ok (.laload, 1) := by decide +kernel
set_option maxRecDepth 100000 in
theorem dL_law_3360 : decode code 3360 = .ok (.iload 6, 2) := by decide +kernel
set_option maxRecDepth 100000 in
theorem dL_law_3362 : decode code 3362 = .ok (.i2l, 1) := by decide +kernel
set_option maxRecDepth 100000 in
theorem dL_law_3363 : decode code 3363 = .ok (.lcmp, 1) := by decide +kernel
set_option maxRecDepth 100000 in
theorem dL_law_3364 : decode code 3364 = .ok (.ifCond .eq 5, 3) := by decide +kernel
set_option maxRecDepth 100000 in
theorem dL_law_3367 : decode code 3367 = .ok (.iconst 0, 1) := by decide +kernel
set_option maxRecDepth 100000 in
theorem dL_law_3368 : decode code 3368 = .ok (.ireturn, 1) := by decide +kernel
set_option maxRecDepth 100000 in
theorem dL_law_3369 : decode code 3369 = .ok (.goto 730, 3) := by decide +kernel
set_option maxRecDepth 100000 in
theorem dL_law_3372 : decode code 3372 = .ok (.aload_n 1, 1) := by decide +kernel
set_option maxRecDepth 100000 in
theorem dL_law_3373 : decode code 3373 = .ok (.aload_n 0, 1) := by decide +kernel
set_option maxRecDepth 100000 in
theorem dL_law_3374 : decode code 3374 = .ok (.iload 4, 2) := by decide +kernel
set_option maxRecDepth 100000 in
theorem dL_law_3376 : decode code 3376 = .ok (.iconst 1, 1) := by decide +kernel
set_option maxRecDepth 100000 in
theorem dL_law_3377 : decode code 3377 = .ok (.iadd, 1) := by decide +kernel
set_option maxRecDepth 100000 in
theorem dL_law_3378 : decode code 3378 = .ok (.iaload, 1) := by decide +kernel
set_option maxRecDepth 100000 in
theorem dL_law_3379 : decode code 3379 = .ok (.aload_n 0, 1) := by decide +kernel
set_option maxRecDepth 100000 in
theorem dL_law_3380 : decode code 3380 = .ok (.iload 4, 2) := by decide +kernel
set_option maxRecDepth 100000 in
theorem dL_law_3382 : decode code 3382 = .ok (.iconst 2, 1) := by decide +kernel
set_option maxRecDepth 100000 in
theorem dL_law_3383 : decode code 3383 = .ok (.iadd, 1) := by decide +kernel
set_option maxRecDepth 100000 in
theorem dL_law_3384 : decode code 3384 = .ok (.iaload, 1) := by decide +kernel
set_option maxRecDepth 100000 in
theorem dL_law_3385 : decode code 3385 = .ok (.aload_n 0, 1) := by decide +kernel
set_option maxRecDepth 100000 in
theorem dL_law_3386 : decode code 3386 = .ok (.iload 4, 2) := by decide +kernel
set_option maxRecDepth 100000 in
theorem dL_law_3388 : decode code 3388 = .ok (.iconst 3, 1) := by decide +kernel
set_option maxRecDepth 100000 in
theorem dL_law_3389 : decode code 3389 = .ok (.iadd, 1) := by decide +kernel
set_option maxRecDepth 100000 in
theorem dL_law_3390 : decode code 3390 = .ok (.iaload, 1) := by decide +kernel
set_option maxRecDepth 100000 in
theorem dL_law_3391 : decode code 3391 = .ok (.aload_n 0, 1) := by decide +kernel
set_option maxRecDepth 100000 in
theorem dL_law_3392 : decode code 3392 = .ok (.iload 4, 2) := by decide +kernel
set_option maxRecDepth 100000 in
theorem dL_law_3394 : decode code 3394 = .ok (.iconst 4, 1) := by decide +kernel
set_option maxRecDepth 100000 in
theorem dL_law_3395 : decode code 3395 = .ok (.iadd, 1) := by decide +kernel
set_option maxRecDepth 100000 in
theorem dL_law_3396 : decode code 3396 = .ok (.iaload, 1) := by decide +kernel
set_option maxRecDepth 100000 in
theorem dL_law_3397 : decode code 3397 = .ok (.aload_n 0, 1) := by decide +kernel
set_option maxRecDepth 100000 in
theorem dL_law_3398 : decode code 3398 = .ok (.iload 4, 2) := by decide +kernel
set_option maxRecDepth 100000 in
theorem dL_law_3400 : decode code 3400 = .ok (.iconst 5, 1) := by decide +kernel
set_option maxRecDepth 100000 in
theorem dL_law_3401 : decode code 3401 = .ok (.iadd, 1) := by decide +kernel
set_option maxRecDepth 100000 in
theorem dL_law_3402 : decode code 3402 = .ok (.iaload, 1) := by decide +kernel
set_option maxRecDepth 100000 in
theorem dL_law_3403 : decode code 3403 = .ok (.aload_n 3, 1) := by decide +kernel
set_option maxRecDepth 100000 in
theorem dL_law_3404 : decode code 3404 = .ok (.invokestatic 339, 3) := by decide +kernel
set_option maxRecDepth 100000 in
theorem dL_law_3407 : decode code 3407 = .ok (.istore 5, 2) := by decide +kernel
set_option maxRecDepth 100000 in
theorem dL_law_3409 : decode code 3409 = .ok (.aload_n 2, 1) := by decide +kernel
set_option maxRecDepth 100000 in
theorem dL_law_3410 : decode code 3410 = .ok (.aload_n 0, 1) := by decide +kernel
set_option maxRecDepth 100000 in
theorem dL_law_3411 : decode code 3411 = .ok (.iload 4, 2) := by decide +kernel
set_option maxRecDepth 100000 in
theorem dL_law_3413 : decode code 3413 = .ok (.iconst 1, 1) := by decide +kernel
set_option maxRecDepth 100000 in
theorem dL_law_3414 : decode code 3414 = .ok (.iadd, 1) := by decide +kernel
set_option maxRecDepth 100000 in
theorem dL_law_3415 : decode code 3415 = .ok (.iaload, 1) := by decide +kernel
set_option maxRecDepth 100000 in
theorem dL_law_3416 : decode code 3416 = .ok (.aload_n 0, 1) := by decide +kernel
set_option maxRecDepth 100000 in
theorem dL_law_3417 : decode code 3417 = .ok (.iload 4, 2) := by decide +kernel
set_option maxRecDepth 100000 in
theorem dL_law_3419 : decode code 3419 = .ok (.iconst 2, 1) := by decide +kernel
set_option maxRecDepth 100000 in
theorem dL_law_3420 : decode code 3420 = .ok (.iadd, 1) := by decide +kernel
set_option maxRecDepth 100000 in
theorem dL_law_3421 : decode code 3421 = .ok (.iaload, 1) := by decide +kernel
set_option maxRecDepth 100000 in
theorem dL_law_3422 : decode code 3422 = .ok (.aload_n 0, 1) := by decide +kernel
set_option maxRecDepth 100000 in
theorem dL_law_3423 : decode code 3423 = .ok (.iload 4, 2) := by decide +kernel
set_option maxRecDepth 100000 in
theorem dL_law_3425 : decode code 3425 = .ok (.iconst 3, 1) := by decide +kernel
set_option maxRecDepth 100000 in
theorem dL_law_3426 : decode code 3426 = .ok (.iadd, 1) := by decide +kernel
set_option maxRecDepth 100000 in
theorem dL_law_3427 : decode code 3427 = .ok (.iaload, 1) := by decide +kernel
set_option maxRecDepth 100000 in
theorem dL_law_3428 : decode code 3428 = .ok (.aload_n 0, 1) := by decide +kernel
set_option maxRecDepth 100000 in
theorem dL_law_3429 : decode code 3429 = .ok (.iload 4, 2) := by decide +kernel
set_option maxRecDepth 100000 in
theorem dL_law_3431 : decode code 3431 = .ok (.iconst 4, 1) := by decide +kernel
set_option maxRecDepth 100000 in
theorem dL_law_3432 : decode code 3432 = .ok (.iadd, 1) := by decide +kernel
set_option maxRecDepth 100000 in
theorem dL_law_3433 : decode code 3433 = .ok (.iaload, 1) := by decide +kernel
set_option maxRecDepth 100000 in
theorem dL_law_3434 : decode code 3434 = .ok (.aload_n 0, 1) := by decide +kernel
set_option maxRecDepth 100000 in
theorem dL_law_3435 : decode code 3435 = .ok (.iload 4, 2) := by decide +kernel
set_option maxRecDepth 100000 in
theorem dL_law_3437 : decode code 3437 = .ok (.iconst 5, 1) := by decide +kernel
set_option maxRecDepth 100000 in
theorem dL_law_3438 : decode code 3438 = .ok (.iadd, 1) := by decide +kernel
set_option maxRecDepth 100000 in
theorem dL_law_3439 : decode code 3439 = .ok (.iaload, 1) := by decide +kernel
set_option maxRecDepth 100000 in
theorem dL_law_3440 : decode code 3440 = .ok (.invokevirtual 341, 3) := by decide +kernel
set_option maxRecDepth 100000 in
theorem dL_law_3443 : decode code 3443 = .ok (.istore 6, 2) := by decide +kernel
set_option maxRecDepth 100000 in
theorem dL_law_3445 : decode code 3445 = .ok (.aload_n 2, 1) := by decide +kernel
set_option maxRecDepth 100000 in
theorem dL_law_3446 : decode code 3446 = .ok (.invokevirtual 197, 3) := by decide +kernel
set_option maxRecDepth 100000 in
theorem dL_law_3449 : decode code 3449 = .ok (.iload 5, 2) := by decide +kernel
set_option maxRecDepth 100000 in
theorem dL_law_3451 : decode code 3451 = .ok (.if_icmp .eq 5, 3) := by decide +kernel
set_option maxRecDepth 100000 in
theorem dL_law_3454 : decode code 3454 = .ok (.iconst 0, 1) := by decide +kernel
set_option maxRecDepth 100000 in
theorem dL_law_3455 : decode code 3455 = .ok (.ireturn, 1) := by decide +kernel
set_option maxRecDepth 100000 in
theorem dL_law_3456 : decode code 3456 = .ok (.iload 5, 2) := by decide +kernel
set_option maxRecDepth 100000 in
theorem dL_law_3458 : decode code 3458 = .ok (.ifCond .ne 15, 3) := by decide +kernel
set_option maxRecDepth 100000 in
theorem dL_law_3461 : decode code 3461 = .ok (.aload_n 3, 1) := by decide +kernel
set_option maxRecDepth 100000 in
theorem dL_law_3462 : decode code 3462 = .ok (.iconst 0, 1) := by decide +kernel
set_option maxRecDepth 100000 in
theorem dL_law_3463 : decode code 3463 = .ok (.laload, 1) := by decide +kernel
set_option maxRecDepth 100000 in
theorem dL_law_3464 : decode code 3464 = .ok (.iload 6, 2) := by decide +kernel
set_option maxRecDepth 100000 in
theorem dL_law_3466 : decode code 3466 = .ok (.i2l, 1) := by decide +kernel
set_option maxRecDepth 100000 in
theorem dL_law_3467 : decode code 3467 = .ok (.lcmp, 1) := by decide +kernel
set_option maxRecDepth 100000 in
theorem dL_law_3468 : decode code 3468 = .ok (.ifCond .eq 5, 3) := by decide +kernel
set_option maxRecDepth 100000 in
theorem dL_law_3471 : decode code 3471 = .ok (.iconst 0, 1) := by decide +kernel
set_option maxRecDepth 100000 in
theorem dL_law_3472 : decode code 3472 = .ok (.ireturn, 1) := by decide +kernel
set_option maxRecDepth 100000 in
theorem dL_law_3473 : decode code 3473 = .ok (.goto 626, 3) := by decide +kernel
set_option maxRecDepth 100000 in
theorem dL_law_3476 : decode code 3476 = .ok (.aload_n 1, 1) := by decide +kernel
set_option maxRecDepth 100000 in
theorem dL_law_3477 : decode code 3477 = .ok (.aload_n 0, 1) := by decide +kernel
set_option maxRecDepth 100000 in
theorem dL_law_3478 : decode code 3478 = .ok (.iload 4, 2) := by decide +kernel
set_option maxRecDepth 100000 in
theorem dL_law_3480 : decode code 3480 = .ok (.iconst 1, 1) := by decide +kernel
set_option maxRecDepth 100000 in
theorem dL_law_3481 : decode code 3481 = .ok (.iadd, 1) := by decide +kernel
set_option maxRecDepth 100000 in
theorem dL_law_3482 : decode code 3482 = .ok (.iaload, 1) := by decide +kernel
set_option maxRecDepth 100000 in
theorem dL_law_3483 : decode code 3483 = .ok (.aload_n 0, 1) := by decide +kernel
set_option maxRecDepth 100000 in
theorem dL_law_3484 : decode code 3484 = .ok (.iload 4, 2) := by decide +kernel
set_option maxRecDepth 100000 in
theorem dL_law_3486 : decode code 3486 = .ok (.iconst 2, 1) := by decide +kernel
set_option maxRecDepth 100000 in
theorem dL_law_3487 : decode code 3487 = .ok (.iadd, 1) := by decide +kernel
set_option maxRecDepth 100000 in
theorem dL_law_3488 : decode code 3488 = .ok (.iaload, 1) := by decide +kernel
set_option maxRecDepth 100000 in
theorem dL_law_3489 : decode code 3489 = .ok (.aload_n 0, 1) := by decide +kernel
set_option maxRecDepth 100000 in
theorem dL_law_3490 : decode code 3490 = .ok (.iload 4, 2) := by decide +kernel
set_option maxRecDepth 100000 in
theorem dL_law_3492 : decode code 3492 = .ok (.iconst 3, 1) := by decide +kernel
set_option maxRecDepth 100000 in
theorem dL_law_3493 : decode code 3493 = .ok (.iadd, 1) := by decide +kernel
set_option maxRecDepth 100000 in
theorem dL_law_3494 : decode code 3494 = .ok (.iaload, 1) := by decide +kernel
set_option maxRecDepth 100000 in
theorem dL_law_3495 : decode code 3495 = .ok (.aload_n 0, 1) := by decide +kernel
set_option maxRecDepth 100000 in
theorem dL_law_3496 : decode code 3496 = .ok (.iload 4, 2) := by decide +kernel
set_option maxRecDepth 100000 in
theorem dL_law_3498 : decode code 3498 = .ok (.iconst 4, 1) := by decide +kernel
set_option maxRecDepth 100000 in
theorem dL_law_3499 : decode code 3499 = .ok (.iadd, 1) := by decide +kernel
set_option maxRecDepth 100000 in
theorem dL_law_3500 : decode code 3500 = .ok (.iaload, 1) := by decide +kernel
set_option maxRecDepth 100000 in
theorem dL_law_3501 : decode code 3501 = .ok (.aload_n 3, 1) := by decide +kernel
set_option maxRecDepth 100000 in
theorem dL_law_3502 : decode code 3502 = .ok (.invokestatic 342, 3) := by decide +kernel
set_option maxRecDepth 100000 in
theorem dL_law_3505 : decode code 3505 = .ok (.istore 5, 2) := by decide +kernel
set_option maxRecDepth 100000 in
theorem dL_law_3507 : decode code 3507 = .ok (.aload_n 2, 1) := by decide +kernel
set_option maxRecDepth 100000 in
theorem dL_law_3508 : decode code 3508 = .ok (.aload_n 0, 1) := by decide +kernel
set_option maxRecDepth 100000 in
theorem dL_law_3509 : decode code 3509 = .ok (.iload 4, 2) := by decide +kernel
set_option maxRecDepth 100000 in
theorem dL_law_3511 : decode code 3511 = .ok (.iconst 1, 1) := by decide +kernel
set_option maxRecDepth 100000 in
theorem dL_law_3512 : decode code 3512 = .ok (.iadd, 1) := by decide +kernel
set_option maxRecDepth 100000 in
theorem dL_law_3513 : decode code 3513 = .ok (.iaload, 1) := by decide +kernel
set_option maxRecDepth 100000 in
theorem dL_law_3514 : decode code 3514 = .ok (.aload_n 0, 1) := by decide +kernel
set_option maxRecDepth 100000 in
theorem dL_law_3515 : decode code 3515 = .ok (.iload 4, 2) := by decide +kernel
set_option maxRecDepth 100000 in
theorem dL_law_3517 : decode code 3517 = .ok (.iconst 2, 1) := by decide +kernel
set_option maxRecDepth 100000 in
theorem dL_law_3518 : decode code 3518 = .ok (.iadd, 1) := by decide +kernel
set_option maxRecDepth 100000 in
theorem dL_law_3519 : decode code 3519 = .ok (.iaload, 1) := by decide +kernel
set_option maxRecDepth 100000 in
theorem dL_law_3520 : decode code 3520 = .ok (.aload_n 0, 1) := by decide +kernel
set_option maxRecDepth 100000 in
theorem dL_law_3521 : decode code 3521 = .ok (.iload 4, 2) := by decide +kernel
set_option maxRecDepth 100000 in
theorem dL_law_3523 : decode code 3523 = .ok (.iconst 3, 1) := by decide +kernel
set_option maxRecDepth 100000 in
theorem dL_law_3524 : decode code 3524 = .ok (.iadd, 1) := by decide +kernel
set_option maxRecDepth 100000 in
theorem dL_law_3525 : decode code 3525 = .ok (.iaload, 1) := by decide +kernel
set_option maxRecDepth 100000 in
theorem dL_law_3526 : decode code 3526 = .ok (.aload_n 0, 1) := by decide +kernel
set_option maxRecDepth 100000 in
theorem dL_law_3527 : decode code 3527 = .ok (.iload 4, 2) := by decide +kernel
set_option maxRecDepth 100000 in
theorem dL_law_3529 : decode code 3529 = .ok (.iconst 4, 1) := by decide +kernel
set_option maxRecDepth 100000 in
theorem dL_law_3530 : decode code 3530 = .ok (.iadd, 1) := by decide +kernel
set_option maxRecDepth 100000 in
theorem dL_law_3531 : decode code 3531 = .ok (.iaload, 1) := by decide +kernel
set_option maxRecDepth 100000 in
theorem dL_law_3532 : decode code 3532 = .ok (.invokevirtual 344, 3) := by decide +kernel
set_option maxRecDepth 100000 in
theorem dL_law_3535 : decode code 3535 = .ok (.istore 6, 2) := by decide +kernel
set_option maxRecDepth 100000 in
theorem dL_law_3537 : decode code 3537 = .ok (.aload_n 2, 1) := by decide +kernel
set_option maxRecDepth 100000 in
theorem dL_law_3538 : decode code 3538 = .ok (.invokevirtual 197, 3) := by decide +kernel
set_option maxRecDepth 100000 in
theorem dL_law_3541 : decode code 3541 = .ok (.iload 5, 2) := by decide +kernel
set_option maxRecDepth 100000 in
theorem dL_law_3543 : decode code 3543 = .ok (.if_icmp .eq 5, 3) := by decide +kernel
set_option maxRecDepth 100000 in
theorem dL_law_3546 : decode code 3546 = .ok (.iconst 0, 1) := by decide +kernel
set_option maxRecDepth 100000 in
theorem dL_law_3547 : decode code 3547 = .ok (.ireturn, 1) := by decide +kernel
set_option maxRecDepth 100000 in
theorem dL_law_3548 : decode code 3548 = .ok (.iload 5, 2) := by decide +kernel
set_option maxRecDepth 100000 in
theorem dL_law_3550 : decode code 3550 = .ok (.ifCond .ne 15, 3) := by decide +kernel
set_option maxRecDepth 100000 in
theorem dL_law_3553 : decode code 3553 = .ok (.aload_n 3, 1) := by decide +kernel
set_option maxRecDepth 100000 in
theorem dL_law_3554 : decode code 3554 = .ok (.iconst 0, 1) := by decide +kernel
set_option maxRecDepth 100000 in
theorem dL_law_3555 : decode code 3555 = .ok (.laload, 1) := by decide +kernel
set_option maxRecDepth 100000 in
theorem dL_law_3556 : decode code 3556 = .ok (.iload 6, 2) := by decide +kernel
set_option maxRecDepth 100000 in
theorem dL_law_3558 : decode code 3558 = .ok (.i2l, 1) := by decide +kernel
set_option maxRecDepth 100000 in
theorem dL_law_3559 : decode code 3559 = .ok (.lcmp, 1) := by decide +kernel
set_option maxRecDepth 100000 in
theorem dL_law_3560 : decode code 3560 = .ok (.ifCond .eq 5, 3) := by decide +kernel
set_option maxRecDepth 100000 in
theorem dL_law_3563 : decode code 3563 = .ok (.iconst 0, 1) := by decide +kernel
set_option maxRecDepth 100000 in
theorem dL_law_3564 : decode code 3564 = .ok (.ireturn, 1) := by decide +kernel
set_option maxRecDepth 100000 in
theorem dL_law_3565 : decode code 3565 = .ok (.goto 534, 3) := by decide +kernel
set_option maxRecDepth 100000 in
theorem dL_law_3568 : decode code 3568 = .ok (.aload_n 1, 1) := by decide +kernel
set_option maxRecDepth 100000 in
theorem dL_law_3569 : decode code 3569 = .ok (.aload_n 0, 1) := by decide +kernel
set_option maxRecDepth 100000 in
theorem dL_law_3570 : decode code 3570 = .ok (.iload 4, 2) := by decide +kernel
set_option maxRecDepth 100000 in
theorem dL_law_3572 : decode code 3572 = .ok (.iconst 1, 1) := by decide +kernel
set_option maxRecDepth 100000 in
theorem dL_law_3573 : decode code 3573 = .ok (.iadd, 1) := by decide +kernel
set_option maxRecDepth 100000 in
theorem dL_law_3574 : decode code 3574 = .ok (.iaload, 1) := by decide +kernel
set_option maxRecDepth 100000 in
theorem dL_law_3575 : decode code 3575 = .ok (.aload_n 0, 1) := by decide +kernel
set_option maxRecDepth 100000 in
theorem dL_law_3576 : decode code 3576 = .ok (.iload 4, 2) := by decide +kernel
set_option maxRecDepth 100000 in
theorem dL_law_3578 : decode code 3578 = .ok (.iconst 2, 1) := by decide +kernel
set_option maxRecDepth 100000 in
theorem dL_law_3579 : decode code 3579 = .ok (.iadd, 1) := by decide +kernel
set_option maxRecDepth 100000 in
theorem dL_law_3580 : decode code 3580 = .ok (.iaload, 1) := by decide +kernel
set_option maxRecDepth 100000 in
theorem dL_law_3581 : decode code 3581 = .ok (.aload_n 3, 1) := by decide +kernel
set_option maxRecDepth 100000 in
theorem dL_law_3582 : decode code 3582 = .ok (.invokestatic 345, 3) := by decide +kernel
set_option maxRecDepth 100000 in
theorem dL_law_3585 : decode code 3585 = .ok (.istore 5, 2) := by decide +kernel
set_option maxRecDepth 100000 in
theorem dL_law_3587 : decode code 3587 = .ok (.aload_n 2, 1) := by decide +kernel
set_option maxRecDepth 100000 in
theorem dL_law_3588 : decode code 3588 = .ok (.aload_n 0, 1) := by decide +kernel
set_option maxRecDepth 100000 in
theorem dL_law_3589 : decode code 3589 = .ok (.iload 4, 2) := by decide +kernel
set_option maxRecDepth 100000 in
theorem dL_law_3591 : decode code 3591 = .ok (.iconst 1, 1) := by decide +kernel
set_option maxRecDepth 100000 in
theorem dL_law_3592 : decode code 3592 = .ok (.iadd, 1) := by decide +kernel
set_option maxRecDepth 100000 in
theorem dL_law_3593 : decode code 3593 = .ok (.iaload, 1) := by decide +kernel
set_option maxRecDepth 100000 in
theorem dL_law_3594 : decode code 3594 = .ok (.aload_n 0, 1) := by decide +kernel
set_option maxRecDepth 100000 in
theorem dL_law_3595 : decode code 3595 = .ok (.iload 4, 2) := by decide +kernel
set_option maxRecDepth 100000 in
theorem dL_law_3597 : decode code 3597 = .ok (.iconst 2, 1) := by decide +kernel
set_option maxRecDepth 100000 in
theorem dL_law_3598 : decode code 3598 = .ok (.iadd, 1) := by decide +kernel
set_option maxRecDepth 100000 in
theorem dL_law_3599 : decode code 3599 = .ok (.iaload, 1) := by decide +kernel
set_option maxRecDepth 100000 in
theorem dL_law_3600 : decode code 3600 = .ok (.invokevirtual 347, 3) := by decide +kernel
