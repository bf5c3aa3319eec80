theorem dL_law_3066 : decode cL_law 3066 = .ok (.invokevirtual 365, 3) := by decide +kernel
theorem dL_law_3069 : decode cL_law 3069 = .ok (.if_icmp .eq 117, 3) := by decide +kernel
theorem dL_law_3074 : decode cL_law 3074 = .ok (.aload_n 1, 1) := by decide +kernel
theorem dL_law_3075 : decode cL_law 3075 = .ok (.aload_n 0, 1) := by decide +kernel
theorem dL_law_3076 : decode cL_law 3076 = .ok (.iload 4, 2) := by decide +kernel
theorem dL_law_3078 : decode cL_law 3078 = .ok (.iconst 1, 1) := by decide +kernel
theorem dL_law_3079 : decode cL_law 3079 = .ok (.iadd, 1) := by decide +kernel
theorem dL_law_3080 : decode cL_law 3080 = .ok (.iaload, 1) := by decide +kernel
theorem dL_law_3081 : decode cL_law 3081 = .ok (.aload_n 3, 1) := by decide +kernel
theorem dL_law_3082 : decode cL_law 3082 = .ok (.invokestatic 366, 3) := by decide +kernel
theorem dL_law_3085 : decode cL_law 3085 = .ok (.istore 5, 2) := by decide +kernel
theorem dL_law_3087 : decode cL_law 3087 = .ok (.aload_n 2, 1) := by decide +kernel
theorem dL_law_3088 : decode cL_law 3088 = .ok (.aload_n 0, 1) := by decide +kernel
theorem dL_law_3089 : decode cL_law 3089 = .ok (.iload 4, 2) := by decide +kernel
theorem dL_law_3091 : decode cL_law 3091 = .ok (.iconst 1, 1) := by decide +kernel
theorem dL_law_3092 : decode cL_law 3092 = .ok (.iadd, 1) := by decide +kernel
theorem dL_law_3093 : decode cL_law 3093 = .ok (.iaload, 1) := by decide +kernel
theorem dL_law_3094 : decode cL_law 3094 = .ok (.invokevirtual 368, 3) := by decide +kernel
theorem dL_law_3097 : decode cL_law 3097 = .ok (.istore 6, 2) := by decide +kernel
theorem dL_law_3099 : decode cL_law 3099 = .ok (.aload_n 2, 1) := by decide +kernel
theorem dL_law_3100 : decode cL_law 3100 = .ok (.invokevirtual 187, 3) := by decide +kernel
theorem dL_law_3103 : decode cL_law 3103 = .ok (.iload 5, 2) := by decide +kernel
theorem dL_law_3105 : decode cL_law 3105 = .ok (.if_icmp .eq 5, 3) := by decide +kernel
theorem dL_law_3110 : decode cL_law 3110 = .ok (.iload 5, 2) := by decide +kernel
theorem dL_law_3112 : decode cL_law 3112 = .ok (.ifCond .ne 15, 3) := by decide +kernel
theorem dL_law_3127 : decode cL_law 3127 = .ok (.goto 59, 3) := by decide +kernel
theorem dL_law_3130 : decode cL_law 3130 = .ok (.aload_n 1, 1) := by decide +kernel
theorem dL_law_3131 : decode cL_law 3131 = .ok (.aload_n 0, 1) := by decide +kernel
theorem dL_law_3132 : decode cL_law 3132 = .ok (.iload 4, 2) := by decide +kernel
theorem dL_law_3134 : decode cL_law 3134 = .ok (.iconst 1, 1) := by decide +kernel
theorem dL_law_3135 : decode cL_law 3135 = .ok (.iadd, 1) := by decide +kernel
theorem dL_law_3136 : decode cL_law 3136 = .ok (.iaload, 1) := by decide +kernel
theorem dL_law_3137 : decode cL_law 3137 = .ok (.aload_n 3, 1) := by decide +kernel
theorem dL_law_3138 : decode cL_law 3138 = .ok (.invokestatic 369, 3) := by decide +kernel
theorem dL_law_3141 : decode cL_law 3141 = .ok (.istore 5, 2) := by decide +kernel
theorem dL_law_3143 : decode cL_law 3143 = .ok (.aload_n 2, 1) := by decide +kernel
theorem dL_law_3144 : decode cL_law 3144 = .ok (.aload_n 0, 1) := by decide +kernel
theorem dL_law_3145 : decode cL_law 3145 = .ok (.iload 4, 2) := by decide +kernel
theorem dL_law_3147 : decode cL_law 3147 = .ok (.iconst 1, 1) := by decide +kernel
theorem dL_law_3148 : decode cL_law 3148 = .ok (.iadd, 1) := by decide +kernel
theorem dL_law_3149 : decode cL_law 3149 = .ok (.iaload, 1) := by decide +kernel
theorem dL_law_3150 : decode cL_law 3150 = .ok (.invokevirtual 371, 3) := by decide +kernel
theorem dL_law_3153 : decode cL_law 3153 = .ok (.istore 6, 2) := by decide +kernel
theorem dL_law_3155 : decode cL_law 3155 = .ok (.aload_n 2, 1) := by decide +kernel
theorem dL_law_3156 : decode cL_law 3156 = .ok (.invokevirtual 187, 3) := by decide +kernel
theorem dL_law_3159 : decode cL_law 3159 = .ok (.iload 5, 2) := by decide +kernel
theorem dL_law_3161 : decode cL_law 3161 = .ok (.if_icmp .eq 5, 3) := by decide +kernel
theorem dL_law_3166 : decode cL_law 3166 = .ok (.iload 5, 2) := by decide +kernel
theorem dL_law_3168 : decode cL_law 3168 = .ok (.ifCond .ne 15, 3) := by decide +kernel
theorem dL_law_3183 : decode cL_law 3183 = .ok (.goto 3, 3) := by decide +kernel
theorem dL_law_3186 : decode cL_law 3186 = .ok (.iinc 4 6, 3) := by decide +kernel
theorem dL_law_3189 : decode cL_law 3189 = .ok (.goto (-3166), 3) := by decide +kernel
theorem dL_law_3192 : decode cL_law 3192 = .ok (.iconst 1, 1) := by decide +kernel
theorem dL_law_3193 : decode cL_law 3193 = .ok (.ireturn, 1) := by decide +kernel
