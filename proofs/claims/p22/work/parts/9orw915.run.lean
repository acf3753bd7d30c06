/-! the walk runs: 15 -/
set_option maxRecDepth 100000 in
theorem w_g2985 : w_g (nat_lit 2985) = true := by decide +kernel
theorem w_r2986 : w_rg 2986 := w_rg_s (n := 2985) w_r2985 w_g2985
set_option maxRecDepth 100000 in
theorem w_g2986 : w_g (nat_lit 2986) = true := by decide +kernel
theorem w_r2987 : w_rg 2987 := w_rg_s (n := 2986) w_r2986 w_g2986
set_option maxRecDepth 100000 in
theorem w_g2987 : w_g (nat_lit 2987) = true := by decide +kernel
theorem w_r2988 : w_rg 2988 := w_rg_s (n := 2987) w_r2987 w_g2987
set_option maxRecDepth 100000 in
theorem w_g2988 : w_g (nat_lit 2988) = true := by decide +kernel
theorem w_r2989 : w_rg 2989 := w_rg_s (n := 2988) w_r2988 w_g2988
set_option maxRecDepth 100000 in
theorem w_g2989 : w_g (nat_lit 2989) = true := by decide +kernel
theorem w_r2990 : w_rg 2990 := w_rg_s (n := 2989) w_r2989 w_g2989
set_option maxRecDepth 100000 in
theorem w_g2990 : w_g (nat_lit 2990) = true := by decide +kernel
theorem w_r2991 : w_rg 2991 := w_rg_s (n := 2990) w_r2990 w_g2990
set_option maxRecDepth 100000 in
theorem w_g2991 : w_g (nat_lit 2991) = true := by decide +kernel
theorem w_r2992 : w_rg 2992 := w_rg_s (n := 2991) w_r2991 w_g2991
set_option maxRecDepth 100000 in
theorem w_g2992 : w_g (nat_lit 2992) = true := by decide +kernel
theorem w_r2993 : w_rg 2993 := w_rg_s (n := 2992) w_r2992 w_g2992
set_option maxRecDepth 100000 in
theorem w_g2993 : w_g (nat_lit 2993) = true := by decide +kernel
theorem w_r2994 : w_rg 2994 := w_rg_s (n := 2993) w_r2993 w_g2993
set_option maxRecDepth 100000 in
theorem w_g2994 : w_g (nat_lit 2994) = true := by decide +kernel
theorem w_r2995 : w_rg 2995 := w_rg_s (n := 2994) w_r2994 w_g2994
set_option maxRecDepth 100000 in
theorem w_g2995 : w_g (nat_lit 2995) = true := by decide +kernel
theorem w_r2996 : w_rg 2996 := w_rg_s (n := 2995) w_r2995 w_g2995
set_option maxRecDepth 100000 in
theorem w_g2996 : w_g (nat_lit 2996) = true := by decide +kernel
theorem w_r2997 : w_rg 2997 := w_rg_s (n := 2996) w_r2996 w_g2996
set_option maxRecDepth 100000 in
theorem w_g2997 : w_g (nat_lit 2997) = true := by decide +kernel
theorem w_r2998 : w_rg 2998 := w_rg_s (n := 2997) w_r2997 w_g2997
set_option maxRecDepth 100000 in
theorem w_g2998 : w_g (nat_lit 2998) = true := by decide +kernel
theorem w_r2999 : w_rg 2999 := w_rg_s (n := 2998) w_r2998 w_g2998
set_option maxRecDepth 100000 in
theorem w_g2999 : w_g (nat_lit 2999) = true := by decide +kernel
theorem w_r3000 : w_rg 3000 := w_rg_s (n := 2999) w_r2999 w_g2999
set_option maxRecDepth 100000 in
theorem w_g3000 : w_g (nat_lit 3000) = true := by decide +kernel
theorem w_r3001 : w_rg 3001 := w_rg_s (n := 3000) w_r3000 w_g3000
set_option maxRecDepth 100000 in
theorem w_g3001 : w_g (nat_lit 3001) = true := by decide +kernel
theorem w_r3002 : w_rg 3002 := w_rg_s (n := 3001) w_r3001 w_g3001
set_option maxRecDepth 100000 in
theorem w_g3002 : w_g (nat_lit 3002) = true := by decide +kernel
theorem w_r3003 : w_rg 3003 := w_rg_s (n := 3002) w_r3002 w_g3002
set_option maxRecDepth 100000 in
theorem w_g3003 : w_g (nat_lit 3003) = true := by decide +kernel
theorem w_r3004 : w_rg 3004 := w_rg_s (n := 3003) w_r3003 w_g3003
set_option maxRecDepth 100000 in
theorem w_g3004 : w_g (nat_lit 3004) = true := by decide +kernel
theorem w_r3005 : w_rg 3005 := w_rg_s (n := 3004) w_r3004 w_g3004
set_option maxRecDepth 100000 in
theorem w_g3005 : w_g (nat_lit 3005) = true := by decide +kernel
theorem w_r3006 : w_rg 3006 := w_rg_s (n := 3005) w_r3005 w_g3005
set_option maxRecDepth 100000 in
theorem w_g3006 : w_g (nat_lit 3006) = true := by decide +kernel
theorem w_r3007 : w_rg 3007 := w_rg_s (n := 3006) w_r3006 w_g3006
set_option maxRecDepth 100000 in
theorem w_g3007 : w_g (nat_lit 3007) = true := by decide +kernel
theorem w_r3008 : w_rg 3008 := w_rg_s (n := 3007) w_r3007 w_g3007
set_option maxRecDepth 100000 in
theorem w_g3008 : w_g (nat_lit 3008) = true := by decide +kernel
theorem w_r3009 : w_rg 3009 := w_rg_s (n := 3008) w_r3008 w_g3008
set_option maxRecDepth 100000 in
theorem w_g3009 : w_g (nat_lit 3009) = true := by decide +kernel
theorem w_r3010 : w_rg 3010 := w_rg_s (n := 3009) w_r3009 w_g3009
set_option maxRecDepth 100000 in
theorem w_g3010 : w_g (nat_lit 3010) = true := by decide +kernel
theorem w_r3011 : w_rg 3011 := w_rg_s (n := 3010) w_r3010 w_g3010
set_option maxRecDepth 100000 in
theorem w_g3011 : w_g (nat_lit 3011) = true := by decide +kernel
theorem w_r3012 : w_rg 3012 := w_rg_s (n := 3011) w_r3011 w_g3011
set_option maxRecDepth 100000 in
theorem w_g3012 : w_g (nat_lit 3012) = true := by decide +kernel
theorem w_r3013 : w_rg 3013 := w_rg_s (n := 3012) w_r3012 w_g3012
set_option maxRecDepth 100000 in
theorem w_g3013 : w_g (nat_lit 3013) = true := by decide +kernel
theorem w_r3014 : w_rg 3014 := w_rg_s (n := 3013) w_r3013 w_g3013
set_option maxRecDepth 100000 in
theorem w_g3014 : w_g (nat_lit 3014) = true := by decide +kernel
theorem w_r3015 : w_rg 3015 := w_rg_s (n := 3014) w_r3014 w_g3014
set_option maxRecDepth 100000 in
theorem w_g3015 : w_g (nat_lit 3015) = true := by decide +kernel
theorem w_r3016 : w_rg 3016 := w_rg_s (n := 3015) w_r3015 w_g3015
set_option maxRecDepth 100000 in
theorem w_g3016 : w_g (nat_lit 3016) = true := by decide +kernel
theorem w_r3017 : w_rg 3017 := w_rg_s (n := 3016) w_r3016 w_g3016
set_option maxRecDepth 100000 in
theorem w_g3017 : w_g (nat_lit 3017) = true := by decide +kernel
theorem w_r3018 : w_rg 3018 := w_rg_s (n := 3017) w_r3017 w_g3017
set_option maxRecDepth 100000 in
theorem w_g3018 : w_g (nat_lit 3018) = true := by decide +kernel
theorem w_r3019 : w_rg 3019 := w_rg_s (n := 3018) w_r3018 w_g3018
set_option maxRecDepth 100000 in
theorem w_g3019 : w_g (nat_lit 3019) = true := by decide +kernel
theorem w_r3020 : w_rg 3020 := w_rg_s (n := 3019) w_r3019 w_g3019
set_option maxRecDepth 100000 in
theorem w_g3020 : w_g (nat_lit 3020) = true := by decide +kernel
theorem w_r3021 : w_rg 3021 := w_rg_s (n := 3020) w_r3020 w_g3020
set_option maxRecDepth 100000 in
theorem w_g3021 : w_g (nat_lit 3021) = true := by decide +kernel
theorem w_r3022 : w_rg 3022 := w_rg_s (n := 3021) w_r3021 w_g3021
set_option maxRecDepth 100000 in
theorem w_g3022 : w_g (nat_lit 3022) = true := by decide +kernel
theorem w_r3023 : w_rg 3023 := w_rg_s (n := 3022) w_r3022 w_g3022
set_option maxRecDepth 100000 in
theorem w_g3023 : w_g (nat_lit 3023) = true := by decide +kernel
theorem w_r3024 : w_rg 3024 := w_rg_s (n := 3023) w_r3023 w_g3023
set_option maxRecDepth 100000 in
theorem w_g3024 : w_g (nat_lit 3024) = true := by decide +kernel
theorem w_r3025 : w_rg 3025 := w_rg_s (n := 3024) w_r3024 w_g3024
set_option maxRecDepth 100000 in
theorem w_g3025 : w_g (nat_lit 3025) = true := by decide +kernel
theorem w_r3026 : w_rg 3026 := w_rg_s (n := 3025) w_r3025 w_g3025
set_option maxRecDepth 100000 in
theorem w_g3026 : w_g (nat_lit 3026) = true := by decide +kernel
theorem w_r3027 : w_rg 3027 := w_rg_s (n := 3026) w_r3026 w_g3026
set_option maxRecDepth 100000 in
theorem w_g3027 : w_g (nat_lit 3027) = true := by decide +kernel
theorem w_r3028 : w_rg 3028 := w_rg_s (n := 3027) w_r3027 w_g3027
set_option maxRecDepth 100000 in
theorem w_g3028 : w_g (nat_lit 3028) = true := by decide +kernel
theorem w_r3029 : w_rg 3029 := w_rg_s (n := 3028) w_r3028 w_g3028
set_option maxRecDepth 100000 in
theorem w_g3029 : w_g (nat_lit 3029) = true := by decide +kernel
theorem w_r3030 : w_rg 3030 := w_rg_s (n := 3029) w_r3029 w_g3029
set_option maxRecDepth 100000 in
theorem w_g3030 : w_g (nat_lit 3030) = true := by decide +kernel
theorem w_r3031 : w_rg 3031 := w_rg_s (n := 3030) w_r3030 w_g3030
set_option maxRecDepth 100000 in
theorem w_g3031 : w_g (nat_lit 3031) = true := by decide +kernel
theorem w_r3032 : w_rg 3032 := w_rg_s (n := 3031) w_r3031 w_g3031
set_option maxRecDepth 100000 in
theorem w_g3032 : w_g (nat_lit 3032) = true := by decide +kernel
theorem w_r3033 : w_rg 3033 := w_rg_s (n := 3032) w_r3032 w_g3032
set_option maxRecDepth 100000 in
theorem w_g3033 : w_g (nat_lit 3033) = true := by decide +kernel
theorem w_r3034 : w_rg 3034 := w_rg_s (n := 3033) w_r3033 w_g3033
set_option maxRecDepth 100000 in
theorem w_g3034 : w_g (nat_lit 3034) = true := by decide +kernel
theorem w_r3035 : w_rg 3035 := w_rg_s (n := 3034) w_r3034 w_g3034
set_option maxRecDepth 100000 in
theorem w_g3035 : w_g (nat_lit 3035) = true := by decide +kernel
theorem w_r3036 : w_rg 3036 := w_rg_s (n := 3035) w_r3035 w_g3035
set_option maxRecDepth 100000 in
theorem w_g3036 : w_g (nat_lit 3036) = true := by decide +kernel
theorem w_r3037 : w_rg 3037 := w_rg_s (n := 3036) w_r3036 w_g3036
set_option maxRecDepth 100000 in
theorem w_g3037 : w_g (nat_lit 3037) = true := by decide +kernel
theorem w_r3038 : w_rg 3038 := w_rg_s (n := 3037) w_r3037 w_g3037
set_option maxRecDepth 100000 in
theorem w_g3038 : w_g (nat_lit 3038) = true := by decide +kernel
theorem w_r3039 : w_rg 3039 := w_rg_s (n := 3038) w_r3038 w_g3038
set_option maxRecDepth 100000 in
theorem w_g3039 : w_g (nat_lit 3039) = true := by decide +kernel
theorem w_r3040 : w_rg 3040 := w_rg_s (n := 3039) w_r3039 w_g3039
set_option maxRecDepth 100000 in
theorem w_g3040 : w_g (nat_lit 3040) = true := by decide +kernel
theorem w_r3041 : w_rg 3041 := w_rg_s (n := 3040) w_r3040 w_g3040
set_option maxRecDepth 100000 in
theorem w_g3041 : w_g (nat_lit 3041) = true := by decide +kernel
theorem w_r3042 : w_rg 3042 := w_rg_s (n := 3041) w_r3041 w_g3041
set_option maxRecDepth 100000 in
theorem w_g3042 : w_g (nat_lit 3042) = true := by decide +kernel
theorem w_r3043 : w_rg 3043 := w_rg_s (n := 3042) w_r3042 w_g3042
set_option maxRecDepth 100000 in
theorem w_g3043 : w_g (nat_lit 3043) = true := by decide +kernel
theorem w_r3044 : w_rg 3044 := w_rg_s (n := 3043) w_r3043 w_g3043
set_option maxRecDepth 100000 in
theorem w_g3044 : w_g (nat_lit 3044) = true := by decide +kernel
theorem w_r3045 : w_rg 3045 := w_rg_s (n := 3044) w_r3044 w_g3044
set_option maxRecDepth 100000 in
theorem w_g3045 : w_g (nat_lit 3045) = true := by decide +kernel
theorem w_r3046 : w_rg 3046 := w_rg_s (n := 3045) w_r3045 w_g3045
set_option maxRecDepth 100000 in
theorem w_g3046 : w_g (nat_lit 3046) = true := by decide +kernel
theorem w_r3047 : w_rg 3047 := w_rg_s (n := 3046) w_r3046 w_g3046
set_option maxRecDepth 100000 in
theorem w_g3047 : w_g (nat_lit 3047) = true := by decide +kernel
theorem w_r3048 : w_rg 3048 := w_rg_s (n := 3047) w_r3047 w_g3047
set_option maxRecDepth 100000 in
theorem w_g3048 : w_g (nat_lit 3048) = true := by decide +kernel
theorem w_r3049 : w_rg 3049 := w_rg_s (n := 3048) w_r3048 w_g3048
set_option maxRecDepth 100000 in
theorem w_g3049 : w_g (nat_lit 3049) = true := by decide +kernel
theorem w_r3050 : w_rg 3050 := w_rg_s (n := 3049) w_r3049 w_g3049
set_option maxRecDepth 100000 in
theorem w_g3050 : w_g (nat_lit 3050) = true := by decide +kernel
theorem w_r3051 : w_rg 3051 := w_rg_s (n := 3050) w_r3050 w_g3050
set_option maxRecDepth 100000 in
theorem w_g3051 : w_g (nat_lit 3051) = true := by decide +kernel
theorem w_r3052 : w_rg 3052 := w_rg_s (n := 3051) w_r3051 w_g3051
set_option maxRecDepth 100000 in
theorem w_g3052 : w_g (nat_lit 3052) = true := by decide +kernel
theorem w_r3053 : w_rg 3053 := w_rg_s (n := 3052) w_r3052 w_g3052
set_option maxRecDepth 100000 in
theorem w_g3053 : w_g (nat_lit 3053) = true := by decide +kernel
theorem w_r3054 : w_rg 3054 := w_rg_s (n := 3053) w_r3053 w_g3053
set_option maxRecDepth 100000 in
theorem w_g3054 : w_g (nat_lit 3054) = true := by decide +kernel
theorem w_r3055 : w_rg 3055 := w_rg_s (n := 3054) w_r3054 w_g3054
set_option maxRecDepth 100000 in
theorem w_g3055 : w_g (nat_lit 3055) = true := by decide +kernel
theorem w_r3056 : w_rg 3056 := w_rg_s (n := 3055) w_r3055 w_g3055
set_option maxRecDepth 100000 in
theorem w_g3056 : w_g (nat_lit 3056) = true := by decide +kernel
theorem w_r3057 : w_rg 3057 := w_rg_s (n := 3056) w_r3056 w_g3056
set_option maxRecDepth 100000 in
theorem w_g3057 : w_g (nat_lit 3057) = true := by decide +kernel
theorem w_r3058 : w_rg 3058 := w_rg_s (n := 3057) w_r3057 w_g3057
set_option maxRecDepth 100000 in
theorem w_g3058 : w_g (nat_lit 3058) = true := by decide +kernel
theorem w_r3059 : w_rg 3059 := w_rg_s (n := 3058) w_r3058 w_g3058
set_option maxRecDepth 100000 in
theorem w_g3059 : w_g (nat_lit 3059) = true := by decide +kernel
theorem w_r3060 : w_rg 3060 := w_rg_s (n := 3059) w_r3059 w_g3059
set_option maxRecDepth 100000 in
theorem w_g3060 : w_g (nat_lit 3060) = true := by decide +kernel
theorem w_r3061 : w_rg 3061 := w_rg_s (n := 3060) w_r3060 w_g3060
set_option maxRecDepth 100000 in
theorem w_g3061 : w_g (nat_lit 3061) = true := by decide +kernel
theorem w_r3062 : w_rg 3062 := w_rg_s (n := 3061) w_r3061 w_g3061
set_option maxRecDepth 100000 in
theorem w_g3062 : w_g (nat_lit 3062) = true := by decide +kernel
theorem w_r3063 : w_rg 3063 := w_rg_s (n := 3062) w_r3062 w_g3062
set_option maxRecDepth 100000 in
theorem w_g3063 : w_g (nat_lit 3063) = true := by decide +kernel
theorem w_r3064 : w_rg 3064 := w_rg_s (n := 3063) w_r3063 w_g3063
set_option maxRecDepth 100000 in
theorem w_g3064 : w_g (nat_lit 3064) = true := by decide +kernel
theorem w_r3065 : w_rg 3065 := w_rg_s (n := 3064) w_r3064 w_g3064
set_option maxRecDepth 100000 in
theorem w_g3065 : w_g (nat_lit 3065) = true := by decide +kernel
theorem w_r3066 : w_rg 3066 := w_rg_s (n := 3065) w_r3065 w_g3065
set_option maxRecDepth 100000 in
theorem w_g3066 : w_g (nat_lit 3066) = true := by decide +kernel
theorem w_r3067 : w_rg 3067 := w_rg_s (n := 3066) w_r3066 w_g3066
set_option maxRecDepth 100000 in
theorem w_g3067 : w_g (nat_lit 3067) = true := by decide +kernel
theorem w_r3068 : w_rg 3068 := w_rg_s (n := 3067) w_r3067 w_g3067
set_option maxRecDepth 100000 in
theorem w_g3068 : w_g (nat_lit 3068) = true := by decide +kernel
theorem w_r3069 : w_rg 3069 := w_rg_s (n := 3068) w_r3068 w_g3068
set_option maxRecDepth 100000 in
theorem w_g3069 : w_g (nat_lit 3069) = true := by decide +kernel
theorem w_r3070 : w_rg 3070 := w_rg_s (n := 3069) w_r3069 w_g3069
set_option maxRecDepth 100000 in
theorem w_g3070 : w_g (nat_lit 3070) = true := by decide +kernel
theorem w_r3071 : w_rg 3071 := w_rg_s (n := 3070) w_r3070 w_g3070
set_option maxRecDepth 100000 in
theorem w_g3071 : w_g (nat_lit 3071) = true := by decide +kernel
theorem w_r3072 : w_rg 3072 := w_rg_s (n := 3071) w_r3071 w_g3071
set_option maxRecDepth 100000 in
theorem w_g3072 : w_g (nat_lit 3072) = true := by decide +kernel
theorem w_r3073 : w_rg 3073 := w_rg_s (n := 3072) w_r3072 w_g3072
set_option maxRecDepth 100000 in
theorem w_g3073 : w_g (nat_lit 3073) = true := by decide +kernel
theorem w_r3074 : w_rg 3074 := w_rg_s (n := 3073) w_r3073 w_g3073
set_option maxRecDepth 100000 in
theorem w_g3074 : w_g (nat_lit 3074) = true := by decide +kernel
theorem w_r3075 : w_rg 3075 := w_rg_s (n := 3074) w_r3074 w_g3074
set_option maxRecDepth 100000 in
theorem w_g3075 : w_g (nat_lit 3075) = true := by decide +kernel
theorem w_r3076 : w_rg 3076 := w_rg_s (n := 3075) w_r3075 w_g3075
set_option maxRecDepth 100000 in
theorem w_g3076 : w_g (nat_lit 3076) = true := by decide +kernel
theorem w_r3077 : w_rg 3077 := w_rg_s (n := 3076) w_r3076 w_g3076
set_option maxRecDepth 100000 in
theorem w_g3077 : w_g (nat_lit 3077) = true := by decide +kernel
theorem w_r3078 : w_rg 3078 := w_rg_s (n := 3077) w_r3077 w_g3077
set_option maxRecDepth 100000 in
theorem w_g3078 : w_g (nat_lit 3078) = true := by decide +kernel
theorem w_r3079 : w_rg 3079 := w_rg_s (n := 3078) w_r3078 w_g3078
set_option maxRecDepth 100000 in
theorem w_g3079 : w_g (nat_lit 3079) = true := by decide +kernel
theorem w_r3080 : w_rg 3080 := w_rg_s (n := 3079) w_r3079 w_g3079
set_option maxRecDepth 100000 in
theorem w_g3080 : w_g (nat_lit 3080) = true := by decide +kernel
theorem w_r3081 : w_rg 3081 := w_rg_s (n := 3080) w_r3080 w_g3080
set_option maxRecDepth 100000 in
theorem w_g3081 : w_g (nat_lit 3081) = true := by decide +kernel
theorem w_r3082 : w_rg 3082 := w_rg_s (n := 3081) w_r3081 w_g3081
set_option maxRecDepth 100000 in
theorem w_g3082 : w_g (nat_lit 3082) = true := by decide +kernel
theorem w_r3083 : w_rg 3083 := w_rg_s (n := 3082) w_r3082 w_g3082
set_option maxRecDepth 100000 in
theorem w_g3083 : w_g (nat_lit 3083) = true := by decide +kernel
theorem w_r3084 : w_rg 3084 := w_rg_s (n := 3083) w_r3083 w_g3083
set_option maxRecDepth 100000 in
theorem w_g3084 : w_g (nat_lit 3084) = true := by decide +kernel
theorem w_r3085 : w_rg 3085 := w_rg_s (n := 3084) w_r3084 w_g3084
set_option maxRecDepth 100000 in
theorem w_g3085 : w_g (nat_lit 3085) = true := by decide +kernel
theorem w_r3086 : w_rg 3086 := w_rg_s (n := 3085) w_r3085 w_g3085
set_option maxRecDepth 100000 in
theorem w_g3086 : w_g (nat_lit 3086) = true := by decide +kernel
theorem w_r3087 : w_rg 3087 := w_rg_s (n := 3086) w_r3086 w_g3086
set_option maxRecDepth 100000 in
theorem w_g3087 : w_g (nat_lit 3087) = true := by decide +kernel
theorem w_r3088 : w_rg 3088 := w_rg_s (n := 3087) w_r3087 w_g3087
set_option maxRecDepth 100000 in
theorem w_g3088 : w_g (nat_lit 3088) = true := by decide +kernel
theorem w_r3089 : w_rg 3089 := w_rg_s (n := 3088) w_r3088 w_g3088
set_option maxRecDepth 100000 in
theorem w_g3089 : w_g (nat_lit 3089) = true := by decide +kernel
theorem w_r3090 : w_rg 3090 := w_rg_s (n := 3089) w_r3089 w_g3089
set_option maxRecDepth 100000 in
theorem w_g3090 : w_g (nat_lit 3090) = true := by decide +kernel
theorem w_r3091 : w_rg 3091 := w_rg_s (n := 3090) w_r3090 w_g3090
set_option maxRecDepth 100000 in
theorem w_g3091 : w_g (nat_lit 3091) = true := by decide +kernel
theorem w_r3092 : w_rg 3092 := w_rg_s (n := 3091) w_r3091 w_g3091
set_option maxRecDepth 100000 in
theorem w_g3092 : w_g (nat_lit 3092) = true := by decide +kernel
theorem w_r3093 : w_rg 3093 := w_rg_s (n := 3092) w_r3092 w_g3092
set_option maxRecDepth 100000 in
theorem w_g3093 : w_g (nat_lit 3093) = true := by decide +kernel
theorem w_r3094 : w_rg 3094 := w_rg_s (n := 3093) w_r3093 w_g3093
set_option maxRecDepth 100000 in
theorem w_g3094 : w_g (nat_lit 3094) = true := by decide +kernel
theorem w_r3095 : w_rg 3095 := w_rg_s (n := 3094) w_r3094 w_g3094
set_option maxRecDepth 100000 in
theorem w_g3095 : w_g (nat_lit 3095) = true := by decide +kernel
theorem w_r3096 : w_rg 3096 := w_rg_s (n := 3095) w_r3095 w_g3095
set_option maxRecDepth 100000 in
theorem w_g3096 : w_g (nat_lit 3096) = true := by decide +kernel
theorem w_r3097 : w_rg 3097 := w_rg_s (n := 3096) w_r3096 w_g3096
set_option maxRecDepth 100000 in
theorem w_g3097 : w_g (nat_lit 3097) = true := by decide +kernel
theorem w_r3098 : w_rg 3098 := w_rg_s (n := 3097) w_r3097 w_g3097
set_option maxRecDepth 100000 in
theorem w_g3098 : w_g (nat_lit 3098) = true := by decide +kernel
theorem w_r3099 : w_rg 3099 := w_rg_s (n := 3098) w_r3098 w_g3098
set_option maxRecDepth 100000 in
theorem w_g3099 : w_g (nat_lit 3099) = true := by decide +kernel
theorem w_r3100 : w_rg 3100 := w_rg_s (n := 3099) w_r3099 w_g3099
set_option maxRecDepth 100000 in
theorem w_g3100 : w_g (nat_lit 3100) = true := by decide +kernel
theorem w_r3101 : w_rg 3101 := w_rg_s (n := 3100) w_r3100 w_g3100
set_option maxRecDepth 100000 in
theorem w_g3101 : w_g (nat_lit 3101) = true := by decide +kernel
theorem w_r3102 : w_rg 3102 := w_rg_s (n := 3101) w_r3101 w_g3101
set_option maxRecDepth 100000 in
theorem w_g3102 : w_g (nat_lit 3102) = true := by decide +kernel
theorem w_r3103 : w_rg 3103 := w_rg_s (n := 3102) w_r3102 w_g3102
set_option maxRecDepth 100000 in
theorem w_g3103 : w_g (nat_lit 3103) = true := by decide +kernel
theorem w_r3104 : w_rg 3104 := w_rg_s (n := 3103) w_r3103 w_g3103
set_option maxRecDepth 100000 in
theorem w_g3104 : w_g (nat_lit 3104) = true := by decide +kernel
theorem w_r3105 : w_rg 3105 := w_rg_s (n := 3104) w_r3104 w_g3104
set_option maxRecDepth 100000 in
theorem w_g3105 : w_g (nat_lit 3105) = true := by decide +kernel
theorem w_r3106 : w_rg 3106 := w_rg_s (n := 3105) w_r3105 w_g3105
set_option maxRecDepth 100000 in
theorem w_g3106 : w_g (nat_lit 3106) = true := by decide +kernel
theorem w_r3107 : w_rg 3107 := w_rg_s (n := 3106) w_r3106 w_g3106
set_option maxRecDepth 100000 in
theorem w_g3107 : w_g (nat_lit 3107) = true := by decide +kernel
theorem w_r3108 : w_rg 3108 := w_rg_s (n := 3107) w_r3107 w_g3107
set_option maxRecDepth 100000 in
theorem w_g3108 : w_g (nat_lit 3108) = true := by decide +kernel
theorem w_r3109 : w_rg 3109 := w_rg_s (n := 3108) w_r3108 w_g3108
set_option maxRecDepth 100000 in
theorem w_g3109 : w_g (nat_lit 3109) = true := by decide +kernel
theorem w_r3110 : w_rg 3110 := w_rg_s (n := 3109) w_r3109 w_g3109
set_option maxRecDepth 100000 in
theorem w_g3110 : w_g (nat_lit 3110) = true := by decide +kernel
theorem w_r3111 : w_rg 3111 := w_rg_s (n := 3110) w_r3110 w_g3110
set_option maxRecDepth 100000 in
theorem w_g3111 : w_g (nat_lit 3111) = true := by decide +kernel
theorem w_r3112 : w_rg 3112 := w_rg_s (n := 3111) w_r3111 w_g3111
set_option maxRecDepth 100000 in
theorem w_g3112 : w_g (nat_lit 3112) = true := by decide +kernel
theorem w_r3113 : w_rg 3113 := w_rg_s (n := 3112) w_r3112 w_g3112
set_option maxRecDepth 100000 in
theorem w_g3113 : w_g (nat_lit 3113) = true := by decide +kernel
theorem w_r3114 : w_rg 3114 := w_rg_s (n := 3113) w_r3113 w_g3113
set_option maxRecDepth 100000 in
theorem w_g3114 : w_g (nat_lit 3114) = true := by decide +kernel
theorem w_r3115 : w_rg 3115 := w_rg_s (n := 3114) w_r3114 w_g3114
set_option maxRecDepth 100000 in
theorem w_g3115 : w_g (nat_lit 3115) = true := by decide +kernel
theorem w_r3116 : w_rg 3116 := w_rg_s (n := 3115) w_r3115 w_g3115
set_option maxRecDepth 100000 in
theorem w_g3116 : w_g (nat_lit 3116) = true := by decide +kernel
theorem w_r3117 : w_rg 3117 := w_rg_s (n := 3116) w_r3116 w_g3116
set_option maxRecDepth 100000 in
theorem w_g3117 : w_g (nat_lit 3117) = true := by decide +kernel
theorem w_r3118 : w_rg 3118 := w_rg_s (n := 3117) w_r3117 w_g3117
set_option maxRecDepth 100000 in
theorem w_g3118 : w_g (nat_lit 3118) = true := by decide +kernel
theorem w_r3119 : w_rg 3119 := w_rg_s (n := 3118) w_r3118 w_g3118
set_option maxRecDepth 100000 in
theorem w_g3119 : w_g (nat_lit 3119) = true := by decide +kernel
theorem w_r3120 : w_rg 3120 := w_rg_s (n := 3119) w_r3119 w_g3119
set_option maxRecDepth 100000 in
theorem w_g3120 : w_g (nat_lit 3120) = true := by decide +kernel
theorem w_r3121 : w_rg 3121 := w_rg_s (n := 3120) w_r3120 w_g3120
set_option maxRecDepth 100000 in
theorem w_g3121 : w_g (nat_lit 3121) = true := by decide +kernel
theorem w_r3122 : w_rg 3122 := w_rg_s (n := 3121) w_r3121 w_g3121
set_option maxRecDepth 100000 in
theorem w_g3122 : w_g (nat_lit 3122) = true := by decide +kernel
theorem w_r3123 : w_rg 3123 := w_rg_s (n := 3122) w_r3122 w_g3122
set_option maxRecDepth 100000 in
theorem w_g3123 : w_g (nat_lit 3123) = true := by decide +kernel
theorem w_r3124 : w_rg 3124 := w_rg_s (n := 3123) w_r3123 w_g3123
set_option maxRecDepth 100000 in
theorem w_g3124 : w_g (nat_lit 3124) = true := by decide +kernel
theorem w_r3125 : w_rg 3125 := w_rg_s (n := 3124) w_r3124 w_g3124
set_option maxRecDepth 100000 in
theorem w_g3125 : w_g (nat_lit 3125) = true := by decide +kernel
theorem w_r3126 : w_rg 3126 := w_rg_s (n := 3125) w_r3125 w_g3125
set_option maxRecDepth 100000 in
theorem w_g3126 : w_g (nat_lit 3126) = true := by decide +kernel
theorem w_r3127 : w_rg 3127 := w_rg_s (n := 3126) w_r3126 w_g3126
set_option maxRecDepth 100000 in
theorem w_g3127 : w_g (nat_lit 3127) = true := by decide +kernel
theorem w_r3128 : w_rg 3128 := w_rg_s (n := 3127) w_r3127 w_g3127
set_option maxRecDepth 100000 in
theorem w_g3128 : w_g (nat_lit 3128) = true := by decide +kernel
theorem w_r3129 : w_rg 3129 := w_rg_s (n := 3128) w_r3128 w_g3128
set_option maxRecDepth 100000 in
theorem w_g3129 : w_g (nat_lit 3129) = true := by decide +kernel
theorem w_r3130 : w_rg 3130 := w_rg_s (n := 3129) w_r3129 w_g3129
set_option maxRecDepth 100000 in
theorem w_g3130 : w_g (nat_lit 3130) = true := by decide +kernel
theorem w_r3131 : w_rg 3131 := w_rg_s (n := 3130) w_r3130 w_g3130
set_option maxRecDepth 100000 in
theorem w_g3131 : w_g (nat_lit 3131) = true := by decide +kernel
theorem w_r3132 : w_rg 3132 := w_rg_s (n := 3131) w_r3131 w_g3131
set_option maxRecDepth 100000 in
theorem w_g3132 : w_g (nat_lit 3132) = true := by decide +kernel
theorem w_r3133 : w_rg 3133 := w_rg_s (n := 3132) w_r3132 w_g3132
set_option maxRecDepth 100000 in
theorem w_g3133 : w_g (nat_lit 3133) = true := by decide +kernel
theorem w_r3134 : w_rg 3134 := w_rg_s (n := 3133) w_r3133 w_g3133
set_option maxRecDepth 100000 in
theorem w_g3134 : w_g (nat_lit 3134) = true := by decide +kernel
theorem w_r3135 : w_rg 3135 := w_rg_s (n := 3134) w_r3134 w_g3134
set_option maxRecDepth 100000 in
theorem w_g3135 : w_g (nat_lit 3135) = true := by decide +kernel
theorem w_r3136 : w_rg 3136 := w_rg_s (n := 3135) w_r3135 w_g3135
set_option maxRecDepth 100000 in
theorem w_g3136 : w_g (nat_lit 3136) = true := by decide +kernel
theorem w_r3137 : w_rg 3137 := w_rg_s (n := 3136) w_r3136 w_g3136
set_option maxRecDepth 100000 in
theorem w_g3137 : w_g (nat_lit 3137) = true := by decide +kernel
theorem w_r3138 : w_rg 3138 := w_rg_s (n := 3137) w_r3137 w_g3137
set_option maxRecDepth 100000 in
theorem w_g3138 : w_g (nat_lit 3138) = true := by decide +kernel
theorem w_r3139 : w_rg 3139 := w_rg_s (n := 3138) w_r3138 w_g3138
set_option maxRecDepth 100000 in
theorem w_g3139 : w_g (nat_lit 3139) = true := by decide +kernel
theorem w_r3140 : w_rg 3140 := w_rg_s (n := 3139) w_r3139 w_g3139
set_option maxRecDepth 100000 in
theorem w_g3140 : w_g (nat_lit 3140) = true := by decide +kernel
theorem w_r3141 : w_rg 3141 := w_rg_s (n := 3140) w_r3140 w_g3140
set_option maxRecDepth 100000 in
theorem w_g3141 : w_g (nat_lit 3141) = true := by decide +kernel
theorem w_r3142 : w_rg 3142 := w_rg_s (n := 3141) w_r3141 w_g3141
set_option maxRecDepth 100000 in
theorem w_g3142 : w_g (nat_lit 3142) = true := by decide +kernel
theorem w_r3143 : w_rg 3143 := w_rg_s (n := 3142) w_r3142 w_g3142
set_option maxRecDepth 100000 in
theorem w_g3143 : w_g (nat_lit 3143) = true := by decide +kernel
theorem w_r3144 : w_rg 3144 := w_rg_s (n := 3143) w_r3143 w_g3143
set_option maxRecDepth 100000 in
theorem w_g3144 : w_g (nat_lit 3144) = true := by decide +kernel
theorem w_r3145 : w_rg 3145 := w_rg_s (n := 3144) w_r3144 w_g3144
set_option maxRecDepth 100000 in
theorem w_g3145 : w_g (nat_lit 3145) = true := by decide +kernel
theorem w_r3146 : w_rg 3146 := w_rg_s (n := 3145) w_r3145 w_g3145
set_option maxRecDepth 100000 in
theorem w_g3146 : w_g (nat_lit 3146) = true := by decide +kernel
theorem w_r3147 : w_rg 3147 := w_rg_s (n := 3146) w_r3146 w_g3146
set_option maxRecDepth 100000 in
theorem w_g3147 : w_g (nat_lit 3147) = true := by decide +kernel
theorem w_r3148 : w_rg 3148 := w_rg_s (n := 3147) w_r3147 w_g3147
set_option maxRecDepth 100000 in
theorem w_g3148 : w_g (nat_lit 3148) = true := by decide +kernel
theorem w_r3149 : w_rg 3149 := w_rg_s (n := 3148) w_r3148 w_g3148
set_option maxRecDepth 100000 in
theorem w_g3149 : w_g (nat_lit 3149) = true := by decide +kernel
theorem w_r3150 : w_rg 3150 := w_rg_s (n := 3149) w_r3149 w_g3149
set_option maxRecDepth 100000 in
theorem w_g3150 : w_g (nat_lit 3150) = true := by decide +kernel
theorem w_r3151 : w_rg 3151 := w_rg_s (n := 3150) w_r3150 w_g3150
set_option maxRecDepth 100000 in
theorem w_g3151 : w_g (nat_lit 3151) = true := by decide +kernel
theorem w_r3152 : w_rg 3152 := w_rg_s (n := 3151) w_r3151 w_g3151
set_option maxRecDepth 100000 in
theorem w_g3152 : w_g (nat_lit 3152) = true := by decide +kernel
theorem w_r3153 : w_rg 3153 := w_rg_s (n := 3152) w_r3152 w_g3152
set_option maxRecDepth 100000 in
theorem w_g3153 : w_g (nat_lit 3153) = true := by decide +kernel
theorem w_r3154 : w_rg 3154 := w_rg_s (n := 3153) w_r3153 w_g3153
set_option maxRecDepth 100000 in
theorem w_g3154 : w_g (nat_lit 3154) = true := by decide +kernel
theorem w_r3155 : w_rg 3155 := w_rg_s (n := 3154) w_r3154 w_g3154
set_option maxRecDepth 100000 in
theorem w_g3155 : w_g (nat_lit 3155) = true := by decide +kernel
theorem w_r3156 : w_rg 3156 := w_rg_s (n := 3155) w_r3155 w_g3155
set_option maxRecDepth 100000 in
theorem w_g3156 : w_g (nat_lit 3156) = true := by decide +kernel
theorem w_r3157 : w_rg 3157 := w_rg_s (n := 3156) w_r3156 w_g3156
set_option maxRecDepth 100000 in
theorem w_g3157 : w_g (nat_lit 3157) = true := by decide +kernel
theorem w_r3158 : w_rg 3158 := w_rg_s (n := 3157) w_r3157 w_g3157
set_option maxRecDepth 100000 in
theorem w_g3158 : w_g (nat_lit 3158) = true := by decide +kernel
theorem w_r3159 : w_rg 3159 := w_rg_s (n := 3158) w_r3158 w_g3158
set_option maxRecDepth 100000 in
theorem w_g3159 : w_g (nat_lit 3159) = true := by decide +kernel
theorem w_r3160 : w_rg 3160 := w_rg_s (n := 3159) w_r3159 w_g3159
set_option maxRecDepth 100000 in
theorem w_g3160 : w_g (nat_lit 3160) = true := by decide +kernel
theorem w_r3161 : w_rg 3161 := w_rg_s (n := 3160) w_r3160 w_g3160
set_option maxRecDepth 100000 in
theorem w_g3161 : w_g (nat_lit 3161) = true := by decide +kernel
theorem w_r3162 : w_rg 3162 := w_rg_s (n := 3161) w_r3161 w_g3161
set_option maxRecDepth 100000 in
theorem w_g3162 : w_g (nat_lit 3162) = true := by decide +kernel
theorem w_r3163 : w_rg 3163 := w_rg_s (n := 3162) w_r3162 w_g3162
set_option maxRecDepth 100000 in
theorem w_g3163 : w_g (nat_lit 3163) = true := by decide +kernel
theorem w_r3164 : w_rg 3164 := w_rg_s (n := 3163) w_r3163 w_g3163
set_option maxRecDepth 100000 in
theorem w_g3164 : w_g (nat_lit 3164) = true := by decide +kernel
theorem w_r3165 : w_rg 3165 := w_rg_s (n := 3164) w_r3164 w_g3164
set_option maxRecDepth 100000 in
theorem w_g3165 : w_g (nat_lit 3165) = true := by decide +kernel
theorem w_r3166 : w_rg 3166 := w_rg_s (n := 3165) w_r3165 w_g3165
set_option maxRecDepth 100000 in
theorem w_g3166 : w_g (nat_lit 3166) = true := by decide +kernel
theorem w_r3167 : w_rg 3167 := w_rg_s (n := 3166) w_r3166 w_g3166
set_option maxRecDepth 100000 in
theorem w_g3167 : w_g (nat_lit 3167) = true := by decide +kernel
theorem w_r3168 : w_rg 3168 := w_rg_s (n := 3167) w_r3167 w_g3167
set_option maxRecDepth 100000 in
theorem w_g3168 : w_g (nat_lit 3168) = true := by decide +kernel
theorem w_r3169 : w_rg 3169 := w_rg_s (n := 3168) w_r3168 w_g3168
set_option maxRecDepth 100000 in
theorem w_g3169 : w_g (nat_lit 3169) = true := by decide +kernel
theorem w_r3170 : w_rg 3170 := w_rg_s (n := 3169) w_r3169 w_g3169
set_option maxRecDepth 100000 in
theorem w_g3170 : w_g (nat_lit 3170) = true := by decide +kernel
theorem w_r3171 : w_rg 3171 := w_rg_s (n := 3170) w_r3170 w_g3170
set_option maxRecDepth 100000 in
theorem w_g3171 : w_g (nat_lit 3171) = true := by decide +kernel
theorem w_r3172 : w_rg 3172 := w_rg_s (n := 3171) w_r3171 w_g3171
set_option maxRecDepth 100000 in
theorem w_g3172 : w_g (nat_lit 3172) = true := by decide +kernel
theorem w_r3173 : w_rg 3173 := w_rg_s (n := 3172) w_r3172 w_g3172
set_option maxRecDepth 100000 in
theorem w_g3173 : w_g (nat_lit 3173) = true := by decide +kernel
theorem w_r3174 : w_rg 3174 := w_rg_s (n := 3173) w_r3173 w_g3173
set_option maxRecDepth 100000 in
theorem w_g3174 : w_g (nat_lit 3174) = true := by decide +kernel
theorem w_r3175 : w_rg 3175 := w_rg_s (n := 3174) w_r3174 w_g3174
set_option maxRecDepth 100000 in
theorem w_g3175 : w_g (nat_lit 3175) = true := by decide +kernel
theorem w_r3176 : w_rg 3176 := w_rg_s (n := 3175) w_r3175 w_g3175
set_option maxRecDepth 100000 in
theorem w_g3176 : w_g (nat_lit 3176) = true := by decide +kernel
theorem w_r3177 : w_rg 3177 := w_rg_s (n := 3176) w_r3176 w_g3176
set_option maxRecDepth 100000 in
theorem w_g3177 : w_g (nat_lit 3177) = true := by decide +kernel
theorem w_r3178 : w_rg 3178 := w_rg_s (n := 3177) w_r3177 w_g3177
