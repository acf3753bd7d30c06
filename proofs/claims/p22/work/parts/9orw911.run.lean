/-! the walk runs: 11 -/
set_option maxRecDepth 100000 in
theorem w_g2189 : w_g (nat_lit 2189) = true := by decide +kernel
theorem w_r2190 : w_rg 2190 := w_rg_s (n := 2189) w_r2189 w_g2189
set_option maxRecDepth 100000 in
theorem w_g2190 : w_g (nat_lit 2190) = true := by decide +kernel
theorem w_r2191 : w_rg 2191 := w_rg_s (n := 2190) w_r2190 w_g2190
set_option maxRecDepth 100000 in
theorem w_g2191 : w_g (nat_lit 2191) = true := by decide +kernel
theorem w_r2192 : w_rg 2192 := w_rg_s (n := 2191) w_r2191 w_g2191
set_option maxRecDepth 100000 in
theorem w_g2192 : w_g (nat_lit 2192) = true := by decide +kernel
theorem w_r2193 : w_rg 2193 := w_rg_s (n := 2192) w_r2192 w_g2192
set_option maxRecDepth 100000 in
theorem w_g2193 : w_g (nat_lit 2193) = true := by decide +kernel
theorem w_r2194 : w_rg 2194 := w_rg_s (n := 2193) w_r2193 w_g2193
set_option maxRecDepth 100000 in
theorem w_g2194 : w_g (nat_lit 2194) = true := by decide +kernel
theorem w_r2195 : w_rg 2195 := w_rg_s (n := 2194) w_r2194 w_g2194
set_option maxRecDepth 100000 in
theorem w_g2195 : w_g (nat_lit 2195) = true := by decide +kernel
theorem w_r2196 : w_rg 2196 := w_rg_s (n := 2195) w_r2195 w_g2195
set_option maxRecDepth 100000 in
theorem w_g2196 : w_g (nat_lit 2196) = true := by decide +kernel
theorem w_r2197 : w_rg 2197 := w_rg_s (n := 2196) w_r2196 w_g2196
set_option maxRecDepth 100000 in
theorem w_g2197 : w_g (nat_lit 2197) = true := by decide +kernel
theorem w_r2198 : w_rg 2198 := w_rg_s (n := 2197) w_r2197 w_g2197
set_option maxRecDepth 100000 in
theorem w_g2198 : w_g (nat_lit 2198) = true := by decide +kernel
theorem w_r2199 : w_rg 2199 := w_rg_s (n := 2198) w_r2198 w_g2198
set_option maxRecDepth 100000 in
theorem w_g2199 : w_g (nat_lit 2199) = true := by decide +kernel
theorem w_r2200 : w_rg 2200 := w_rg_s (n := 2199) w_r2199 w_g2199
set_option maxRecDepth 100000 in
theorem w_g2200 : w_g (nat_lit 2200) = true := by decide +kernel
theorem w_r2201 : w_rg 2201 := w_rg_s (n := 2200) w_r2200 w_g2200
set_option maxRecDepth 100000 in
theorem w_g2201 : w_g (nat_lit 2201) = true := by decide +kernel
theorem w_r2202 : w_rg 2202 := w_rg_s (n := 2201) w_r2201 w_g2201
set_option maxRecDepth 100000 in
theorem w_g2202 : w_g (nat_lit 2202) = true := by decide +kernel
theorem w_r2203 : w_rg 2203 := w_rg_s (n := 2202) w_r2202 w_g2202
set_option maxRecDepth 100000 in
theorem w_g2203 : w_g (nat_lit 2203) = true := by decide +kernel
theorem w_r2204 : w_rg 2204 := w_rg_s (n := 2203) w_r2203 w_g2203
set_option maxRecDepth 100000 in
theorem w_g2204 : w_g (nat_lit 2204) = true := by decide +kernel
theorem w_r2205 : w_rg 2205 := w_rg_s (n := 2204) w_r2204 w_g2204
set_option maxRecDepth 100000 in
theorem w_g2205 : w_g (nat_lit 2205) = true := by decide +kernel
theorem w_r2206 : w_rg 2206 := w_rg_s (n := 2205) w_r2205 w_g2205
set_option maxRecDepth 100000 in
theorem w_g2206 : w_g (nat_lit 2206) = true := by decide +kernel
theorem w_r2207 : w_rg 2207 := w_rg_s (n := 2206) w_r2206 w_g2206
set_option maxRecDepth 100000 in
theorem w_g2207 : w_g (nat_lit 2207) = true := by decide +kernel
theorem w_r2208 : w_rg 2208 := w_rg_s (n := 2207) w_r2207 w_g2207
set_option maxRecDepth 100000 in
theorem w_g2208 : w_g (nat_lit 2208) = true := by decide +kernel
theorem w_r2209 : w_rg 2209 := w_rg_s (n := 2208) w_r2208 w_g2208
set_option maxRecDepth 100000 in
theorem w_g2209 : w_g (nat_lit 2209) = true := by decide +kernel
theorem w_r2210 : w_rg 2210 := w_rg_s (n := 2209) w_r2209 w_g2209
set_option maxRecDepth 100000 in
theorem w_g2210 : w_g (nat_lit 2210) = true := by decide +kernel
theorem w_r2211 : w_rg 2211 := w_rg_s (n := 2210) w_r2210 w_g2210
set_option maxRecDepth 100000 in
theorem w_g2211 : w_g (nat_lit 2211) = true := by decide +kernel
theorem w_r2212 : w_rg 2212 := w_rg_s (n := 2211) w_r2211 w_g2211
set_option maxRecDepth 100000 in
theorem w_g2212 : w_g (nat_lit 2212) = true := by decide +kernel
theorem w_r2213 : w_rg 2213 := w_rg_s (n := 2212) w_r2212 w_g2212
set_option maxRecDepth 100000 in
theorem w_g2213 : w_g (nat_lit 2213) = true := by decide +kernel
theorem w_r2214 : w_rg 2214 := w_rg_s (n := 2213) w_r2213 w_g2213
set_option maxRecDepth 100000 in
theorem w_g2214 : w_g (nat_lit 2214) = true := by decide +kernel
theorem w_r2215 : w_rg 2215 := w_rg_s (n := 2214) w_r2214 w_g2214
set_option maxRecDepth 100000 in
theorem w_g2215 : w_g (nat_lit 2215) = true := by decide +kernel
theorem w_r2216 : w_rg 2216 := w_rg_s (n := 2215) w_r2215 w_g2215
set_option maxRecDepth 100000 in
theorem w_g2216 : w_g (nat_lit 2216) = true := by decide +kernel
theorem w_r2217 : w_rg 2217 := w_rg_s (n := 2216) w_r2216 w_g2216
set_option maxRecDepth 100000 in
theorem w_g2217 : w_g (nat_lit 2217) = true := by decide +kernel
theorem w_r2218 : w_rg 2218 := w_rg_s (n := 2217) w_r2217 w_g2217
set_option maxRecDepth 100000 in
theorem w_g2218 : w_g (nat_lit 2218) = true := by decide +kernel
theorem w_r2219 : w_rg 2219 := w_rg_s (n := 2218) w_r2218 w_g2218
set_option maxRecDepth 100000 in
theorem w_g2219 : w_g (nat_lit 2219) = true := by decide +kernel
theorem w_r2220 : w_rg 2220 := w_rg_s (n := 2219) w_r2219 w_g2219
set_option maxRecDepth 100000 in
theorem w_g2220 : w_g (nat_lit 2220) = true := by decide +kernel
theorem w_r2221 : w_rg 2221 := w_rg_s (n := 2220) w_r2220 w_g2220
set_option maxRecDepth 100000 in
theorem w_g2221 : w_g (nat_lit 2221) = true := by decide +kernel
theorem w_r2222 : w_rg 2222 := w_rg_s (n := 2221) w_r2221 w_g2221
set_option maxRecDepth 100000 in
theorem w_g2222 : w_g (nat_lit 2222) = true := by decide +kernel
theorem w_r2223 : w_rg 2223 := w_rg_s (n := 2222) w_r2222 w_g2222
set_option maxRecDepth 100000 in
theorem w_g2223 : w_g (nat_lit 2223) = true := by decide +kernel
theorem w_r2224 : w_rg 2224 := w_rg_s (n := 2223) w_r2223 w_g2223
set_option maxRecDepth 100000 in
theorem w_g2224 : w_g (nat_lit 2224) = true := by decide +kernel
theorem w_r2225 : w_rg 2225 := w_rg_s (n := 2224) w_r2224 w_g2224
set_option maxRecDepth 100000 in
theorem w_g2225 : w_g (nat_lit 2225) = true := by decide +kernel
theorem w_r2226 : w_rg 2226 := w_rg_s (n := 2225) w_r2225 w_g2225
set_option maxRecDepth 100000 in
theorem w_g2226 : w_g (nat_lit 2226) = true := by decide +kernel
theorem w_r2227 : w_rg 2227 := w_rg_s (n := 2226) w_r2226 w_g2226
set_option maxRecDepth 100000 in
theorem w_g2227 : w_g (nat_lit 2227) = true := by decide +kernel
theorem w_r2228 : w_rg 2228 := w_rg_s (n := 2227) w_r2227 w_g2227
set_option maxRecDepth 100000 in
theorem w_g2228 : w_g (nat_lit 2228) = true := by decide +kernel
theorem w_r2229 : w_rg 2229 := w_rg_s (n := 2228) w_r2228 w_g2228
set_option maxRecDepth 100000 in
theorem w_g2229 : w_g (nat_lit 2229) = true := by decide +kernel
theorem w_r2230 : w_rg 2230 := w_rg_s (n := 2229) w_r2229 w_g2229
set_option maxRecDepth 100000 in
theorem w_g2230 : w_g (nat_lit 2230) = true := by decide +kernel
theorem w_r2231 : w_rg 2231 := w_rg_s (n := 2230) w_r2230 w_g2230
set_option maxRecDepth 100000 in
theorem w_g2231 : w_g (nat_lit 2231) = true := by decide +kernel
theorem w_r2232 : w_rg 2232 := w_rg_s (n := 2231) w_r2231 w_g2231
set_option maxRecDepth 100000 in
theorem w_g2232 : w_g (nat_lit 2232) = true := by decide +kernel
theorem w_r2233 : w_rg 2233 := w_rg_s (n := 2232) w_r2232 w_g2232
set_option maxRecDepth 100000 in
theorem w_g2233 : w_g (nat_lit 2233) = true := by decide +kernel
theorem w_r2234 : w_rg 2234 := w_rg_s (n := 2233) w_r2233 w_g2233
set_option maxRecDepth 100000 in
theorem w_g2234 : w_g (nat_lit 2234) = true := by decide +kernel
theorem w_r2235 : w_rg 2235 := w_rg_s (n := 2234) w_r2234 w_g2234
set_option maxRecDepth 100000 in
theorem w_g2235 : w_g (nat_lit 2235) = true := by decide +kernel
theorem w_r2236 : w_rg 2236 := w_rg_s (n := 2235) w_r2235 w_g2235
set_option maxRecDepth 100000 in
theorem w_g2236 : w_g (nat_lit 2236) = true := by decide +kernel
theorem w_r2237 : w_rg 2237 := w_rg_s (n := 2236) w_r2236 w_g2236
set_option maxRecDepth 100000 in
theorem w_g2237 : w_g (nat_lit 2237) = true := by decide +kernel
theorem w_r2238 : w_rg 2238 := w_rg_s (n := 2237) w_r2237 w_g2237
set_option maxRecDepth 100000 in
theorem w_g2238 : w_g (nat_lit 2238) = true := by decide +kernel
theorem w_r2239 : w_rg 2239 := w_rg_s (n := 2238) w_r2238 w_g2238
set_option maxRecDepth 100000 in
theorem w_g2239 : w_g (nat_lit 2239) = true := by decide +kernel
theorem w_r2240 : w_rg 2240 := w_rg_s (n := 2239) w_r2239 w_g2239
set_option maxRecDepth 100000 in
theorem w_g2240 : w_g (nat_lit 2240) = true := by decide +kernel
theorem w_r2241 : w_rg 2241 := w_rg_s (n := 2240) w_r2240 w_g2240
set_option maxRecDepth 100000 in
theorem w_g2241 : w_g (nat_lit 2241) = true := by decide +kernel
theorem w_r2242 : w_rg 2242 := w_rg_s (n := 2241) w_r2241 w_g2241
set_option maxRecDepth 100000 in
theorem w_g2242 : w_g (nat_lit 2242) = true := by decide +kernel
theorem w_r2243 : w_rg 2243 := w_rg_s (n := 2242) w_r2242 w_g2242
set_option maxRecDepth 100000 in
theorem w_g2243 : w_g (nat_lit 2243) = true := by decide +kernel
theorem w_r2244 : w_rg 2244 := w_rg_s (n := 2243) w_r2243 w_g2243
set_option maxRecDepth 100000 in
theorem w_g2244 : w_g (nat_lit 2244) = true := by decide +kernel
theorem w_r2245 : w_rg 2245 := w_rg_s (n := 2244) w_r2244 w_g2244
set_option maxRecDepth 100000 in
theorem w_g2245 : w_g (nat_lit 2245) = true := by decide +kernel
theorem w_r2246 : w_rg 2246 := w_rg_s (n := 2245) w_r2245 w_g2245
set_option maxRecDepth 100000 in
theorem w_g2246 : w_g (nat_lit 2246) = true := by decide +kernel
theorem w_r2247 : w_rg 2247 := w_rg_s (n := 2246) w_r2246 w_g2246
set_option maxRecDepth 100000 in
theorem w_g2247 : w_g (nat_lit 2247) = true := by decide +kernel
theorem w_r2248 : w_rg 2248 := w_rg_s (n := 2247) w_r2247 w_g2247
set_option maxRecDepth 100000 in
theorem w_g2248 : w_g (nat_lit 2248) = true := by decide +kernel
theorem w_r2249 : w_rg 2249 := w_rg_s (n := 2248) w_r2248 w_g2248
set_option maxRecDepth 100000 in
theorem w_g2249 : w_g (nat_lit 2249) = true := by decide +kernel
theorem w_r2250 : w_rg 2250 := w_rg_s (n := 2249) w_r2249 w_g2249
set_option maxRecDepth 100000 in
theorem w_g2250 : w_g (nat_lit 2250) = true := by decide +kernel
theorem w_r2251 : w_rg 2251 := w_rg_s (n := 2250) w_r2250 w_g2250
set_option maxRecDepth 100000 in
theorem w_g2251 : w_g (nat_lit 2251) = true := by decide +kernel
theorem w_r2252 : w_rg 2252 := w_rg_s (n := 2251) w_r2251 w_g2251
set_option maxRecDepth 100000 in
theorem w_g2252 : w_g (nat_lit 2252) = true := by decide +kernel
theorem w_r2253 : w_rg 2253 := w_rg_s (n := 2252) w_r2252 w_g2252
set_option maxRecDepth 100000 in
theorem w_g2253 : w_g (nat_lit 2253) = true := by decide +kernel
theorem w_r2254 : w_rg 2254 := w_rg_s (n := 2253) w_r2253 w_g2253
set_option maxRecDepth 100000 in
theorem w_g2254 : w_g (nat_lit 2254) = true := by decide +kernel
theorem w_r2255 : w_rg 2255 := w_rg_s (n := 2254) w_r2254 w_g2254
set_option maxRecDepth 100000 in
theorem w_g2255 : w_g (nat_lit 2255) = true := by decide +kernel
theorem w_r2256 : w_rg 2256 := w_rg_s (n := 2255) w_r2255 w_g2255
set_option maxRecDepth 100000 in
theorem w_g2256 : w_g (nat_lit 2256) = true := by decide +kernel
theorem w_r2257 : w_rg 2257 := w_rg_s (n := 2256) w_r2256 w_g2256
set_option maxRecDepth 100000 in
theorem w_g2257 : w_g (nat_lit 2257) = true := by decide +kernel
theorem w_r2258 : w_rg 2258 := w_rg_s (n := 2257) w_r2257 w_g2257
set_option maxRecDepth 100000 in
theorem w_g2258 : w_g (nat_lit 2258) = true := by decide +kernel
theorem w_r2259 : w_rg 2259 := w_rg_s (n := 2258) w_r2258 w_g2258
set_option maxRecDepth 100000 in
theorem w_g2259 : w_g (nat_lit 2259) = true := by decide +kernel
theorem w_r2260 : w_rg 2260 := w_rg_s (n := 2259) w_r2259 w_g2259
set_option maxRecDepth 100000 in
theorem w_g2260 : w_g (nat_lit 2260) = true := by decide +kernel
theorem w_r2261 : w_rg 2261 := w_rg_s (n := 2260) w_r2260 w_g2260
set_option maxRecDepth 100000 in
theorem w_g2261 : w_g (nat_lit 2261) = true := by decide +kernel
theorem w_r2262 : w_rg 2262 := w_rg_s (n := 2261) w_r2261 w_g2261
set_option maxRecDepth 100000 in
theorem w_g2262 : w_g (nat_lit 2262) = true := by decide +kernel
theorem w_r2263 : w_rg 2263 := w_rg_s (n := 2262) w_r2262 w_g2262
set_option maxRecDepth 100000 in
theorem w_g2263 : w_g (nat_lit 2263) = true := by decide +kernel
theorem w_r2264 : w_rg 2264 := w_rg_s (n := 2263) w_r2263 w_g2263
set_option maxRecDepth 100000 in
theorem w_g2264 : w_g (nat_lit 2264) = true := by decide +kernel
theorem w_r2265 : w_rg 2265 := w_rg_s (n := 2264) w_r2264 w_g2264
set_option maxRecDepth 100000 in
theorem w_g2265 : w_g (nat_lit 2265) = true := by decide +kernel
theorem w_r2266 : w_rg 2266 := w_rg_s (n := 2265) w_r2265 w_g2265
set_option maxRecDepth 100000 in
theorem w_g2266 : w_g (nat_lit 2266) = true := by decide +kernel
theorem w_r2267 : w_rg 2267 := w_rg_s (n := 2266) w_r2266 w_g2266
set_option maxRecDepth 100000 in
theorem w_g2267 : w_g (nat_lit 2267) = true := by decide +kernel
theorem w_r2268 : w_rg 2268 := w_rg_s (n := 2267) w_r2267 w_g2267
set_option maxRecDepth 100000 in
theorem w_g2268 : w_g (nat_lit 2268) = true := by decide +kernel
theorem w_r2269 : w_rg 2269 := w_rg_s (n := 2268) w_r2268 w_g2268
set_option maxRecDepth 100000 in
theorem w_g2269 : w_g (nat_lit 2269) = true := by decide +kernel
theorem w_r2270 : w_rg 2270 := w_rg_s (n := 2269) w_r2269 w_g2269
set_option maxRecDepth 100000 in
theorem w_g2270 : w_g (nat_lit 2270) = true := by decide +kernel
theorem w_r2271 : w_rg 2271 := w_rg_s (n := 2270) w_r2270 w_g2270
set_option maxRecDepth 100000 in
theorem w_g2271 : w_g (nat_lit 2271) = true := by decide +kernel
theorem w_r2272 : w_rg 2272 := w_rg_s (n := 2271) w_r2271 w_g2271
set_option maxRecDepth 100000 in
theorem w_g2272 : w_g (nat_lit 2272) = true := by decide +kernel
theorem w_r2273 : w_rg 2273 := w_rg_s (n := 2272) w_r2272 w_g2272
set_option maxRecDepth 100000 in
theorem w_g2273 : w_g (nat_lit 2273) = true := by decide +kernel
theorem w_r2274 : w_rg 2274 := w_rg_s (n := 2273) w_r2273 w_g2273
set_option maxRecDepth 100000 in
theorem w_g2274 : w_g (nat_lit 2274) = true := by decide +kernel
theorem w_r2275 : w_rg 2275 := w_rg_s (n := 2274) w_r2274 w_g2274
set_option maxRecDepth 100000 in
theorem w_g2275 : w_g (nat_lit 2275) = true := by decide +kernel
theorem w_r2276 : w_rg 2276 := w_rg_s (n := 2275) w_r2275 w_g2275
set_option maxRecDepth 100000 in
theorem w_g2276 : w_g (nat_lit 2276) = true := by decide +kernel
theorem w_r2277 : w_rg 2277 := w_rg_s (n := 2276) w_r2276 w_g2276
set_option maxRecDepth 100000 in
theorem w_g2277 : w_g (nat_lit 2277) = true := by decide +kernel
theorem w_r2278 : w_rg 2278 := w_rg_s (n := 2277) w_r2277 w_g2277
set_option maxRecDepth 100000 in
theorem w_g2278 : w_g (nat_lit 2278) = true := by decide +kernel
theorem w_r2279 : w_rg 2279 := w_rg_s (n := 2278) w_r2278 w_g2278
set_option maxRecDepth 100000 in
theorem w_g2279 : w_g (nat_lit 2279) = true := by decide +kernel
theorem w_r2280 : w_rg 2280 := w_rg_s (n := 2279) w_r2279 w_g2279
set_option maxRecDepth 100000 in
theorem w_g2280 : w_g (nat_lit 2280) = true := by decide +kernel
theorem w_r2281 : w_rg 2281 := w_rg_s (n := 2280) w_r2280 w_g2280
set_option maxRecDepth 100000 in
theorem w_g2281 : w_g (nat_lit 2281) = true := by decide +kernel
theorem w_r2282 : w_rg 2282 := w_rg_s (n := 2281) w_r2281 w_g2281
set_option maxRecDepth 100000 in
theorem w_g2282 : w_g (nat_lit 2282) = true := by decide +kernel
theorem w_r2283 : w_rg 2283 := w_rg_s (n := 2282) w_r2282 w_g2282
set_option maxRecDepth 100000 in
theorem w_g2283 : w_g (nat_lit 2283) = true := by decide +kernel
theorem w_r2284 : w_rg 2284 := w_rg_s (n := 2283) w_r2283 w_g2283
set_option maxRecDepth 100000 in
theorem w_g2284 : w_g (nat_lit 2284) = true := by decide +kernel
theorem w_r2285 : w_rg 2285 := w_rg_s (n := 2284) w_r2284 w_g2284
set_option maxRecDepth 100000 in
theorem w_g2285 : w_g (nat_lit 2285) = true := by decide +kernel
theorem w_r2286 : w_rg 2286 := w_rg_s (n := 2285) w_r2285 w_g2285
set_option maxRecDepth 100000 in
theorem w_g2286 : w_g (nat_lit 2286) = true := by decide +kernel
theorem w_r2287 : w_rg 2287 := w_rg_s (n := 2286) w_r2286 w_g2286
set_option maxRecDepth 100000 in
theorem w_g2287 : w_g (nat_lit 2287) = true := by decide +kernel
theorem w_r2288 : w_rg 2288 := w_rg_s (n := 2287) w_r2287 w_g2287
set_option maxRecDepth 100000 in
theorem w_g2288 : w_g (nat_lit 2288) = true := by decide +kernel
theorem w_r2289 : w_rg 2289 := w_rg_s (n := 2288) w_r2288 w_g2288
set_option maxRecDepth 100000 in
theorem w_g2289 : w_g (nat_lit 2289) = true := by decide +kernel
theorem w_r2290 : w_rg 2290 := w_rg_s (n := 2289) w_r2289 w_g2289
set_option maxRecDepth 100000 in
theorem w_g2290 : w_g (nat_lit 2290) = true := by decide +kernel
theorem w_r2291 : w_rg 2291 := w_rg_s (n := 2290) w_r2290 w_g2290
set_option maxRecDepth 100000 in
theorem w_g2291 : w_g (nat_lit 2291) = true := by decide +kernel
theorem w_r2292 : w_rg 2292 := w_rg_s (n := 2291) w_r2291 w_g2291
set_option maxRecDepth 100000 in
theorem w_g2292 : w_g (nat_lit 2292) = true := by decide +kernel
theorem w_r2293 : w_rg 2293 := w_rg_s (n := 2292) w_r2292 w_g2292
set_option maxRecDepth 100000 in
theorem w_g2293 : w_g (nat_lit 2293) = true := by decide +kernel
theorem w_r2294 : w_rg 2294 := w_rg_s (n := 2293) w_r2293 w_g2293
set_option maxRecDepth 100000 in
theorem w_g2294 : w_g (nat_lit 2294) = true := by decide +kernel
theorem w_r2295 : w_rg 2295 := w_rg_s (n := 2294) w_r2294 w_g2294
set_option maxRecDepth 100000 in
theorem w_g2295 : w_g (nat_lit 2295) = true := by decide +kernel
theorem w_r2296 : w_rg 2296 := w_rg_s (n := 2295) w_r2295 w_g2295
set_option maxRecDepth 100000 in
theorem w_g2296 : w_g (nat_lit 2296) = true := by decide +kernel
theorem w_r2297 : w_rg 2297 := w_rg_s (n := 2296) w_r2296 w_g2296
set_option maxRecDepth 100000 in
theorem w_g2297 : w_g (nat_lit 2297) = true := by decide +kernel
theorem w_r2298 : w_rg 2298 := w_rg_s (n := 2297) w_r2297 w_g2297
set_option maxRecDepth 100000 in
theorem w_g2298 : w_g (nat_lit 2298) = true := by decide +kernel
theorem w_r2299 : w_rg 2299 := w_rg_s (n := 2298) w_r2298 w_g2298
set_option maxRecDepth 100000 in
theorem w_g2299 : w_g (nat_lit 2299) = true := by decide +kernel
theorem w_r2300 : w_rg 2300 := w_rg_s (n := 2299) w_r2299 w_g2299
set_option maxRecDepth 100000 in
theorem w_g2300 : w_g (nat_lit 2300) = true := by decide +kernel
theorem w_r2301 : w_rg 2301 := w_rg_s (n := 2300) w_r2300 w_g2300
set_option maxRecDepth 100000 in
theorem w_g2301 : w_g (nat_lit 2301) = true := by decide +kernel
theorem w_r2302 : w_rg 2302 := w_rg_s (n := 2301) w_r2301 w_g2301
set_option maxRecDepth 100000 in
theorem w_g2302 : w_g (nat_lit 2302) = true := by decide +kernel
theorem w_r2303 : w_rg 2303 := w_rg_s (n := 2302) w_r2302 w_g2302
set_option maxRecDepth 100000 in
theorem w_g2303 : w_g (nat_lit 2303) = true := by decide +kernel
theorem w_r2304 : w_rg 2304 := w_rg_s (n := 2303) w_r2303 w_g2303
set_option maxRecDepth 100000 in
theorem w_g2304 : w_g (nat_lit 2304) = true := by decide +kernel
theorem w_r2305 : w_rg 2305 := w_rg_s (n := 2304) w_r2304 w_g2304
set_option maxRecDepth 100000 in
theorem w_g2305 : w_g (nat_lit 2305) = true := by decide +kernel
theorem w_r2306 : w_rg 2306 := w_rg_s (n := 2305) w_r2305 w_g2305
set_option maxRecDepth 100000 in
theorem w_g2306 : w_g (nat_lit 2306) = true := by decide +kernel
theorem w_r2307 : w_rg 2307 := w_rg_s (n := 2306) w_r2306 w_g2306
set_option maxRecDepth 100000 in
theorem w_g2307 : w_g (nat_lit 2307) = true := by decide +kernel
theorem w_r2308 : w_rg 2308 := w_rg_s (n := 2307) w_r2307 w_g2307
set_option maxRecDepth 100000 in
theorem w_g2308 : w_g (nat_lit 2308) = true := by decide +kernel
theorem w_r2309 : w_rg 2309 := w_rg_s (n := 2308) w_r2308 w_g2308
set_option maxRecDepth 100000 in
theorem w_g2309 : w_g (nat_lit 2309) = true := by decide +kernel
theorem w_r2310 : w_rg 2310 := w_rg_s (n := 2309) w_r2309 w_g2309
set_option maxRecDepth 100000 in
theorem w_g2310 : w_g (nat_lit 2310) = true := by decide +kernel
theorem w_r2311 : w_rg 2311 := w_rg_s (n := 2310) w_r2310 w_g2310
set_option maxRecDepth 100000 in
theorem w_g2311 : w_g (nat_lit 2311) = true := by decide +kernel
theorem w_r2312 : w_rg 2312 := w_rg_s (n := 2311) w_r2311 w_g2311
set_option maxRecDepth 100000 in
theorem w_g2312 : w_g (nat_lit 2312) = true := by decide +kernel
theorem w_r2313 : w_rg 2313 := w_rg_s (n := 2312) w_r2312 w_g2312
set_option maxRecDepth 100000 in
theorem w_g2313 : w_g (nat_lit 2313) = true := by decide +kernel
theorem w_r2314 : w_rg 2314 := w_rg_s (n := 2313) w_r2313 w_g2313
set_option maxRecDepth 100000 in
theorem w_g2314 : w_g (nat_lit 2314) = true := by decide +kernel
theorem w_r2315 : w_rg 2315 := w_rg_s (n := 2314) w_r2314 w_g2314
set_option maxRecDepth 100000 in
theorem w_g2315 : w_g (nat_lit 2315) = true := by decide +kernel
theorem w_r2316 : w_rg 2316 := w_rg_s (n := 2315) w_r2315 w_g2315
set_option maxRecDepth 100000 in
theorem w_g2316 : w_g (nat_lit 2316) = true := by decide +kernel
theorem w_r2317 : w_rg 2317 := w_rg_s (n := 2316) w_r2316 w_g2316
set_option maxRecDepth 100000 in
theorem w_g2317 : w_g (nat_lit 2317) = true := by decide +kernel
theorem w_r2318 : w_rg 2318 := w_rg_s (n := 2317) w_r2317 w_g2317
set_option maxRecDepth 100000 in
theorem w_g2318 : w_g (nat_lit 2318) = true := by decide +kernel
theorem w_r2319 : w_rg 2319 := w_rg_s (n := 2318) w_r2318 w_g2318
set_option maxRecDepth 100000 in
theorem w_g2319 : w_g (nat_lit 2319) = true := by decide +kernel
theorem w_r2320 : w_rg 2320 := w_rg_s (n := 2319) w_r2319 w_g2319
set_option maxRecDepth 100000 in
theorem w_g2320 : w_g (nat_lit 2320) = true := by decide +kernel
theorem w_r2321 : w_rg 2321 := w_rg_s (n := 2320) w_r2320 w_g2320
set_option maxRecDepth 100000 in
theorem w_g2321 : w_g (nat_lit 2321) = true := by decide +kernel
theorem w_r2322 : w_rg 2322 := w_rg_s (n := 2321) w_r2321 w_g2321
set_option maxRecDepth 100000 in
theorem w_g2322 : w_g (nat_lit 2322) = true := by decide +kernel
theorem w_r2323 : w_rg 2323 := w_rg_s (n := 2322) w_r2322 w_g2322
set_option maxRecDepth 100000 in
theorem w_g2323 : w_g (nat_lit 2323) = true := by decide +kernel
theorem w_r2324 : w_rg 2324 := w_rg_s (n := 2323) w_r2323 w_g2323
set_option maxRecDepth 100000 in
theorem w_g2324 : w_g (nat_lit 2324) = true := by decide +kernel
theorem w_r2325 : w_rg 2325 := w_rg_s (n := 2324) w_r2324 w_g2324
set_option maxRecDepth 100000 in
theorem w_g2325 : w_g (nat_lit 2325) = true := by decide +kernel
theorem w_r2326 : w_rg 2326 := w_rg_s (n := 2325) w_r2325 w_g2325
set_option maxRecDepth 100000 in
theorem w_g2326 : w_g (nat_lit 2326) = true := by decide +kernel
theorem w_r2327 : w_rg 2327 := w_rg_s (n := 2326) w_r2326 w_g2326
set_option maxRecDepth 100000 in
theorem w_g2327 : w_g (nat_lit 2327) = true := by decide +kernel
theorem w_r2328 : w_rg 2328 := w_rg_s (n := 2327) w_r2327 w_g2327
set_option maxRecDepth 100000 in
theorem w_g2328 : w_g (nat_lit 2328) = true := by decide +kernel
theorem w_r2329 : w_rg 2329 := w_rg_s (n := 2328) w_r2328 w_g2328
set_option maxRecDepth 100000 in
theorem w_g2329 : w_g (nat_lit 2329) = true := by decide +kernel
theorem w_r2330 : w_rg 2330 := w_rg_s (n := 2329) w_r2329 w_g2329
set_option maxRecDepth 100000 in
theorem w_g2330 : w_g (nat_lit 2330) = true := by decide +kernel
theorem w_r2331 : w_rg 2331 := w_rg_s (n := 2330) w_r2330 w_g2330
set_option maxRecDepth 100000 in
theorem w_g2331 : w_g (nat_lit 2331) = true := by decide +kernel
theorem w_r2332 : w_rg 2332 := w_rg_s (n := 2331) w_r2331 w_g2331
set_option maxRecDepth 100000 in
theorem w_g2332 : w_g (nat_lit 2332) = true := by decide +kernel
theorem w_r2333 : w_rg 2333 := w_rg_s (n := 2332) w_r2332 w_g2332
set_option maxRecDepth 100000 in
theorem w_g2333 : w_g (nat_lit 2333) = true := by decide +kernel
theorem w_r2334 : w_rg 2334 := w_rg_s (n := 2333) w_r2333 w_g2333
set_option maxRecDepth 100000 in
theorem w_g2334 : w_g (nat_lit 2334) = true := by decide +kernel
theorem w_r2335 : w_rg 2335 := w_rg_s (n := 2334) w_r2334 w_g2334
set_option maxRecDepth 100000 in
theorem w_g2335 : w_g (nat_lit 2335) = true := by decide +kernel
theorem w_r2336 : w_rg 2336 := w_rg_s (n := 2335) w_r2335 w_g2335
set_option maxRecDepth 100000 in
theorem w_g2336 : w_g (nat_lit 2336) = true := by decide +kernel
theorem w_r2337 : w_rg 2337 := w_rg_s (n := 2336) w_r2336 w_g2336
set_option maxRecDepth 100000 in
theorem w_g2337 : w_g (nat_lit 2337) = true := by decide +kernel
theorem w_r2338 : w_rg 2338 := w_rg_s (n := 2337) w_r2337 w_g2337
set_option maxRecDepth 100000 in
theorem w_g2338 : w_g (nat_lit 2338) = true := by decide +kernel
theorem w_r2339 : w_rg 2339 := w_rg_s (n := 2338) w_r2338 w_g2338
set_option maxRecDepth 100000 in
theorem w_g2339 : w_g (nat_lit 2339) = true := by decide +kernel
theorem w_r2340 : w_rg 2340 := w_rg_s (n := 2339) w_r2339 w_g2339
set_option maxRecDepth 100000 in
theorem w_g2340 : w_g (nat_lit 2340) = true := by decide +kernel
theorem w_r2341 : w_rg 2341 := w_rg_s (n := 2340) w_r2340 w_g2340
set_option maxRecDepth 100000 in
theorem w_g2341 : w_g (nat_lit 2341) = true := by decide +kernel
theorem w_r2342 : w_rg 2342 := w_rg_s (n := 2341) w_r2341 w_g2341
set_option maxRecDepth 100000 in
theorem w_g2342 : w_g (nat_lit 2342) = true := by decide +kernel
theorem w_r2343 : w_rg 2343 := w_rg_s (n := 2342) w_r2342 w_g2342
set_option maxRecDepth 100000 in
theorem w_g2343 : w_g (nat_lit 2343) = true := by decide +kernel
theorem w_r2344 : w_rg 2344 := w_rg_s (n := 2343) w_r2343 w_g2343
set_option maxRecDepth 100000 in
theorem w_g2344 : w_g (nat_lit 2344) = true := by decide +kernel
theorem w_r2345 : w_rg 2345 := w_rg_s (n := 2344) w_r2344 w_g2344
set_option maxRecDepth 100000 in
theorem w_g2345 : w_g (nat_lit 2345) = true := by decide +kernel
theorem w_r2346 : w_rg 2346 := w_rg_s (n := 2345) w_r2345 w_g2345
set_option maxRecDepth 100000 in
theorem w_g2346 : w_g (nat_lit 2346) = true := by decide +kernel
theorem w_r2347 : w_rg 2347 := w_rg_s (n := 2346) w_r2346 w_g2346
set_option maxRecDepth 100000 in
theorem w_g2347 : w_g (nat_lit 2347) = true := by decide +kernel
theorem w_r2348 : w_rg 2348 := w_rg_s (n := 2347) w_r2347 w_g2347
set_option maxRecDepth 100000 in
theorem w_g2348 : w_g (nat_lit 2348) = true := by decide +kernel
theorem w_r2349 : w_rg 2349 := w_rg_s (n := 2348) w_r2348 w_g2348
set_option maxRecDepth 100000 in
theorem w_g2349 : w_g (nat_lit 2349) = true := by decide +kernel
theorem w_r2350 : w_rg 2350 := w_rg_s (n := 2349) w_r2349 w_g2349
set_option maxRecDepth 100000 in
theorem w_g2350 : w_g (nat_lit 2350) = true := by decide +kernel
theorem w_r2351 : w_rg 2351 := w_rg_s (n := 2350) w_r2350 w_g2350
set_option maxRecDepth 100000 in
theorem w_g2351 : w_g (nat_lit 2351) = true := by decide +kernel
theorem w_r2352 : w_rg 2352 := w_rg_s (n := 2351) w_r2351 w_g2351
set_option maxRecDepth 100000 in
theorem w_g2352 : w_g (nat_lit 2352) = true := by decide +kernel
theorem w_r2353 : w_rg 2353 := w_rg_s (n := 2352) w_r2352 w_g2352
set_option maxRecDepth 100000 in
theorem w_g2353 : w_g (nat_lit 2353) = true := by decide +kernel
theorem w_r2354 : w_rg 2354 := w_rg_s (n := 2353) w_r2353 w_g2353
set_option maxRecDepth 100000 in
theorem w_g2354 : w_g (nat_lit 2354) = true := by decide +kernel
theorem w_r2355 : w_rg 2355 := w_rg_s (n := 2354) w_r2354 w_g2354
set_option maxRecDepth 100000 in
theorem w_g2355 : w_g (nat_lit 2355) = true := by decide +kernel
theorem w_r2356 : w_rg 2356 := w_rg_s (n := 2355) w_r2355 w_g2355
set_option maxRecDepth 100000 in
theorem w_g2356 : w_g (nat_lit 2356) = true := by decide +kernel
theorem w_r2357 : w_rg 2357 := w_rg_s (n := 2356) w_r2356 w_g2356
set_option maxRecDepth 100000 in
theorem w_g2357 : w_g (nat_lit 2357) = true := by decide +kernel
theorem w_r2358 : w_rg 2358 := w_rg_s (n := 2357) w_r2357 w_g2357
set_option maxRecDepth 100000 in
theorem w_g2358 : w_g (nat_lit 2358) = true := by decide +kernel
theorem w_r2359 : w_rg 2359 := w_rg_s (n := 2358) w_r2358 w_g2358
set_option maxRecDepth 100000 in
theorem w_g2359 : w_g (nat_lit 2359) = true := by decide +kernel
theorem w_r2360 : w_rg 2360 := w_rg_s (n := 2359) w_r2359 w_g2359
set_option maxRecDepth 100000 in
theorem w_g2360 : w_g (nat_lit 2360) = true := by decide +kernel
theorem w_r2361 : w_rg 2361 := w_rg_s (n := 2360) w_r2360 w_g2360
set_option maxRecDepth 100000 in
theorem w_g2361 : w_g (nat_lit 2361) = true := by decide +kernel
theorem w_r2362 : w_rg 2362 := w_rg_s (n := 2361) w_r2361 w_g2361
set_option maxRecDepth 100000 in
theorem w_g2362 : w_g (nat_lit 2362) = true := by decide +kernel
theorem w_r2363 : w_rg 2363 := w_rg_s (n := 2362) w_r2362 w_g2362
set_option maxRecDepth 100000 in
theorem w_g2363 : w_g (nat_lit 2363) = true := by decide +kernel
theorem w_r2364 : w_rg 2364 := w_rg_s (n := 2363) w_r2363 w_g2363
set_option maxRecDepth 100000 in
theorem w_g2364 : w_g (nat_lit 2364) = true := by decide +kernel
theorem w_r2365 : w_rg 2365 := w_rg_s (n := 2364) w_r2364 w_g2364
set_option maxRecDepth 100000 in
theorem w_g2365 : w_g (nat_lit 2365) = true := by decide +kernel
theorem w_r2366 : w_rg 2366 := w_rg_s (n := 2365) w_r2365 w_g2365
set_option maxRecDepth 100000 in
theorem w_g2366 : w_g (nat_lit 2366) = true := by decide +kernel
theorem w_r2367 : w_rg 2367 := w_rg_s (n := 2366) w_r2366 w_g2366
set_option maxRecDepth 100000 in
theorem w_g2367 : w_g (nat_lit 2367) = true := by decide +kernel
theorem w_r2368 : w_rg 2368 := w_rg_s (n := 2367) w_r2367 w_g2367
set_option maxRecDepth 100000 in
theorem w_g2368 : w_g (nat_lit 2368) = true := by decide +kernel
theorem w_r2369 : w_rg 2369 := w_rg_s (n := 2368) w_r2368 w_g2368
set_option maxRecDepth 100000 in
theorem w_g2369 : w_g (nat_lit 2369) = true := by decide +kernel
theorem w_r2370 : w_rg 2370 := w_rg_s (n := 2369) w_r2369 w_g2369
set_option maxRecDepth 100000 in
theorem w_g2370 : w_g (nat_lit 2370) = true := by decide +kernel
theorem w_r2371 : w_rg 2371 := w_rg_s (n := 2370) w_r2370 w_g2370
set_option maxRecDepth 100000 in
theorem w_g2371 : w_g (nat_lit 2371) = true := by decide +kernel
theorem w_r2372 : w_rg 2372 := w_rg_s (n := 2371) w_r2371 w_g2371
set_option maxRecDepth 100000 in
theorem w_g2372 : w_g (nat_lit 2372) = true := by decide +kernel
theorem w_r2373 : w_rg 2373 := w_rg_s (n := 2372) w_r2372 w_g2372
set_option maxRecDepth 100000 in
theorem w_g2373 : w_g (nat_lit 2373) = true := by decide +kernel
theorem w_r2374 : w_rg 2374 := w_rg_s (n := 2373) w_r2373 w_g2373
set_option maxRecDepth 100000 in
theorem w_g2374 : w_g (nat_lit 2374) = true := by decide +kernel
theorem w_r2375 : w_rg 2375 := w_rg_s (n := 2374) w_r2374 w_g2374
set_option maxRecDepth 100000 in
theorem w_g2375 : w_g (nat_lit 2375) = true := by decide +kernel
theorem w_r2376 : w_rg 2376 := w_rg_s (n := 2375) w_r2375 w_g2375
set_option maxRecDepth 100000 in
theorem w_g2376 : w_g (nat_lit 2376) = true := by decide +kernel
theorem w_r2377 : w_rg 2377 := w_rg_s (n := 2376) w_r2376 w_g2376
set_option maxRecDepth 100000 in
theorem w_g2377 : w_g (nat_lit 2377) = true := by decide +kernel
theorem w_r2378 : w_rg 2378 := w_rg_s (n := 2377) w_r2377 w_g2377
set_option maxRecDepth 100000 in
theorem w_g2378 : w_g (nat_lit 2378) = true := by decide +kernel
theorem w_r2379 : w_rg 2379 := w_rg_s (n := 2378) w_r2378 w_g2378
set_option maxRecDepth 100000 in
theorem w_g2379 : w_g (nat_lit 2379) = true := by decide +kernel
theorem w_r2380 : w_rg 2380 := w_rg_s (n := 2379) w_r2379 w_g2379
set_option maxRecDepth 100000 in
theorem w_g2380 : w_g (nat_lit 2380) = true := by decide +kernel
theorem w_r2381 : w_rg 2381 := w_rg_s (n := 2380) w_r2380 w_g2380
set_option maxRecDepth 100000 in
theorem w_g2381 : w_g (nat_lit 2381) = true := by decide +kernel
theorem w_r2382 : w_rg 2382 := w_rg_s (n := 2381) w_r2381 w_g2381
set_option maxRecDepth 100000 in
theorem w_g2382 : w_g (nat_lit 2382) = true := by decide +kernel
theorem w_r2383 : w_rg 2383 := w_rg_s (n := 2382) w_r2382 w_g2382
set_option maxRecDepth 100000 in
theorem w_g2383 : w_g (nat_lit 2383) = true := by decide +kernel
theorem w_r2384 : w_rg 2384 := w_rg_s (n := 2383) w_r2383 w_g2383
set_option maxRecDepth 100000 in
theorem w_g2384 : w_g (nat_lit 2384) = true := by decide +kernel
theorem w_r2385 : w_rg 2385 := w_rg_s (n := 2384) w_r2384 w_g2384
set_option maxRecDepth 100000 in
theorem w_g2385 : w_g (nat_lit 2385) = true := by decide +kernel
theorem w_r2386 : w_rg 2386 := w_rg_s (n := 2385) w_r2385 w_g2385
set_option maxRecDepth 100000 in
theorem w_g2386 : w_g (nat_lit 2386) = true := by decide +kernel
theorem w_r2387 : w_rg 2387 := w_rg_s (n := 2386) w_r2386 w_g2386
set_option maxRecDepth 100000 in
theorem w_g2387 : w_g (nat_lit 2387) = true := by decide +kernel
theorem w_r2388 : w_rg 2388 := w_rg_s (n := 2387) w_r2387 w_g2387
