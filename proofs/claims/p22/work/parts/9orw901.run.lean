/-! the walk runs: 1 -/
set_option maxRecDepth 100000 in
theorem w_g199 : w_g (nat_lit 199) = true := by decide +kernel
theorem w_r200 : w_rg 200 := w_rg_s (n := 199) w_r199 w_g199
set_option maxRecDepth 100000 in
theorem w_g200 : w_g (nat_lit 200) = true := by decide +kernel
theorem w_r201 : w_rg 201 := w_rg_s (n := 200) w_r200 w_g200
set_option maxRecDepth 100000 in
theorem w_g201 : w_g (nat_lit 201) = true := by decide +kernel
theorem w_r202 : w_rg 202 := w_rg_s (n := 201) w_r201 w_g201
set_option maxRecDepth 100000 in
theorem w_g202 : w_g (nat_lit 202) = true := by decide +kernel
theorem w_r203 : w_rg 203 := w_rg_s (n := 202) w_r202 w_g202
set_option maxRecDepth 100000 in
theorem w_g203 : w_g (nat_lit 203) = true := by decide +kernel
theorem w_r204 : w_rg 204 := w_rg_s (n := 203) w_r203 w_g203
set_option maxRecDepth 100000 in
theorem w_g204 : w_g (nat_lit 204) = true := by decide +kernel
theorem w_r205 : w_rg 205 := w_rg_s (n := 204) w_r204 w_g204
set_option maxRecDepth 100000 in
theorem w_g205 : w_g (nat_lit 205) = true := by decide +kernel
theorem w_r206 : w_rg 206 := w_rg_s (n := 205) w_r205 w_g205
set_option maxRecDepth 100000 in
theorem w_g206 : w_g (nat_lit 206) = true := by decide +kernel
theorem w_r207 : w_rg 207 := w_rg_s (n := 206) w_r206 w_g206
set_option maxRecDepth 100000 in
theorem w_g207 : w_g (nat_lit 207) = true := by decide +kernel
theorem w_r208 : w_rg 208 := w_rg_s (n := 207) w_r207 w_g207
set_option maxRecDepth 100000 in
theorem w_g208 : w_g (nat_lit 208) = true := by decide +kernel
theorem w_r209 : w_rg 209 := w_rg_s (n := 208) w_r208 w_g208
set_option maxRecDepth 100000 in
theorem w_g209 : w_g (nat_lit 209) = true := by decide +kernel
theorem w_r210 : w_rg 210 := w_rg_s (n := 209) w_r209 w_g209
set_option maxRecDepth 100000 in
theorem w_g210 : w_g (nat_lit 210) = true := by decide +kernel
theorem w_r211 : w_rg 211 := w_rg_s (n := 210) w_r210 w_g210
set_option maxRecDepth 100000 in
theorem w_g211 : w_g (nat_lit 211) = true := by decide +kernel
theorem w_r212 : w_rg 212 := w_rg_s (n := 211) w_r211 w_g211
set_option maxRecDepth 100000 in
theorem w_g212 : w_g (nat_lit 212) = true := by decide +kernel
theorem w_r213 : w_rg 213 := w_rg_s (n := 212) w_r212 w_g212
set_option maxRecDepth 100000 in
theorem w_g213 : w_g (nat_lit 213) = true := by decide +kernel
theorem w_r214 : w_rg 214 := w_rg_s (n := 213) w_r213 w_g213
set_option maxRecDepth 100000 in
theorem w_g214 : w_g (nat_lit 214) = true := by decide +kernel
theorem w_r215 : w_rg 215 := w_rg_s (n := 214) w_r214 w_g214
set_option maxRecDepth 100000 in
theorem w_g215 : w_g (nat_lit 215) = true := by decide +kernel
theorem w_r216 : w_rg 216 := w_rg_s (n := 215) w_r215 w_g215
set_option maxRecDepth 100000 in
theorem w_g216 : w_g (nat_lit 216) = true := by decide +kernel
theorem w_r217 : w_rg 217 := w_rg_s (n := 216) w_r216 w_g216
set_option maxRecDepth 100000 in
theorem w_g217 : w_g (nat_lit 217) = true := by decide +kernel
theorem w_r218 : w_rg 218 := w_rg_s (n := 217) w_r217 w_g217
set_option maxRecDepth 100000 in
theorem w_g218 : w_g (nat_lit 218) = true := by decide +kernel
theorem w_r219 : w_rg 219 := w_rg_s (n := 218) w_r218 w_g218
set_option maxRecDepth 100000 in
theorem w_g219 : w_g (nat_lit 219) = true := by decide +kernel
theorem w_r220 : w_rg 220 := w_rg_s (n := 219) w_r219 w_g219
set_option maxRecDepth 100000 in
theorem w_g220 : w_g (nat_lit 220) = true := by decide +kernel
theorem w_r221 : w_rg 221 := w_rg_s (n := 220) w_r220 w_g220
set_option maxRecDepth 100000 in
theorem w_g221 : w_g (nat_lit 221) = true := by decide +kernel
theorem w_r222 : w_rg 222 := w_rg_s (n := 221) w_r221 w_g221
set_option maxRecDepth 100000 in
theorem w_g222 : w_g (nat_lit 222) = true := by decide +kernel
theorem w_r223 : w_rg 223 := w_rg_s (n := 222) w_r222 w_g222
set_option maxRecDepth 100000 in
theorem w_g223 : w_g (nat_lit 223) = true := by decide +kernel
theorem w_r224 : w_rg 224 := w_rg_s (n := 223) w_r223 w_g223
set_option maxRecDepth 100000 in
theorem w_g224 : w_g (nat_lit 224) = true := by decide +kernel
theorem w_r225 : w_rg 225 := w_rg_s (n := 224) w_r224 w_g224
set_option maxRecDepth 100000 in
theorem w_g225 : w_g (nat_lit 225) = true := by decide +kernel
theorem w_r226 : w_rg 226 := w_rg_s (n := 225) w_r225 w_g225
set_option maxRecDepth 100000 in
theorem w_g226 : w_g (nat_lit 226) = true := by decide +kernel
theorem w_r227 : w_rg 227 := w_rg_s (n := 226) w_r226 w_g226
set_option maxRecDepth 100000 in
theorem w_g227 : w_g (nat_lit 227) = true := by decide +kernel
theorem w_r228 : w_rg 228 := w_rg_s (n := 227) w_r227 w_g227
set_option maxRecDepth 100000 in
theorem w_g228 : w_g (nat_lit 228) = true := by decide +kernel
theorem w_r229 : w_rg 229 := w_rg_s (n := 228) w_r228 w_g228
set_option maxRecDepth 100000 in
theorem w_g229 : w_g (nat_lit 229) = true := by decide +kernel
theorem w_r230 : w_rg 230 := w_rg_s (n := 229) w_r229 w_g229
set_option maxRecDepth 100000 in
theorem w_g230 : w_g (nat_lit 230) = true := by decide +kernel
theorem w_r231 : w_rg 231 := w_rg_s (n := 230) w_r230 w_g230
set_option maxRecDepth 100000 in
theorem w_g231 : w_g (nat_lit 231) = true := by decide +kernel
theorem w_r232 : w_rg 232 := w_rg_s (n := 231) w_r231 w_g231
set_option maxRecDepth 100000 in
theorem w_g232 : w_g (nat_lit 232) = true := by decide +kernel
theorem w_r233 : w_rg 233 := w_rg_s (n := 232) w_r232 w_g232
set_option maxRecDepth 100000 in
theorem w_g233 : w_g (nat_lit 233) = true := by decide +kernel
theorem w_r234 : w_rg 234 := w_rg_s (n := 233) w_r233 w_g233
set_option maxRecDepth 100000 in
theorem w_g234 : w_g (nat_lit 234) = true := by decide +kernel
theorem w_r235 : w_rg 235 := w_rg_s (n := 234) w_r234 w_g234
set_option maxRecDepth 100000 in
theorem w_g235 : w_g (nat_lit 235) = true := by decide +kernel
theorem w_r236 : w_rg 236 := w_rg_s (n := 235) w_r235 w_g235
set_option maxRecDepth 100000 in
theorem w_g236 : w_g (nat_lit 236) = true := by decide +kernel
theorem w_r237 : w_rg 237 := w_rg_s (n := 236) w_r236 w_g236
set_option maxRecDepth 100000 in
theorem w_g237 : w_g (nat_lit 237) = true := by decide +kernel
theorem w_r238 : w_rg 238 := w_rg_s (n := 237) w_r237 w_g237
set_option maxRecDepth 100000 in
theorem w_g238 : w_g (nat_lit 238) = true := by decide +kernel
theorem w_r239 : w_rg 239 := w_rg_s (n := 238) w_r238 w_g238
set_option maxRecDepth 100000 in
theorem w_g239 : w_g (nat_lit 239) = true := by decide +kernel
theorem w_r240 : w_rg 240 := w_rg_s (n := 239) w_r239 w_g239
set_option maxRecDepth 100000 in
theorem w_g240 : w_g (nat_lit 240) = true := by decide +kernel
theorem w_r241 : w_rg 241 := w_rg_s (n := 240) w_r240 w_g240
set_option maxRecDepth 100000 in
theorem w_g241 : w_g (nat_lit 241) = true := by decide +kernel
theorem w_r242 : w_rg 242 := w_rg_s (n := 241) w_r241 w_g241
set_option maxRecDepth 100000 in
theorem w_g242 : w_g (nat_lit 242) = true := by decide +kernel
theorem w_r243 : w_rg 243 := w_rg_s (n := 242) w_r242 w_g242
set_option maxRecDepth 100000 in
theorem w_g243 : w_g (nat_lit 243) = true := by decide +kernel
theorem w_r244 : w_rg 244 := w_rg_s (n := 243) w_r243 w_g243
set_option maxRecDepth 100000 in
theorem w_g244 : w_g (nat_lit 244) = true := by decide +kernel
theorem w_r245 : w_rg 245 := w_rg_s (n := 244) w_r244 w_g244
set_option maxRecDepth 100000 in
theorem w_g245 : w_g (nat_lit 245) = true := by decide +kernel
theorem w_r246 : w_rg 246 := w_rg_s (n := 245) w_r245 w_g245
set_option maxRecDepth 100000 in
theorem w_g246 : w_g (nat_lit 246) = true := by decide +kernel
theorem w_r247 : w_rg 247 := w_rg_s (n := 246) w_r246 w_g246
set_option maxRecDepth 100000 in
theorem w_g247 : w_g (nat_lit 247) = true := by decide +kernel
theorem w_r248 : w_rg 248 := w_rg_s (n := 247) w_r247 w_g247
set_option maxRecDepth 100000 in
theorem w_g248 : w_g (nat_lit 248) = true := by decide +kernel
theorem w_r249 : w_rg 249 := w_rg_s (n := 248) w_r248 w_g248
set_option maxRecDepth 100000 in
theorem w_g249 : w_g (nat_lit 249) = true := by decide +kernel
theorem w_r250 : w_rg 250 := w_rg_s (n := 249) w_r249 w_g249
set_option maxRecDepth 100000 in
theorem w_g250 : w_g (nat_lit 250) = true := by decide +kernel
theorem w_r251 : w_rg 251 := w_rg_s (n := 250) w_r250 w_g250
set_option maxRecDepth 100000 in
theorem w_g251 : w_g (nat_lit 251) = true := by decide +kernel
theorem w_r252 : w_rg 252 := w_rg_s (n := 251) w_r251 w_g251
set_option maxRecDepth 100000 in
theorem w_g252 : w_g (nat_lit 252) = true := by decide +kernel
theorem w_r253 : w_rg 253 := w_rg_s (n := 252) w_r252 w_g252
set_option maxRecDepth 100000 in
theorem w_g253 : w_g (nat_lit 253) = true := by decide +kernel
theorem w_r254 : w_rg 254 := w_rg_s (n := 253) w_r253 w_g253
set_option maxRecDepth 100000 in
theorem w_g254 : w_g (nat_lit 254) = true := by decide +kernel
theorem w_r255 : w_rg 255 := w_rg_s (n := 254) w_r254 w_g254
set_option maxRecDepth 100000 in
theorem w_g255 : w_g (nat_lit 255) = true := by decide +kernel
theorem w_r256 : w_rg 256 := w_rg_s (n := 255) w_r255 w_g255
set_option maxRecDepth 100000 in
theorem w_g256 : w_g (nat_lit 256) = true := by decide +kernel
theorem w_r257 : w_rg 257 := w_rg_s (n := 256) w_r256 w_g256
set_option maxRecDepth 100000 in
theorem w_g257 : w_g (nat_lit 257) = true := by decide +kernel
theorem w_r258 : w_rg 258 := w_rg_s (n := 257) w_r257 w_g257
set_option maxRecDepth 100000 in
theorem w_g258 : w_g (nat_lit 258) = true := by decide +kernel
theorem w_r259 : w_rg 259 := w_rg_s (n := 258) w_r258 w_g258
set_option maxRecDepth 100000 in
theorem w_g259 : w_g (nat_lit 259) = true := by decide +kernel
theorem w_r260 : w_rg 260 := w_rg_s (n := 259) w_r259 w_g259
set_option maxRecDepth 100000 in
theorem w_g260 : w_g (nat_lit 260) = true := by decide +kernel
theorem w_r261 : w_rg 261 := w_rg_s (n := 260) w_r260 w_g260
set_option maxRecDepth 100000 in
theorem w_g261 : w_g (nat_lit 261) = true := by decide +kernel
theorem w_r262 : w_rg 262 := w_rg_s (n := 261) w_r261 w_g261
set_option maxRecDepth 100000 in
theorem w_g262 : w_g (nat_lit 262) = true := by decide +kernel
theorem w_r263 : w_rg 263 := w_rg_s (n := 262) w_r262 w_g262
set_option maxRecDepth 100000 in
theorem w_g263 : w_g (nat_lit 263) = true := by decide +kernel
theorem w_r264 : w_rg 264 := w_rg_s (n := 263) w_r263 w_g263
set_option maxRecDepth 100000 in
theorem w_g264 : w_g (nat_lit 264) = true := by decide +kernel
theorem w_r265 : w_rg 265 := w_rg_s (n := 264) w_r264 w_g264
set_option maxRecDepth 100000 in
theorem w_g265 : w_g (nat_lit 265) = true := by decide +kernel
theorem w_r266 : w_rg 266 := w_rg_s (n := 265) w_r265 w_g265
set_option maxRecDepth 100000 in
theorem w_g266 : w_g (nat_lit 266) = true := by decide +kernel
theorem w_r267 : w_rg 267 := w_rg_s (n := 266) w_r266 w_g266
set_option maxRecDepth 100000 in
theorem w_g267 : w_g (nat_lit 267) = true := by decide +kernel
theorem w_r268 : w_rg 268 := w_rg_s (n := 267) w_r267 w_g267
set_option maxRecDepth 100000 in
theorem w_g268 : w_g (nat_lit 268) = true := by decide +kernel
theorem w_r269 : w_rg 269 := w_rg_s (n := 268) w_r268 w_g268
set_option maxRecDepth 100000 in
theorem w_g269 : w_g (nat_lit 269) = true := by decide +kernel
theorem w_r270 : w_rg 270 := w_rg_s (n := 269) w_r269 w_g269
set_option maxRecDepth 100000 in
theorem w_g270 : w_g (nat_lit 270) = true := by decide +kernel
theorem w_r271 : w_rg 271 := w_rg_s (n := 270) w_r270 w_g270
set_option maxRecDepth 100000 in
theorem w_g271 : w_g (nat_lit 271) = true := by decide +kernel
theorem w_r272 : w_rg 272 := w_rg_s (n := 271) w_r271 w_g271
set_option maxRecDepth 100000 in
theorem w_g272 : w_g (nat_lit 272) = true := by decide +kernel
theorem w_r273 : w_rg 273 := w_rg_s (n := 272) w_r272 w_g272
set_option maxRecDepth 100000 in
theorem w_g273 : w_g (nat_lit 273) = true := by decide +kernel
theorem w_r274 : w_rg 274 := w_rg_s (n := 273) w_r273 w_g273
set_option maxRecDepth 100000 in
theorem w_g274 : w_g (nat_lit 274) = true := by decide +kernel
theorem w_r275 : w_rg 275 := w_rg_s (n := 274) w_r274 w_g274
set_option maxRecDepth 100000 in
theorem w_g275 : w_g (nat_lit 275) = true := by decide +kernel
theorem w_r276 : w_rg 276 := w_rg_s (n := 275) w_r275 w_g275
set_option maxRecDepth 100000 in
theorem w_g276 : w_g (nat_lit 276) = true := by decide +kernel
theorem w_r277 : w_rg 277 := w_rg_s (n := 276) w_r276 w_g276
set_option maxRecDepth 100000 in
theorem w_g277 : w_g (nat_lit 277) = true := by decide +kernel
theorem w_r278 : w_rg 278 := w_rg_s (n := 277) w_r277 w_g277
set_option maxRecDepth 100000 in
theorem w_g278 : w_g (nat_lit 278) = true := by decide +kernel
theorem w_r279 : w_rg 279 := w_rg_s (n := 278) w_r278 w_g278
set_option maxRecDepth 100000 in
theorem w_g279 : w_g (nat_lit 279) = true := by decide +kernel
theorem w_r280 : w_rg 280 := w_rg_s (n := 279) w_r279 w_g279
set_option maxRecDepth 100000 in
theorem w_g280 : w_g (nat_lit 280) = true := by decide +kernel
theorem w_r281 : w_rg 281 := w_rg_s (n := 280) w_r280 w_g280
set_option maxRecDepth 100000 in
theorem w_g281 : w_g (nat_lit 281) = true := by decide +kernel
theorem w_r282 : w_rg 282 := w_rg_s (n := 281) w_r281 w_g281
set_option maxRecDepth 100000 in
theorem w_g282 : w_g (nat_lit 282) = true := by decide +kernel
theorem w_r283 : w_rg 283 := w_rg_s (n := 282) w_r282 w_g282
set_option maxRecDepth 100000 in
theorem w_g283 : w_g (nat_lit 283) = true := by decide +kernel
theorem w_r284 : w_rg 284 := w_rg_s (n := 283) w_r283 w_g283
set_option maxRecDepth 100000 in
theorem w_g284 : w_g (nat_lit 284) = true := by decide +kernel
theorem w_r285 : w_rg 285 := w_rg_s (n := 284) w_r284 w_g284
set_option maxRecDepth 100000 in
theorem w_g285 : w_g (nat_lit 285) = true := by decide +kernel
theorem w_r286 : w_rg 286 := w_rg_s (n := 285) w_r285 w_g285
set_option maxRecDepth 100000 in
theorem w_g286 : w_g (nat_lit 286) = true := by decide +kernel
theorem w_r287 : w_rg 287 := w_rg_s (n := 286) w_r286 w_g286
set_option maxRecDepth 100000 in
theorem w_g287 : w_g (nat_lit 287) = true := by decide +kernel
theorem w_r288 : w_rg 288 := w_rg_s (n := 287) w_r287 w_g287
set_option maxRecDepth 100000 in
theorem w_g288 : w_g (nat_lit 288) = true := by decide +kernel
theorem w_r289 : w_rg 289 := w_rg_s (n := 288) w_r288 w_g288
set_option maxRecDepth 100000 in
theorem w_g289 : w_g (nat_lit 289) = true := by decide +kernel
theorem w_r290 : w_rg 290 := w_rg_s (n := 289) w_r289 w_g289
set_option maxRecDepth 100000 in
theorem w_g290 : w_g (nat_lit 290) = true := by decide +kernel
theorem w_r291 : w_rg 291 := w_rg_s (n := 290) w_r290 w_g290
set_option maxRecDepth 100000 in
theorem w_g291 : w_g (nat_lit 291) = true := by decide +kernel
theorem w_r292 : w_rg 292 := w_rg_s (n := 291) w_r291 w_g291
set_option maxRecDepth 100000 in
theorem w_g292 : w_g (nat_lit 292) = true := by decide +kernel
theorem w_r293 : w_rg 293 := w_rg_s (n := 292) w_r292 w_g292
set_option maxRecDepth 100000 in
theorem w_g293 : w_g (nat_lit 293) = true := by decide +kernel
theorem w_r294 : w_rg 294 := w_rg_s (n := 293) w_r293 w_g293
set_option maxRecDepth 100000 in
theorem w_g294 : w_g (nat_lit 294) = true := by decide +kernel
theorem w_r295 : w_rg 295 := w_rg_s (n := 294) w_r294 w_g294
set_option maxRecDepth 100000 in
theorem w_g295 : w_g (nat_lit 295) = true := by decide +kernel
theorem w_r296 : w_rg 296 := w_rg_s (n := 295) w_r295 w_g295
set_option maxRecDepth 100000 in
theorem w_g296 : w_g (nat_lit 296) = true := by decide +kernel
theorem w_r297 : w_rg 297 := w_rg_s (n := 296) w_r296 w_g296
set_option maxRecDepth 100000 in
theorem w_g297 : w_g (nat_lit 297) = true := by decide +kernel
theorem w_r298 : w_rg 298 := w_rg_s (n := 297) w_r297 w_g297
set_option maxRecDepth 100000 in
theorem w_g298 : w_g (nat_lit 298) = true := by decide +kernel
theorem w_r299 : w_rg 299 := w_rg_s (n := 298) w_r298 w_g298
set_option maxRecDepth 100000 in
theorem w_g299 : w_g (nat_lit 299) = true := by decide +kernel
theorem w_r300 : w_rg 300 := w_rg_s (n := 299) w_r299 w_g299
set_option maxRecDepth 100000 in
theorem w_g300 : w_g (nat_lit 300) = true := by decide +kernel
theorem w_r301 : w_rg 301 := w_rg_s (n := 300) w_r300 w_g300
set_option maxRecDepth 100000 in
theorem w_g301 : w_g (nat_lit 301) = true := by decide +kernel
theorem w_r302 : w_rg 302 := w_rg_s (n := 301) w_r301 w_g301
set_option maxRecDepth 100000 in
theorem w_g302 : w_g (nat_lit 302) = true := by decide +kernel
theorem w_r303 : w_rg 303 := w_rg_s (n := 302) w_r302 w_g302
set_option maxRecDepth 100000 in
theorem w_g303 : w_g (nat_lit 303) = true := by decide +kernel
theorem w_r304 : w_rg 304 := w_rg_s (n := 303) w_r303 w_g303
set_option maxRecDepth 100000 in
theorem w_g304 : w_g (nat_lit 304) = true := by decide +kernel
theorem w_r305 : w_rg 305 := w_rg_s (n := 304) w_r304 w_g304
set_option maxRecDepth 100000 in
theorem w_g305 : w_g (nat_lit 305) = true := by decide +kernel
theorem w_r306 : w_rg 306 := w_rg_s (n := 305) w_r305 w_g305
set_option maxRecDepth 100000 in
theorem w_g306 : w_g (nat_lit 306) = true := by decide +kernel
theorem w_r307 : w_rg 307 := w_rg_s (n := 306) w_r306 w_g306
set_option maxRecDepth 100000 in
theorem w_g307 : w_g (nat_lit 307) = true := by decide +kernel
theorem w_r308 : w_rg 308 := w_rg_s (n := 307) w_r307 w_g307
set_option maxRecDepth 100000 in
theorem w_g308 : w_g (nat_lit 308) = true := by decide +kernel
theorem w_r309 : w_rg 309 := w_rg_s (n := 308) w_r308 w_g308
set_option maxRecDepth 100000 in
theorem w_g309 : w_g (nat_lit 309) = true := by decide +kernel
theorem w_r310 : w_rg 310 := w_rg_s (n := 309) w_r309 w_g309
set_option maxRecDepth 100000 in
theorem w_g310 : w_g (nat_lit 310) = true := by decide +kernel
theorem w_r311 : w_rg 311 := w_rg_s (n := 310) w_r310 w_g310
set_option maxRecDepth 100000 in
theorem w_g311 : w_g (nat_lit 311) = true := by decide +kernel
theorem w_r312 : w_rg 312 := w_rg_s (n := 311) w_r311 w_g311
set_option maxRecDepth 100000 in
theorem w_g312 : w_g (nat_lit 312) = true := by decide +kernel
theorem w_r313 : w_rg 313 := w_rg_s (n := 312) w_r312 w_g312
set_option maxRecDepth 100000 in
theorem w_g313 : w_g (nat_lit 313) = true := by decide +kernel
theorem w_r314 : w_rg 314 := w_rg_s (n := 313) w_r313 w_g313
set_option maxRecDepth 100000 in
theorem w_g314 : w_g (nat_lit 314) = true := by decide +kernel
theorem w_r315 : w_rg 315 := w_rg_s (n := 314) w_r314 w_g314
set_option maxRecDepth 100000 in
theorem w_g315 : w_g (nat_lit 315) = true := by decide +kernel
theorem w_r316 : w_rg 316 := w_rg_s (n := 315) w_r315 w_g315
set_option maxRecDepth 100000 in
theorem w_g316 : w_g (nat_lit 316) = true := by decide +kernel
theorem w_r317 : w_rg 317 := w_rg_s (n := 316) w_r316 w_g316
set_option maxRecDepth 100000 in
theorem w_g317 : w_g (nat_lit 317) = true := by decide +kernel
theorem w_r318 : w_rg 318 := w_rg_s (n := 317) w_r317 w_g317
set_option maxRecDepth 100000 in
theorem w_g318 : w_g (nat_lit 318) = true := by decide +kernel
theorem w_r319 : w_rg 319 := w_rg_s (n := 318) w_r318 w_g318
set_option maxRecDepth 100000 in
theorem w_g319 : w_g (nat_lit 319) = true := by decide +kernel
theorem w_r320 : w_rg 320 := w_rg_s (n := 319) w_r319 w_g319
set_option maxRecDepth 100000 in
theorem w_g320 : w_g (nat_lit 320) = true := by decide +kernel
theorem w_r321 : w_rg 321 := w_rg_s (n := 320) w_r320 w_g320
set_option maxRecDepth 100000 in
theorem w_g321 : w_g (nat_lit 321) = true := by decide +kernel
theorem w_r322 : w_rg 322 := w_rg_s (n := 321) w_r321 w_g321
set_option maxRecDepth 100000 in
theorem w_g322 : w_g (nat_lit 322) = true := by decide +kernel
theorem w_r323 : w_rg 323 := w_rg_s (n := 322) w_r322 w_g322
set_option maxRecDepth 100000 in
theorem w_g323 : w_g (nat_lit 323) = true := by decide +kernel
theorem w_r324 : w_rg 324 := w_rg_s (n := 323) w_r323 w_g323
set_option maxRecDepth 100000 in
theorem w_g324 : w_g (nat_lit 324) = true := by decide +kernel
theorem w_r325 : w_rg 325 := w_rg_s (n := 324) w_r324 w_g324
set_option maxRecDepth 100000 in
theorem w_g325 : w_g (nat_lit 325) = true := by decide +kernel
theorem w_r326 : w_rg 326 := w_rg_s (n := 325) w_r325 w_g325
set_option maxRecDepth 100000 in
theorem w_g326 : w_g (nat_lit 326) = true := by decide +kernel
theorem w_r327 : w_rg 327 := w_rg_s (n := 326) w_r326 w_g326
set_option maxRecDepth 100000 in
theorem w_g327 : w_g (nat_lit 327) = true := by decide +kernel
theorem w_r328 : w_rg 328 := w_rg_s (n := 327) w_r327 w_g327
set_option maxRecDepth 100000 in
theorem w_g328 : w_g (nat_lit 328) = true := by decide +kernel
theorem w_r329 : w_rg 329 := w_rg_s (n := 328) w_r328 w_g328
set_option maxRecDepth 100000 in
theorem w_g329 : w_g (nat_lit 329) = true := by decide +kernel
theorem w_r330 : w_rg 330 := w_rg_s (n := 329) w_r329 w_g329
set_option maxRecDepth 100000 in
theorem w_g330 : w_g (nat_lit 330) = true := by decide +kernel
theorem w_r331 : w_rg 331 := w_rg_s (n := 330) w_r330 w_g330
set_option maxRecDepth 100000 in
theorem w_g331 : w_g (nat_lit 331) = true := by decide +kernel
theorem w_r332 : w_rg 332 := w_rg_s (n := 331) w_r331 w_g331
set_option maxRecDepth 100000 in
theorem w_g332 : w_g (nat_lit 332) = true := by decide +kernel
theorem w_r333 : w_rg 333 := w_rg_s (n := 332) w_r332 w_g332
set_option maxRecDepth 100000 in
theorem w_g333 : w_g (nat_lit 333) = true := by decide +kernel
theorem w_r334 : w_rg 334 := w_rg_s (n := 333) w_r333 w_g333
set_option maxRecDepth 100000 in
theorem w_g334 : w_g (nat_lit 334) = true := by decide +kernel
theorem w_r335 : w_rg 335 := w_rg_s (n := 334) w_r334 w_g334
set_option maxRecDepth 100000 in
theorem w_g335 : w_g (nat_lit 335) = true := by decide +kernel
theorem w_r336 : w_rg 336 := w_rg_s (n := 335) w_r335 w_g335
set_option maxRecDepth 100000 in
theorem w_g336 : w_g (nat_lit 336) = true := by decide +kernel
theorem w_r337 : w_rg 337 := w_rg_s (n := 336) w_r336 w_g336
set_option maxRecDepth 100000 in
theorem w_g337 : w_g (nat_lit 337) = true := by decide +kernel
theorem w_r338 : w_rg 338 := w_rg_s (n := 337) w_r337 w_g337
set_option maxRecDepth 100000 in
theorem w_g338 : w_g (nat_lit 338) = true := by decide +kernel
theorem w_r339 : w_rg 339 := w_rg_s (n := 338) w_r338 w_g338
set_option maxRecDepth 100000 in
theorem w_g339 : w_g (nat_lit 339) = true := by decide +kernel
theorem w_r340 : w_rg 340 := w_rg_s (n := 339) w_r339 w_g339
set_option maxRecDepth 100000 in
theorem w_g340 : w_g (nat_lit 340) = true := by decide +kernel
theorem w_r341 : w_rg 341 := w_rg_s (n := 340) w_r340 w_g340
set_option maxRecDepth 100000 in
theorem w_g341 : w_g (nat_lit 341) = true := by decide +kernel
theorem w_r342 : w_rg 342 := w_rg_s (n := 341) w_r341 w_g341
set_option maxRecDepth 100000 in
theorem w_g342 : w_g (nat_lit 342) = true := by decide +kernel
theorem w_r343 : w_rg 343 := w_rg_s (n := 342) w_r342 w_g342
set_option maxRecDepth 100000 in
theorem w_g343 : w_g (nat_lit 343) = true := by decide +kernel
theorem w_r344 : w_rg 344 := w_rg_s (n := 343) w_r343 w_g343
set_option maxRecDepth 100000 in
theorem w_g344 : w_g (nat_lit 344) = true := by decide +kernel
theorem w_r345 : w_rg 345 := w_rg_s (n := 344) w_r344 w_g344
set_option maxRecDepth 100000 in
theorem w_g345 : w_g (nat_lit 345) = true := by decide +kernel
theorem w_r346 : w_rg 346 := w_rg_s (n := 345) w_r345 w_g345
set_option maxRecDepth 100000 in
theorem w_g346 : w_g (nat_lit 346) = true := by decide +kernel
theorem w_r347 : w_rg 347 := w_rg_s (n := 346) w_r346 w_g346
set_option maxRecDepth 100000 in
theorem w_g347 : w_g (nat_lit 347) = true := by decide +kernel
theorem w_r348 : w_rg 348 := w_rg_s (n := 347) w_r347 w_g347
set_option maxRecDepth 100000 in
theorem w_g348 : w_g (nat_lit 348) = true := by decide +kernel
theorem w_r349 : w_rg 349 := w_rg_s (n := 348) w_r348 w_g348
set_option maxRecDepth 100000 in
theorem w_g349 : w_g (nat_lit 349) = true := by decide +kernel
theorem w_r350 : w_rg 350 := w_rg_s (n := 349) w_r349 w_g349
set_option maxRecDepth 100000 in
theorem w_g350 : w_g (nat_lit 350) = true := by decide +kernel
theorem w_r351 : w_rg 351 := w_rg_s (n := 350) w_r350 w_g350
set_option maxRecDepth 100000 in
theorem w_g351 : w_g (nat_lit 351) = true := by decide +kernel
theorem w_r352 : w_rg 352 := w_rg_s (n := 351) w_r351 w_g351
set_option maxRecDepth 100000 in
theorem w_g352 : w_g (nat_lit 352) = true := by decide +kernel
theorem w_r353 : w_rg 353 := w_rg_s (n := 352) w_r352 w_g352
set_option maxRecDepth 100000 in
theorem w_g353 : w_g (nat_lit 353) = true := by decide +kernel
theorem w_r354 : w_rg 354 := w_rg_s (n := 353) w_r353 w_g353
set_option maxRecDepth 100000 in
theorem w_g354 : w_g (nat_lit 354) = true := by decide +kernel
theorem w_r355 : w_rg 355 := w_rg_s (n := 354) w_r354 w_g354
set_option maxRecDepth 100000 in
theorem w_g355 : w_g (nat_lit 355) = true := by decide +kernel
theorem w_r356 : w_rg 356 := w_rg_s (n := 355) w_r355 w_g355
set_option maxRecDepth 100000 in
theorem w_g356 : w_g (nat_lit 356) = true := by decide +kernel
theorem w_r357 : w_rg 357 := w_rg_s (n := 356) w_r356 w_g356
set_option maxRecDepth 100000 in
theorem w_g357 : w_g (nat_lit 357) = true := by decide +kernel
theorem w_r358 : w_rg 358 := w_rg_s (n := 357) w_r357 w_g357
set_option maxRecDepth 100000 in
theorem w_g358 : w_g (nat_lit 358) = true := by decide +kernel
theorem w_r359 : w_rg 359 := w_rg_s (n := 358) w_r358 w_g358
set_option maxRecDepth 100000 in
theorem w_g359 : w_g (nat_lit 359) = true := by decide +kernel
theorem w_r360 : w_rg 360 := w_rg_s (n := 359) w_r359 w_g359
set_option maxRecDepth 100000 in
theorem w_g360 : w_g (nat_lit 360) = true := by decide +kernel
theorem w_r361 : w_rg 361 := w_rg_s (n := 360) w_r360 w_g360
set_option maxRecDepth 100000 in
theorem w_g361 : w_g (nat_lit 361) = true := by decide +kernel
theorem w_r362 : w_rg 362 := w_rg_s (n := 361) w_r361 w_g361
set_option maxRecDepth 100000 in
theorem w_g362 : w_g (nat_lit 362) = true := by decide +kernel
theorem w_r363 : w_rg 363 := w_rg_s (n := 362) w_r362 w_g362
set_option maxRecDepth 100000 in
theorem w_g363 : w_g (nat_lit 363) = true := by decide +kernel
theorem w_r364 : w_rg 364 := w_rg_s (n := 363) w_r363 w_g363
set_option maxRecDepth 100000 in
theorem w_g364 : w_g (nat_lit 364) = true := by decide +kernel
theorem w_r365 : w_rg 365 := w_rg_s (n := 364) w_r364 w_g364
set_option maxRecDepth 100000 in
theorem w_g365 : w_g (nat_lit 365) = true := by decide +kernel
theorem w_r366 : w_rg 366 := w_rg_s (n := 365) w_r365 w_g365
set_option maxRecDepth 100000 in
theorem w_g366 : w_g (nat_lit 366) = true := by decide +kernel
theorem w_r367 : w_rg 367 := w_rg_s (n := 366) w_r366 w_g366
set_option maxRecDepth 100000 in
theorem w_g367 : w_g (nat_lit 367) = true := by decide +kernel
theorem w_r368 : w_rg 368 := w_rg_s (n := 367) w_r367 w_g367
set_option maxRecDepth 100000 in
theorem w_g368 : w_g (nat_lit 368) = true := by decide +kernel
theorem w_r369 : w_rg 369 := w_rg_s (n := 368) w_r368 w_g368
set_option maxRecDepth 100000 in
theorem w_g369 : w_g (nat_lit 369) = true := by decide +kernel
theorem w_r370 : w_rg 370 := w_rg_s (n := 369) w_r369 w_g369
set_option maxRecDepth 100000 in
theorem w_g370 : w_g (nat_lit 370) = true := by decide +kernel
theorem w_r371 : w_rg 371 := w_rg_s (n := 370) w_r370 w_g370
set_option maxRecDepth 100000 in
theorem w_g371 : w_g (nat_lit 371) = true := by decide +kernel
theorem w_r372 : w_rg 372 := w_rg_s (n := 371) w_r371 w_g371
set_option maxRecDepth 100000 in
theorem w_g372 : w_g (nat_lit 372) = true := by decide +kernel
theorem w_r373 : w_rg 373 := w_rg_s (n := 372) w_r372 w_g372
set_option maxRecDepth 100000 in
theorem w_g373 : w_g (nat_lit 373) = true := by decide +kernel
theorem w_r374 : w_rg 374 := w_rg_s (n := 373) w_r373 w_g373
set_option maxRecDepth 100000 in
theorem w_g374 : w_g (nat_lit 374) = true := by decide +kernel
theorem w_r375 : w_rg 375 := w_rg_s (n := 374) w_r374 w_g374
set_option maxRecDepth 100000 in
theorem w_g375 : w_g (nat_lit 375) = true := by decide +kernel
theorem w_r376 : w_rg 376 := w_rg_s (n := 375) w_r375 w_g375
set_option maxRecDepth 100000 in
theorem w_g376 : w_g (nat_lit 376) = true := by decide +kernel
theorem w_r377 : w_rg 377 := w_rg_s (n := 376) w_r376 w_g376
set_option maxRecDepth 100000 in
theorem w_g377 : w_g (nat_lit 377) = true := by decide +kernel
theorem w_r378 : w_rg 378 := w_rg_s (n := 377) w_r377 w_g377
set_option maxRecDepth 100000 in
theorem w_g378 : w_g (nat_lit 378) = true := by decide +kernel
theorem w_r379 : w_rg 379 := w_rg_s (n := 378) w_r378 w_g378
set_option maxRecDepth 100000 in
theorem w_g379 : w_g (nat_lit 379) = true := by decide +kernel
theorem w_r380 : w_rg 380 := w_rg_s (n := 379) w_r379 w_g379
set_option maxRecDepth 100000 in
theorem w_g380 : w_g (nat_lit 380) = true := by decide +kernel
theorem w_r381 : w_rg 381 := w_rg_s (n := 380) w_r380 w_g380
set_option maxRecDepth 100000 in
theorem w_g381 : w_g (nat_lit 381) = true := by decide +kernel
theorem w_r382 : w_rg 382 := w_rg_s (n := 381) w_r381 w_g381
set_option maxRecDepth 100000 in
theorem w_g382 : w_g (nat_lit 382) = true := by decide +kernel
theorem w_r383 : w_rg 383 := w_rg_s (n := 382) w_r382 w_g382
set_option maxRecDepth 100000 in
theorem w_g383 : w_g (nat_lit 383) = true := by decide +kernel
theorem w_r384 : w_rg 384 := w_rg_s (n := 383) w_r383 w_g383
set_option maxRecDepth 100000 in
theorem w_g384 : w_g (nat_lit 384) = true := by decide +kernel
theorem w_r385 : w_rg 385 := w_rg_s (n := 384) w_r384 w_g384
set_option maxRecDepth 100000 in
theorem w_g385 : w_g (nat_lit 385) = true := by decide +kernel
theorem w_r386 : w_rg 386 := w_rg_s (n := 385) w_r385 w_g385
set_option maxRecDepth 100000 in
theorem w_g386 : w_g (nat_lit 386) = true := by decide +kernel
theorem w_r387 : w_rg 387 := w_rg_s (n := 386) w_r386 w_g386
set_option maxRecDepth 100000 in
theorem w_g387 : w_g (nat_lit 387) = true := by decide +kernel
theorem w_r388 : w_rg 388 := w_rg_s (n := 387) w_r387 w_g387
set_option maxRecDepth 100000 in
theorem w_g388 : w_g (nat_lit 388) = true := by decide +kernel
theorem w_r389 : w_rg 389 := w_rg_s (n := 388) w_r388 w_g388
set_option maxRecDepth 100000 in
theorem w_g389 : w_g (nat_lit 389) = true := by decide +kernel
theorem w_r390 : w_rg 390 := w_rg_s (n := 389) w_r389 w_g389
set_option maxRecDepth 100000 in
theorem w_g390 : w_g (nat_lit 390) = true := by decide +kernel
theorem w_r391 : w_rg 391 := w_rg_s (n := 390) w_r390 w_g390
set_option maxRecDepth 100000 in
theorem w_g391 : w_g (nat_lit 391) = true := by decide +kernel
theorem w_r392 : w_rg 392 := w_rg_s (n := 391) w_r391 w_g391
set_option maxRecDepth 100000 in
theorem w_g392 : w_g (nat_lit 392) = true := by decide +kernel
theorem w_r393 : w_rg 393 := w_rg_s (n := 392) w_r392 w_g392
set_option maxRecDepth 100000 in
theorem w_g393 : w_g (nat_lit 393) = true := by decide +kernel
theorem w_r394 : w_rg 394 := w_rg_s (n := 393) w_r393 w_g393
set_option maxRecDepth 100000 in
theorem w_g394 : w_g (nat_lit 394) = true := by decide +kernel
theorem w_r395 : w_rg 395 := w_rg_s (n := 394) w_r394 w_g394
set_option maxRecDepth 100000 in
theorem w_g395 : w_g (nat_lit 395) = true := by decide +kernel
theorem w_r396 : w_rg 396 := w_rg_s (n := 395) w_r395 w_g395
set_option maxRecDepth 100000 in
theorem w_g396 : w_g (nat_lit 396) = true := by decide +kernel
theorem w_r397 : w_rg 397 := w_rg_s (n := 396) w_r396 w_g396
set_option maxRecDepth 100000 in
theorem w_g397 : w_g (nat_lit 397) = true := by decide +kernel
theorem w_r398 : w_rg 398 := w_rg_s (n := 397) w_r397 w_g397
