/-! THE CHECKS of the methods from 216 on. -/
set_option maxRecDepth 100000 in
theorem e_c216 : v_all 216 (e_pg 216) (e_hg 216) = true := by decide +kernel
set_option maxRecDepth 100000 in
theorem e_n216 : v_mt 216 = true := by decide +kernel
set_option maxRecDepth 100000 in
theorem e_c217 : v_all 217 (e_pg 217) (e_hg 217) = true := by decide +kernel
set_option maxRecDepth 100000 in
theorem e_n217 : v_mt 217 = true := by decide +kernel
set_option maxRecDepth 100000 in
theorem e_c218 : v_all 218 (e_pg 218) (e_hg 218) = true := by decide +kernel
set_option maxRecDepth 100000 in
theorem e_n218 : v_mt 218 = true := by decide +kernel
set_option maxRecDepth 100000 in
theorem e_c219 : v_all 219 (e_pg 219) (e_hg 219) = true := by decide +kernel
set_option maxRecDepth 100000 in
theorem e_n219 : v_mt 219 = true := by decide +kernel
set_option maxRecDepth 100000 in
theorem e_c220 : v_all 220 (e_pg 220) (e_hg 220) = true := by decide +kernel
set_option maxRecDepth 100000 in
theorem e_n220 : v_mt 220 = true := by decide +kernel
set_option maxRecDepth 100000 in
theorem e_c221 : v_all 221 (e_pg 221) (e_hg 221) = true := by decide +kernel
set_option maxRecDepth 100000 in
theorem e_n221 : v_mt 221 = true := by decide +kernel
set_option maxRecDepth 100000 in
theorem e_c222 : v_all 222 (e_pg 222) (e_hg 222) = true := by decide +kernel
set_option maxRecDepth 100000 in
theorem e_n222 : v_mt 222 = true := by decide +kernel
set_option maxRecDepth 100000 in
theorem e_c223 : v_all 223 (e_pg 223) (e_hg 223) = true := by decide +kernel
set_option maxRecDepth 100000 in
theorem e_n223 : v_mt 223 = true := by decide +kernel
set_option maxRecDepth 100000 in
theorem e_c224 : v_all 224 (e_pg 224) (e_hg 224) = true := by decide +kernel
set_option maxRecDepth 100000 in
theorem e_n224 : v_mt 224 = true := by decide +kernel
set_option maxRecDepth 100000 in
theorem e_c225 : v_all 225 (e_pg 225) (e_hg 225) = true := by decide +kernel
set_option maxRecDepth 100000 in
theorem e_n225 : v_mt 225 = true := by decide +kernel
set_option maxRecDepth 100000 in
theorem e_c226 : v_all 226 (e_pg 226) (e_hg 226) = true := by decide +kernel
set_option maxRecDepth 100000 in
theorem e_n226 : v_mt 226 = true := by decide +kernel
set_option maxRecDepth 100000 in
theorem e_c227 : v_all 227 (e_pg 227) (e_hg 227) = true := by decide +kernel
set_option maxRecDepth 100000 in
theorem e_n227 : v_mt 227 = true := by decide +kernel
set_option maxRecDepth 100000 in
theorem e_c228 : v_all 228 (e_pg 228) (e_hg 228) = true := by decide +kernel
set_option maxRecDepth 100000 in
theorem e_n228 : v_mt 228 = true := by decide +kernel
set_option maxRecDepth 100000 in
theorem e_c229 : v_all 229 (e_pg 229) (e_hg 229) = true := by decide +kernel
set_option maxRecDepth 100000 in
theorem e_n229 : v_mt 229 = true := by decide +kernel
set_option maxRecDepth 100000 in
theorem e_c230 : v_all 230 (e_pg 230) (e_hg 230) = true := by decide +kernel
set_option maxRecDepth 100000 in
theorem e_n230 : v_mt 230 = true := by decide +kernel
set_option maxRecDepth 100000 in
theorem e_c231 : v_all 231 (e_pg 231) (e_hg 231) = true := by decide +kernel
set_option maxRecDepth 100000 in
theorem e_n231 : v_mt 231 = true := by decide +kernel
set_option maxRecDepth 100000 in
theorem e_c232 : v_all 232 (e_pg 232) (e_hg 232) = true := by decide +kernel
set_option maxRecDepth 100000 in
theorem e_n232 : v_mt 232 = true := by decide +kernel
set_option maxRecDepth 100000 in
theorem e_c233 : v_all 233 (e_pg 233) (e_hg 233) = true := by decide +kernel
set_option maxRecDepth 100000 in
theorem e_n233 : v_mt 233 = true := by decide +kernel
set_option maxRecDepth 100000 in
theorem e_c234 : v_all 234 (e_pg 234) (e_hg 234) = true := by decide +kernel
set_option maxRecDepth 100000 in
theorem e_n234 : v_mt 234 = true := by decide +kernel
set_option maxRecDepth 100000 in
theorem e_c235 : v_all 235 (e_pg 235) (e_hg 235) = true := by decide +kernel
set_option maxRecDepth 100000 in
theorem e_n235 : v_mt 235 = true := by decide +kernel
set_option maxRecDepth 100000 in
theorem e_c236 : v_all 236 (e_pg 236) (e_hg 236) = true := by decide +kernel
set_option maxRecDepth 100000 in
theorem e_n236 : v_mt 236 = true := by decide +kernel
set_option maxRecDepth 100000 in
theorem e_c237 : v_all 237 (e_pg 237) (e_hg 237) = true := by decide +kernel
set_option maxRecDepth 100000 in
theorem e_n237 : v_mt 237 = true := by decide +kernel
set_option maxRecDepth 100000 in
theorem e_c238 : v_all 238 (e_pg 238) (e_hg 238) = true := by decide +kernel
set_option maxRecDepth 100000 in
theorem e_n238 : v_mt 238 = true := by decide +kernel
set_option maxRecDepth 100000 in
theorem e_c239 : v_all 239 (e_pg 239) (e_hg 239) = true := by decide +kernel
set_option maxRecDepth 100000 in
theorem e_n239 : v_mt 239 = true := by decide +kernel
set_option maxRecDepth 100000 in
theorem e_c240 : v_all 240 (e_pg 240) (e_hg 240) = true := by decide +kernel
set_option maxRecDepth 100000 in
theorem e_n240 : v_mt 240 = true := by decide +kernel
set_option maxRecDepth 100000 in
theorem e_c241 : v_all 241 (e_pg 241) (e_hg 241) = true := by decide +kernel
set_option maxRecDepth 100000 in
theorem e_n241 : v_mt 241 = true := by decide +kernel
set_option maxRecDepth 100000 in
theorem e_c242 : v_all 242 (e_pg 242) (e_hg 242) = true := by decide +kernel
set_option maxRecDepth 100000 in
theorem e_n242 : v_mt 242 = true := by decide +kernel
set_option maxRecDepth 100000 in
theorem e_c243 : v_all 243 (e_pg 243) (e_hg 243) = true := by decide +kernel
set_option maxRecDepth 100000 in
theorem e_n243 : v_mt 243 = true := by decide +kernel
set_option maxRecDepth 100000 in
theorem e_c244 : v_all 244 (e_pg 244) (e_hg 244) = true := by decide +kernel
set_option maxRecDepth 100000 in
theorem e_n244 : v_mt 244 = true := by decide +kernel
set_option maxRecDepth 100000 in
theorem e_c245 : v_all 245 (e_pg 245) (e_hg 245) = true := by decide +kernel
set_option maxRecDepth 100000 in
theorem e_n245 : v_mt 245 = true := by decide +kernel
set_option maxRecDepth 100000 in
theorem e_c246 : v_all 246 (e_pg 246) (e_hg 246) = true := by decide +kernel
set_option maxRecDepth 100000 in
theorem e_n246 : v_mt 246 = true := by decide +kernel
set_option maxRecDepth 100000 in
theorem e_c247 : v_all 247 (e_pg 247) (e_hg 247) = true := by decide +kernel
set_option maxRecDepth 100000 in
theorem e_n247 : v_mt 247 = true := by decide +kernel
set_option maxRecDepth 100000 in
theorem e_c248 : v_all 248 (e_pg 248) (e_hg 248) = true := by decide +kernel
set_option maxRecDepth 100000 in
theorem e_n248 : v_mt 248 = true := by decide +kernel
set_option maxRecDepth 100000 in
theorem e_c249 : v_all 249 (e_pg 249) (e_hg 249) = true := by decide +kernel
set_option maxRecDepth 100000 in
theorem e_n249 : v_mt 249 = true := by decide +kernel
set_option maxRecDepth 100000 in
theorem e_c250 : v_all 250 (e_pg 250) (e_hg 250) = true := by decide +kernel
set_option maxRecDepth 100000 in
theorem e_n250 : v_mt 250 = true := by decide +kernel
set_option maxRecDepth 100000 in
theorem e_c251 : v_all 251 (e_pg 251) (e_hg 251) = true := by decide +kernel
set_option maxRecDepth 100000 in
theorem e_n251 : v_mt 251 = true := by decide +kernel
set_option maxRecDepth 100000 in
theorem e_c252 : v_all 252 (e_pg 252) (e_hg 252) = true := by decide +kernel
set_option maxRecDepth 100000 in
theorem e_n252 : v_mt 252 = true := by decide +kernel
set_option maxRecDepth 100000 in
theorem e_c253 : v_all 253 (e_pg 253) (e_hg 253) = true := by decide +kernel
set_option maxRecDepth 100000 in
theorem e_n253 : v_mt 253 = true := by decide +kernel
set_option maxRecDepth 100000 in
theorem e_c254 : v_all 254 (e_pg 254) (e_hg 254) = true := by decide +kernel
set_option maxRecDepth 100000 in
theorem e_n254 : v_mt 254 = true := by decide +kernel
set_option maxRecDepth 100000 in
theorem e_c255 : v_all 255 (e_pg 255) (e_hg 255) = true := by decide +kernel
set_option maxRecDepth 100000 in
theorem e_n255 : v_mt 255 = true := by decide +kernel
set_option maxRecDepth 100000 in
theorem e_c256 : v_all 256 (e_pg 256) (e_hg 256) = true := by decide +kernel
set_option maxRecDepth 100000 in
theorem e_n256 : v_mt 256 = true := by decide +kernel
set_option maxRecDepth 100000 in
theorem e_c257 : v_all 257 (e_pg 257) (e_hg 257) = true := by decide +kernel
set_option maxRecDepth 100000 in
theorem e_n257 : v_mt 257 = true := by decide +kernel
set_option maxRecDepth 100000 in
theorem e_c258 : v_all 258 (e_pg 258) (e_hg 258) = true := by decide +kernel
set_option maxRecDepth 100000 in
theorem e_n258 : v_mt 258 = true := by decide +kernel
set_option maxRecDepth 100000 in
theorem e_c259 : v_all 259 (e_pg 259) (e_hg 259) = true := by decide +kernel
set_option maxRecDepth 100000 in
theorem e_n259 : v_mt 259 = true := by decide +kernel
set_option maxRecDepth 100000 in
theorem e_c260 : v_all 260 (e_pg 260) (e_hg 260) = true := by decide +kernel
set_option maxRecDepth 100000 in
theorem e_n260 : v_mt 260 = true := by decide +kernel
set_option maxRecDepth 100000 in
theorem e_c261 : v_all 261 (e_pg 261) (e_hg 261) = true := by decide +kernel
set_option maxRecDepth 100000 in
theorem e_n261 : v_mt 261 = true := by decide +kernel
set_option maxRecDepth 100000 in
theorem e_c262 : v_all 262 (e_pg 262) (e_hg 262) = true := by decide +kernel
set_option maxRecDepth 100000 in
theorem e_n262 : v_mt 262 = true := by decide +kernel
set_option maxRecDepth 100000 in
theorem e_c263 : v_all 263 (e_pg 263) (e_hg 263) = true := by decide +kernel
set_option maxRecDepth 100000 in
theorem e_n263 : v_mt 263 = true := by decide +kernel
set_option maxRecDepth 100000 in
theorem e_c264 : v_all 264 (e_pg 264) (e_hg 264) = true := by decide +kernel
set_option maxRecDepth 100000 in
theorem e_n264 : v_mt 264 = true := by decide +kernel
set_option maxRecDepth 100000 in
theorem e_c265 : v_all 265 (e_pg 265) (e_hg 265) = true := by decide +kernel
set_option maxRecDepth 100000 in
theorem e_n265 : v_mt 265 = true := by decide +kernel
set_option maxRecDepth 100000 in
theorem e_c266 : v_all 266 (e_pg 266) (e_hg 266) = true := by decide +kernel
set_option maxRecDepth 100000 in
theorem e_n266 : v_mt 266 = true := by decide +kernel
set_option maxRecDepth 100000 in
theorem e_c267 : v_all 267 (e_pg 267) (e_hg 267) = true := by decide +kernel
set_option maxRecDepth 100000 in
theorem e_n267 : v_mt 267 = true := by decide +kernel
set_option maxRecDepth 100000 in
theorem e_c268 : v_all 268 (e_pg 268) (e_hg 268) = true := by decide +kernel
set_option maxRecDepth 100000 in
theorem e_n268 : v_mt 268 = true := by decide +kernel
set_option maxRecDepth 100000 in
theorem e_c269 : v_all 269 (e_pg 269) (e_hg 269) = true := by decide +kernel
set_option maxRecDepth 100000 in
theorem e_n269 : v_mt 269 = true := by decide +kernel
set_option maxRecDepth 100000 in
theorem e_c270 : v_all 270 (e_pg 270) (e_hg 270) = true := by decide +kernel
set_option maxRecDepth 100000 in
theorem e_n270 : v_mt 270 = true := by decide +kernel
set_option maxRecDepth 100000 in
theorem e_c271 : v_all 271 (e_pg 271) (e_hg 271) = true := by decide +kernel
set_option maxRecDepth 100000 in
theorem e_n271 : v_mt 271 = true := by decide +kernel
set_option maxRecDepth 100000 in
theorem e_c272 : v_all 272 (e_pg 272) (e_hg 272) = true := by decide +kernel
set_option maxRecDepth 100000 in
theorem e_n272 : v_mt 272 = true := by decide +kernel
set_option maxRecDepth 100000 in
theorem e_c273 : v_all 273 (e_pg 273) (e_hg 273) = true := by decide +kernel
set_option maxRecDepth 100000 in
theorem e_n273 : v_mt 273 = true := by decide +kernel
set_option maxRecDepth 100000 in
theorem e_c274 : v_all 274 (e_pg 274) (e_hg 274) = true := by decide +kernel
set_option maxRecDepth 100000 in
theorem e_n274 : v_mt 274 = true := by decide +kernel
set_option maxRecDepth 100000 in
theorem e_c275 : v_all 275 (e_pg 275) (e_hg 275) = true := by decide +kernel
set_option maxRecDepth 100000 in
theorem e_n275 : v_mt 275 = true := by decide +kernel
set_option maxRecDepth 100000 in
theorem e_c276 : v_all 276 (e_pg 276) (e_hg 276) = true := by decide +kernel
set_option maxRecDepth 100000 in
theorem e_n276 : v_mt 276 = true := by decide +kernel
set_option maxRecDepth 100000 in
theorem e_c277 : v_all 277 (e_pg 277) (e_hg 277) = true := by decide +kernel
set_option maxRecDepth 100000 in
theorem e_n277 : v_mt 277 = true := by decide +kernel
set_option maxRecDepth 100000 in
theorem e_c278 : v_all 278 (e_pg 278) (e_hg 278) = true := by decide +kernel
set_option maxRecDepth 100000 in
theorem e_n278 : v_mt 278 = true := by decide +kernel
set_option maxRecDepth 100000 in
theorem e_c279 : v_all 279 (e_pg 279) (e_hg 279) = true := by decide +kernel
set_option maxRecDepth 100000 in
theorem e_n279 : v_mt 279 = true := by decide +kernel
set_option maxRecDepth 100000 in
theorem e_c280 : v_all 280 (e_pg 280) (e_hg 280) = true := by decide +kernel
set_option maxRecDepth 100000 in
theorem e_n280 : v_mt 280 = true := by decide +kernel
set_option maxRecDepth 100000 in
theorem e_c281 : v_all 281 (e_pg 281) (e_hg 281) = true := by decide +kernel
set_option maxRecDepth 100000 in
theorem e_n281 : v_mt 281 = true := by decide +kernel
set_option maxRecDepth 100000 in
theorem e_c282 : v_all 282 (e_pg 282) (e_hg 282) = true := by decide +kernel
set_option maxRecDepth 100000 in
theorem e_n282 : v_mt 282 = true := by decide +kernel
set_option maxRecDepth 100000 in
theorem e_c283 : v_all 283 (e_pg 283) (e_hg 283) = true := by decide +kernel
set_option maxRecDepth 100000 in
theorem e_n283 : v_mt 283 = true := by decide +kernel
set_option maxRecDepth 100000 in
theorem e_c284 : v_all 284 (e_pg 284) (e_hg 284) = true := by decide +kernel
set_option maxRecDepth 100000 in
theorem e_n284 : v_mt 284 = true := by decide +kernel
set_option maxRecDepth 100000 in
theorem e_c285 : v_all 285 (e_pg 285) (e_hg 285) = true := by decide +kernel
set_option maxRecDepth 100000 in
theorem e_n285 : v_mt 285 = true := by decide +kernel
set_option maxRecDepth 100000 in
theorem e_c286 : v_all 286 (e_pg 286) (e_hg 286) = true := by decide +kernel
set_option maxRecDepth 100000 in
theorem e_n286 : v_mt 286 = true := by decide +kernel
