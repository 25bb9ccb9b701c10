/-! the cells: what they are, how long, what their final references hold (written by wip/whole/mk31.py) -/
theorem h_0 : sd_sh 0 = .inl 10 := rfl
theorem h_1 : sd_sh 1 = .inl 6 := rfl
theorem t_2 : sd_tg 2 = 0 := rfl
theorem n_2 : sd_ln 2 = 240 := rfl
theorem h_3 : sd_sh 3 = .inl 1 := rfl
theorem t_4 : sd_tg 4 = 0 := rfl
theorem n_4 : sd_ln 4 = 6 := rfl
theorem t_5 : sd_tg 5 = 0 := rfl
theorem n_5 : sd_ln 5 = 4 := rfl
theorem h_6 : sd_sh 6 = .inl 8 := rfl
theorem t_7 : sd_tg 7 = 4 := rfl
theorem n_7 : sd_ln 7 = 5 := rfl
theorem t_8 : sd_tg 8 = 0 := rfl
theorem n_8 : sd_ln 8 = 240 := rfl
theorem t_9 : sd_tg 9 = 0 := rfl
theorem n_9 : sd_ln 9 = 240 := rfl
theorem t_10 : sd_tg 10 = 0 := rfl
theorem n_10 : sd_ln 10 = 240 := rfl
theorem t_11 : sd_tg 11 = 0 := rfl
theorem n_11 : sd_ln 11 = 240 := rfl
theorem t_12 : sd_tg 12 = 0 := rfl
theorem n_12 : sd_ln 12 = 240 := rfl
theorem t_13 : sd_tg 13 = 0 := rfl
theorem n_13 : sd_ln 13 = 5 := rfl
theorem t_14 : sd_tg 14 = 0 := rfl
theorem n_14 : sd_ln 14 = 6 := rfl
theorem t_15 : sd_tg 15 = 0 := rfl
theorem n_15 : sd_ln 15 = 240 := rfl
theorem t_16 : sd_tg 16 = 0 := rfl
theorem n_16 : sd_ln 16 = 8 := rfl
theorem h_17 : sd_sh 17 = .inl 7 := rfl
theorem h_18 : sd_sh 18 = .inl 0 := rfl
theorem t_19 : sd_tg 19 = 0 := rfl
theorem n_19 : sd_ln 19 = 5 := rfl
theorem t_20 : sd_tg 20 = 0 := rfl
theorem n_20 : sd_ln 20 = 8 := rfl
theorem t_21 : sd_tg 21 = 0 := rfl
theorem n_21 : sd_ln 21 = 8 := rfl
theorem t_22 : sd_tg 22 = 0 := rfl
theorem n_22 : sd_ln 22 = 32 := rfl
theorem h_28 : sd_sh 28 = .inl 0 := rfl
theorem t_29 : sd_tg 29 = 0 := rfl
theorem n_29 : sd_ln 29 = 5 := rfl
theorem t_30 : sd_tg 30 = 0 := rfl
theorem n_30 : sd_ln 30 = 8 := rfl
theorem t_31 : sd_tg 31 = 0 := rfl
theorem n_31 : sd_ln 31 = 8 := rfl
theorem t_32 : sd_tg 32 = 0 := rfl
theorem n_32 : sd_ln 32 = 32 := rfl
theorem h_38 : sd_sh 38 = .inl 3 := rfl
theorem t_39 : sd_tg 39 = 3 := rfl
theorem n_39 : sd_ln 39 = 40 := rfl
theorem t_240 : sd_tg 240 = 0 := rfl
theorem n_240 : sd_ln 240 = 512 := rfl
theorem t_246 : sd_tg 246 = 0 := rfl
theorem n_246 : sd_ln 246 = 512 := rfl
theorem t_252 : sd_tg 252 = 0 := rfl
theorem n_252 : sd_ln 252 = 12 := rfl
theorem h_253 : sd_sh 253 = .inl 2 := rfl
theorem t_254 : sd_tg 254 = 0 := rfl
theorem n_254 : sd_ln 254 = 60 := rfl
theorem t_255 : sd_tg 255 = 0 := rfl
theorem n_255 : sd_ln 255 = 12 := rfl
theorem t_256 : sd_tg 256 = 0 := rfl
theorem n_256 : sd_ln 256 = 12 := rfl
theorem t_257 : sd_tg 257 = 0 := rfl
theorem n_257 : sd_ln 257 = 4 := rfl
theorem h_258 : sd_sh 258 = .inl 9 := rfl
theorem t_259 : sd_tg 259 = 0 := rfl
theorem n_259 : sd_ln 259 = 84 := rfl
theorem t_260 : sd_tg 260 = 0 := rfl
theorem n_260 : sd_ln 260 = 7 := rfl
theorem t_261 : sd_tg 261 = 0 := rfl
theorem n_261 : sd_ln 261 = 8 := rfl
theorem t_262 : sd_tg 262 = 0 := rfl
theorem n_262 : sd_ln 262 = 8 := rfl
theorem t_263 : sd_tg 263 = 0 := rfl
theorem n_263 : sd_ln 263 = 240 := rfl
theorem t_264 : sd_tg 264 = 0 := rfl
theorem n_264 : sd_ln 264 = 6 := rfl
theorem h_265 : sd_sh 265 = .inl 4 := rfl
theorem t_266 : sd_tg 266 = 0 := rfl
theorem n_266 : sd_ln 266 = 72 := rfl
theorem t_267 : sd_tg 267 = 0 := rfl
theorem n_267 : sd_ln 267 = 12 := rfl
theorem t_268 : sd_tg 268 = 0 := rfl
theorem n_268 : sd_ln 268 = 8 := rfl
theorem t_269 : sd_tg 269 = 0 := rfl
theorem n_269 : sd_ln 269 = 200 := rfl
theorem t_270 : sd_tg 270 = 0 := rfl
theorem n_270 : sd_ln 270 = 8 := rfl
theorem h_271 : sd_sh 271 = .inl 11 := rfl
theorem t_272 : sd_tg 272 = 1 := rfl
theorem n_272 : sd_ln 272 = 240 := rfl
theorem t_273 : sd_tg 273 = 1 := rfl
theorem n_273 : sd_ln 273 = 960 := rfl
theorem t_274 : sd_tg 274 = 0 := rfl
theorem n_274 : sd_ln 274 = 4 := rfl
theorem t_275 : sd_tg 275 = 0 := rfl
theorem n_275 : sd_ln 275 = 128 := rfl
theorem t_276 : sd_tg 276 = 0 := rfl
theorem n_276 : sd_ln 276 = 75 := rfl
theorem t_277 : sd_tg 277 = 0 := rfl
theorem n_277 : sd_ln 277 = 75 := rfl
theorem t_278 : sd_tg 278 = 0 := rfl
theorem n_278 : sd_ln 278 = 16 := rfl
theorem t_279 : sd_tg 279 = 0 := rfl
theorem n_279 : sd_ln 279 = 16 := rfl
theorem t_280 : sd_tg 280 = 0 := rfl
theorem n_280 : sd_ln 280 = 48 := rfl
theorem t_281 : sd_tg 281 = 0 := rfl
theorem n_281 : sd_ln 281 = 32 := rfl
theorem t_282 : sd_tg 282 = 0 := rfl
theorem n_282 : sd_ln 282 = 32 := rfl
theorem t_283 : sd_tg 283 = 0 := rfl
theorem n_283 : sd_ln 283 = 91 := rfl
theorem t_284 : sd_tg 284 = 0 := rfl
theorem n_284 : sd_ln 284 = 6 := rfl
theorem t_285 : sd_tg 285 = 0 := rfl
theorem n_285 : sd_ln 285 = 385 := rfl
theorem t_286 : sd_tg 286 = 0 := rfl
theorem n_286 : sd_ln 286 = 385 := rfl
theorem t_287 : sd_tg 287 = 0 := rfl
theorem n_287 : sd_ln 287 = 12 := rfl
theorem t_288 : sd_tg 288 = 0 := rfl
theorem n_288 : sd_ln 288 = 12 := rfl
theorem t_289 : sd_tg 289 = 0 := rfl
theorem n_289 : sd_ln 289 = 12 := rfl
theorem t_290 : sd_tg 290 = 0 := rfl
theorem n_290 : sd_ln 290 = 15400 := rfl
theorem t_291 : sd_tg 291 = 0 := rfl
theorem n_291 : sd_ln 291 = 5 := rfl
theorem t_292 : sd_tg 292 = 0 := rfl
theorem n_292 : sd_ln 292 = 5 := rfl
theorem t_293 : sd_tg 293 = 0 := rfl
theorem n_293 : sd_ln 293 = 5 := rfl
theorem t_294 : sd_tg 294 = 0 := rfl
theorem n_294 : sd_ln 294 = 8 := rfl
theorem t_295 : sd_tg 295 = 0 := rfl
theorem n_295 : sd_ln 295 = 5760 := rfl
theorem t_296 : sd_tg 296 = 0 := rfl
theorem n_296 : sd_ln 296 = 5760 := rfl
theorem t_297 : sd_tg 297 = 0 := rfl
theorem n_297 : sd_ln 297 = 512 := rfl
theorem t_298 : sd_tg 298 = 0 := rfl
theorem n_298 : sd_ln 298 = 8 := rfl
theorem t_299 : sd_tg 299 = 0 := rfl
theorem n_299 : sd_ln 299 = 8 := rfl
theorem t_300 : sd_tg 300 = 0 := rfl
theorem n_300 : sd_ln 300 = 385 := rfl
theorem t_301 : sd_tg 301 = 2 := rfl
theorem n_301 : sd_ln 301 = 1 := rfl
theorem r_0_0 {L : Nat} {xs : Nat → Int32} {fm : Option Nat} {σ : sd_Mem} : va_rf (sd_gR (sd_E1 L xs fm) σ 0 0) = .ref 1 := rfl
theorem r_0_1 {L : Nat} {xs : Nat → Int32} {fm : Option Nat} {σ : sd_Mem} : va_rf (sd_gR (sd_E1 L xs fm) σ 0 1) = .ref 3 := rfl
theorem r_0_2 {L : Nat} {xs : Nat → Int32} {fm : Option Nat} {σ : sd_Mem} : va_rf (sd_gR (sd_E1 L xs fm) σ 0 2) = .ref 6 := rfl
theorem r_0_3 {L : Nat} {xs : Nat → Int32} {fm : Option Nat} {σ : sd_Mem} : va_rf (sd_gR (sd_E1 L xs fm) σ 0 3) = .ref 17 := rfl
theorem r_0_6 {L : Nat} {xs : Nat → Int32} {fm : Option Nat} {σ : sd_Mem} : va_rf (sd_gR (sd_E1 L xs fm) σ 0 6) = .ref 38 := rfl
theorem r_0_7 {L : Nat} {xs : Nat → Int32} {fm : Option Nat} {σ : sd_Mem} : va_rf (sd_gR (sd_E1 L xs fm) σ 0 7) = .ref 240 := rfl
theorem r_0_8 {L : Nat} {xs : Nat → Int32} {fm : Option Nat} {σ : sd_Mem} : va_rf (sd_gR (sd_E1 L xs fm) σ 0 8) = .ref 241 := rfl
theorem r_0_9 {L : Nat} {xs : Nat → Int32} {fm : Option Nat} {σ : sd_Mem} : va_rf (sd_gR (sd_E1 L xs fm) σ 0 9) = .ref 246 := rfl
theorem r_0_11 {L : Nat} {xs : Nat → Int32} {fm : Option Nat} {σ : sd_Mem} : va_rf (sd_gR (sd_E1 L xs fm) σ 0 11) = .ref 247 := rfl
theorem r_0_12 {L : Nat} {xs : Nat → Int32} {fm : Option Nat} {σ : sd_Mem} : va_rf (sd_gR (sd_E1 L xs fm) σ 0 12) = .ref 252 := rfl
theorem r_0_13 {L : Nat} {xs : Nat → Int32} {fm : Option Nat} {σ : sd_Mem} : va_rf (sd_gR (sd_E1 L xs fm) σ 0 13) = .ref 253 := rfl
theorem r_0_14 {L : Nat} {xs : Nat → Int32} {fm : Option Nat} {σ : sd_Mem} : va_rf (sd_gR (sd_E1 L xs fm) σ 0 14) = .ref 258 := rfl
theorem r_0_15 {L : Nat} {xs : Nat → Int32} {fm : Option Nat} {σ : sd_Mem} : va_rf (sd_gR (sd_E1 L xs fm) σ 0 15) = .ref 265 := rfl
theorem r_1_0 {L : Nat} {xs : Nat → Int32} {fm : Option Nat} {σ : sd_Mem} : va_rf (sd_gR (sd_E1 L xs fm) σ 1 0) = .ref 2 := rfl
theorem r_3_0 {L : Nat} {xs : Nat → Int32} {fm : Option Nat} {σ : sd_Mem} : va_rf (sd_gR (sd_E1 L xs fm) σ 3 0) = .ref 1 := rfl
theorem r_3_1 {L : Nat} {xs : Nat → Int32} {fm : Option Nat} {σ : sd_Mem} : va_rf (sd_gR (sd_E1 L xs fm) σ 3 1) = .ref 4 := rfl
theorem r_3_2 {L : Nat} {xs : Nat → Int32} {fm : Option Nat} {σ : sd_Mem} : va_rf (sd_gR (sd_E1 L xs fm) σ 3 2) = .ref 5 := rfl
theorem r_6_0 {L : Nat} {xs : Nat → Int32} {fm : Option Nat} {σ : sd_Mem} : va_rf (sd_gR (sd_E1 L xs fm) σ 6 0) = .ref 7 := rfl
theorem r_6_1 {L : Nat} {xs : Nat → Int32} {fm : Option Nat} {σ : sd_Mem} : va_rf (sd_gR (sd_E1 L xs fm) σ 6 1) = .ref 13 := rfl
theorem r_6_4 {L : Nat} {xs : Nat → Int32} {fm : Option Nat} {σ : sd_Mem} : va_rf (sd_gR (sd_E1 L xs fm) σ 6 4) = .ref 14 := rfl
theorem r_6_5 {L : Nat} {xs : Nat → Int32} {fm : Option Nat} {σ : sd_Mem} : va_rf (sd_gR (sd_E1 L xs fm) σ 6 5) = .ref 15 := rfl
theorem r_6_7 {L : Nat} {xs : Nat → Int32} {fm : Option Nat} {σ : sd_Mem} : va_rf (sd_gR (sd_E1 L xs fm) σ 6 7) = .ref 16 := rfl
theorem r_7_0 {L : Nat} {xs : Nat → Int32} {fm : Option Nat} {σ : sd_Mem} : va_rf (sd_gR (sd_E1 L xs fm) σ 7 0) = .ref 8 := rfl
theorem r_7_1 {L : Nat} {xs : Nat → Int32} {fm : Option Nat} {σ : sd_Mem} : va_rf (sd_gR (sd_E1 L xs fm) σ 7 1) = .ref 9 := rfl
theorem r_7_2 {L : Nat} {xs : Nat → Int32} {fm : Option Nat} {σ : sd_Mem} : va_rf (sd_gR (sd_E1 L xs fm) σ 7 2) = .ref 10 := rfl
theorem r_7_3 {L : Nat} {xs : Nat → Int32} {fm : Option Nat} {σ : sd_Mem} : va_rf (sd_gR (sd_E1 L xs fm) σ 7 3) = .ref 11 := rfl
theorem r_7_4 {L : Nat} {xs : Nat → Int32} {fm : Option Nat} {σ : sd_Mem} : va_rf (sd_gR (sd_E1 L xs fm) σ 7 4) = .ref 12 := rfl
theorem r_17_0 {L : Nat} {xs : Nat → Int32} {fm : Option Nat} {σ : sd_Mem} : va_rf (sd_gR (sd_E1 L xs fm) σ 17 0) = .ref 1 := rfl
theorem r_17_1 {L : Nat} {xs : Nat → Int32} {fm : Option Nat} {σ : sd_Mem} : va_rf (sd_gR (sd_E1 L xs fm) σ 17 1) = .ref 6 := rfl
theorem r_18_1 {L : Nat} {xs : Nat → Int32} {fm : Option Nat} {σ : sd_Mem} : va_rf (sd_gR (sd_E1 L xs fm) σ 18 1) = .ref 19 := rfl
theorem r_18_2 {L : Nat} {xs : Nat → Int32} {fm : Option Nat} {σ : sd_Mem} : va_rf (sd_gR (sd_E1 L xs fm) σ 18 2) = .ref 20 := rfl
theorem r_18_3 {L : Nat} {xs : Nat → Int32} {fm : Option Nat} {σ : sd_Mem} : va_rf (sd_gR (sd_E1 L xs fm) σ 18 3) = .ref 21 := rfl
theorem r_18_4 {L : Nat} {xs : Nat → Int32} {fm : Option Nat} {σ : sd_Mem} : va_rf (sd_gR (sd_E1 L xs fm) σ 18 4) = .ref 22 := rfl
theorem r_18_6 {L : Nat} {xs : Nat → Int32} {fm : Option Nat} {σ : sd_Mem} : va_rf (sd_gR (sd_E1 L xs fm) σ 18 6) = .ref 23 := rfl
theorem r_28_1 {L : Nat} {xs : Nat → Int32} {fm : Option Nat} {σ : sd_Mem} : va_rf (sd_gR (sd_E1 L xs fm) σ 28 1) = .ref 29 := rfl
theorem r_28_2 {L : Nat} {xs : Nat → Int32} {fm : Option Nat} {σ : sd_Mem} : va_rf (sd_gR (sd_E1 L xs fm) σ 28 2) = .ref 30 := rfl
theorem r_28_3 {L : Nat} {xs : Nat → Int32} {fm : Option Nat} {σ : sd_Mem} : va_rf (sd_gR (sd_E1 L xs fm) σ 28 3) = .ref 31 := rfl
theorem r_28_4 {L : Nat} {xs : Nat → Int32} {fm : Option Nat} {σ : sd_Mem} : va_rf (sd_gR (sd_E1 L xs fm) σ 28 4) = .ref 32 := rfl
theorem r_28_6 {L : Nat} {xs : Nat → Int32} {fm : Option Nat} {σ : sd_Mem} : va_rf (sd_gR (sd_E1 L xs fm) σ 28 6) = .ref 33 := rfl
theorem r_38_0 {L : Nat} {xs : Nat → Int32} {fm : Option Nat} {σ : sd_Mem} : va_rf (sd_gR (sd_E1 L xs fm) σ 38 0) = .ref 39 := rfl
theorem r_253_0 {L : Nat} {xs : Nat → Int32} {fm : Option Nat} {σ : sd_Mem} : va_rf (sd_gR (sd_E1 L xs fm) σ 253 0) = .ref 254 := rfl
theorem r_253_1 {L : Nat} {xs : Nat → Int32} {fm : Option Nat} {σ : sd_Mem} : va_rf (sd_gR (sd_E1 L xs fm) σ 253 1) = .ref 255 := rfl
theorem r_253_2 {L : Nat} {xs : Nat → Int32} {fm : Option Nat} {σ : sd_Mem} : va_rf (sd_gR (sd_E1 L xs fm) σ 253 2) = .ref 256 := rfl
theorem r_253_3 {L : Nat} {xs : Nat → Int32} {fm : Option Nat} {σ : sd_Mem} : va_rf (sd_gR (sd_E1 L xs fm) σ 253 3) = .ref 257 := rfl
theorem r_258_0 {L : Nat} {xs : Nat → Int32} {fm : Option Nat} {σ : sd_Mem} : va_rf (sd_gR (sd_E1 L xs fm) σ 258 0) = .ref 259 := rfl
theorem r_258_1 {L : Nat} {xs : Nat → Int32} {fm : Option Nat} {σ : sd_Mem} : va_rf (sd_gR (sd_E1 L xs fm) σ 258 1) = .ref 260 := rfl
theorem r_258_3 {L : Nat} {xs : Nat → Int32} {fm : Option Nat} {σ : sd_Mem} : va_rf (sd_gR (sd_E1 L xs fm) σ 258 3) = .ref 261 := rfl
theorem r_258_4 {L : Nat} {xs : Nat → Int32} {fm : Option Nat} {σ : sd_Mem} : va_rf (sd_gR (sd_E1 L xs fm) σ 258 4) = .ref 262 := rfl
theorem r_258_6 {L : Nat} {xs : Nat → Int32} {fm : Option Nat} {σ : sd_Mem} : va_rf (sd_gR (sd_E1 L xs fm) σ 258 6) = .ref 263 := rfl
theorem r_258_8 {L : Nat} {xs : Nat → Int32} {fm : Option Nat} {σ : sd_Mem} : va_rf (sd_gR (sd_E1 L xs fm) σ 258 8) = .ref 264 := rfl
theorem r_265_0 {L : Nat} {xs : Nat → Int32} {fm : Option Nat} {σ : sd_Mem} : va_rf (sd_gR (sd_E1 L xs fm) σ 265 0) = .ref 266 := rfl
theorem r_265_1 {L : Nat} {xs : Nat → Int32} {fm : Option Nat} {σ : sd_Mem} : va_rf (sd_gR (sd_E1 L xs fm) σ 265 1) = .ref 267 := rfl
theorem r_265_3 {L : Nat} {xs : Nat → Int32} {fm : Option Nat} {σ : sd_Mem} : va_rf (sd_gR (sd_E1 L xs fm) σ 265 3) = .ref 268 := rfl
theorem r_265_4 {L : Nat} {xs : Nat → Int32} {fm : Option Nat} {σ : sd_Mem} : va_rf (sd_gR (sd_E1 L xs fm) σ 265 4) = .ref 269 := rfl
theorem r_265_5 {L : Nat} {xs : Nat → Int32} {fm : Option Nat} {σ : sd_Mem} : va_rf (sd_gR (sd_E1 L xs fm) σ 265 5) = .ref 270 := rfl
theorem r_271_1 {L : Nat} {xs : Nat → Int32} {fm : Option Nat} {σ : sd_Mem} : va_rf (sd_gR (sd_E1 L xs fm) σ 271 1) = .ref 272 := rfl
theorem r_271_2 {L : Nat} {xs : Nat → Int32} {fm : Option Nat} {σ : sd_Mem} : va_rf (sd_gR (sd_E1 L xs fm) σ 271 2) = .ref 273 := rfl
theorem r_271_3 {L : Nat} {xs : Nat → Int32} {fm : Option Nat} {σ : sd_Mem} : va_rf (sd_gR (sd_E1 L xs fm) σ 271 3) = .ref 274 := rfl
theorem r_271_4 {L : Nat} {xs : Nat → Int32} {fm : Option Nat} {σ : sd_Mem} : va_rf (sd_gR (sd_E1 L xs fm) σ 271 4) = .ref 275 := rfl
theorem r_271_15 {L : Nat} {xs : Nat → Int32} {fm : Option Nat} {σ : sd_Mem} : va_rf (sd_gR (sd_E1 L xs fm) σ 271 15) = .ref 416 := rfl
theorem r_271_16 {L : Nat} {xs : Nat → Int32} {fm : Option Nat} {σ : sd_Mem} : va_rf (sd_gR (sd_E1 L xs fm) σ 271 16) = .ref 415 := rfl
theorem r_271_18 {L : Nat} {xs : Nat → Int32} {fm : Option Nat} {σ : sd_Mem} : va_rf (sd_gR (sd_E1 L xs fm) σ 271 18) = .ref 276 := rfl
theorem r_271_19 {L : Nat} {xs : Nat → Int32} {fm : Option Nat} {σ : sd_Mem} : va_rf (sd_gR (sd_E1 L xs fm) σ 271 19) = .ref 277 := rfl
theorem r_271_20 {L : Nat} {xs : Nat → Int32} {fm : Option Nat} {σ : sd_Mem} : va_rf (sd_gR (sd_E1 L xs fm) σ 271 20) = .ref 278 := rfl
theorem r_271_21 {L : Nat} {xs : Nat → Int32} {fm : Option Nat} {σ : sd_Mem} : va_rf (sd_gR (sd_E1 L xs fm) σ 271 21) = .ref 279 := rfl
theorem r_271_22 {L : Nat} {xs : Nat → Int32} {fm : Option Nat} {σ : sd_Mem} : va_rf (sd_gR (sd_E1 L xs fm) σ 271 22) = .ref 280 := rfl
theorem r_271_23 {L : Nat} {xs : Nat → Int32} {fm : Option Nat} {σ : sd_Mem} : va_rf (sd_gR (sd_E1 L xs fm) σ 271 23) = .ref 281 := rfl
theorem r_271_24 {L : Nat} {xs : Nat → Int32} {fm : Option Nat} {σ : sd_Mem} : va_rf (sd_gR (sd_E1 L xs fm) σ 271 24) = .ref 282 := rfl
theorem r_271_25 {L : Nat} {xs : Nat → Int32} {fm : Option Nat} {σ : sd_Mem} : va_rf (sd_gR (sd_E1 L xs fm) σ 271 25) = .ref 283 := rfl
theorem r_271_26 {L : Nat} {xs : Nat → Int32} {fm : Option Nat} {σ : sd_Mem} : va_rf (sd_gR (sd_E1 L xs fm) σ 271 26) = .ref 284 := rfl
theorem r_271_34 {L : Nat} {xs : Nat → Int32} {fm : Option Nat} {σ : sd_Mem} : va_rf (sd_gR (sd_E1 L xs fm) σ 271 34) = .ref 285 := rfl
theorem r_271_35 {L : Nat} {xs : Nat → Int32} {fm : Option Nat} {σ : sd_Mem} : va_rf (sd_gR (sd_E1 L xs fm) σ 271 35) = .ref 286 := rfl
theorem r_271_38 {L : Nat} {xs : Nat → Int32} {fm : Option Nat} {σ : sd_Mem} : va_rf (sd_gR (sd_E1 L xs fm) σ 271 38) = .ref 287 := rfl
theorem r_271_39 {L : Nat} {xs : Nat → Int32} {fm : Option Nat} {σ : sd_Mem} : va_rf (sd_gR (sd_E1 L xs fm) σ 271 39) = .ref 288 := rfl
theorem r_271_40 {L : Nat} {xs : Nat → Int32} {fm : Option Nat} {σ : sd_Mem} : va_rf (sd_gR (sd_E1 L xs fm) σ 271 40) = .ref 289 := rfl
theorem r_271_42 {L : Nat} {xs : Nat → Int32} {fm : Option Nat} {σ : sd_Mem} : va_rf (sd_gR (sd_E1 L xs fm) σ 271 42) = .ref 290 := rfl
theorem r_271_45 {L : Nat} {xs : Nat → Int32} {fm : Option Nat} {σ : sd_Mem} : va_rf (sd_gR (sd_E1 L xs fm) σ 271 45) = .ref 291 := rfl
theorem r_271_46 {L : Nat} {xs : Nat → Int32} {fm : Option Nat} {σ : sd_Mem} : va_rf (sd_gR (sd_E1 L xs fm) σ 271 46) = .ref 292 := rfl
theorem r_271_47 {L : Nat} {xs : Nat → Int32} {fm : Option Nat} {σ : sd_Mem} : va_rf (sd_gR (sd_E1 L xs fm) σ 271 47) = .ref 293 := rfl
theorem r_271_48 {L : Nat} {xs : Nat → Int32} {fm : Option Nat} {σ : sd_Mem} : va_rf (sd_gR (sd_E1 L xs fm) σ 271 48) = .ref 294 := rfl
theorem r_271_49 {L : Nat} {xs : Nat → Int32} {fm : Option Nat} {σ : sd_Mem} : va_rf (sd_gR (sd_E1 L xs fm) σ 271 49) = .ref 295 := rfl
theorem r_271_50 {L : Nat} {xs : Nat → Int32} {fm : Option Nat} {σ : sd_Mem} : va_rf (sd_gR (sd_E1 L xs fm) σ 271 50) = .ref 296 := rfl
theorem r_271_53 {L : Nat} {xs : Nat → Int32} {fm : Option Nat} {σ : sd_Mem} : va_rf (sd_gR (sd_E1 L xs fm) σ 271 53) = .ref 297 := rfl
theorem r_271_54 {L : Nat} {xs : Nat → Int32} {fm : Option Nat} {σ : sd_Mem} : va_rf (sd_gR (sd_E1 L xs fm) σ 271 54) = .ref 298 := rfl
theorem r_271_55 {L : Nat} {xs : Nat → Int32} {fm : Option Nat} {σ : sd_Mem} : va_rf (sd_gR (sd_E1 L xs fm) σ 271 55) = .ref 299 := rfl
theorem r_271_57 {L : Nat} {xs : Nat → Int32} {fm : Option Nat} {σ : sd_Mem} : va_rf (sd_gR (sd_E1 L xs fm) σ 271 57) = .ref 300 := rfl
theorem r_0_4 {L : Nat} {xs : Nat → Int32} {fm : Option Nat} {σ : sd_Mem} : sd_gR (sd_E1 L xs fm) σ 0 4 = σ.2.2 0 4 := rfl
theorem r_0_5 {L : Nat} {xs : Nat → Int32} {fm : Option Nat} {σ : sd_Mem} : sd_gR (sd_E1 L xs fm) σ 0 5 = σ.2.2 0 5 := rfl
theorem r_271_5 {L : Nat} {xs : Nat → Int32} {fm : Option Nat} {σ : sd_Mem} : sd_gR (sd_E1 L xs fm) σ 271 5 = σ.2.2 271 5 := rfl
theorem sd_rfS {a : Nat} : va_rf (some a) = .ref a := rfl
/-! words for the symbolic walk -/
theorem sd_ci {a : Int32} : (Value.int a).category = 1 := rfl
theorem sd_cr {a : Nat} : (Value.ref a).category = 1 := rfl
theorem sd_cl9 {a : Int64} : (Value.long a).category = 2 := rfl
theorem sd_cu : sd_un.category = 1 := rfl
theorem sd_cat0 : sd_cat [] = 0 := rfl
theorem sd_cat1 {v : Value} {l : List Value} : sd_cat (v :: l) = v.category + sd_cat l := rfl
/-! truth as a number; a place or none -/
def sd_b (c : Prop) [Decidable c] : Int32 := if c then nI 1 else nI 0
theorem sd_bT {c : Prop} [Decidable c] (h : c) : sd_b c = nI 1 := if_pos h
theorem sd_bF {c : Prop} [Decidable c] (h : ¬ c) : sd_b c = nI 0 := if_neg h
theorem sd_b0 {c : Prop} [Decidable c] : (sd_b c = 0) ↔ ¬ c := by
  unfold sd_b
  by_cases h : c
  · rw [if_pos h]; exact ⟨fun q => absurd q (by decide), fun q => absurd h q⟩
  · rw [if_neg h]; exact ⟨fun _ => h, fun _ => by decide⟩
theorem sd_b01 {c : Prop} [Decidable c] : (sd_b c = 0 ∨ sd_b c = 1) ↔ True := by
  unfold sd_b
  by_cases h : c
  · rw [if_pos h]; exact ⟨fun _ => trivial, fun _ => Or.inr (by decide)⟩
  · rw [if_neg h]; exact ⟨fun _ => trivial, fun _ => Or.inl (by decide)⟩
theorem sd_n01 : ((nI 0 = (0 : Int32) ∨ nI 0 = (1 : Int32))) = True := by decide
theorem sd_n11 : ((nI 1 = (0 : Int32) ∨ nI 1 = (1 : Int32))) = True := by decide
theorem sd_n10 : (nI 1 = (0 : Int32)) = False := by decide
theorem sd_n1 : (nI 1 = (1 : Int32)) = True := by decide
theorem sd_n00 : (nI 0 = (0 : Int32)) = True := by decide
def sd_o : Option Nat → Int32
  | none => -1
  | some n => nI n
theorem sd_oN : sd_o none = -1 := rfl
theorem sd_oS {n : Nat} : sd_o (some n) = nI n := rfl
theorem nz_m1 {n : Nat} (h : n < 2147483648) : (nI n = -1) ↔ False := ⟨fun q => by
  have h1 := congrArg Int32.toInt q
  rw [nI_toInt h, show (-1 : Int32).toInt = -1 by decide] at h1
  omega, fun q => q.elim⟩
theorem nz_m1' {n : Nat} (h : n < 2147483648) : (-1 = nI n) ↔ False := ⟨fun q => (nz_m1 h).mp q.symm, fun q => q.elim⟩
/-! numbers -/
theorem nz_lt0 {n : Nat} (h : n < 2147483648) : (nI n < 0) ↔ False := ⟨fun q => nI_pos h q, fun q => q.elim⟩
theorem nz_ge0 {n : Nat} (h : n < 2147483648) : (0 ≤ nI n) ↔ True := ⟨fun _ => trivial, fun _ => nI_pos' h⟩
theorem nz_le0 {n : Nat} (h : n < 2147483648) : (nI n ≤ 0) ↔ n = 0 := by
  rw [← nI_0, nI_leI h (by decide)]; omega
theorem nz_gt0 {n : Nat} (h : n < 2147483648) : (0 < nI n) ↔ 0 < n := by
  rw [← nI_0, nI_ltI (by decide) h]
theorem nz_eq0 {n : Nat} (h : n < 2147483648) : (nI n = 0) ↔ n = 0 := by
  rw [← nI_0, nI_eq h (by decide)]
theorem nz_eq1 {n : Nat} (h : n < 2147483648) : (nI n = 1) ↔ n = 1 := by
  rw [show (1 : Int32) = nI 1 from rfl, nI_eq h (by decide)]
theorem nz_lt {a b : Nat} (ha : a < 2147483648) (hb : b < 2147483648) : nI a < nI b ↔ a < b := nI_ltI ha hb
theorem nz_le {a b : Nat} (ha : a < 2147483648) (hb : b < 2147483648) : nI a ≤ nI b ↔ a ≤ b := nI_leI ha hb
theorem nz_eq {a b : Nat} (ha : a < 2147483648) (hb : b < 2147483648) : nI a = nI b ↔ a = b := nI_eq ha hb
theorem nz_cl {n : Nat} (h : n < 2147483648) : (nI n).toNatClampNeg = n := nI_clamp h
theorem nz_in {i n : Nat} (h : i < 2147483648) : sd_inn (nI i) n ↔ i < n := by
  unfold sd_inn
  rw [nI_clamp h]
  have := nI_pos h
  constructor
  · intro q
    rcases Nat.lt_or_ge i n with r | r
    · exact r
    · exact absurd (Or.inr r) q
  · intro q r
    rcases r with r | r
    · exact this r
    · omega
theorem nz_add {a b : Nat} : nI a + nI b = nI (a + b) := nI_add a b
theorem nz_mul {a b : Nat} : nI a * nI b = nI (a * b) := pk_mul a b
theorem nz_sub {a b : Nat} (h : b ≤ a) : nI a - nI b = nI (a - b) := pk_sub h
theorem nz_div {a b : Nat} (ha : a < 2147483648) (h0 : 0 < b) (hb : b < 2147483648) : nI a / nI b = nI (a / b) := pk_div ha h0 hb
theorem nz_rem {a b : Nat} (ha : a < 2147483648) (h0 : 0 < b) (hb : b < 2147483648) : nI a - nI (a / b) * nI b = nI (a % b) := by
  rw [← pk_div ha h0 hb]; exact pk_rem ha h0 hb
/-- a number below 0, or one as a Nat -/
theorem nz_or (x : Int32) : x < 0 ∨ ∃ n : Nat, n < 2147483648 ∧ x = nI n := by
  by_cases h : x < 0
  · exact Or.inl h
  · exact Or.inr (nI_of h)
theorem nz_neg_lt {x : Int32} {n : Nat} (hx : x < 0) (h : n < 2147483648) : (nI n ≤ x) ↔ False := by
  constructor
  · intro q
    rw [Int32.le_iff_toInt_le, nI_toInt h] at q
    rw [Int32.lt_iff_toInt_lt] at hx
    have : (0 : Int32).toInt = 0 := by decide
    omega
  · exact fun q => q.elim
/-! the store -/
theorem wI_1 {σ : sd_Mem} {k i a j : Nat} {v : Int32} : (sd_wI σ k i v).1 a j = if a = k ∧ j = i then v else σ.1 a j := rfl
theorem wI_2 {σ : sd_Mem} {k i : Nat} {v : Int32} : (sd_wI σ k i v).2 = σ.2 := rfl
theorem wA_1 {σ : sd_Mem} {k a j : Nat} {f : Nat → Int32} : (sd_wA σ k f).1 a j = if a = k then f j else σ.1 a j := rfl
theorem wA_2 {σ : sd_Mem} {k : Nat} {f : Nat → Int32} : (sd_wA σ k f).2 = σ.2 := rfl
theorem wL_1 {σ : sd_Mem} {k i : Nat} {v : Int64} : (sd_wL σ k i v).1 = σ.1 := rfl
theorem wL_2 {σ : sd_Mem} {k i a j : Nat} {v : Int64} : (sd_wL σ k i v).2.1 a j = if a = k ∧ j = i then v else σ.2.1 a j := rfl
theorem wL_3 {σ : sd_Mem} {k i : Nat} {v : Int64} : (sd_wL σ k i v).2.2 = σ.2.2 := rfl
theorem wR_1 {σ : sd_Mem} {k i : Nat} {v : Option Nat} : (sd_wR σ k i v).1 = σ.1 := rfl
theorem wR_2 {σ : sd_Mem} {k i : Nat} {v : Option Nat} : (sd_wR σ k i v).2.1 = σ.2.1 := rfl
theorem wR_3 {σ : sd_Mem} {k i a j : Nat} {v : Option Nat} : (sd_wR σ k i v).2.2 a j = if a = k ∧ j = i then v else σ.2.2 a j := rfl
/-- a State: its cells lie behind it -/
def sd_isS (k : Nat) : Prop := sd_sh k = .inl 5 ∧ (sd_tg (k + 1) = 0 ∧ sd_ln (k + 1) = 60) ∧ (sd_tg (k + 2) = 0 ∧ sd_ln (k + 2) = 5) ∧ (sd_tg (k + 3) = 0 ∧ sd_ln (k + 3) = 5) ∧ (sd_tg (k + 4) = 0 ∧ sd_ln (k + 4) = 72) ∧ sd_ft k 0 = some (k + 1) ∧ sd_ft k 1 = some (k + 2) ∧ sd_ft k 2 = some (k + 3) ∧ sd_ft k 3 = some (k + 4) ∧ k < 271
theorem sd_gRft {L : Nat} {xs : Nat → Int32} {fm : Option Nat} {σ : sd_Mem} {k i j : Nat} (hk : k < 271) (h : sd_ft k i = some j) : va_rf (sd_gR (sd_E1 L xs fm) σ k i) = .ref j := by
  have h1 : (sd_E1 L xs fm).1 k i = some j := by
    show (if k = 450 then fm else sd_ft k i) = some j
    rw [if_neg (by omega)]; exact h
  unfold sd_gR
  rw [h1]
  rfl
/-- what a walk needs of a State -/
theorem sd_isS.all {L : Nat} {xs : Nat → Int32} {fm : Option Nat} {k : Nat} (h : sd_isS k) : sd_sh k = .inl 5 ∧ sd_tg (k + 1) = 0 ∧ sd_ln (k + 1) = 60 ∧ sd_tg (k + 2) = 0 ∧ sd_ln (k + 2) = 5 ∧ sd_tg (k + 3) = 0 ∧ sd_ln (k + 3) = 5 ∧ sd_tg (k + 4) = 0 ∧ sd_ln (k + 4) = 72 ∧ (∀ σ, va_rf (sd_gR (sd_E1 L xs fm) σ k 0) = .ref (k + 1)) ∧ (∀ σ, va_rf (sd_gR (sd_E1 L xs fm) σ k 1) = .ref (k + 2)) ∧ (∀ σ, va_rf (sd_gR (sd_E1 L xs fm) σ k 2) = .ref (k + 3)) ∧ (∀ σ, va_rf (sd_gR (sd_E1 L xs fm) σ k 3) = .ref (k + 4)) := by
  obtain ⟨h0, ⟨h1, h2⟩, ⟨h3, h4⟩, ⟨h5, h6⟩, ⟨h7, h8⟩, f0, f1, f2, f3, hk⟩ := h
  exact ⟨h0, h1, h2, h3, h4, h5, h6, h7, h8, fun _ => sd_gRft hk f0, fun _ => sd_gRft hk f1, fun _ => sd_gRft hk f2, fun _ => sd_gRft hk f3⟩
theorem sd_S23 : sd_isS 23 := by unfold sd_isS; decide +kernel
theorem sd_S33 : sd_isS 33 := by unfold sd_isS; decide +kernel
theorem sd_S241 : sd_isS 241 := by unfold sd_isS; decide +kernel
theorem sd_S247 : sd_isS 247 := by unfold sd_isS; decide +kernel
theorem sd_Sp : ∀ j, j < 40 → sd_isS (40 + 5 * j) := by unfold sd_isS; decide +kernel
theorem sd_Sft : ∀ j, j < 40 → sd_ft 39 j = some (40 + 5 * j) := by decide +kernel
/-! the vows of a State, of a row of the reference, as Nats: u v j, s of them -/
def sd_VS (σ : sd_Mem) (k s : Nat) (u : Nat → Nat → Nat) : Prop := σ.1 k 4 = nI s ∧ s ≤ 12 ∧ (∀ v, v < s → ∀ j, j < 6 → σ.1 (k + 4) (v * 6 + j) = nI (u v j)) ∧ ∀ v j, u v j < 1000
def sd_VM (σ : sd_Mem) (c s : Nat) (u : Nat → Nat → Nat) : Prop := sd_tg c = 0 ∧ sd_ln c = 385 ∧ σ.1 c 142 = nI s ∧ s ≤ 12 ∧ (∀ v, v < s → ∀ j, j < 6 → σ.1 c (70 + 6 * v + j) = nI (u v j)) ∧ ∀ v j, u v j < 1000
theorem nz_k {a : Nat} (h : a < 1000) : a < 2147483648 := Nat.lt_trans h (by decide)
/-! loops -/
def sd_fold {α : Type} (g : Nat → α → α) : Nat → Nat → α → α
  | 0, _, a => a
  | n + 1, i, a => sd_fold g n (i + 1) (g i a)
theorem sd_foldI {α : Type} (H : Nat → α → Prop) (g : Nat → α → α) (s : Nat) (hs : ∀ i a, i < s → H (i + 1) (g i a) → H i a) : ∀ n i a, i + n = s → H s (sd_fold g n i a) → H i a
  | 0, i, a, hi, h => by
    rw [show i = s by omega]; exact h
  | n + 1, i, a, hi, h => hs i a (by omega) (sd_foldI H g s hs n (i + 1) (g i a) (by omega) h)
/-- a loop that folds -/
theorem sd_loopF {α : Type} (H : Nat → α → Prop) (g : Nat → α → α) (s : Nat) (a : α) (hs : ∀ i a, i < s → H (i + 1) (g i a) → H i a) (h : H s (sd_fold g s 0 a)) : H 0 a := sd_foldI H g s hs s 0 a (by omega) h
/-- a loop that keeps I -/
theorem sd_loopI {α : Type} (H : Nat → α → Prop) (I : Nat → α → Prop) (s : Nat) (hs : ∀ i a, i < s → I i a → (∀ b, I (i + 1) b → H (i + 1) b) → H i a) (he : ∀ a, I s a → H s a) : ∀ n i a, i + n = s → I i a → H i a
  | 0, i, a, hi, h => by
    rw [show i = s by omega] at h ⊢; exact he a h
  | n + 1, i, a, hi, h => hs i a (by omega) h (fun b hb => sd_loopI H I s hs he n (i + 1) b (by omega) hb)
theorem sd_fold_congr {α : Type} {g h : Nat → α → α} : ∀ n i (a : α), (∀ j b, i ≤ j → j < i + n → g j b = h j b) → sd_fold g n i a = sd_fold h n i a
  | 0, _, _, _ => rfl
  | n + 1, i, a, q => by
    show sd_fold g n (i + 1) (g i a) = sd_fold h n (i + 1) (h i a)
    rw [q i a (Nat.le_refl _) (by omega)]
    exact sd_fold_congr n (i + 1) _ (fun j b h1 h2 => q j b (by omega) (by omega))
theorem sd_fold_inv {α : Type} {g : Nat → α → α} (I : Nat → α → Prop) : ∀ n i (a : α), I i a → (∀ j b, i ≤ j → j < i + n → I j b → I (j + 1) (g j b)) → I (i + n) (sd_fold g n i a)
  | 0, _, _, h, _ => h
  | n + 1, i, a, h, q => by
    show I (i + (n + 1)) (sd_fold g n (i + 1) (g i a))
    rw [show i + (n + 1) = i + 1 + n by omega]
    exact sd_fold_inv I n (i + 1) _ (q i a (Nat.le_refl _) (by omega) h) (fun j b h1 h2 => q j b (by omega) (by omega))
theorem sd_fold_succ {α : Type} {g : Nat → α → α} : ∀ n i (a : α), sd_fold g (n + 1) i a = g (i + n) (sd_fold g n i a)
  | 0, _, _ => rfl
  | n + 1, i, a => by
    show sd_fold g (n + 1) (i + 1) (g i a) = _
    rw [sd_fold_succ n (i + 1) (g i a), show i + 1 + n = i + (n + 1) by omega]
    rfl
/-- the first i from i on, of n, with p -/
def sd_fst (p : Nat → Prop) [DecidablePred p] : Nat → Nat → Option Nat
  | 0, _ => none
  | n + 1, i => if p i then some i else sd_fst p n (i + 1)
theorem sd_fst_some {p : Nat → Prop} [DecidablePred p] : ∀ n i j, sd_fst p n i = some j → i ≤ j ∧ j < i + n ∧ p j ∧ ∀ k, i ≤ k → k < j → ¬ p k
  | 0, _, _, h => by cases h
  | n + 1, i, j, h => by
    unfold sd_fst at h
    by_cases hp : p i
    · rw [if_pos hp] at h
      cases h
      exact ⟨Nat.le_refl _, by omega, hp, fun k _ _ => by omega⟩
    · rw [if_neg hp] at h
      obtain ⟨h1, h2, h3, h4⟩ := sd_fst_some n (i + 1) j h
      exact ⟨by omega, by omega, h3, fun k q1 q2 => by
        rcases Nat.lt_or_ge i k with r | r
        · exact h4 k r q2
        · rw [show k = i by omega]; exact hp⟩
theorem sd_fst_none {p : Nat → Prop} [DecidablePred p] : ∀ n i, sd_fst p n i = none ↔ ∀ k, i ≤ k → k < i + n → ¬ p k
  | 0, i => ⟨fun _ k _ _ => by omega, fun _ => rfl⟩
  | n + 1, i => by
    unfold sd_fst
    by_cases hp : p i
    · rw [if_pos hp]
      exact ⟨fun q => (by cases q), fun q => absurd hp (q i (Nat.le_refl _) (by omega))⟩
    · rw [if_neg hp, sd_fst_none n (i + 1)]
      exact ⟨fun q k h1 h2 => by
        rcases Nat.lt_or_ge i k with r | r
        · exact q k r (by omega)
        · rw [show k = i by omega]; exact hp, fun q k h1 h2 => q k (by omega) (by omega)⟩
theorem sd_fst_eq {p : Nat → Prop} [DecidablePred p] {n i j : Nat} (h1 : i ≤ j) (h2 : j < i + n) (h3 : p j) (h4 : ∀ k, i ≤ k → k < j → ¬ p k) : sd_fst p n i = some j := by
  cases h : sd_fst p n i with
  | none => exact absurd h3 ((sd_fst_none n i).mp h j h1 h2)
  | some q =>
    obtain ⟨a1, a2, a3, a4⟩ := sd_fst_some n i q h
    rcases Nat.lt_trichotomy q j with r | r | r
    · exact absurd a3 (h4 q a1 r)
    · rw [r]
    · exact absurd h3 (a4 j h1 r)

