/-! the Model's constructor -/
def st10 (x : Int) (S : SS) : SS := (setF (setA (setA (setA (setA (setA (setA (setA (setA (setA (setA (setA (setA (setA (setA (setA (setA (setA (setA (setA (setA (setA (setA (setA (setA (setA (setA (setA (setA (setA (setA (setA (setA (setA (setA (setA (setA (setA (setA (setA (setA (setA (setF (setP (setP (setP (setP (setP (setP (setP (setP (setP (setP (setP (setP (setP (setP (setP (setP S 96 2 (some 97)) 96 4 (some 98)) 96 5 (some 99)) 96 7 (some 100)) 96 8 (some 101)) 96 9 (some 102)) 96 10 (some 103)) 96 13 (some 104)) 96 30 (some 105)) 96 31 (some 106)) 96 32 (some 107)) 96 33 (some 108)) 96 35 (some 109)) 96 36 (some 110)) 96 37 (some 111)) 96 38 (some 112)) 96 1 (prm x)) 102 0 112) 102 8 109) 102 16 115) 102 24 43) 102 32 56) 102 1 108) 102 9 59) 102 17 105) 102 25 57) 102 33 48) 102 2 97) 102 10 115) 102 18 122) 102 26 59) 102 34 59) 102 3 105) 102 11 112) 102 19 101) 102 27 116) 102 35 32) 102 4 110) 102 12 108) 102 20 42) 102 28 117) 102 36 32) 102 5 32) 102 13 105) 102 21 99) 102 29 114) 102 37 32) 102 6 110) 102 14 116) 102 22 117) 102 30 110) 102 38 32) 102 7 42) 102 15 32) 102 23 116) 102 31 32) 102 39 32) 103 0 40) 96 11 1)
def B0m : Int → Int := bt 40 (fun i => (iup (iup (iup (iup (iup (iup (iup (iup (iup (iup (iup (iup (iup (iup (iup (iup (iup (iup (iup (iup (iup (iup (iup (iup (iup (iup (iup (iup (iup (iup (iup (iup (iup (iup (iup (iup (iup (iup (iup (iup pz 0 112) 8 109) 16 115) 24 43) 32 56) 1 108) 9 59) 17 105) 25 57) 33 48) 2 97) 10 115) 18 122) 26 59) 34 59) 3 105) 11 112) 19 101) 27 116) 35 32) 4 110) 12 108) 20 42) 28 117) 36 32) 5 32) 13 105) 21 99) 29 114) 37 32) 6 110) 14 116) 22 117) 30 110) 38 32) 7 42) 15 32) 23 116) 31 32) 39 32) (160 * 0 + i))
theorem ptx_B0m : ptx (tkk B0m) = .inr X0T := by decide +kernel
set_option maxRecDepth 100000 in
set_option maxHeartbeats 4000000 in
theorem c_X10_init {g : GC} {x : Int} {S : SS} {Q : Option Value → GA → Nat → Prop} (hx : -2147483648 ≤ x ∧ x ≤ 2147483647) (hF : Fr S 97) (hq : Q none (hp g (shT 113) (st10 x S)) 113) : GCall g mX10_init 2 16 2980 [gr g 96, .int (iI x)] (hp g (shT 97) S) 97 Q := by
  have ht : (0 ≤ x → Int.tmod x 4 = x % 4) ∧ (¬ 0 ≤ x → Int.tmod x 4 = -((-x) % 4)) := by
    refine ⟨fun c => Int.tmod_eq_emod_of_nonneg c, fun c => ?_⟩
    have e : Int.tmod x 4 = -(Int.tmod (-x) 4) := by rw [Int.neg_tmod, Int.neg_neg]
    rw [e, Int.tmod_eq_emod_of_nonneg (by omega)]
  have Kl : ∀ S1 : SS, S1 = (setF (setP (setP (setP (setP (setP (setP (setP (setP (setP (setP (setP (setP (setP (setP (setP (setP S 96 2 (some 97)) 96 4 (some 98)) 96 5 (some 99)) 96 7 (some 100)) 96 8 (some 101)) 96 9 (some 102)) 96 10 (some 103)) 96 13 (some 104)) 96 30 (some 105)) 96 31 (some 106)) 96 32 (some 107)) 96 33 (some 108)) 96 35 (some 109)) 96 36 (some 110)) 96 37 (some 111)) 96 38 (some 112)) 96 1 (prm x)) → G g mX10_init 2 16 2980 211 [(14, .int (iI 7)), (12, .long (iL 4048801074170044448)), (10, .long (iL 3114585988676087328)), (8, .long (iL 8316312761837778292)), (6, .long (iL 7871011700452455456)), (4, .long (iL 8100956935179759146)), (3, .int (iI 0)), (0, gr g 96)] [] (hp g (shT 113) S1) 113 16 2980 Q := by
    intro S1 hS1
    subst hS1
    refine G_iload (pc := 211) dX10_init_211 rfl ?_
    refine G_if_lt_f (pc := 213) 332 dX10_init_213 rfl (by omega) (by decide) ?_
    refine S_aload_n (pc := 216) dX10_init_216 rfl ?_
    refine S_getR (pc := 217) dX10_init_217 fX10_30 (shT_at (of_decide_eq_true rfl) rfl) rfl rfl ?_
    refine G_iload_n (pc := 220) dX10_init_220 rfl ?_
    refine G_lload (pc := 221) dX10_init_221 rfl ?_
    refine G_bipush (pc := 223) dX10_init_223 rfl ?_
    refine G_iload (pc := 225) dX10_init_225 rfl ?_
    refine G_imul (pc := 227) dX10_init_227 ?_
    refine G_lshr (pc := 228) dX10_init_228 rfl ?_
    refine G_ldc2 (pc := 229) (z := 255) dX10_init_229 coX10_77 rfl ?_
    refine G_land (pc := 232) dX10_init_232 (show _ = iL 112 from by decide) ?_
    refine G_l2i (pc := 233) dX10_init_233 ?_
    refine S_iast (pc := 234) dX10_init_234 (shT_at (of_decide_eq_true rfl) rfl) (by omega) ?_
    refine S_aload_n (pc := 235) dX10_init_235 rfl ?_
    refine S_getR (pc := 236) dX10_init_236 fX10_30 (shT_at (of_decide_eq_true rfl) rfl) rfl rfl ?_
    refine G_iload_n (pc := 239) dX10_init_239 rfl ?_
    refine G_bipush (pc := 240) dX10_init_240 rfl ?_
    refine G_iadd (pc := 242) dX10_init_242 ?_
    refine G_lload (pc := 243) dX10_init_243 rfl ?_
    refine G_bipush (pc := 245) dX10_init_245 rfl ?_
    refine G_iload (pc := 247) dX10_init_247 rfl ?_
    refine G_imul (pc := 249) dX10_init_249 ?_
    refine G_lshr (pc := 250) dX10_init_250 rfl ?_
    refine G_ldc2 (pc := 251) (z := 255) dX10_init_251 coX10_77 rfl ?_
    refine G_land (pc := 254) dX10_init_254 (show _ = iL 109 from by decide) ?_
    refine G_l2i (pc := 255) dX10_init_255 ?_
    refine S_iast (pc := 256) dX10_init_256 (shT_at (of_decide_eq_true rfl) rfl) (by omega) ?_
    refine S_aload_n (pc := 257) dX10_init_257 rfl ?_
    refine S_getR (pc := 258) dX10_init_258 fX10_30 (shT_at (of_decide_eq_true rfl) rfl) rfl rfl ?_
    refine G_iload_n (pc := 261) dX10_init_261 rfl ?_
    refine G_bipush (pc := 262) dX10_init_262 rfl ?_
    refine G_iadd (pc := 264) dX10_init_264 ?_
    refine G_lload (pc := 265) dX10_init_265 rfl ?_
    refine G_bipush (pc := 267) dX10_init_267 rfl ?_
    refine G_iload (pc := 269) dX10_init_269 rfl ?_
    refine G_imul (pc := 271) dX10_init_271 ?_
    refine G_lshr (pc := 272) dX10_init_272 rfl ?_
    refine G_ldc2 (pc := 273) (z := 255) dX10_init_273 coX10_77 rfl ?_
    refine G_land (pc := 276) dX10_init_276 (show _ = iL 115 from by decide) ?_
    refine G_l2i (pc := 277) dX10_init_277 ?_
    refine S_iast (pc := 278) dX10_init_278 (shT_at (of_decide_eq_true rfl) rfl) (by omega) ?_
    refine S_aload_n (pc := 279) dX10_init_279 rfl ?_
    refine S_getR (pc := 280) dX10_init_280 fX10_30 (shT_at (of_decide_eq_true rfl) rfl) rfl rfl ?_
    refine G_iload_n (pc := 283) dX10_init_283 rfl ?_
    refine G_bipush (pc := 284) dX10_init_284 rfl ?_
    refine G_iadd (pc := 286) dX10_init_286 ?_
    refine G_lload (pc := 287) dX10_init_287 rfl ?_
    refine G_bipush (pc := 289) dX10_init_289 rfl ?_
    refine G_iload (pc := 291) dX10_init_291 rfl ?_
    refine G_imul (pc := 293) dX10_init_293 ?_
    refine G_lshr (pc := 294) dX10_init_294 rfl ?_
    refine G_ldc2 (pc := 295) (z := 255) dX10_init_295 coX10_77 rfl ?_
    refine G_land (pc := 298) dX10_init_298 (show _ = iL 43 from by decide) ?_
    refine G_l2i (pc := 299) dX10_init_299 ?_
    refine S_iast (pc := 300) dX10_init_300 (shT_at (of_decide_eq_true rfl) rfl) (by omega) ?_
    refine S_aload_n (pc := 301) dX10_init_301 rfl ?_
    refine S_getR (pc := 302) dX10_init_302 fX10_30 (shT_at (of_decide_eq_true rfl) rfl) rfl rfl ?_
    refine G_iload_n (pc := 305) dX10_init_305 rfl ?_
    refine G_bipush (pc := 306) dX10_init_306 rfl ?_
    refine G_iadd (pc := 308) dX10_init_308 ?_
    refine G_lload (pc := 309) dX10_init_309 rfl ?_
    refine G_bipush (pc := 311) dX10_init_311 rfl ?_
    refine G_iload (pc := 313) dX10_init_313 rfl ?_
    refine G_imul (pc := 315) dX10_init_315 ?_
    refine G_lshr (pc := 316) dX10_init_316 rfl ?_
    refine G_ldc2 (pc := 317) (z := 255) dX10_init_317 coX10_77 rfl ?_
    refine G_land (pc := 320) dX10_init_320 (show _ = iL 56 from by decide) ?_
    refine G_l2i (pc := 321) dX10_init_321 ?_
    refine S_iast (pc := 322) dX10_init_322 (shT_at (of_decide_eq_true rfl) rfl) (by omega) ?_
    refine G_iinc (pc := 323) (ls' := [(3, _), (14, _), (12, _), (10, _), (8, _), (6, _), (4, _), (0, _)]) dX10_init_323 rfl (by decide) rfl ?_
    refine G_iinc (pc := 326) (ls' := [(14, _), (3, _), (12, _), (10, _), (8, _), (6, _), (4, _), (0, _)]) dX10_init_326 rfl (by decide) rfl ?_
    refine G_goto (pc := 329) 211 dX10_init_329 rfl ?_
    refine G_ls (ls' := [(14, _), (12, _), (10, _), (8, _), (6, _), (4, _), (3, _), (0, _)]) (lsub_c rfl (lsub_c rfl (lsub_c rfl (lsub_c rfl (lsub_c rfl (lsub_c rfl (lsub_c rfl (lsub_c rfl lsub_n)))))))) ?_
    skip
    refine G_iload (pc := 211) dX10_init_211 rfl ?_
    refine G_if_lt_f (pc := 213) 332 dX10_init_213 rfl (by omega) (by decide) ?_
    refine S_aload_n (pc := 216) dX10_init_216 rfl ?_
    refine S_getR (pc := 217) dX10_init_217 fX10_30 (shT_at (of_decide_eq_true rfl) rfl) rfl rfl ?_
    refine G_iload_n (pc := 220) dX10_init_220 rfl ?_
    refine G_lload (pc := 221) dX10_init_221 rfl ?_
    refine G_bipush (pc := 223) dX10_init_223 rfl ?_
    refine G_iload (pc := 225) dX10_init_225 rfl ?_
    refine G_imul (pc := 227) dX10_init_227 ?_
    refine G_lshr (pc := 228) dX10_init_228 rfl ?_
    refine G_ldc2 (pc := 229) (z := 255) dX10_init_229 coX10_77 rfl ?_
    refine G_land (pc := 232) dX10_init_232 (show _ = iL 108 from by decide) ?_
    refine G_l2i (pc := 233) dX10_init_233 ?_
    refine S_iast (pc := 234) dX10_init_234 (shT_at (of_decide_eq_true rfl) rfl) (by omega) ?_
    refine S_aload_n (pc := 235) dX10_init_235 rfl ?_
    refine S_getR (pc := 236) dX10_init_236 fX10_30 (shT_at (of_decide_eq_true rfl) rfl) rfl rfl ?_
    refine G_iload_n (pc := 239) dX10_init_239 rfl ?_
    refine G_bipush (pc := 240) dX10_init_240 rfl ?_
    refine G_iadd (pc := 242) dX10_init_242 ?_
    refine G_lload (pc := 243) dX10_init_243 rfl ?_
    refine G_bipush (pc := 245) dX10_init_245 rfl ?_
    refine G_iload (pc := 247) dX10_init_247 rfl ?_
    refine G_imul (pc := 249) dX10_init_249 ?_
    refine G_lshr (pc := 250) dX10_init_250 rfl ?_
    refine G_ldc2 (pc := 251) (z := 255) dX10_init_251 coX10_77 rfl ?_
    refine G_land (pc := 254) dX10_init_254 (show _ = iL 59 from by decide) ?_
    refine G_l2i (pc := 255) dX10_init_255 ?_
    refine S_iast (pc := 256) dX10_init_256 (shT_at (of_decide_eq_true rfl) rfl) (by omega) ?_
    refine S_aload_n (pc := 257) dX10_init_257 rfl ?_
    refine S_getR (pc := 258) dX10_init_258 fX10_30 (shT_at (of_decide_eq_true rfl) rfl) rfl rfl ?_
    refine G_iload_n (pc := 261) dX10_init_261 rfl ?_
    refine G_bipush (pc := 262) dX10_init_262 rfl ?_
    refine G_iadd (pc := 264) dX10_init_264 ?_
    refine G_lload (pc := 265) dX10_init_265 rfl ?_
    refine G_bipush (pc := 267) dX10_init_267 rfl ?_
    refine G_iload (pc := 269) dX10_init_269 rfl ?_
    refine G_imul (pc := 271) dX10_init_271 ?_
    refine G_lshr (pc := 272) dX10_init_272 rfl ?_
    refine G_ldc2 (pc := 273) (z := 255) dX10_init_273 coX10_77 rfl ?_
    refine G_land (pc := 276) dX10_init_276 (show _ = iL 105 from by decide) ?_
    refine G_l2i (pc := 277) dX10_init_277 ?_
    refine S_iast (pc := 278) dX10_init_278 (shT_at (of_decide_eq_true rfl) rfl) (by omega) ?_
    refine S_aload_n (pc := 279) dX10_init_279 rfl ?_
    refine S_getR (pc := 280) dX10_init_280 fX10_30 (shT_at (of_decide_eq_true rfl) rfl) rfl rfl ?_
    refine G_iload_n (pc := 283) dX10_init_283 rfl ?_
    refine G_bipush (pc := 284) dX10_init_284 rfl ?_
    refine G_iadd (pc := 286) dX10_init_286 ?_
    refine G_lload (pc := 287) dX10_init_287 rfl ?_
    refine G_bipush (pc := 289) dX10_init_289 rfl ?_
    refine G_iload (pc := 291) dX10_init_291 rfl ?_
    refine G_imul (pc := 293) dX10_init_293 ?_
    refine G_lshr (pc := 294) dX10_init_294 rfl ?_
    refine G_ldc2 (pc := 295) (z := 255) dX10_init_295 coX10_77 rfl ?_
    refine G_land (pc := 298) dX10_init_298 (show _ = iL 57 from by decide) ?_
    refine G_l2i (pc := 299) dX10_init_299 ?_
    refine S_iast (pc := 300) dX10_init_300 (shT_at (of_decide_eq_true rfl) rfl) (by omega) ?_
    refine S_aload_n (pc := 301) dX10_init_301 rfl ?_
    refine S_getR (pc := 302) dX10_init_302 fX10_30 (shT_at (of_decide_eq_true rfl) rfl) rfl rfl ?_
    refine G_iload_n (pc := 305) dX10_init_305 rfl ?_
    refine G_bipush (pc := 306) dX10_init_306 rfl ?_
    refine G_iadd (pc := 308) dX10_init_308 ?_
    refine G_lload (pc := 309) dX10_init_309 rfl ?_
    refine G_bipush (pc := 311) dX10_init_311 rfl ?_
    refine G_iload (pc := 313) dX10_init_313 rfl ?_
    refine G_imul (pc := 315) dX10_init_315 ?_
    refine G_lshr (pc := 316) dX10_init_316 rfl ?_
    refine G_ldc2 (pc := 317) (z := 255) dX10_init_317 coX10_77 rfl ?_
    refine G_land (pc := 320) dX10_init_320 (show _ = iL 48 from by decide) ?_
    refine G_l2i (pc := 321) dX10_init_321 ?_
    refine S_iast (pc := 322) dX10_init_322 (shT_at (of_decide_eq_true rfl) rfl) (by omega) ?_
    refine G_iinc (pc := 323) (ls' := [(3, _), (14, _), (12, _), (10, _), (8, _), (6, _), (4, _), (0, _)]) dX10_init_323 rfl (by decide) rfl ?_
    refine G_iinc (pc := 326) (ls' := [(14, _), (3, _), (12, _), (10, _), (8, _), (6, _), (4, _), (0, _)]) dX10_init_326 rfl (by decide) rfl ?_
    refine G_goto (pc := 329) 211 dX10_init_329 rfl ?_
    refine G_ls (ls' := [(14, _), (12, _), (10, _), (8, _), (6, _), (4, _), (3, _), (0, _)]) (lsub_c rfl (lsub_c rfl (lsub_c rfl (lsub_c rfl (lsub_c rfl (lsub_c rfl (lsub_c rfl (lsub_c rfl lsub_n)))))))) ?_
    skip
    refine G_iload (pc := 211) dX10_init_211 rfl ?_
    refine G_if_lt_f (pc := 213) 332 dX10_init_213 rfl (by omega) (by decide) ?_
    refine S_aload_n (pc := 216) dX10_init_216 rfl ?_
    refine S_getR (pc := 217) dX10_init_217 fX10_30 (shT_at (of_decide_eq_true rfl) rfl) rfl rfl ?_
    refine G_iload_n (pc := 220) dX10_init_220 rfl ?_
    refine G_lload (pc := 221) dX10_init_221 rfl ?_
    refine G_bipush (pc := 223) dX10_init_223 rfl ?_
    refine G_iload (pc := 225) dX10_init_225 rfl ?_
    refine G_imul (pc := 227) dX10_init_227 ?_
    refine G_lshr (pc := 228) dX10_init_228 rfl ?_
    refine G_ldc2 (pc := 229) (z := 255) dX10_init_229 coX10_77 rfl ?_
    refine G_land (pc := 232) dX10_init_232 (show _ = iL 97 from by decide) ?_
    refine G_l2i (pc := 233) dX10_init_233 ?_
    refine S_iast (pc := 234) dX10_init_234 (shT_at (of_decide_eq_true rfl) rfl) (by omega) ?_
    refine S_aload_n (pc := 235) dX10_init_235 rfl ?_
    refine S_getR (pc := 236) dX10_init_236 fX10_30 (shT_at (of_decide_eq_true rfl) rfl) rfl rfl ?_
    refine G_iload_n (pc := 239) dX10_init_239 rfl ?_
    refine G_bipush (pc := 240) dX10_init_240 rfl ?_
    refine G_iadd (pc := 242) dX10_init_242 ?_
    refine G_lload (pc := 243) dX10_init_243 rfl ?_
    refine G_bipush (pc := 245) dX10_init_245 rfl ?_
    refine G_iload (pc := 247) dX10_init_247 rfl ?_
    refine G_imul (pc := 249) dX10_init_249 ?_
    refine G_lshr (pc := 250) dX10_init_250 rfl ?_
    refine G_ldc2 (pc := 251) (z := 255) dX10_init_251 coX10_77 rfl ?_
    refine G_land (pc := 254) dX10_init_254 (show _ = iL 115 from by decide) ?_
    refine G_l2i (pc := 255) dX10_init_255 ?_
    refine S_iast (pc := 256) dX10_init_256 (shT_at (of_decide_eq_true rfl) rfl) (by omega) ?_
    refine S_aload_n (pc := 257) dX10_init_257 rfl ?_
    refine S_getR (pc := 258) dX10_init_258 fX10_30 (shT_at (of_decide_eq_true rfl) rfl) rfl rfl ?_
    refine G_iload_n (pc := 261) dX10_init_261 rfl ?_
    refine G_bipush (pc := 262) dX10_init_262 rfl ?_
    refine G_iadd (pc := 264) dX10_init_264 ?_
    refine G_lload (pc := 265) dX10_init_265 rfl ?_
    refine G_bipush (pc := 267) dX10_init_267 rfl ?_
    refine G_iload (pc := 269) dX10_init_269 rfl ?_
    refine G_imul (pc := 271) dX10_init_271 ?_
    refine G_lshr (pc := 272) dX10_init_272 rfl ?_
    refine G_ldc2 (pc := 273) (z := 255) dX10_init_273 coX10_77 rfl ?_
    refine G_land (pc := 276) dX10_init_276 (show _ = iL 122 from by decide) ?_
    refine G_l2i (pc := 277) dX10_init_277 ?_
    refine S_iast (pc := 278) dX10_init_278 (shT_at (of_decide_eq_true rfl) rfl) (by omega) ?_
    refine S_aload_n (pc := 279) dX10_init_279 rfl ?_
    refine S_getR (pc := 280) dX10_init_280 fX10_30 (shT_at (of_decide_eq_true rfl) rfl) rfl rfl ?_
    refine G_iload_n (pc := 283) dX10_init_283 rfl ?_
    refine G_bipush (pc := 284) dX10_init_284 rfl ?_
    refine G_iadd (pc := 286) dX10_init_286 ?_
    refine G_lload (pc := 287) dX10_init_287 rfl ?_
    refine G_bipush (pc := 289) dX10_init_289 rfl ?_
    refine G_iload (pc := 291) dX10_init_291 rfl ?_
    refine G_imul (pc := 293) dX10_init_293 ?_
    refine G_lshr (pc := 294) dX10_init_294 rfl ?_
    refine G_ldc2 (pc := 295) (z := 255) dX10_init_295 coX10_77 rfl ?_
    refine G_land (pc := 298) dX10_init_298 (show _ = iL 59 from by decide) ?_
    refine G_l2i (pc := 299) dX10_init_299 ?_
    refine S_iast (pc := 300) dX10_init_300 (shT_at (of_decide_eq_true rfl) rfl) (by omega) ?_
    refine S_aload_n (pc := 301) dX10_init_301 rfl ?_
    refine S_getR (pc := 302) dX10_init_302 fX10_30 (shT_at (of_decide_eq_true rfl) rfl) rfl rfl ?_
    refine G_iload_n (pc := 305) dX10_init_305 rfl ?_
    refine G_bipush (pc := 306) dX10_init_306 rfl ?_
    refine G_iadd (pc := 308) dX10_init_308 ?_
    refine G_lload (pc := 309) dX10_init_309 rfl ?_
    refine G_bipush (pc := 311) dX10_init_311 rfl ?_
    refine G_iload (pc := 313) dX10_init_313 rfl ?_
    refine G_imul (pc := 315) dX10_init_315 ?_
    refine G_lshr (pc := 316) dX10_init_316 rfl ?_
    refine G_ldc2 (pc := 317) (z := 255) dX10_init_317 coX10_77 rfl ?_
    refine G_land (pc := 320) dX10_init_320 (show _ = iL 59 from by decide) ?_
    refine G_l2i (pc := 321) dX10_init_321 ?_
    refine S_iast (pc := 322) dX10_init_322 (shT_at (of_decide_eq_true rfl) rfl) (by omega) ?_
    refine G_iinc (pc := 323) (ls' := [(3, _), (14, _), (12, _), (10, _), (8, _), (6, _), (4, _), (0, _)]) dX10_init_323 rfl (by decide) rfl ?_
    refine G_iinc (pc := 326) (ls' := [(14, _), (3, _), (12, _), (10, _), (8, _), (6, _), (4, _), (0, _)]) dX10_init_326 rfl (by decide) rfl ?_
    refine G_goto (pc := 329) 211 dX10_init_329 rfl ?_
    refine G_ls (ls' := [(14, _), (12, _), (10, _), (8, _), (6, _), (4, _), (3, _), (0, _)]) (lsub_c rfl (lsub_c rfl (lsub_c rfl (lsub_c rfl (lsub_c rfl (lsub_c rfl (lsub_c rfl (lsub_c rfl lsub_n)))))))) ?_
    skip
    refine G_iload (pc := 211) dX10_init_211 rfl ?_
    refine G_if_lt_f (pc := 213) 332 dX10_init_213 rfl (by omega) (by decide) ?_
    refine S_aload_n (pc := 216) dX10_init_216 rfl ?_
    refine S_getR (pc := 217) dX10_init_217 fX10_30 (shT_at (of_decide_eq_true rfl) rfl) rfl rfl ?_
    refine G_iload_n (pc := 220) dX10_init_220 rfl ?_
    refine G_lload (pc := 221) dX10_init_221 rfl ?_
    refine G_bipush (pc := 223) dX10_init_223 rfl ?_
    refine G_iload (pc := 225) dX10_init_225 rfl ?_
    refine G_imul (pc := 227) dX10_init_227 ?_
    refine G_lshr (pc := 228) dX10_init_228 rfl ?_
    refine G_ldc2 (pc := 229) (z := 255) dX10_init_229 coX10_77 rfl ?_
    refine G_land (pc := 232) dX10_init_232 (show _ = iL 105 from by decide) ?_
    refine G_l2i (pc := 233) dX10_init_233 ?_
    refine S_iast (pc := 234) dX10_init_234 (shT_at (of_decide_eq_true rfl) rfl) (by omega) ?_
    refine S_aload_n (pc := 235) dX10_init_235 rfl ?_
    refine S_getR (pc := 236) dX10_init_236 fX10_30 (shT_at (of_decide_eq_true rfl) rfl) rfl rfl ?_
    refine G_iload_n (pc := 239) dX10_init_239 rfl ?_
    refine G_bipush (pc := 240) dX10_init_240 rfl ?_
    refine G_iadd (pc := 242) dX10_init_242 ?_
    refine G_lload (pc := 243) dX10_init_243 rfl ?_
    refine G_bipush (pc := 245) dX10_init_245 rfl ?_
    refine G_iload (pc := 247) dX10_init_247 rfl ?_
    refine G_imul (pc := 249) dX10_init_249 ?_
    refine G_lshr (pc := 250) dX10_init_250 rfl ?_
    refine G_ldc2 (pc := 251) (z := 255) dX10_init_251 coX10_77 rfl ?_
    refine G_land (pc := 254) dX10_init_254 (show _ = iL 112 from by decide) ?_
    refine G_l2i (pc := 255) dX10_init_255 ?_
    refine S_iast (pc := 256) dX10_init_256 (shT_at (of_decide_eq_true rfl) rfl) (by omega) ?_
    refine S_aload_n (pc := 257) dX10_init_257 rfl ?_
    refine S_getR (pc := 258) dX10_init_258 fX10_30 (shT_at (of_decide_eq_true rfl) rfl) rfl rfl ?_
    refine G_iload_n (pc := 261) dX10_init_261 rfl ?_
    refine G_bipush (pc := 262) dX10_init_262 rfl ?_
    refine G_iadd (pc := 264) dX10_init_264 ?_
    refine G_lload (pc := 265) dX10_init_265 rfl ?_
    refine G_bipush (pc := 267) dX10_init_267 rfl ?_
    refine G_iload (pc := 269) dX10_init_269 rfl ?_
    refine G_imul (pc := 271) dX10_init_271 ?_
    refine G_lshr (pc := 272) dX10_init_272 rfl ?_
    refine G_ldc2 (pc := 273) (z := 255) dX10_init_273 coX10_77 rfl ?_
    refine G_land (pc := 276) dX10_init_276 (show _ = iL 101 from by decide) ?_
    refine G_l2i (pc := 277) dX10_init_277 ?_
    refine S_iast (pc := 278) dX10_init_278 (shT_at (of_decide_eq_true rfl) rfl) (by omega) ?_
    refine S_aload_n (pc := 279) dX10_init_279 rfl ?_
    refine S_getR (pc := 280) dX10_init_280 fX10_30 (shT_at (of_decide_eq_true rfl) rfl) rfl rfl ?_
    refine G_iload_n (pc := 283) dX10_init_283 rfl ?_
    refine G_bipush (pc := 284) dX10_init_284 rfl ?_
    refine G_iadd (pc := 286) dX10_init_286 ?_
    refine G_lload (pc := 287) dX10_init_287 rfl ?_
    refine G_bipush (pc := 289) dX10_init_289 rfl ?_
    refine G_iload (pc := 291) dX10_init_291 rfl ?_
    refine G_imul (pc := 293) dX10_init_293 ?_
    refine G_lshr (pc := 294) dX10_init_294 rfl ?_
    refine G_ldc2 (pc := 295) (z := 255) dX10_init_295 coX10_77 rfl ?_
    refine G_land (pc := 298) dX10_init_298 (show _ = iL 116 from by decide) ?_
    refine G_l2i (pc := 299) dX10_init_299 ?_
    refine S_iast (pc := 300) dX10_init_300 (shT_at (of_decide_eq_true rfl) rfl) (by omega) ?_
    refine S_aload_n (pc := 301) dX10_init_301 rfl ?_
    refine S_getR (pc := 302) dX10_init_302 fX10_30 (shT_at (of_decide_eq_true rfl) rfl) rfl rfl ?_
    refine G_iload_n (pc := 305) dX10_init_305 rfl ?_
    refine G_bipush (pc := 306) dX10_init_306 rfl ?_
    refine G_iadd (pc := 308) dX10_init_308 ?_
    refine G_lload (pc := 309) dX10_init_309 rfl ?_
    refine G_bipush (pc := 311) dX10_init_311 rfl ?_
    refine G_iload (pc := 313) dX10_init_313 rfl ?_
    refine G_imul (pc := 315) dX10_init_315 ?_
    refine G_lshr (pc := 316) dX10_init_316 rfl ?_
    refine G_ldc2 (pc := 317) (z := 255) dX10_init_317 coX10_77 rfl ?_
    refine G_land (pc := 320) dX10_init_320 (show _ = iL 32 from by decide) ?_
    refine G_l2i (pc := 321) dX10_init_321 ?_
    refine S_iast (pc := 322) dX10_init_322 (shT_at (of_decide_eq_true rfl) rfl) (by omega) ?_
    refine G_iinc (pc := 323) (ls' := [(3, _), (14, _), (12, _), (10, _), (8, _), (6, _), (4, _), (0, _)]) dX10_init_323 rfl (by decide) rfl ?_
    refine G_iinc (pc := 326) (ls' := [(14, _), (3, _), (12, _), (10, _), (8, _), (6, _), (4, _), (0, _)]) dX10_init_326 rfl (by decide) rfl ?_
    refine G_goto (pc := 329) 211 dX10_init_329 rfl ?_
    refine G_ls (ls' := [(14, _), (12, _), (10, _), (8, _), (6, _), (4, _), (3, _), (0, _)]) (lsub_c rfl (lsub_c rfl (lsub_c rfl (lsub_c rfl (lsub_c rfl (lsub_c rfl (lsub_c rfl (lsub_c rfl lsub_n)))))))) ?_
    skip
    refine G_iload (pc := 211) dX10_init_211 rfl ?_
    refine G_if_lt_f (pc := 213) 332 dX10_init_213 rfl (by omega) (by decide) ?_
    refine S_aload_n (pc := 216) dX10_init_216 rfl ?_
    refine S_getR (pc := 217) dX10_init_217 fX10_30 (shT_at (of_decide_eq_true rfl) rfl) rfl rfl ?_
    refine G_iload_n (pc := 220) dX10_init_220 rfl ?_
    refine G_lload (pc := 221) dX10_init_221 rfl ?_
    refine G_bipush (pc := 223) dX10_init_223 rfl ?_
    refine G_iload (pc := 225) dX10_init_225 rfl ?_
    refine G_imul (pc := 227) dX10_init_227 ?_
    refine G_lshr (pc := 228) dX10_init_228 rfl ?_
    refine G_ldc2 (pc := 229) (z := 255) dX10_init_229 coX10_77 rfl ?_
    refine G_land (pc := 232) dX10_init_232 (show _ = iL 110 from by decide) ?_
    refine G_l2i (pc := 233) dX10_init_233 ?_
    refine S_iast (pc := 234) dX10_init_234 (shT_at (of_decide_eq_true rfl) rfl) (by omega) ?_
    refine S_aload_n (pc := 235) dX10_init_235 rfl ?_
    refine S_getR (pc := 236) dX10_init_236 fX10_30 (shT_at (of_decide_eq_true rfl) rfl) rfl rfl ?_
    refine G_iload_n (pc := 239) dX10_init_239 rfl ?_
    refine G_bipush (pc := 240) dX10_init_240 rfl ?_
    refine G_iadd (pc := 242) dX10_init_242 ?_
    refine G_lload (pc := 243) dX10_init_243 rfl ?_
    refine G_bipush (pc := 245) dX10_init_245 rfl ?_
    refine G_iload (pc := 247) dX10_init_247 rfl ?_
    refine G_imul (pc := 249) dX10_init_249 ?_
    refine G_lshr (pc := 250) dX10_init_250 rfl ?_
    refine G_ldc2 (pc := 251) (z := 255) dX10_init_251 coX10_77 rfl ?_
    refine G_land (pc := 254) dX10_init_254 (show _ = iL 108 from by decide) ?_
    refine G_l2i (pc := 255) dX10_init_255 ?_
    refine S_iast (pc := 256) dX10_init_256 (shT_at (of_decide_eq_true rfl) rfl) (by omega) ?_
    refine S_aload_n (pc := 257) dX10_init_257 rfl ?_
    refine S_getR (pc := 258) dX10_init_258 fX10_30 (shT_at (of_decide_eq_true rfl) rfl) rfl rfl ?_
    refine G_iload_n (pc := 261) dX10_init_261 rfl ?_
    refine G_bipush (pc := 262) dX10_init_262 rfl ?_
    refine G_iadd (pc := 264) dX10_init_264 ?_
    refine G_lload (pc := 265) dX10_init_265 rfl ?_
    refine G_bipush (pc := 267) dX10_init_267 rfl ?_
    refine G_iload (pc := 269) dX10_init_269 rfl ?_
    refine G_imul (pc := 271) dX10_init_271 ?_
    refine G_lshr (pc := 272) dX10_init_272 rfl ?_
    refine G_ldc2 (pc := 273) (z := 255) dX10_init_273 coX10_77 rfl ?_
    refine G_land (pc := 276) dX10_init_276 (show _ = iL 42 from by decide) ?_
    refine G_l2i (pc := 277) dX10_init_277 ?_
    refine S_iast (pc := 278) dX10_init_278 (shT_at (of_decide_eq_true rfl) rfl) (by omega) ?_
    refine S_aload_n (pc := 279) dX10_init_279 rfl ?_
    refine S_getR (pc := 280) dX10_init_280 fX10_30 (shT_at (of_decide_eq_true rfl) rfl) rfl rfl ?_
    refine G_iload_n (pc := 283) dX10_init_283 rfl ?_
    refine G_bipush (pc := 284) dX10_init_284 rfl ?_
    refine G_iadd (pc := 286) dX10_init_286 ?_
    refine G_lload (pc := 287) dX10_init_287 rfl ?_
    refine G_bipush (pc := 289) dX10_init_289 rfl ?_
    refine G_iload (pc := 291) dX10_init_291 rfl ?_
    refine G_imul (pc := 293) dX10_init_293 ?_
    refine G_lshr (pc := 294) dX10_init_294 rfl ?_
    refine G_ldc2 (pc := 295) (z := 255) dX10_init_295 coX10_77 rfl ?_
    refine G_land (pc := 298) dX10_init_298 (show _ = iL 117 from by decide) ?_
    refine G_l2i (pc := 299) dX10_init_299 ?_
    refine S_iast (pc := 300) dX10_init_300 (shT_at (of_decide_eq_true rfl) rfl) (by omega) ?_
    refine S_aload_n (pc := 301) dX10_init_301 rfl ?_
    refine S_getR (pc := 302) dX10_init_302 fX10_30 (shT_at (of_decide_eq_true rfl) rfl) rfl rfl ?_
    refine G_iload_n (pc := 305) dX10_init_305 rfl ?_
    refine G_bipush (pc := 306) dX10_init_306 rfl ?_
    refine G_iadd (pc := 308) dX10_init_308 ?_
    refine G_lload (pc := 309) dX10_init_309 rfl ?_
    refine G_bipush (pc := 311) dX10_init_311 rfl ?_
    refine G_iload (pc := 313) dX10_init_313 rfl ?_
    refine G_imul (pc := 315) dX10_init_315 ?_
    refine G_lshr (pc := 316) dX10_init_316 rfl ?_
    refine G_ldc2 (pc := 317) (z := 255) dX10_init_317 coX10_77 rfl ?_
    refine G_land (pc := 320) dX10_init_320 (show _ = iL 32 from by decide) ?_
    refine G_l2i (pc := 321) dX10_init_321 ?_
    refine S_iast (pc := 322) dX10_init_322 (shT_at (of_decide_eq_true rfl) rfl) (by omega) ?_
    refine G_iinc (pc := 323) (ls' := [(3, _), (14, _), (12, _), (10, _), (8, _), (6, _), (4, _), (0, _)]) dX10_init_323 rfl (by decide) rfl ?_
    refine G_iinc (pc := 326) (ls' := [(14, _), (3, _), (12, _), (10, _), (8, _), (6, _), (4, _), (0, _)]) dX10_init_326 rfl (by decide) rfl ?_
    refine G_goto (pc := 329) 211 dX10_init_329 rfl ?_
    refine G_ls (ls' := [(14, _), (12, _), (10, _), (8, _), (6, _), (4, _), (3, _), (0, _)]) (lsub_c rfl (lsub_c rfl (lsub_c rfl (lsub_c rfl (lsub_c rfl (lsub_c rfl (lsub_c rfl (lsub_c rfl lsub_n)))))))) ?_
    skip
    refine G_iload (pc := 211) dX10_init_211 rfl ?_
    refine G_if_lt_f (pc := 213) 332 dX10_init_213 rfl (by omega) (by decide) ?_
    refine S_aload_n (pc := 216) dX10_init_216 rfl ?_
    refine S_getR (pc := 217) dX10_init_217 fX10_30 (shT_at (of_decide_eq_true rfl) rfl) rfl rfl ?_
    refine G_iload_n (pc := 220) dX10_init_220 rfl ?_
    refine G_lload (pc := 221) dX10_init_221 rfl ?_
    refine G_bipush (pc := 223) dX10_init_223 rfl ?_
    refine G_iload (pc := 225) dX10_init_225 rfl ?_
    refine G_imul (pc := 227) dX10_init_227 ?_
    refine G_lshr (pc := 228) dX10_init_228 rfl ?_
    refine G_ldc2 (pc := 229) (z := 255) dX10_init_229 coX10_77 rfl ?_
    refine G_land (pc := 232) dX10_init_232 (show _ = iL 32 from by decide) ?_
    refine G_l2i (pc := 233) dX10_init_233 ?_
    refine S_iast (pc := 234) dX10_init_234 (shT_at (of_decide_eq_true rfl) rfl) (by omega) ?_
    refine S_aload_n (pc := 235) dX10_init_235 rfl ?_
    refine S_getR (pc := 236) dX10_init_236 fX10_30 (shT_at (of_decide_eq_true rfl) rfl) rfl rfl ?_
    refine G_iload_n (pc := 239) dX10_init_239 rfl ?_
    refine G_bipush (pc := 240) dX10_init_240 rfl ?_
    refine G_iadd (pc := 242) dX10_init_242 ?_
    refine G_lload (pc := 243) dX10_init_243 rfl ?_
    refine G_bipush (pc := 245) dX10_init_245 rfl ?_
    refine G_iload (pc := 247) dX10_init_247 rfl ?_
    refine G_imul (pc := 249) dX10_init_249 ?_
    refine G_lshr (pc := 250) dX10_init_250 rfl ?_
    refine G_ldc2 (pc := 251) (z := 255) dX10_init_251 coX10_77 rfl ?_
    refine G_land (pc := 254) dX10_init_254 (show _ = iL 105 from by decide) ?_
    refine G_l2i (pc := 255) dX10_init_255 ?_
    refine S_iast (pc := 256) dX10_init_256 (shT_at (of_decide_eq_true rfl) rfl) (by omega) ?_
    refine S_aload_n (pc := 257) dX10_init_257 rfl ?_
    refine S_getR (pc := 258) dX10_init_258 fX10_30 (shT_at (of_decide_eq_true rfl) rfl) rfl rfl ?_
    refine G_iload_n (pc := 261) dX10_init_261 rfl ?_
    refine G_bipush (pc := 262) dX10_init_262 rfl ?_
    refine G_iadd (pc := 264) dX10_init_264 ?_
    refine G_lload (pc := 265) dX10_init_265 rfl ?_
    refine G_bipush (pc := 267) dX10_init_267 rfl ?_
    refine G_iload (pc := 269) dX10_init_269 rfl ?_
    refine G_imul (pc := 271) dX10_init_271 ?_
    refine G_lshr (pc := 272) dX10_init_272 rfl ?_
    refine G_ldc2 (pc := 273) (z := 255) dX10_init_273 coX10_77 rfl ?_
    refine G_land (pc := 276) dX10_init_276 (show _ = iL 99 from by decide) ?_
    refine G_l2i (pc := 277) dX10_init_277 ?_
    refine S_iast (pc := 278) dX10_init_278 (shT_at (of_decide_eq_true rfl) rfl) (by omega) ?_
    refine S_aload_n (pc := 279) dX10_init_279 rfl ?_
    refine S_getR (pc := 280) dX10_init_280 fX10_30 (shT_at (of_decide_eq_true rfl) rfl) rfl rfl ?_
    refine G_iload_n (pc := 283) dX10_init_283 rfl ?_
    refine G_bipush (pc := 284) dX10_init_284 rfl ?_
    refine G_iadd (pc := 286) dX10_init_286 ?_
    refine G_lload (pc := 287) dX10_init_287 rfl ?_
    refine G_bipush (pc := 289) dX10_init_289 rfl ?_
    refine G_iload (pc := 291) dX10_init_291 rfl ?_
    refine G_imul (pc := 293) dX10_init_293 ?_
    refine G_lshr (pc := 294) dX10_init_294 rfl ?_
    refine G_ldc2 (pc := 295) (z := 255) dX10_init_295 coX10_77 rfl ?_
    refine G_land (pc := 298) dX10_init_298 (show _ = iL 114 from by decide) ?_
    refine G_l2i (pc := 299) dX10_init_299 ?_
    refine S_iast (pc := 300) dX10_init_300 (shT_at (of_decide_eq_true rfl) rfl) (by omega) ?_
    refine S_aload_n (pc := 301) dX10_init_301 rfl ?_
    refine S_getR (pc := 302) dX10_init_302 fX10_30 (shT_at (of_decide_eq_true rfl) rfl) rfl rfl ?_
    refine G_iload_n (pc := 305) dX10_init_305 rfl ?_
    refine G_bipush (pc := 306) dX10_init_306 rfl ?_
    refine G_iadd (pc := 308) dX10_init_308 ?_
    refine G_lload (pc := 309) dX10_init_309 rfl ?_
    refine G_bipush (pc := 311) dX10_init_311 rfl ?_
    refine G_iload (pc := 313) dX10_init_313 rfl ?_
    refine G_imul (pc := 315) dX10_init_315 ?_
    refine G_lshr (pc := 316) dX10_init_316 rfl ?_
    refine G_ldc2 (pc := 317) (z := 255) dX10_init_317 coX10_77 rfl ?_
    refine G_land (pc := 320) dX10_init_320 (show _ = iL 32 from by decide) ?_
    refine G_l2i (pc := 321) dX10_init_321 ?_
    refine S_iast (pc := 322) dX10_init_322 (shT_at (of_decide_eq_true rfl) rfl) (by omega) ?_
    refine G_iinc (pc := 323) (ls' := [(3, _), (14, _), (12, _), (10, _), (8, _), (6, _), (4, _), (0, _)]) dX10_init_323 rfl (by decide) rfl ?_
    refine G_iinc (pc := 326) (ls' := [(14, _), (3, _), (12, _), (10, _), (8, _), (6, _), (4, _), (0, _)]) dX10_init_326 rfl (by decide) rfl ?_
    refine G_goto (pc := 329) 211 dX10_init_329 rfl ?_
    refine G_ls (ls' := [(14, _), (12, _), (10, _), (8, _), (6, _), (4, _), (3, _), (0, _)]) (lsub_c rfl (lsub_c rfl (lsub_c rfl (lsub_c rfl (lsub_c rfl (lsub_c rfl (lsub_c rfl (lsub_c rfl lsub_n)))))))) ?_
    skip
    refine G_iload (pc := 211) dX10_init_211 rfl ?_
    refine G_if_lt_f (pc := 213) 332 dX10_init_213 rfl (by omega) (by decide) ?_
    refine S_aload_n (pc := 216) dX10_init_216 rfl ?_
    refine S_getR (pc := 217) dX10_init_217 fX10_30 (shT_at (of_decide_eq_true rfl) rfl) rfl rfl ?_
    refine G_iload_n (pc := 220) dX10_init_220 rfl ?_
    refine G_lload (pc := 221) dX10_init_221 rfl ?_
    refine G_bipush (pc := 223) dX10_init_223 rfl ?_
    refine G_iload (pc := 225) dX10_init_225 rfl ?_
    refine G_imul (pc := 227) dX10_init_227 ?_
    refine G_lshr (pc := 228) dX10_init_228 rfl ?_
    refine G_ldc2 (pc := 229) (z := 255) dX10_init_229 coX10_77 rfl ?_
    refine G_land (pc := 232) dX10_init_232 (show _ = iL 110 from by decide) ?_
    refine G_l2i (pc := 233) dX10_init_233 ?_
    refine S_iast (pc := 234) dX10_init_234 (shT_at (of_decide_eq_true rfl) rfl) (by omega) ?_
    refine S_aload_n (pc := 235) dX10_init_235 rfl ?_
    refine S_getR (pc := 236) dX10_init_236 fX10_30 (shT_at (of_decide_eq_true rfl) rfl) rfl rfl ?_
    refine G_iload_n (pc := 239) dX10_init_239 rfl ?_
    refine G_bipush (pc := 240) dX10_init_240 rfl ?_
    refine G_iadd (pc := 242) dX10_init_242 ?_
    refine G_lload (pc := 243) dX10_init_243 rfl ?_
    refine G_bipush (pc := 245) dX10_init_245 rfl ?_
    refine G_iload (pc := 247) dX10_init_247 rfl ?_
    refine G_imul (pc := 249) dX10_init_249 ?_
    refine G_lshr (pc := 250) dX10_init_250 rfl ?_
    refine G_ldc2 (pc := 251) (z := 255) dX10_init_251 coX10_77 rfl ?_
    refine G_land (pc := 254) dX10_init_254 (show _ = iL 116 from by decide) ?_
    refine G_l2i (pc := 255) dX10_init_255 ?_
    refine S_iast (pc := 256) dX10_init_256 (shT_at (of_decide_eq_true rfl) rfl) (by omega) ?_
    refine S_aload_n (pc := 257) dX10_init_257 rfl ?_
    refine S_getR (pc := 258) dX10_init_258 fX10_30 (shT_at (of_decide_eq_true rfl) rfl) rfl rfl ?_
    refine G_iload_n (pc := 261) dX10_init_261 rfl ?_
    refine G_bipush (pc := 262) dX10_init_262 rfl ?_
    refine G_iadd (pc := 264) dX10_init_264 ?_
    refine G_lload (pc := 265) dX10_init_265 rfl ?_
    refine G_bipush (pc := 267) dX10_init_267 rfl ?_
    refine G_iload (pc := 269) dX10_init_269 rfl ?_
    refine G_imul (pc := 271) dX10_init_271 ?_
    refine G_lshr (pc := 272) dX10_init_272 rfl ?_
    refine G_ldc2 (pc := 273) (z := 255) dX10_init_273 coX10_77 rfl ?_
    refine G_land (pc := 276) dX10_init_276 (show _ = iL 117 from by decide) ?_
    refine G_l2i (pc := 277) dX10_init_277 ?_
    refine S_iast (pc := 278) dX10_init_278 (shT_at (of_decide_eq_true rfl) rfl) (by omega) ?_
    refine S_aload_n (pc := 279) dX10_init_279 rfl ?_
    refine S_getR (pc := 280) dX10_init_280 fX10_30 (shT_at (of_decide_eq_true rfl) rfl) rfl rfl ?_
    refine G_iload_n (pc := 283) dX10_init_283 rfl ?_
    refine G_bipush (pc := 284) dX10_init_284 rfl ?_
    refine G_iadd (pc := 286) dX10_init_286 ?_
    refine G_lload (pc := 287) dX10_init_287 rfl ?_
    refine G_bipush (pc := 289) dX10_init_289 rfl ?_
    refine G_iload (pc := 291) dX10_init_291 rfl ?_
    refine G_imul (pc := 293) dX10_init_293 ?_
    refine G_lshr (pc := 294) dX10_init_294 rfl ?_
    refine G_ldc2 (pc := 295) (z := 255) dX10_init_295 coX10_77 rfl ?_
    refine G_land (pc := 298) dX10_init_298 (show _ = iL 110 from by decide) ?_
    refine G_l2i (pc := 299) dX10_init_299 ?_
    refine S_iast (pc := 300) dX10_init_300 (shT_at (of_decide_eq_true rfl) rfl) (by omega) ?_
    refine S_aload_n (pc := 301) dX10_init_301 rfl ?_
    refine S_getR (pc := 302) dX10_init_302 fX10_30 (shT_at (of_decide_eq_true rfl) rfl) rfl rfl ?_
    refine G_iload_n (pc := 305) dX10_init_305 rfl ?_
    refine G_bipush (pc := 306) dX10_init_306 rfl ?_
    refine G_iadd (pc := 308) dX10_init_308 ?_
    refine G_lload (pc := 309) dX10_init_309 rfl ?_
    refine G_bipush (pc := 311) dX10_init_311 rfl ?_
    refine G_iload (pc := 313) dX10_init_313 rfl ?_
    refine G_imul (pc := 315) dX10_init_315 ?_
    refine G_lshr (pc := 316) dX10_init_316 rfl ?_
    refine G_ldc2 (pc := 317) (z := 255) dX10_init_317 coX10_77 rfl ?_
    refine G_land (pc := 320) dX10_init_320 (show _ = iL 32 from by decide) ?_
    refine G_l2i (pc := 321) dX10_init_321 ?_
    refine S_iast (pc := 322) dX10_init_322 (shT_at (of_decide_eq_true rfl) rfl) (by omega) ?_
    refine G_iinc (pc := 323) (ls' := [(3, _), (14, _), (12, _), (10, _), (8, _), (6, _), (4, _), (0, _)]) dX10_init_323 rfl (by decide) rfl ?_
    refine G_iinc (pc := 326) (ls' := [(14, _), (3, _), (12, _), (10, _), (8, _), (6, _), (4, _), (0, _)]) dX10_init_326 rfl (by decide) rfl ?_
    refine G_goto (pc := 329) 211 dX10_init_329 rfl ?_
    refine G_ls (ls' := [(14, _), (12, _), (10, _), (8, _), (6, _), (4, _), (3, _), (0, _)]) (lsub_c rfl (lsub_c rfl (lsub_c rfl (lsub_c rfl (lsub_c rfl (lsub_c rfl (lsub_c rfl (lsub_c rfl lsub_n)))))))) ?_
    skip
    refine G_iload (pc := 211) dX10_init_211 rfl ?_
    refine G_if_lt_f (pc := 213) 332 dX10_init_213 rfl (by omega) (by decide) ?_
    refine S_aload_n (pc := 216) dX10_init_216 rfl ?_
    refine S_getR (pc := 217) dX10_init_217 fX10_30 (shT_at (of_decide_eq_true rfl) rfl) rfl rfl ?_
    refine G_iload_n (pc := 220) dX10_init_220 rfl ?_
    refine G_lload (pc := 221) dX10_init_221 rfl ?_
    refine G_bipush (pc := 223) dX10_init_223 rfl ?_
    refine G_iload (pc := 225) dX10_init_225 rfl ?_
    refine G_imul (pc := 227) dX10_init_227 ?_
    refine G_lshr (pc := 228) dX10_init_228 rfl ?_
    refine G_ldc2 (pc := 229) (z := 255) dX10_init_229 coX10_77 rfl ?_
    refine G_land (pc := 232) dX10_init_232 (show _ = iL 42 from by decide) ?_
    refine G_l2i (pc := 233) dX10_init_233 ?_
    refine S_iast (pc := 234) dX10_init_234 (shT_at (of_decide_eq_true rfl) rfl) (by omega) ?_
    refine S_aload_n (pc := 235) dX10_init_235 rfl ?_
    refine S_getR (pc := 236) dX10_init_236 fX10_30 (shT_at (of_decide_eq_true rfl) rfl) rfl rfl ?_
    refine G_iload_n (pc := 239) dX10_init_239 rfl ?_
    refine G_bipush (pc := 240) dX10_init_240 rfl ?_
    refine G_iadd (pc := 242) dX10_init_242 ?_
    refine G_lload (pc := 243) dX10_init_243 rfl ?_
    refine G_bipush (pc := 245) dX10_init_245 rfl ?_
    refine G_iload (pc := 247) dX10_init_247 rfl ?_
    refine G_imul (pc := 249) dX10_init_249 ?_
    refine G_lshr (pc := 250) dX10_init_250 rfl ?_
    refine G_ldc2 (pc := 251) (z := 255) dX10_init_251 coX10_77 rfl ?_
    refine G_land (pc := 254) dX10_init_254 (show _ = iL 32 from by decide) ?_
    refine G_l2i (pc := 255) dX10_init_255 ?_
    refine S_iast (pc := 256) dX10_init_256 (shT_at (of_decide_eq_true rfl) rfl) (by omega) ?_
    refine S_aload_n (pc := 257) dX10_init_257 rfl ?_
    refine S_getR (pc := 258) dX10_init_258 fX10_30 (shT_at (of_decide_eq_true rfl) rfl) rfl rfl ?_
    refine G_iload_n (pc := 261) dX10_init_261 rfl ?_
    refine G_bipush (pc := 262) dX10_init_262 rfl ?_
    refine G_iadd (pc := 264) dX10_init_264 ?_
    refine G_lload (pc := 265) dX10_init_265 rfl ?_
    refine G_bipush (pc := 267) dX10_init_267 rfl ?_
    refine G_iload (pc := 269) dX10_init_269 rfl ?_
    refine G_imul (pc := 271) dX10_init_271 ?_
    refine G_lshr (pc := 272) dX10_init_272 rfl ?_
    refine G_ldc2 (pc := 273) (z := 255) dX10_init_273 coX10_77 rfl ?_
    refine G_land (pc := 276) dX10_init_276 (show _ = iL 116 from by decide) ?_
    refine G_l2i (pc := 277) dX10_init_277 ?_
    refine S_iast (pc := 278) dX10_init_278 (shT_at (of_decide_eq_true rfl) rfl) (by omega) ?_
    refine S_aload_n (pc := 279) dX10_init_279 rfl ?_
    refine S_getR (pc := 280) dX10_init_280 fX10_30 (shT_at (of_decide_eq_true rfl) rfl) rfl rfl ?_
    refine G_iload_n (pc := 283) dX10_init_283 rfl ?_
    refine G_bipush (pc := 284) dX10_init_284 rfl ?_
    refine G_iadd (pc := 286) dX10_init_286 ?_
    refine G_lload (pc := 287) dX10_init_287 rfl ?_
    refine G_bipush (pc := 289) dX10_init_289 rfl ?_
    refine G_iload (pc := 291) dX10_init_291 rfl ?_
    refine G_imul (pc := 293) dX10_init_293 ?_
    refine G_lshr (pc := 294) dX10_init_294 rfl ?_
    refine G_ldc2 (pc := 295) (z := 255) dX10_init_295 coX10_77 rfl ?_
    refine G_land (pc := 298) dX10_init_298 (show _ = iL 32 from by decide) ?_
    refine G_l2i (pc := 299) dX10_init_299 ?_
    refine S_iast (pc := 300) dX10_init_300 (shT_at (of_decide_eq_true rfl) rfl) (by omega) ?_
    refine S_aload_n (pc := 301) dX10_init_301 rfl ?_
    refine S_getR (pc := 302) dX10_init_302 fX10_30 (shT_at (of_decide_eq_true rfl) rfl) rfl rfl ?_
    refine G_iload_n (pc := 305) dX10_init_305 rfl ?_
    refine G_bipush (pc := 306) dX10_init_306 rfl ?_
    refine G_iadd (pc := 308) dX10_init_308 ?_
    refine G_lload (pc := 309) dX10_init_309 rfl ?_
    refine G_bipush (pc := 311) dX10_init_311 rfl ?_
    refine G_iload (pc := 313) dX10_init_313 rfl ?_
    refine G_imul (pc := 315) dX10_init_315 ?_
    refine G_lshr (pc := 316) dX10_init_316 rfl ?_
    refine G_ldc2 (pc := 317) (z := 255) dX10_init_317 coX10_77 rfl ?_
    refine G_land (pc := 320) dX10_init_320 (show _ = iL 32 from by decide) ?_
    refine G_l2i (pc := 321) dX10_init_321 ?_
    refine S_iast (pc := 322) dX10_init_322 (shT_at (of_decide_eq_true rfl) rfl) (by omega) ?_
    refine G_iinc (pc := 323) (ls' := [(3, _), (14, _), (12, _), (10, _), (8, _), (6, _), (4, _), (0, _)]) dX10_init_323 rfl (by decide) rfl ?_
    refine G_iinc (pc := 326) (ls' := [(14, _), (3, _), (12, _), (10, _), (8, _), (6, _), (4, _), (0, _)]) dX10_init_326 rfl (by decide) rfl ?_
    refine G_goto (pc := 329) 211 dX10_init_329 rfl ?_
    refine G_ls (ls' := [(14, _), (12, _), (10, _), (8, _), (6, _), (4, _), (3, _), (0, _)]) (lsub_c rfl (lsub_c rfl (lsub_c rfl (lsub_c rfl (lsub_c rfl (lsub_c rfl (lsub_c rfl (lsub_c rfl lsub_n)))))))) ?_
    skip
    refine G_iload (pc := 211) dX10_init_211 rfl ?_
    refine G_if_lt_t (pc := 213) 332 dX10_init_213 rfl (by omega) (by decide) ?_
    refine S_aload_n (pc := 332) dX10_init_332 rfl ?_
    refine S_getR (pc := 333) dX10_init_333 fX10_33 (shT_at (of_decide_eq_true rfl) rfl) rfl rfl ?_
    refine G_iconst (pc := 336) dX10_init_336 ?_
    refine G_bipush (pc := 337) dX10_init_337 rfl ?_
    refine S_iast (pc := 339) dX10_init_339 (shT_at (of_decide_eq_true rfl) rfl) (by omega) ?_
    refine S_aload_n (pc := 340) dX10_init_340 rfl ?_
    refine G_iconst (pc := 341) dX10_init_341 ?_
    refine S_putI (pc := 342) dX10_init_342 fX10_79 (shT_at (of_decide_eq_true rfl) rfl) rfl ⟨rfl, rfl⟩ ?_
    refine G_vret (pc := 345) dX10_init_345 rfl (by decide) ?_
    exact hq
  have K : ∀ v : Int, v = prm x → G g mX10_init 2 16 2980 177 [(2, .int (iI (x % 4))), (0, gr g 96), (1, .int (iI x))] [.int (iI v), gr g 96] (hp g (shT 113) (setP (setP (setP (setP (setP (setP (setP (setP (setP (setP (setP (setP (setP (setP (setP (setP S 96 2 (some 97)) 96 4 (some 98)) 96 5 (some 99)) 96 7 (some 100)) 96 8 (some 101)) 96 9 (some 102)) 96 10 (some 103)) 96 13 (some 104)) 96 30 (some 105)) 96 31 (some 106)) 96 32 (some 107)) 96 33 (some 108)) 96 35 (some 109)) 96 36 (some 110)) 96 37 (some 111)) 96 38 (some 112))) 113 16 2980 Q := by
    intro v hv
    subst hv
    refine S_putIF (pc := 177) dX10_init_177 fX10_64 rfl (shT_at (of_decide_eq_true rfl) rfl) rfl ⟨rfl, rfl⟩ ?_
    refine G_iconst (pc := 180) dX10_init_180 ?_
    refine G_istore_n (pc := 181) (ls' := [(3, _), (2, _), (0, _), (1, _)]) dX10_init_181 (by decide) rfl ?_
    refine G_ldc2 (pc := 182) (z := 8100956935179759146) dX10_init_182 coX10_67 rfl ?_
    refine G_lstore (pc := 185) (ls' := [(4, _), (3, _), (2, _), (0, _), (1, _)]) dX10_init_185 (by decide) rfl ?_
    refine G_ldc2 (pc := 187) (z := 7871011700452455456) dX10_init_187 coX10_69 rfl ?_
    refine G_lstore (pc := 190) (ls' := [(6, _), (4, _), (3, _), (2, _), (0, _), (1, _)]) dX10_init_190 (by decide) rfl ?_
    refine G_ldc2 (pc := 192) (z := 8316312761837778292) dX10_init_192 coX10_71 rfl ?_
    refine G_lstore (pc := 195) (ls' := [(8, _), (6, _), (4, _), (3, _), (2, _), (0, _), (1, _)]) dX10_init_195 (by decide) rfl ?_
    refine G_ldc2 (pc := 197) (z := 3114585988676087328) dX10_init_197 coX10_73 rfl ?_
    refine G_lstore (pc := 200) (ls' := [(10, _), (8, _), (6, _), (4, _), (3, _), (2, _), (0, _), (1, _)]) dX10_init_200 (by decide) rfl ?_
    refine G_ldc2 (pc := 202) (z := 4048801074170044448) dX10_init_202 coX10_75 rfl ?_
    refine G_lstore (pc := 205) (ls' := [(12, _), (10, _), (8, _), (6, _), (4, _), (3, _), (2, _), (0, _), (1, _)]) dX10_init_205 (by decide) rfl ?_
    refine G_bipush (pc := 207) dX10_init_207 rfl ?_
    refine G_istore (pc := 209) (ls' := [(14, _), (12, _), (10, _), (8, _), (6, _), (4, _), (3, _), (2, _), (0, _), (1, _)]) dX10_init_209 (by decide) rfl ?_
    refine G_ls (ls' := [(14, _), (12, _), (10, _), (8, _), (6, _), (4, _), (3, _), (0, _)]) (lsub_c rfl (lsub_c rfl (lsub_c rfl (lsub_c rfl (lsub_c rfl (lsub_c rfl (lsub_c rfl (lsub_c rfl lsub_n)))))))) ?_
    exact Kl _ rfl
  have K2 : G g mX10_init 2 16 2980 142 [(2, .int (iI (x % 4))), (0, gr g 96), (1, .int (iI x))] [] (hp g (shT 113) (setP (setP (setP (setP (setP (setP (setP (setP (setP (setP (setP (setP (setP (setP (setP (setP S 96 2 (some 97)) 96 4 (some 98)) 96 5 (some 99)) 96 7 (some 100)) 96 8 (some 101)) 96 9 (some 102)) 96 10 (some 103)) 96 13 (some 104)) 96 30 (some 105)) 96 31 (some 106)) 96 32 (some 107)) 96 33 (some 108)) 96 35 (some 109)) 96 36 (some 110)) 96 37 (some 111)) 96 38 (some 112))) 113 16 2980 Q := by
    refine S_aload_n (pc := 142) dX10_init_142 rfl ?_
    refine G_iload_n (pc := 143) dX10_init_143 rfl ?_
    refine G_if_ne (pc := 144) 152 dX10_init_144 rfl (by omega) (fun c144 => ?_) (fun c144 => ?_)
    · skip
      refine G_iload_n (pc := 152) dX10_init_152 rfl ?_
      refine G_iconst (pc := 153) dX10_init_153 ?_
      refine G_icmp_ne (pc := 154) 163 dX10_init_154 rfl (by omega) (fun c154 => ?_) (fun c154 => ?_)
      · skip
        refine G_iload_n (pc := 163) dX10_init_163 rfl ?_
        refine G_iconst (pc := 164) dX10_init_164 ?_
        refine G_icmp_ne (pc := 165) 174 dX10_init_165 rfl (by omega) (fun c165 => ?_) (fun c165 => ?_)
        · skip
          refine G_sipush (pc := 174) dX10_init_174 rfl ?_
          exact K _ (by unfold prm; (repeat' split) <;> omega)
        · skip
          refine G_sipush (pc := 168) dX10_init_168 rfl ?_
          refine G_goto (pc := 171) 177 dX10_init_171 rfl ?_
          exact K _ (by unfold prm; (repeat' split) <;> omega)
      · skip
        refine G_sipush (pc := 157) dX10_init_157 rfl ?_
        refine G_goto (pc := 160) 177 dX10_init_160 rfl ?_
        exact K _ (by unfold prm; (repeat' split) <;> omega)
    · skip
      refine G_bipush (pc := 147) dX10_init_147 rfl ?_
      refine G_goto (pc := 149) 177 dX10_init_149 rfl ?_
      exact K _ (by unfold prm; (repeat' split) <;> omega)
  refine GCall.of (by decide) (Nat.le_of_ble_eq_true rfl) (ls := [(0, _), (1, _)]) rfl ?_
  refine S_aload_n (pc := 0) dX10_init_0 rfl ?_
  refine G_objInit (pc := 1) dX10_init_1 lkX10_7 oi_in oi_co rfl (Nat.le_of_ble_eq_true rfl) (by decide) ?_
  refine S_aload_n (pc := 4) dX10_init_4 rfl ?_
  refine G_sipush (pc := 5) dX10_init_5 rfl ?_
  refine T_newI (pc := 8) (N := 1280) dX10_init_8 ar_int rfl (by omega) (by decide) (by repeat' first | refine Fr_P ?_ (of_decide_eq_true rfl) | exact Fr_le hF (of_decide_eq_true rfl)) rfl ?_
  refine S_putRF (pc := 10) dX10_init_10 fX10_13 rfl (shT_at (of_decide_eq_true rfl) rfl) rfl ⟨rfl, rfl⟩ ?_
  refine S_aload_n (pc := 13) dX10_init_13 rfl ?_
  refine G_bipush (pc := 14) dX10_init_14 rfl ?_
  refine T_newI (pc := 16) (N := 8) dX10_init_16 ar_int rfl (by omega) (by decide) (by repeat' first | refine Fr_P ?_ (of_decide_eq_true rfl) | exact Fr_le hF (of_decide_eq_true rfl)) rfl ?_
  refine S_putRF (pc := 18) dX10_init_18 fX10_17 rfl (shT_at (of_decide_eq_true rfl) rfl) rfl ⟨rfl, rfl⟩ ?_
  refine S_aload_n (pc := 21) dX10_init_21 rfl ?_
  refine G_bipush (pc := 22) dX10_init_22 rfl ?_
  refine T_newI (pc := 24) (N := 8) dX10_init_24 ar_int rfl (by omega) (by decide) (by repeat' first | refine Fr_P ?_ (of_decide_eq_true rfl) | exact Fr_le hF (of_decide_eq_true rfl)) rfl ?_
  refine S_putRF (pc := 26) dX10_init_26 fX10_20 rfl (shT_at (of_decide_eq_true rfl) rfl) rfl ⟨rfl, rfl⟩ ?_
  refine S_aload_n (pc := 29) dX10_init_29 rfl ?_
  refine G_bipush (pc := 30) dX10_init_30 rfl ?_
  refine T_newJ (pc := 32) (N := 33) dX10_init_32 ar_long rfl (by omega) (by decide) (by repeat' first | refine Fr_P ?_ (of_decide_eq_true rfl) | exact Fr_le hF (of_decide_eq_true rfl)) rfl ?_
  refine S_putRF (pc := 34) dX10_init_34 fX10_23 rfl (shT_at (of_decide_eq_true rfl) rfl) rfl ⟨rfl, rfl⟩ ?_
  refine S_aload_n (pc := 37) dX10_init_37 rfl ?_
  refine G_bipush (pc := 38) dX10_init_38 rfl ?_
  refine T_newJ (pc := 40) (N := 33) dX10_init_40 ar_long rfl (by omega) (by decide) (by repeat' first | refine Fr_P ?_ (of_decide_eq_true rfl) | exact Fr_le hF (of_decide_eq_true rfl)) rfl ?_
  refine S_putRF (pc := 42) dX10_init_42 fX10_27 rfl (shT_at (of_decide_eq_true rfl) rfl) rfl ⟨rfl, rfl⟩ ?_
  refine S_aload_n (pc := 45) dX10_init_45 rfl ?_
  refine G_sipush (pc := 46) dX10_init_46 rfl ?_
  refine T_newI (pc := 49) (N := 960) dX10_init_49 ar_int rfl (by omega) (by decide) (by repeat' first | refine Fr_P ?_ (of_decide_eq_true rfl) | exact Fr_le hF (of_decide_eq_true rfl)) rfl ?_
  refine S_putRF (pc := 51) dX10_init_51 fX10_30 rfl (shT_at (of_decide_eq_true rfl) rfl) rfl ⟨rfl, rfl⟩ ?_
  refine S_aload_n (pc := 54) dX10_init_54 rfl ?_
  refine G_bipush (pc := 55) dX10_init_55 rfl ?_
  refine T_newI (pc := 57) (N := 6) dX10_init_57 ar_int rfl (by omega) (by decide) (by repeat' first | refine Fr_P ?_ (of_decide_eq_true rfl) | exact Fr_le hF (of_decide_eq_true rfl)) rfl ?_
  refine S_putRF (pc := 59) dX10_init_59 fX10_33 rfl (shT_at (of_decide_eq_true rfl) rfl) rfl ⟨rfl, rfl⟩ ?_
  refine S_aload_n (pc := 62) dX10_init_62 rfl ?_
  refine G_sipush (pc := 63) dX10_init_63 rfl ?_
  refine T_newI (pc := 66) (N := 160) dX10_init_66 ar_int rfl (by omega) (by decide) (by repeat' first | refine Fr_P ?_ (of_decide_eq_true rfl) | exact Fr_le hF (of_decide_eq_true rfl)) rfl ?_
  refine S_putRF (pc := 68) dX10_init_68 fX10_36 rfl (shT_at (of_decide_eq_true rfl) rfl) rfl ⟨rfl, rfl⟩ ?_
  refine S_aload_n (pc := 71) dX10_init_71 rfl ?_
  refine G_bipush (pc := 72) dX10_init_72 rfl ?_
  refine T_newI (pc := 74) (N := 16) dX10_init_74 ar_int rfl (by omega) (by decide) (by repeat' first | refine Fr_P ?_ (of_decide_eq_true rfl) | exact Fr_le hF (of_decide_eq_true rfl)) rfl ?_
  refine S_putRF (pc := 76) dX10_init_76 fX10_39 rfl (shT_at (of_decide_eq_true rfl) rfl) rfl ⟨rfl, rfl⟩ ?_
  refine S_aload_n (pc := 79) dX10_init_79 rfl ?_
  refine G_bipush (pc := 80) dX10_init_80 rfl ?_
  refine T_newI (pc := 82) (N := 16) dX10_init_82 ar_int rfl (by omega) (by decide) (by repeat' first | refine Fr_P ?_ (of_decide_eq_true rfl) | exact Fr_le hF (of_decide_eq_true rfl)) rfl ?_
  refine S_putRF (pc := 84) dX10_init_84 fX10_42 rfl (shT_at (of_decide_eq_true rfl) rfl) rfl ⟨rfl, rfl⟩ ?_
  refine S_aload_n (pc := 87) dX10_init_87 rfl ?_
  refine G_sipush (pc := 88) dX10_init_88 rfl ?_
  refine T_newI (pc := 91) (N := 272) dX10_init_91 ar_int rfl (by omega) (by decide) (by repeat' first | refine Fr_P ?_ (of_decide_eq_true rfl) | exact Fr_le hF (of_decide_eq_true rfl)) rfl ?_
  refine S_putRF (pc := 93) dX10_init_93 fX10_45 rfl (shT_at (of_decide_eq_true rfl) rfl) rfl ⟨rfl, rfl⟩ ?_
  refine S_aload_n (pc := 96) dX10_init_96 rfl ?_
  refine G_bipush (pc := 97) dX10_init_97 rfl ?_
  refine T_newI (pc := 99) (N := 16) dX10_init_99 ar_int rfl (by omega) (by decide) (by repeat' first | refine Fr_P ?_ (of_decide_eq_true rfl) | exact Fr_le hF (of_decide_eq_true rfl)) rfl ?_
  refine S_putRF (pc := 101) dX10_init_101 fX10_48 rfl (shT_at (of_decide_eq_true rfl) rfl) rfl ⟨rfl, rfl⟩ ?_
  refine S_aload_n (pc := 104) dX10_init_104 rfl ?_
  refine G_iconst (pc := 105) dX10_init_105 ?_
  refine T_newZ (pc := 106) (N := 4) dX10_init_106 ar_boolean rfl (by omega) (by decide) (by repeat' first | refine Fr_P ?_ (of_decide_eq_true rfl) | exact Fr_le hF (of_decide_eq_true rfl)) rfl ?_
  refine S_putRF (pc := 108) dX10_init_108 fX10_51 rfl (shT_at (of_decide_eq_true rfl) rfl) rfl ⟨rfl, rfl⟩ ?_
  refine S_aload_n (pc := 111) dX10_init_111 rfl ?_
  refine G_iconst (pc := 112) dX10_init_112 ?_
  refine T_newI (pc := 113) (N := 4) dX10_init_113 ar_int rfl (by omega) (by decide) (by repeat' first | refine Fr_P ?_ (of_decide_eq_true rfl) | exact Fr_le hF (of_decide_eq_true rfl)) rfl ?_
  refine S_putRF (pc := 115) dX10_init_115 fX10_55 rfl (shT_at (of_decide_eq_true rfl) rfl) rfl ⟨rfl, rfl⟩ ?_
  refine S_aload_n (pc := 118) dX10_init_118 rfl ?_
  refine G_iconst (pc := 119) dX10_init_119 ?_
  refine T_newI (pc := 120) (N := 4) dX10_init_120 ar_int rfl (by omega) (by decide) (by repeat' first | refine Fr_P ?_ (of_decide_eq_true rfl) | exact Fr_le hF (of_decide_eq_true rfl)) rfl ?_
  refine S_putRF (pc := 122) dX10_init_122 fX10_58 rfl (shT_at (of_decide_eq_true rfl) rfl) rfl ⟨rfl, rfl⟩ ?_
  refine S_aload_n (pc := 125) dX10_init_125 rfl ?_
  refine G_sipush (pc := 126) dX10_init_126 rfl ?_
  refine T_newI (pc := 129) (N := 160) dX10_init_129 ar_int rfl (by omega) (by decide) (by repeat' first | refine Fr_P ?_ (of_decide_eq_true rfl) | exact Fr_le hF (of_decide_eq_true rfl)) rfl ?_
  refine S_putRF (pc := 131) dX10_init_131 fX10_61 rfl (shT_at (of_decide_eq_true rfl) rfl) rfl ⟨rfl, rfl⟩ ?_
  refine G_iload_n (pc := 134) dX10_init_134 rfl ?_
  refine G_iconst (pc := 135) dX10_init_135 ?_
  refine G_irem (pc := 136) dX10_init_136 (by omega) ?_
  refine G_iconst (pc := 137) dX10_init_137 ?_
  refine G_iadd (pc := 138) dX10_init_138 ?_
  refine G_iconst (pc := 139) dX10_init_139 ?_
  refine G_iremP (pc := 140) dX10_init_140 (by omega) ?_
  rw [show (Int.tmod x 4 + 4) % 4 = x % 4 by omega]
  refine G_istore_n (pc := 141) (ls' := [(2, _), (0, _), (1, _)]) dX10_init_141 (by decide) rfl ?_
  exact K2
