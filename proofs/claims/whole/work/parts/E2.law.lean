/-! ===== the law: its walk (printed by program) ===== -/
def xSc (s : State) (g : xG) (b Ls : Nat) (xs : Nat → Int32) : Prop := g.2.2.2 2 = b ∧ va_X b Ls xs s s.heap ∧ b < s.heap.size ∧ g.2.1 = s.heap.size
section XR6
variable {p : Program} {l : Launch} {e : Env} {R : Room} {s : State} {m : MethodId} {args : Array Value} {below : List Frame} {meth : Method} {c : Code} {Q : State → Prop} {cc : ByteArray} {own : String} {nL n cells slots pc : Nat} {F : Nat → Prop} {g : xG} {b Ls : Nat} {xs : Nat → Int32}
def x_sld (Ls : Nat) (xs : Nat → Int32) (K : xK) : xK := fun L st A => match st with
  | .int j :: .ref q :: r => q = 1002 ∧ vp_in j Ls ∧ K L (.int (xs j.toNatClampNeg) :: r) A
  | _ => False
def x_sln (Ls : Nat) (K : xK) : xK := fun L st A => match st with
  | .ref q :: r => q = 1002 ∧ K L (.int (Int32.ofNat Ls) :: r) A
  | _ => False
theorem xad_sc (S : xSc s g b Ls xs) : xad g 1002 = b := by
  show (if 1002 < 1000 then _ else g.2.2.2 (1002 - 1000)) = b
  rw [if_neg (by omega)]
  exact S.1
theorem r_sld {K : xK} (X : xX p s m args c meth cc own nL g) (S : xSc s g b Ls xs) (hd : decode cc pc = .ok (.iaload, 1)) (h : xAt p l e R s m args below meth c g nL F n cells slots Q (K) (pc + 1)) : xAt p l e R s m args below meth c g nL F n cells slots Q (x_sld Ls xs K) (pc) := by
  intro L st A H locs ls hK hR hS hL
  unfold x_sld at hK
  split at hK
  · rename_i j q r
    obtain ⟨rfl, hin, hK⟩ := hK
    have hbA : ¬ xFr g b := by
      show ¬ g.2.1 ≤ b
      have := S.2.2.1; have := S.2.2.2; omega
    show W p l e R s m args below meth c H locs cells slots Q (F0 m pc ls (.int j :: .ref (xad g 1002) :: r.map (xcv g)))
    rw [xad_sc S]
    exact va_sld X.1 X.2.1 S.2.1 S.2.2.1 hbA hS hin hd (h L _ A H locs ls hK hR hS hL)
  · exact hK.elim
theorem r_sln {K : xK} (X : xX p s m args c meth cc own nL g) (S : xSc s g b Ls xs) (hd : decode cc pc = .ok (.arraylength, 1)) (h : xAt p l e R s m args below meth c g nL F n cells slots Q (K) (pc + 1)) : xAt p l e R s m args below meth c g nL F n cells slots Q (x_sln Ls K) (pc) := by
  intro L st A H locs ls hK hR hS hL
  unfold x_sln at hK
  split at hK
  · rename_i q r
    obtain ⟨rfl, hK⟩ := hK
    have hbA : ¬ xFr g b := by
      show ¬ g.2.1 ≤ b
      have := S.2.2.1; have := S.2.2.2; omega
    show W p l e R s m args below meth c H locs cells slots Q (F0 m pc ls (.ref (xad g 1002) :: r.map (xcv g)))
    rw [xad_sc S]
    exact va_slen X.1 X.2.1 S.2.1 S.2.2.1 hbA hS hd (h L _ A H locs ls hK hR hS hL)
  · exact hK.elim
theorem xsw_all {x : Int} {L : xL} {st : List Value} {A : xH} {Kd : xK} : ∀ (Ks : List xK) (lo : Int), (∀ K ∈ Ks, K L st A) → Kd L st A → xsw x lo Ks Kd L st A
  | [], _, _, h => h
  | K :: Ks, lo, h, hd => ⟨fun _ => h K List.mem_cons_self, fun _ => xsw_all Ks (lo + 1) (fun K' h' => h K' (List.mem_cons_of_mem _ h')) hd⟩
end XR6
theorem dL_law_0 : decode cL_law 0 = .ok (.new 7, 3) := by decide +kernel
theorem dL_law_3 : decode cL_law 3 = .ok (.dup, 1) := by decide +kernel
theorem dL_law_4 : decode cL_law 4 = .ok (.invokespecial 9, 3) := by decide +kernel
theorem dL_law_7 : decode cL_law 7 = .ok (.astore_n 1, 1) := by decide +kernel
theorem dL_law_8 : decode cL_law 8 = .ok (.new 10, 3) := by decide +kernel
theorem dL_law_11 : decode cL_law 11 = .ok (.dup, 1) := by decide +kernel
theorem dL_law_12 : decode cL_law 12 = .ok (.invokespecial 12, 3) := by decide +kernel
theorem dL_law_15 : decode cL_law 15 = .ok (.astore_n 2, 1) := by decide +kernel
theorem dL_law_16 : decode cL_law 16 = .ok (.iconst 0, 1) := by decide +kernel
theorem dL_law_17 : decode cL_law 17 = .ok (.istore_n 3, 1) := by decide +kernel
theorem dL_law_18 : decode cL_law 18 = .ok (.iload_n 3, 1) := by decide +kernel
theorem dL_law_19 : decode cL_law 19 = .ok (.aload_n 0, 1) := by decide +kernel
theorem dL_law_20 : decode cL_law 20 = .ok (.arraylength, 1) := by decide +kernel
theorem dL_law_21 : decode cL_law 21 = .ok (.bipush 6, 2) := by decide +kernel
theorem dL_law_23 : decode cL_law 23 = .ok (.isub, 1) := by decide +kernel
theorem dL_law_24 : decode cL_law 24 = .ok (.if_icmp .gt 1092, 3) := by decide +kernel
theorem dL_law_27 : decode cL_law 27 = .ok (.aload_n 0, 1) := by decide +kernel
theorem dL_law_28 : decode cL_law 28 = .ok (.iload_n 3, 1) := by decide +kernel
theorem dL_law_29 : decode cL_law 29 = .ok (.iaload, 1) := by decide +kernel
theorem dL_law_30 : decode cL_law 30 = .ok (.bipush 63, 2) := by decide +kernel
theorem dL_law_32 : decode cL_law 32 = .ok (.iand, 1) := by decide +kernel
theorem dL_law_33 : decode cL_law 33 = .ok (.tableswitch 1077 0 35 #[159, 222, 245, 258, 271, 304, 337, 370, 403, 446, 479, 502, 525, 548, 561, 584, 627, 650, 683, 696, 709, 722, 745, 768, 791, 814, 837, 860, 893, 926, 949, 972, 985, 1008, 1031, 1054], 159) := by decide +kernel
theorem dL_law_192 : decode cL_law 192 = .ok (.aload_n 1, 1) := by decide +kernel
theorem dL_law_193 : decode cL_law 193 = .ok (.aload_n 0, 1) := by decide +kernel
theorem dL_law_194 : decode cL_law 194 = .ok (.iload_n 3, 1) := by decide +kernel
theorem dL_law_195 : decode cL_law 195 = .ok (.iconst 1, 1) := by decide +kernel
theorem dL_law_196 : decode cL_law 196 = .ok (.iadd, 1) := by decide +kernel
theorem dL_law_197 : decode cL_law 197 = .ok (.iaload, 1) := by decide +kernel
theorem dL_law_198 : decode cL_law 198 = .ok (.aload_n 0, 1) := by decide +kernel
theorem dL_law_199 : decode cL_law 199 = .ok (.iload_n 3, 1) := by decide +kernel
theorem dL_law_200 : decode cL_law 200 = .ok (.iconst 2, 1) := by decide +kernel
theorem dL_law_201 : decode cL_law 201 = .ok (.iadd, 1) := by decide +kernel
theorem dL_law_202 : decode cL_law 202 = .ok (.iaload, 1) := by decide +kernel
theorem dL_law_203 : decode cL_law 203 = .ok (.aload_n 0, 1) := by decide +kernel
theorem dL_law_204 : decode cL_law 204 = .ok (.iload_n 3, 1) := by decide +kernel
theorem dL_law_205 : decode cL_law 205 = .ok (.iconst 3, 1) := by decide +kernel
theorem dL_law_206 : decode cL_law 206 = .ok (.iadd, 1) := by decide +kernel
theorem dL_law_207 : decode cL_law 207 = .ok (.iaload, 1) := by decide +kernel
theorem dL_law_208 : decode cL_law 208 = .ok (.aload_n 0, 1) := by decide +kernel
theorem dL_law_209 : decode cL_law 209 = .ok (.iload_n 3, 1) := by decide +kernel
theorem dL_law_210 : decode cL_law 210 = .ok (.iconst 4, 1) := by decide +kernel
theorem dL_law_211 : decode cL_law 211 = .ok (.iadd, 1) := by decide +kernel
theorem dL_law_212 : decode cL_law 212 = .ok (.iaload, 1) := by decide +kernel
theorem dL_law_213 : decode cL_law 213 = .ok (.aload_n 0, 1) := by decide +kernel
theorem dL_law_214 : decode cL_law 214 = .ok (.iload_n 3, 1) := by decide +kernel
theorem dL_law_215 : decode cL_law 215 = .ok (.iconst 5, 1) := by decide +kernel
theorem dL_law_216 : decode cL_law 216 = .ok (.iadd, 1) := by decide +kernel
theorem dL_law_217 : decode cL_law 217 = .ok (.iaload, 1) := by decide +kernel
theorem dL_law_218 : decode cL_law 218 = .ok (.invokevirtual 13, 3) := by decide +kernel
theorem dL_law_221 : decode cL_law 221 = .ok (.aload_n 2, 1) := by decide +kernel
theorem dL_law_222 : decode cL_law 222 = .ok (.aload_n 0, 1) := by decide +kernel
theorem dL_law_223 : decode cL_law 223 = .ok (.iload_n 3, 1) := by decide +kernel
theorem dL_law_224 : decode cL_law 224 = .ok (.iconst 1, 1) := by decide +kernel
theorem dL_law_225 : decode cL_law 225 = .ok (.iadd, 1) := by decide +kernel
theorem dL_law_226 : decode cL_law 226 = .ok (.iaload, 1) := by decide +kernel
theorem dL_law_227 : decode cL_law 227 = .ok (.aload_n 0, 1) := by decide +kernel
theorem dL_law_228 : decode cL_law 228 = .ok (.iload_n 3, 1) := by decide +kernel
theorem dL_law_229 : decode cL_law 229 = .ok (.iconst 2, 1) := by decide +kernel
theorem dL_law_230 : decode cL_law 230 = .ok (.iadd, 1) := by decide +kernel
theorem dL_law_231 : decode cL_law 231 = .ok (.iaload, 1) := by decide +kernel
theorem dL_law_232 : decode cL_law 232 = .ok (.aload_n 0, 1) := by decide +kernel
theorem dL_law_233 : decode cL_law 233 = .ok (.iload_n 3, 1) := by decide +kernel
theorem dL_law_234 : decode cL_law 234 = .ok (.iconst 3, 1) := by decide +kernel
theorem dL_law_235 : decode cL_law 235 = .ok (.iadd, 1) := by decide +kernel
theorem dL_law_236 : decode cL_law 236 = .ok (.iaload, 1) := by decide +kernel
theorem dL_law_237 : decode cL_law 237 = .ok (.aload_n 0, 1) := by decide +kernel
theorem dL_law_238 : decode cL_law 238 = .ok (.iload_n 3, 1) := by decide +kernel
theorem dL_law_239 : decode cL_law 239 = .ok (.iconst 4, 1) := by decide +kernel
theorem dL_law_240 : decode cL_law 240 = .ok (.iadd, 1) := by decide +kernel
theorem dL_law_241 : decode cL_law 241 = .ok (.iaload, 1) := by decide +kernel
theorem dL_law_242 : decode cL_law 242 = .ok (.aload_n 0, 1) := by decide +kernel
theorem dL_law_243 : decode cL_law 243 = .ok (.iload_n 3, 1) := by decide +kernel
theorem dL_law_244 : decode cL_law 244 = .ok (.iconst 5, 1) := by decide +kernel
theorem dL_law_245 : decode cL_law 245 = .ok (.iadd, 1) := by decide +kernel
theorem dL_law_246 : decode cL_law 246 = .ok (.iaload, 1) := by decide +kernel
theorem dL_law_247 : decode cL_law 247 = .ok (.invokevirtual 17, 3) := by decide +kernel
theorem dL_law_250 : decode cL_law 250 = .ok (.if_icmp .eq 860, 3) := by decide +kernel
theorem dL_law_253 : decode cL_law 253 = .ok (.iconst 0, 1) := by decide +kernel
theorem dL_law_254 : decode cL_law 254 = .ok (.ireturn, 1) := by decide +kernel
theorem dL_law_255 : decode cL_law 255 = .ok (.aload_n 1, 1) := by decide +kernel
theorem dL_law_256 : decode cL_law 256 = .ok (.aload_n 0, 1) := by decide +kernel
theorem dL_law_257 : decode cL_law 257 = .ok (.iload_n 3, 1) := by decide +kernel
theorem dL_law_258 : decode cL_law 258 = .ok (.iconst 1, 1) := by decide +kernel
theorem dL_law_259 : decode cL_law 259 = .ok (.iadd, 1) := by decide +kernel
theorem dL_law_260 : decode cL_law 260 = .ok (.iaload, 1) := by decide +kernel
theorem dL_law_261 : decode cL_law 261 = .ok (.invokevirtual 18, 3) := by decide +kernel
theorem dL_law_264 : decode cL_law 264 = .ok (.aload_n 2, 1) := by decide +kernel
theorem dL_law_265 : decode cL_law 265 = .ok (.aload_n 0, 1) := by decide +kernel
theorem dL_law_266 : decode cL_law 266 = .ok (.iload_n 3, 1) := by decide +kernel
theorem dL_law_267 : decode cL_law 267 = .ok (.iconst 1, 1) := by decide +kernel
theorem dL_law_268 : decode cL_law 268 = .ok (.iadd, 1) := by decide +kernel
theorem dL_law_269 : decode cL_law 269 = .ok (.iaload, 1) := by decide +kernel
theorem dL_law_270 : decode cL_law 270 = .ok (.invokevirtual 22, 3) := by decide +kernel
theorem dL_law_273 : decode cL_law 273 = .ok (.if_icmp .eq 837, 3) := by decide +kernel
theorem dL_law_276 : decode cL_law 276 = .ok (.iconst 0, 1) := by decide +kernel
theorem dL_law_277 : decode cL_law 277 = .ok (.ireturn, 1) := by decide +kernel
theorem dL_law_278 : decode cL_law 278 = .ok (.aload_n 1, 1) := by decide +kernel
theorem dL_law_279 : decode cL_law 279 = .ok (.invokevirtual 23, 3) := by decide +kernel
theorem dL_law_282 : decode cL_law 282 = .ok (.aload_n 2, 1) := by decide +kernel
theorem dL_law_283 : decode cL_law 283 = .ok (.invokevirtual 27, 3) := by decide +kernel
theorem dL_law_286 : decode cL_law 286 = .ok (.if_icmp .eq 824, 3) := by decide +kernel
theorem dL_law_289 : decode cL_law 289 = .ok (.iconst 0, 1) := by decide +kernel
theorem dL_law_290 : decode cL_law 290 = .ok (.ireturn, 1) := by decide +kernel
theorem dL_law_291 : decode cL_law 291 = .ok (.aload_n 1, 1) := by decide +kernel
theorem dL_law_292 : decode cL_law 292 = .ok (.invokevirtual 28, 3) := by decide +kernel
theorem dL_law_295 : decode cL_law 295 = .ok (.aload_n 2, 1) := by decide +kernel
theorem dL_law_296 : decode cL_law 296 = .ok (.invokevirtual 31, 3) := by decide +kernel
theorem dL_law_299 : decode cL_law 299 = .ok (.if_icmp .eq 811, 3) := by decide +kernel
theorem dL_law_302 : decode cL_law 302 = .ok (.iconst 0, 1) := by decide +kernel
theorem dL_law_303 : decode cL_law 303 = .ok (.ireturn, 1) := by decide +kernel
theorem dL_law_304 : decode cL_law 304 = .ok (.aload_n 1, 1) := by decide +kernel
theorem dL_law_305 : decode cL_law 305 = .ok (.aload_n 0, 1) := by decide +kernel
theorem dL_law_306 : decode cL_law 306 = .ok (.iload_n 3, 1) := by decide +kernel
theorem dL_law_307 : decode cL_law 307 = .ok (.iconst 1, 1) := by decide +kernel
theorem dL_law_308 : decode cL_law 308 = .ok (.iadd, 1) := by decide +kernel
theorem dL_law_309 : decode cL_law 309 = .ok (.iaload, 1) := by decide +kernel
theorem dL_law_310 : decode cL_law 310 = .ok (.aload_n 0, 1) := by decide +kernel
theorem dL_law_311 : decode cL_law 311 = .ok (.iload_n 3, 1) := by decide +kernel
theorem dL_law_312 : decode cL_law 312 = .ok (.iconst 2, 1) := by decide +kernel
theorem dL_law_313 : decode cL_law 313 = .ok (.iadd, 1) := by decide +kernel
theorem dL_law_314 : decode cL_law 314 = .ok (.iaload, 1) := by decide +kernel
theorem dL_law_315 : decode cL_law 315 = .ok (.invokevirtual 32, 3) := by decide +kernel
theorem dL_law_318 : decode cL_law 318 = .ok (.aload_n 2, 1) := by decide +kernel
theorem dL_law_319 : decode cL_law 319 = .ok (.aload_n 0, 1) := by decide +kernel
theorem dL_law_320 : decode cL_law 320 = .ok (.iload_n 3, 1) := by decide +kernel
theorem dL_law_321 : decode cL_law 321 = .ok (.iconst 1, 1) := by decide +kernel
theorem dL_law_322 : decode cL_law 322 = .ok (.iadd, 1) := by decide +kernel
theorem dL_law_323 : decode cL_law 323 = .ok (.iaload, 1) := by decide +kernel
theorem dL_law_324 : decode cL_law 324 = .ok (.aload_n 0, 1) := by decide +kernel
theorem dL_law_325 : decode cL_law 325 = .ok (.iload_n 3, 1) := by decide +kernel
theorem dL_law_326 : decode cL_law 326 = .ok (.iconst 2, 1) := by decide +kernel
theorem dL_law_327 : decode cL_law 327 = .ok (.iadd, 1) := by decide +kernel
theorem dL_law_328 : decode cL_law 328 = .ok (.iaload, 1) := by decide +kernel
theorem dL_law_329 : decode cL_law 329 = .ok (.invokevirtual 36, 3) := by decide +kernel
theorem dL_law_332 : decode cL_law 332 = .ok (.if_icmp .eq 778, 3) := by decide +kernel
theorem dL_law_335 : decode cL_law 335 = .ok (.iconst 0, 1) := by decide +kernel
theorem dL_law_336 : decode cL_law 336 = .ok (.ireturn, 1) := by decide +kernel
theorem dL_law_337 : decode cL_law 337 = .ok (.aload_n 1, 1) := by decide +kernel
theorem dL_law_338 : decode cL_law 338 = .ok (.aload_n 0, 1) := by decide +kernel
theorem dL_law_339 : decode cL_law 339 = .ok (.iload_n 3, 1) := by decide +kernel
theorem dL_law_340 : decode cL_law 340 = .ok (.iconst 1, 1) := by decide +kernel
theorem dL_law_341 : decode cL_law 341 = .ok (.iadd, 1) := by decide +kernel
theorem dL_law_342 : decode cL_law 342 = .ok (.iaload, 1) := by decide +kernel
theorem dL_law_343 : decode cL_law 343 = .ok (.aload_n 0, 1) := by decide +kernel
theorem dL_law_344 : decode cL_law 344 = .ok (.iload_n 3, 1) := by decide +kernel
theorem dL_law_345 : decode cL_law 345 = .ok (.iconst 2, 1) := by decide +kernel
theorem dL_law_346 : decode cL_law 346 = .ok (.iadd, 1) := by decide +kernel
theorem dL_law_347 : decode cL_law 347 = .ok (.iaload, 1) := by decide +kernel
theorem dL_law_348 : decode cL_law 348 = .ok (.invokevirtual 37, 3) := by decide +kernel
theorem dL_law_351 : decode cL_law 351 = .ok (.aload_n 2, 1) := by decide +kernel
theorem dL_law_352 : decode cL_law 352 = .ok (.aload_n 0, 1) := by decide +kernel
theorem dL_law_353 : decode cL_law 353 = .ok (.iload_n 3, 1) := by decide +kernel
theorem dL_law_354 : decode cL_law 354 = .ok (.iconst 1, 1) := by decide +kernel
theorem dL_law_355 : decode cL_law 355 = .ok (.iadd, 1) := by decide +kernel
theorem dL_law_356 : decode cL_law 356 = .ok (.iaload, 1) := by decide +kernel
theorem dL_law_357 : decode cL_law 357 = .ok (.aload_n 0, 1) := by decide +kernel
theorem dL_law_358 : decode cL_law 358 = .ok (.iload_n 3, 1) := by decide +kernel
theorem dL_law_359 : decode cL_law 359 = .ok (.iconst 2, 1) := by decide +kernel
theorem dL_law_360 : decode cL_law 360 = .ok (.iadd, 1) := by decide +kernel
theorem dL_law_361 : decode cL_law 361 = .ok (.iaload, 1) := by decide +kernel
theorem dL_law_362 : decode cL_law 362 = .ok (.invokevirtual 40, 3) := by decide +kernel
theorem dL_law_365 : decode cL_law 365 = .ok (.if_icmp .eq 745, 3) := by decide +kernel
theorem dL_law_368 : decode cL_law 368 = .ok (.iconst 0, 1) := by decide +kernel
theorem dL_law_369 : decode cL_law 369 = .ok (.ireturn, 1) := by decide +kernel
theorem dL_law_370 : decode cL_law 370 = .ok (.aload_n 1, 1) := by decide +kernel
theorem dL_law_371 : decode cL_law 371 = .ok (.aload_n 0, 1) := by decide +kernel
theorem dL_law_372 : decode cL_law 372 = .ok (.iload_n 3, 1) := by decide +kernel
theorem dL_law_373 : decode cL_law 373 = .ok (.iconst 1, 1) := by decide +kernel
theorem dL_law_374 : decode cL_law 374 = .ok (.iadd, 1) := by decide +kernel
theorem dL_law_375 : decode cL_law 375 = .ok (.iaload, 1) := by decide +kernel
theorem dL_law_376 : decode cL_law 376 = .ok (.aload_n 0, 1) := by decide +kernel
theorem dL_law_377 : decode cL_law 377 = .ok (.iload_n 3, 1) := by decide +kernel
theorem dL_law_378 : decode cL_law 378 = .ok (.iconst 2, 1) := by decide +kernel
theorem dL_law_379 : decode cL_law 379 = .ok (.iadd, 1) := by decide +kernel
theorem dL_law_380 : decode cL_law 380 = .ok (.iaload, 1) := by decide +kernel
theorem dL_law_381 : decode cL_law 381 = .ok (.invokevirtual 41, 3) := by decide +kernel
theorem dL_law_384 : decode cL_law 384 = .ok (.aload_n 2, 1) := by decide +kernel
theorem dL_law_385 : decode cL_law 385 = .ok (.aload_n 0, 1) := by decide +kernel
theorem dL_law_386 : decode cL_law 386 = .ok (.iload_n 3, 1) := by decide +kernel
theorem dL_law_387 : decode cL_law 387 = .ok (.iconst 1, 1) := by decide +kernel
theorem dL_law_388 : decode cL_law 388 = .ok (.iadd, 1) := by decide +kernel
theorem dL_law_389 : decode cL_law 389 = .ok (.iaload, 1) := by decide +kernel
theorem dL_law_390 : decode cL_law 390 = .ok (.aload_n 0, 1) := by decide +kernel
theorem dL_law_391 : decode cL_law 391 = .ok (.iload_n 3, 1) := by decide +kernel
theorem dL_law_392 : decode cL_law 392 = .ok (.iconst 2, 1) := by decide +kernel
theorem dL_law_393 : decode cL_law 393 = .ok (.iadd, 1) := by decide +kernel
theorem dL_law_394 : decode cL_law 394 = .ok (.iaload, 1) := by decide +kernel
theorem dL_law_395 : decode cL_law 395 = .ok (.invokevirtual 44, 3) := by decide +kernel
theorem dL_law_398 : decode cL_law 398 = .ok (.if_icmp .eq 712, 3) := by decide +kernel
theorem dL_law_401 : decode cL_law 401 = .ok (.iconst 0, 1) := by decide +kernel
theorem dL_law_402 : decode cL_law 402 = .ok (.ireturn, 1) := by decide +kernel
theorem dL_law_403 : decode cL_law 403 = .ok (.aload_n 1, 1) := by decide +kernel
theorem dL_law_404 : decode cL_law 404 = .ok (.aload_n 0, 1) := by decide +kernel
theorem dL_law_405 : decode cL_law 405 = .ok (.iload_n 3, 1) := by decide +kernel
theorem dL_law_406 : decode cL_law 406 = .ok (.iconst 1, 1) := by decide +kernel
theorem dL_law_407 : decode cL_law 407 = .ok (.iadd, 1) := by decide +kernel
theorem dL_law_408 : decode cL_law 408 = .ok (.iaload, 1) := by decide +kernel
theorem dL_law_409 : decode cL_law 409 = .ok (.aload_n 0, 1) := by decide +kernel
theorem dL_law_410 : decode cL_law 410 = .ok (.iload_n 3, 1) := by decide +kernel
theorem dL_law_411 : decode cL_law 411 = .ok (.iconst 2, 1) := by decide +kernel
theorem dL_law_412 : decode cL_law 412 = .ok (.iadd, 1) := by decide +kernel
theorem dL_law_413 : decode cL_law 413 = .ok (.iaload, 1) := by decide +kernel
theorem dL_law_414 : decode cL_law 414 = .ok (.invokevirtual 45, 3) := by decide +kernel
theorem dL_law_417 : decode cL_law 417 = .ok (.aload_n 2, 1) := by decide +kernel
theorem dL_law_418 : decode cL_law 418 = .ok (.aload_n 0, 1) := by decide +kernel
theorem dL_law_419 : decode cL_law 419 = .ok (.iload_n 3, 1) := by decide +kernel
theorem dL_law_420 : decode cL_law 420 = .ok (.iconst 1, 1) := by decide +kernel
theorem dL_law_421 : decode cL_law 421 = .ok (.iadd, 1) := by decide +kernel
theorem dL_law_422 : decode cL_law 422 = .ok (.iaload, 1) := by decide +kernel
theorem dL_law_423 : decode cL_law 423 = .ok (.aload_n 0, 1) := by decide +kernel
theorem dL_law_424 : decode cL_law 424 = .ok (.iload_n 3, 1) := by decide +kernel
theorem dL_law_425 : decode cL_law 425 = .ok (.iconst 2, 1) := by decide +kernel
theorem dL_law_426 : decode cL_law 426 = .ok (.iadd, 1) := by decide +kernel
theorem dL_law_427 : decode cL_law 427 = .ok (.iaload, 1) := by decide +kernel
theorem dL_law_428 : decode cL_law 428 = .ok (.invokevirtual 48, 3) := by decide +kernel
theorem dL_law_431 : decode cL_law 431 = .ok (.if_icmp .eq 679, 3) := by decide +kernel
theorem dL_law_434 : decode cL_law 434 = .ok (.iconst 0, 1) := by decide +kernel
theorem dL_law_435 : decode cL_law 435 = .ok (.ireturn, 1) := by decide +kernel
theorem dL_law_436 : decode cL_law 436 = .ok (.aload_n 1, 1) := by decide +kernel
theorem dL_law_437 : decode cL_law 437 = .ok (.aload_n 0, 1) := by decide +kernel
theorem dL_law_438 : decode cL_law 438 = .ok (.iload_n 3, 1) := by decide +kernel
theorem dL_law_439 : decode cL_law 439 = .ok (.iconst 1, 1) := by decide +kernel
theorem dL_law_440 : decode cL_law 440 = .ok (.iadd, 1) := by decide +kernel
theorem dL_law_441 : decode cL_law 441 = .ok (.iaload, 1) := by decide +kernel
theorem dL_law_442 : decode cL_law 442 = .ok (.aload_n 0, 1) := by decide +kernel
theorem dL_law_443 : decode cL_law 443 = .ok (.iload_n 3, 1) := by decide +kernel
theorem dL_law_444 : decode cL_law 444 = .ok (.iconst 2, 1) := by decide +kernel
theorem dL_law_445 : decode cL_law 445 = .ok (.iadd, 1) := by decide +kernel
theorem dL_law_446 : decode cL_law 446 = .ok (.iaload, 1) := by decide +kernel
theorem dL_law_447 : decode cL_law 447 = .ok (.aload_n 0, 1) := by decide +kernel
theorem dL_law_448 : decode cL_law 448 = .ok (.iload_n 3, 1) := by decide +kernel
theorem dL_law_449 : decode cL_law 449 = .ok (.iconst 3, 1) := by decide +kernel
theorem dL_law_450 : decode cL_law 450 = .ok (.iadd, 1) := by decide +kernel
theorem dL_law_451 : decode cL_law 451 = .ok (.iaload, 1) := by decide +kernel
theorem dL_law_452 : decode cL_law 452 = .ok (.invokevirtual 49, 3) := by decide +kernel
theorem dL_law_455 : decode cL_law 455 = .ok (.aload_n 2, 1) := by decide +kernel
theorem dL_law_456 : decode cL_law 456 = .ok (.aload_n 0, 1) := by decide +kernel
theorem dL_law_457 : decode cL_law 457 = .ok (.iload_n 3, 1) := by decide +kernel
theorem dL_law_458 : decode cL_law 458 = .ok (.iconst 1, 1) := by decide +kernel
theorem dL_law_459 : decode cL_law 459 = .ok (.iadd, 1) := by decide +kernel
theorem dL_law_460 : decode cL_law 460 = .ok (.iaload, 1) := by decide +kernel
theorem dL_law_461 : decode cL_law 461 = .ok (.aload_n 0, 1) := by decide +kernel
theorem dL_law_462 : decode cL_law 462 = .ok (.iload_n 3, 1) := by decide +kernel
theorem dL_law_463 : decode cL_law 463 = .ok (.iconst 2, 1) := by decide +kernel
theorem dL_law_464 : decode cL_law 464 = .ok (.iadd, 1) := by decide +kernel
theorem dL_law_465 : decode cL_law 465 = .ok (.iaload, 1) := by decide +kernel
theorem dL_law_466 : decode cL_law 466 = .ok (.aload_n 0, 1) := by decide +kernel
theorem dL_law_467 : decode cL_law 467 = .ok (.iload_n 3, 1) := by decide +kernel
theorem dL_law_468 : decode cL_law 468 = .ok (.iconst 3, 1) := by decide +kernel
theorem dL_law_469 : decode cL_law 469 = .ok (.iadd, 1) := by decide +kernel
theorem dL_law_470 : decode cL_law 470 = .ok (.iaload, 1) := by decide +kernel
theorem dL_law_471 : decode cL_law 471 = .ok (.invokevirtual 53, 3) := by decide +kernel
theorem dL_law_474 : decode cL_law 474 = .ok (.if_icmp .eq 636, 3) := by decide +kernel
theorem dL_law_477 : decode cL_law 477 = .ok (.iconst 0, 1) := by decide +kernel
theorem dL_law_478 : decode cL_law 478 = .ok (.ireturn, 1) := by decide +kernel
theorem dL_law_479 : decode cL_law 479 = .ok (.aload_n 1, 1) := by decide +kernel
theorem dL_law_480 : decode cL_law 480 = .ok (.aload_n 0, 1) := by decide +kernel
theorem dL_law_481 : decode cL_law 481 = .ok (.iload_n 3, 1) := by decide +kernel
theorem dL_law_482 : decode cL_law 482 = .ok (.iconst 1, 1) := by decide +kernel
theorem dL_law_483 : decode cL_law 483 = .ok (.iadd, 1) := by decide +kernel
theorem dL_law_484 : decode cL_law 484 = .ok (.iaload, 1) := by decide +kernel
theorem dL_law_485 : decode cL_law 485 = .ok (.aload_n 0, 1) := by decide +kernel
theorem dL_law_486 : decode cL_law 486 = .ok (.iload_n 3, 1) := by decide +kernel
theorem dL_law_487 : decode cL_law 487 = .ok (.iconst 2, 1) := by decide +kernel
theorem dL_law_488 : decode cL_law 488 = .ok (.iadd, 1) := by decide +kernel
theorem dL_law_489 : decode cL_law 489 = .ok (.iaload, 1) := by decide +kernel
theorem dL_law_490 : decode cL_law 490 = .ok (.invokevirtual 54, 3) := by decide +kernel
theorem dL_law_493 : decode cL_law 493 = .ok (.aload_n 2, 1) := by decide +kernel
theorem dL_law_494 : decode cL_law 494 = .ok (.aload_n 0, 1) := by decide +kernel
theorem dL_law_495 : decode cL_law 495 = .ok (.iload_n 3, 1) := by decide +kernel
theorem dL_law_496 : decode cL_law 496 = .ok (.iconst 1, 1) := by decide +kernel
theorem dL_law_497 : decode cL_law 497 = .ok (.iadd, 1) := by decide +kernel
theorem dL_law_498 : decode cL_law 498 = .ok (.iaload, 1) := by decide +kernel
theorem dL_law_499 : decode cL_law 499 = .ok (.aload_n 0, 1) := by decide +kernel
theorem dL_law_500 : decode cL_law 500 = .ok (.iload_n 3, 1) := by decide +kernel
theorem dL_law_501 : decode cL_law 501 = .ok (.iconst 2, 1) := by decide +kernel
theorem dL_law_502 : decode cL_law 502 = .ok (.iadd, 1) := by decide +kernel
theorem dL_law_503 : decode cL_law 503 = .ok (.iaload, 1) := by decide +kernel
theorem dL_law_504 : decode cL_law 504 = .ok (.invokevirtual 57, 3) := by decide +kernel
theorem dL_law_507 : decode cL_law 507 = .ok (.if_icmp .eq 603, 3) := by decide +kernel
theorem dL_law_510 : decode cL_law 510 = .ok (.iconst 0, 1) := by decide +kernel
theorem dL_law_511 : decode cL_law 511 = .ok (.ireturn, 1) := by decide +kernel
theorem dL_law_512 : decode cL_law 512 = .ok (.aload_n 1, 1) := by decide +kernel
theorem dL_law_513 : decode cL_law 513 = .ok (.aload_n 0, 1) := by decide +kernel
theorem dL_law_514 : decode cL_law 514 = .ok (.iload_n 3, 1) := by decide +kernel
theorem dL_law_515 : decode cL_law 515 = .ok (.iconst 1, 1) := by decide +kernel
theorem dL_law_516 : decode cL_law 516 = .ok (.iadd, 1) := by decide +kernel
theorem dL_law_517 : decode cL_law 517 = .ok (.iaload, 1) := by decide +kernel
theorem dL_law_518 : decode cL_law 518 = .ok (.invokevirtual 58, 3) := by decide +kernel
theorem dL_law_521 : decode cL_law 521 = .ok (.aload_n 2, 1) := by decide +kernel
theorem dL_law_522 : decode cL_law 522 = .ok (.aload_n 0, 1) := by decide +kernel
theorem dL_law_523 : decode cL_law 523 = .ok (.iload_n 3, 1) := by decide +kernel
theorem dL_law_524 : decode cL_law 524 = .ok (.iconst 1, 1) := by decide +kernel
theorem dL_law_525 : decode cL_law 525 = .ok (.iadd, 1) := by decide +kernel
theorem dL_law_526 : decode cL_law 526 = .ok (.iaload, 1) := by decide +kernel
theorem dL_law_527 : decode cL_law 527 = .ok (.invokevirtual 62, 3) := by decide +kernel
theorem dL_law_530 : decode cL_law 530 = .ok (.if_icmp .eq 580, 3) := by decide +kernel
theorem dL_law_533 : decode cL_law 533 = .ok (.iconst 0, 1) := by decide +kernel
theorem dL_law_534 : decode cL_law 534 = .ok (.ireturn, 1) := by decide +kernel
theorem dL_law_535 : decode cL_law 535 = .ok (.aload_n 1, 1) := by decide +kernel
theorem dL_law_536 : decode cL_law 536 = .ok (.aload_n 0, 1) := by decide +kernel
theorem dL_law_537 : decode cL_law 537 = .ok (.iload_n 3, 1) := by decide +kernel
theorem dL_law_538 : decode cL_law 538 = .ok (.iconst 1, 1) := by decide +kernel
theorem dL_law_539 : decode cL_law 539 = .ok (.iadd, 1) := by decide +kernel
theorem dL_law_540 : decode cL_law 540 = .ok (.iaload, 1) := by decide +kernel
theorem dL_law_541 : decode cL_law 541 = .ok (.invokevirtual 63, 3) := by decide +kernel
theorem dL_law_544 : decode cL_law 544 = .ok (.aload_n 2, 1) := by decide +kernel
theorem dL_law_545 : decode cL_law 545 = .ok (.aload_n 0, 1) := by decide +kernel
theorem dL_law_546 : decode cL_law 546 = .ok (.iload_n 3, 1) := by decide +kernel
theorem dL_law_547 : decode cL_law 547 = .ok (.iconst 1, 1) := by decide +kernel
theorem dL_law_548 : decode cL_law 548 = .ok (.iadd, 1) := by decide +kernel
theorem dL_law_549 : decode cL_law 549 = .ok (.iaload, 1) := by decide +kernel
theorem dL_law_550 : decode cL_law 550 = .ok (.invokevirtual 66, 3) := by decide +kernel
theorem dL_law_553 : decode cL_law 553 = .ok (.if_icmp .eq 557, 3) := by decide +kernel
theorem dL_law_556 : decode cL_law 556 = .ok (.iconst 0, 1) := by decide +kernel
theorem dL_law_557 : decode cL_law 557 = .ok (.ireturn, 1) := by decide +kernel
theorem dL_law_558 : decode cL_law 558 = .ok (.aload_n 1, 1) := by decide +kernel
theorem dL_law_559 : decode cL_law 559 = .ok (.aload_n 0, 1) := by decide +kernel
theorem dL_law_560 : decode cL_law 560 = .ok (.iload_n 3, 1) := by decide +kernel
theorem dL_law_561 : decode cL_law 561 = .ok (.iconst 1, 1) := by decide +kernel
theorem dL_law_562 : decode cL_law 562 = .ok (.iadd, 1) := by decide +kernel
theorem dL_law_563 : decode cL_law 563 = .ok (.iaload, 1) := by decide +kernel
theorem dL_law_564 : decode cL_law 564 = .ok (.invokevirtual 67, 3) := by decide +kernel
theorem dL_law_567 : decode cL_law 567 = .ok (.aload_n 2, 1) := by decide +kernel
theorem dL_law_568 : decode cL_law 568 = .ok (.aload_n 0, 1) := by decide +kernel
theorem dL_law_569 : decode cL_law 569 = .ok (.iload_n 3, 1) := by decide +kernel
theorem dL_law_570 : decode cL_law 570 = .ok (.iconst 1, 1) := by decide +kernel
theorem dL_law_571 : decode cL_law 571 = .ok (.iadd, 1) := by decide +kernel
theorem dL_law_572 : decode cL_law 572 = .ok (.iaload, 1) := by decide +kernel
theorem dL_law_573 : decode cL_law 573 = .ok (.invokevirtual 70, 3) := by decide +kernel
theorem dL_law_576 : decode cL_law 576 = .ok (.if_icmp .eq 534, 3) := by decide +kernel
theorem dL_law_579 : decode cL_law 579 = .ok (.iconst 0, 1) := by decide +kernel
theorem dL_law_580 : decode cL_law 580 = .ok (.ireturn, 1) := by decide +kernel
theorem dL_law_581 : decode cL_law 581 = .ok (.aload_n 1, 1) := by decide +kernel
theorem dL_law_582 : decode cL_law 582 = .ok (.invokevirtual 71, 3) := by decide +kernel
theorem dL_law_585 : decode cL_law 585 = .ok (.aload_n 2, 1) := by decide +kernel
theorem dL_law_586 : decode cL_law 586 = .ok (.invokevirtual 74, 3) := by decide +kernel
theorem dL_law_589 : decode cL_law 589 = .ok (.if_icmp .eq 521, 3) := by decide +kernel
theorem dL_law_592 : decode cL_law 592 = .ok (.iconst 0, 1) := by decide +kernel
theorem dL_law_593 : decode cL_law 593 = .ok (.ireturn, 1) := by decide +kernel
theorem dL_law_594 : decode cL_law 594 = .ok (.aload_n 1, 1) := by decide +kernel
theorem dL_law_595 : decode cL_law 595 = .ok (.aload_n 0, 1) := by decide +kernel
theorem dL_law_596 : decode cL_law 596 = .ok (.iload_n 3, 1) := by decide +kernel
theorem dL_law_597 : decode cL_law 597 = .ok (.iconst 1, 1) := by decide +kernel
theorem dL_law_598 : decode cL_law 598 = .ok (.iadd, 1) := by decide +kernel
theorem dL_law_599 : decode cL_law 599 = .ok (.iaload, 1) := by decide +kernel
theorem dL_law_600 : decode cL_law 600 = .ok (.invokevirtual 75, 3) := by decide +kernel
theorem dL_law_603 : decode cL_law 603 = .ok (.aload_n 2, 1) := by decide +kernel
theorem dL_law_604 : decode cL_law 604 = .ok (.aload_n 0, 1) := by decide +kernel
theorem dL_law_605 : decode cL_law 605 = .ok (.iload_n 3, 1) := by decide +kernel
theorem dL_law_606 : decode cL_law 606 = .ok (.iconst 1, 1) := by decide +kernel
theorem dL_law_607 : decode cL_law 607 = .ok (.iadd, 1) := by decide +kernel
theorem dL_law_608 : decode cL_law 608 = .ok (.iaload, 1) := by decide +kernel
theorem dL_law_609 : decode cL_law 609 = .ok (.invokevirtual 78, 3) := by decide +kernel
theorem dL_law_612 : decode cL_law 612 = .ok (.if_icmp .eq 498, 3) := by decide +kernel
theorem dL_law_615 : decode cL_law 615 = .ok (.iconst 0, 1) := by decide +kernel
theorem dL_law_616 : decode cL_law 616 = .ok (.ireturn, 1) := by decide +kernel
theorem dL_law_617 : decode cL_law 617 = .ok (.aload_n 1, 1) := by decide +kernel
theorem dL_law_618 : decode cL_law 618 = .ok (.aload_n 0, 1) := by decide +kernel
theorem dL_law_619 : decode cL_law 619 = .ok (.iload_n 3, 1) := by decide +kernel
theorem dL_law_620 : decode cL_law 620 = .ok (.iconst 1, 1) := by decide +kernel
theorem dL_law_621 : decode cL_law 621 = .ok (.iadd, 1) := by decide +kernel
theorem dL_law_622 : decode cL_law 622 = .ok (.iaload, 1) := by decide +kernel
theorem dL_law_623 : decode cL_law 623 = .ok (.aload_n 0, 1) := by decide +kernel
theorem dL_law_624 : decode cL_law 624 = .ok (.iload_n 3, 1) := by decide +kernel
theorem dL_law_625 : decode cL_law 625 = .ok (.iconst 2, 1) := by decide +kernel
theorem dL_law_626 : decode cL_law 626 = .ok (.iadd, 1) := by decide +kernel
theorem dL_law_627 : decode cL_law 627 = .ok (.iaload, 1) := by decide +kernel
theorem dL_law_628 : decode cL_law 628 = .ok (.aload_n 0, 1) := by decide +kernel
theorem dL_law_629 : decode cL_law 629 = .ok (.iload_n 3, 1) := by decide +kernel
theorem dL_law_630 : decode cL_law 630 = .ok (.iconst 3, 1) := by decide +kernel
theorem dL_law_631 : decode cL_law 631 = .ok (.iadd, 1) := by decide +kernel
theorem dL_law_632 : decode cL_law 632 = .ok (.iaload, 1) := by decide +kernel
theorem dL_law_633 : decode cL_law 633 = .ok (.invokevirtual 79, 3) := by decide +kernel
theorem dL_law_636 : decode cL_law 636 = .ok (.aload_n 2, 1) := by decide +kernel
theorem dL_law_637 : decode cL_law 637 = .ok (.aload_n 0, 1) := by decide +kernel
theorem dL_law_638 : decode cL_law 638 = .ok (.iload_n 3, 1) := by decide +kernel
theorem dL_law_639 : decode cL_law 639 = .ok (.iconst 1, 1) := by decide +kernel
theorem dL_law_640 : decode cL_law 640 = .ok (.iadd, 1) := by decide +kernel
theorem dL_law_641 : decode cL_law 641 = .ok (.iaload, 1) := by decide +kernel
theorem dL_law_642 : decode cL_law 642 = .ok (.aload_n 0, 1) := by decide +kernel
theorem dL_law_643 : decode cL_law 643 = .ok (.iload_n 3, 1) := by decide +kernel
theorem dL_law_644 : decode cL_law 644 = .ok (.iconst 2, 1) := by decide +kernel
theorem dL_law_645 : decode cL_law 645 = .ok (.iadd, 1) := by decide +kernel
theorem dL_law_646 : decode cL_law 646 = .ok (.iaload, 1) := by decide +kernel
theorem dL_law_647 : decode cL_law 647 = .ok (.aload_n 0, 1) := by decide +kernel
theorem dL_law_648 : decode cL_law 648 = .ok (.iload_n 3, 1) := by decide +kernel
theorem dL_law_649 : decode cL_law 649 = .ok (.iconst 3, 1) := by decide +kernel
theorem dL_law_650 : decode cL_law 650 = .ok (.iadd, 1) := by decide +kernel
theorem dL_law_651 : decode cL_law 651 = .ok (.iaload, 1) := by decide +kernel
theorem dL_law_652 : decode cL_law 652 = .ok (.invokevirtual 82, 3) := by decide +kernel
theorem dL_law_655 : decode cL_law 655 = .ok (.if_icmp .eq 455, 3) := by decide +kernel
theorem dL_law_658 : decode cL_law 658 = .ok (.iconst 0, 1) := by decide +kernel
theorem dL_law_659 : decode cL_law 659 = .ok (.ireturn, 1) := by decide +kernel
theorem dL_law_660 : decode cL_law 660 = .ok (.aload_n 1, 1) := by decide +kernel
theorem dL_law_661 : decode cL_law 661 = .ok (.aload_n 0, 1) := by decide +kernel
theorem dL_law_662 : decode cL_law 662 = .ok (.iload_n 3, 1) := by decide +kernel
theorem dL_law_663 : decode cL_law 663 = .ok (.iconst 1, 1) := by decide +kernel
theorem dL_law_664 : decode cL_law 664 = .ok (.iadd, 1) := by decide +kernel
theorem dL_law_665 : decode cL_law 665 = .ok (.iaload, 1) := by decide +kernel
theorem dL_law_666 : decode cL_law 666 = .ok (.invokevirtual 83, 3) := by decide +kernel
theorem dL_law_669 : decode cL_law 669 = .ok (.aload_n 2, 1) := by decide +kernel
theorem dL_law_670 : decode cL_law 670 = .ok (.aload_n 0, 1) := by decide +kernel
theorem dL_law_671 : decode cL_law 671 = .ok (.iload_n 3, 1) := by decide +kernel
theorem dL_law_672 : decode cL_law 672 = .ok (.iconst 1, 1) := by decide +kernel
theorem dL_law_673 : decode cL_law 673 = .ok (.iadd, 1) := by decide +kernel
theorem dL_law_674 : decode cL_law 674 = .ok (.iaload, 1) := by decide +kernel
theorem dL_law_675 : decode cL_law 675 = .ok (.invokevirtual 86, 3) := by decide +kernel
theorem dL_law_678 : decode cL_law 678 = .ok (.if_icmp .eq 432, 3) := by decide +kernel
theorem dL_law_681 : decode cL_law 681 = .ok (.iconst 0, 1) := by decide +kernel
theorem dL_law_682 : decode cL_law 682 = .ok (.ireturn, 1) := by decide +kernel
theorem dL_law_683 : decode cL_law 683 = .ok (.aload_n 1, 1) := by decide +kernel
theorem dL_law_684 : decode cL_law 684 = .ok (.aload_n 0, 1) := by decide +kernel
theorem dL_law_685 : decode cL_law 685 = .ok (.iload_n 3, 1) := by decide +kernel
theorem dL_law_686 : decode cL_law 686 = .ok (.iconst 1, 1) := by decide +kernel
theorem dL_law_687 : decode cL_law 687 = .ok (.iadd, 1) := by decide +kernel
theorem dL_law_688 : decode cL_law 688 = .ok (.iaload, 1) := by decide +kernel
theorem dL_law_689 : decode cL_law 689 = .ok (.aload_n 0, 1) := by decide +kernel
theorem dL_law_690 : decode cL_law 690 = .ok (.iload_n 3, 1) := by decide +kernel
theorem dL_law_691 : decode cL_law 691 = .ok (.iconst 2, 1) := by decide +kernel
theorem dL_law_692 : decode cL_law 692 = .ok (.iadd, 1) := by decide +kernel
theorem dL_law_693 : decode cL_law 693 = .ok (.iaload, 1) := by decide +kernel
theorem dL_law_694 : decode cL_law 694 = .ok (.invokevirtual 87, 3) := by decide +kernel
theorem dL_law_697 : decode cL_law 697 = .ok (.aload_n 2, 1) := by decide +kernel
theorem dL_law_698 : decode cL_law 698 = .ok (.aload_n 0, 1) := by decide +kernel
theorem dL_law_699 : decode cL_law 699 = .ok (.iload_n 3, 1) := by decide +kernel
theorem dL_law_700 : decode cL_law 700 = .ok (.iconst 1, 1) := by decide +kernel
theorem dL_law_701 : decode cL_law 701 = .ok (.iadd, 1) := by decide +kernel
theorem dL_law_702 : decode cL_law 702 = .ok (.iaload, 1) := by decide +kernel
theorem dL_law_703 : decode cL_law 703 = .ok (.aload_n 0, 1) := by decide +kernel
theorem dL_law_704 : decode cL_law 704 = .ok (.iload_n 3, 1) := by decide +kernel
theorem dL_law_705 : decode cL_law 705 = .ok (.iconst 2, 1) := by decide +kernel
theorem dL_law_706 : decode cL_law 706 = .ok (.iadd, 1) := by decide +kernel
theorem dL_law_707 : decode cL_law 707 = .ok (.iaload, 1) := by decide +kernel
theorem dL_law_708 : decode cL_law 708 = .ok (.invokevirtual 90, 3) := by decide +kernel
theorem dL_law_711 : decode cL_law 711 = .ok (.if_icmp .eq 399, 3) := by decide +kernel
theorem dL_law_714 : decode cL_law 714 = .ok (.iconst 0, 1) := by decide +kernel
theorem dL_law_715 : decode cL_law 715 = .ok (.ireturn, 1) := by decide +kernel
theorem dL_law_716 : decode cL_law 716 = .ok (.aload_n 1, 1) := by decide +kernel
theorem dL_law_717 : decode cL_law 717 = .ok (.invokevirtual 91, 3) := by decide +kernel
theorem dL_law_720 : decode cL_law 720 = .ok (.aload_n 2, 1) := by decide +kernel
theorem dL_law_721 : decode cL_law 721 = .ok (.invokevirtual 94, 3) := by decide +kernel
theorem dL_law_724 : decode cL_law 724 = .ok (.if_icmp .eq 386, 3) := by decide +kernel
theorem dL_law_727 : decode cL_law 727 = .ok (.iconst 0, 1) := by decide +kernel
theorem dL_law_728 : decode cL_law 728 = .ok (.ireturn, 1) := by decide +kernel
theorem dL_law_729 : decode cL_law 729 = .ok (.aload_n 1, 1) := by decide +kernel
theorem dL_law_730 : decode cL_law 730 = .ok (.invokevirtual 95, 3) := by decide +kernel
theorem dL_law_733 : decode cL_law 733 = .ok (.aload_n 2, 1) := by decide +kernel
theorem dL_law_734 : decode cL_law 734 = .ok (.invokevirtual 98, 3) := by decide +kernel
theorem dL_law_737 : decode cL_law 737 = .ok (.if_icmp .eq 373, 3) := by decide +kernel
theorem dL_law_740 : decode cL_law 740 = .ok (.iconst 0, 1) := by decide +kernel
theorem dL_law_741 : decode cL_law 741 = .ok (.ireturn, 1) := by decide +kernel
theorem dL_law_742 : decode cL_law 742 = .ok (.aload_n 1, 1) := by decide +kernel
theorem dL_law_743 : decode cL_law 743 = .ok (.invokevirtual 99, 3) := by decide +kernel
theorem dL_law_746 : decode cL_law 746 = .ok (.aload_n 2, 1) := by decide +kernel
theorem dL_law_747 : decode cL_law 747 = .ok (.invokevirtual 102, 3) := by decide +kernel
theorem dL_law_750 : decode cL_law 750 = .ok (.if_icmp .eq 360, 3) := by decide +kernel
theorem dL_law_753 : decode cL_law 753 = .ok (.iconst 0, 1) := by decide +kernel
theorem dL_law_754 : decode cL_law 754 = .ok (.ireturn, 1) := by decide +kernel
theorem dL_law_755 : decode cL_law 755 = .ok (.aload_n 1, 1) := by decide +kernel
theorem dL_law_756 : decode cL_law 756 = .ok (.aload_n 0, 1) := by decide +kernel
theorem dL_law_757 : decode cL_law 757 = .ok (.iload_n 3, 1) := by decide +kernel
theorem dL_law_758 : decode cL_law 758 = .ok (.iconst 1, 1) := by decide +kernel
theorem dL_law_759 : decode cL_law 759 = .ok (.iadd, 1) := by decide +kernel
theorem dL_law_760 : decode cL_law 760 = .ok (.iaload, 1) := by decide +kernel
theorem dL_law_761 : decode cL_law 761 = .ok (.invokevirtual 103, 3) := by decide +kernel
theorem dL_law_764 : decode cL_law 764 = .ok (.aload_n 2, 1) := by decide +kernel
theorem dL_law_765 : decode cL_law 765 = .ok (.aload_n 0, 1) := by decide +kernel
theorem dL_law_766 : decode cL_law 766 = .ok (.iload_n 3, 1) := by decide +kernel
theorem dL_law_767 : decode cL_law 767 = .ok (.iconst 1, 1) := by decide +kernel
theorem dL_law_768 : decode cL_law 768 = .ok (.iadd, 1) := by decide +kernel
theorem dL_law_769 : decode cL_law 769 = .ok (.iaload, 1) := by decide +kernel
theorem dL_law_770 : decode cL_law 770 = .ok (.invokevirtual 106, 3) := by decide +kernel
theorem dL_law_773 : decode cL_law 773 = .ok (.if_icmp .eq 337, 3) := by decide +kernel
theorem dL_law_776 : decode cL_law 776 = .ok (.iconst 0, 1) := by decide +kernel
theorem dL_law_777 : decode cL_law 777 = .ok (.ireturn, 1) := by decide +kernel
theorem dL_law_778 : decode cL_law 778 = .ok (.aload_n 1, 1) := by decide +kernel
theorem dL_law_779 : decode cL_law 779 = .ok (.aload_n 0, 1) := by decide +kernel
theorem dL_law_780 : decode cL_law 780 = .ok (.iload_n 3, 1) := by decide +kernel
theorem dL_law_781 : decode cL_law 781 = .ok (.iconst 1, 1) := by decide +kernel
theorem dL_law_782 : decode cL_law 782 = .ok (.iadd, 1) := by decide +kernel
theorem dL_law_783 : decode cL_law 783 = .ok (.iaload, 1) := by decide +kernel
theorem dL_law_784 : decode cL_law 784 = .ok (.invokevirtual 107, 3) := by decide +kernel
theorem dL_law_787 : decode cL_law 787 = .ok (.aload_n 2, 1) := by decide +kernel
theorem dL_law_788 : decode cL_law 788 = .ok (.aload_n 0, 1) := by decide +kernel
theorem dL_law_789 : decode cL_law 789 = .ok (.iload_n 3, 1) := by decide +kernel
theorem dL_law_790 : decode cL_law 790 = .ok (.iconst 1, 1) := by decide +kernel
theorem dL_law_791 : decode cL_law 791 = .ok (.iadd, 1) := by decide +kernel
theorem dL_law_792 : decode cL_law 792 = .ok (.iaload, 1) := by decide +kernel
theorem dL_law_793 : decode cL_law 793 = .ok (.invokevirtual 110, 3) := by decide +kernel
theorem dL_law_796 : decode cL_law 796 = .ok (.if_icmp .eq 314, 3) := by decide +kernel
theorem dL_law_799 : decode cL_law 799 = .ok (.iconst 0, 1) := by decide +kernel
theorem dL_law_800 : decode cL_law 800 = .ok (.ireturn, 1) := by decide +kernel
theorem dL_law_801 : decode cL_law 801 = .ok (.aload_n 1, 1) := by decide +kernel
theorem dL_law_802 : decode cL_law 802 = .ok (.aload_n 0, 1) := by decide +kernel
theorem dL_law_803 : decode cL_law 803 = .ok (.iload_n 3, 1) := by decide +kernel
theorem dL_law_804 : decode cL_law 804 = .ok (.iconst 1, 1) := by decide +kernel
theorem dL_law_805 : decode cL_law 805 = .ok (.iadd, 1) := by decide +kernel
theorem dL_law_806 : decode cL_law 806 = .ok (.iaload, 1) := by decide +kernel
theorem dL_law_807 : decode cL_law 807 = .ok (.invokevirtual 111, 3) := by decide +kernel
theorem dL_law_810 : decode cL_law 810 = .ok (.aload_n 2, 1) := by decide +kernel
theorem dL_law_811 : decode cL_law 811 = .ok (.aload_n 0, 1) := by decide +kernel
theorem dL_law_812 : decode cL_law 812 = .ok (.iload_n 3, 1) := by decide +kernel
theorem dL_law_813 : decode cL_law 813 = .ok (.iconst 1, 1) := by decide +kernel
theorem dL_law_814 : decode cL_law 814 = .ok (.iadd, 1) := by decide +kernel
theorem dL_law_815 : decode cL_law 815 = .ok (.iaload, 1) := by decide +kernel
theorem dL_law_816 : decode cL_law 816 = .ok (.invokevirtual 114, 3) := by decide +kernel
theorem dL_law_819 : decode cL_law 819 = .ok (.if_icmp .eq 291, 3) := by decide +kernel
theorem dL_law_822 : decode cL_law 822 = .ok (.iconst 0, 1) := by decide +kernel
theorem dL_law_823 : decode cL_law 823 = .ok (.ireturn, 1) := by decide +kernel
theorem dL_law_824 : decode cL_law 824 = .ok (.aload_n 1, 1) := by decide +kernel
theorem dL_law_825 : decode cL_law 825 = .ok (.aload_n 0, 1) := by decide +kernel
theorem dL_law_826 : decode cL_law 826 = .ok (.iload_n 3, 1) := by decide +kernel
theorem dL_law_827 : decode cL_law 827 = .ok (.iconst 1, 1) := by decide +kernel
theorem dL_law_828 : decode cL_law 828 = .ok (.iadd, 1) := by decide +kernel
theorem dL_law_829 : decode cL_law 829 = .ok (.iaload, 1) := by decide +kernel
theorem dL_law_830 : decode cL_law 830 = .ok (.invokevirtual 115, 3) := by decide +kernel
theorem dL_law_833 : decode cL_law 833 = .ok (.aload_n 2, 1) := by decide +kernel
theorem dL_law_834 : decode cL_law 834 = .ok (.aload_n 0, 1) := by decide +kernel
theorem dL_law_835 : decode cL_law 835 = .ok (.iload_n 3, 1) := by decide +kernel
theorem dL_law_836 : decode cL_law 836 = .ok (.iconst 1, 1) := by decide +kernel
theorem dL_law_837 : decode cL_law 837 = .ok (.iadd, 1) := by decide +kernel
theorem dL_law_838 : decode cL_law 838 = .ok (.iaload, 1) := by decide +kernel
theorem dL_law_839 : decode cL_law 839 = .ok (.invokevirtual 118, 3) := by decide +kernel
theorem dL_law_842 : decode cL_law 842 = .ok (.if_icmp .eq 268, 3) := by decide +kernel
theorem dL_law_845 : decode cL_law 845 = .ok (.iconst 0, 1) := by decide +kernel
theorem dL_law_846 : decode cL_law 846 = .ok (.ireturn, 1) := by decide +kernel
theorem dL_law_847 : decode cL_law 847 = .ok (.aload_n 1, 1) := by decide +kernel
theorem dL_law_848 : decode cL_law 848 = .ok (.aload_n 0, 1) := by decide +kernel
theorem dL_law_849 : decode cL_law 849 = .ok (.iload_n 3, 1) := by decide +kernel
theorem dL_law_850 : decode cL_law 850 = .ok (.iconst 1, 1) := by decide +kernel
theorem dL_law_851 : decode cL_law 851 = .ok (.iadd, 1) := by decide +kernel
theorem dL_law_852 : decode cL_law 852 = .ok (.iaload, 1) := by decide +kernel
theorem dL_law_853 : decode cL_law 853 = .ok (.invokevirtual 119, 3) := by decide +kernel
theorem dL_law_856 : decode cL_law 856 = .ok (.aload_n 2, 1) := by decide +kernel
theorem dL_law_857 : decode cL_law 857 = .ok (.aload_n 0, 1) := by decide +kernel
theorem dL_law_858 : decode cL_law 858 = .ok (.iload_n 3, 1) := by decide +kernel
theorem dL_law_859 : decode cL_law 859 = .ok (.iconst 1, 1) := by decide +kernel
theorem dL_law_860 : decode cL_law 860 = .ok (.iadd, 1) := by decide +kernel
theorem dL_law_861 : decode cL_law 861 = .ok (.iaload, 1) := by decide +kernel
theorem dL_law_862 : decode cL_law 862 = .ok (.invokevirtual 122, 3) := by decide +kernel
theorem dL_law_865 : decode cL_law 865 = .ok (.if_icmp .eq 245, 3) := by decide +kernel
theorem dL_law_868 : decode cL_law 868 = .ok (.iconst 0, 1) := by decide +kernel
theorem dL_law_869 : decode cL_law 869 = .ok (.ireturn, 1) := by decide +kernel
theorem dL_law_870 : decode cL_law 870 = .ok (.aload_n 1, 1) := by decide +kernel
theorem dL_law_871 : decode cL_law 871 = .ok (.aload_n 0, 1) := by decide +kernel
theorem dL_law_872 : decode cL_law 872 = .ok (.iload_n 3, 1) := by decide +kernel
theorem dL_law_873 : decode cL_law 873 = .ok (.iconst 1, 1) := by decide +kernel
theorem dL_law_874 : decode cL_law 874 = .ok (.iadd, 1) := by decide +kernel
theorem dL_law_875 : decode cL_law 875 = .ok (.iaload, 1) := by decide +kernel
theorem dL_law_876 : decode cL_law 876 = .ok (.invokevirtual 123, 3) := by decide +kernel
theorem dL_law_879 : decode cL_law 879 = .ok (.aload_n 2, 1) := by decide +kernel
theorem dL_law_880 : decode cL_law 880 = .ok (.aload_n 0, 1) := by decide +kernel
theorem dL_law_881 : decode cL_law 881 = .ok (.iload_n 3, 1) := by decide +kernel
theorem dL_law_882 : decode cL_law 882 = .ok (.iconst 1, 1) := by decide +kernel
theorem dL_law_883 : decode cL_law 883 = .ok (.iadd, 1) := by decide +kernel
theorem dL_law_884 : decode cL_law 884 = .ok (.iaload, 1) := by decide +kernel
theorem dL_law_885 : decode cL_law 885 = .ok (.invokevirtual 126, 3) := by decide +kernel
theorem dL_law_888 : decode cL_law 888 = .ok (.if_icmp .eq 222, 3) := by decide +kernel
theorem dL_law_891 : decode cL_law 891 = .ok (.iconst 0, 1) := by decide +kernel
theorem dL_law_892 : decode cL_law 892 = .ok (.ireturn, 1) := by decide +kernel
theorem dL_law_893 : decode cL_law 893 = .ok (.aload_n 1, 1) := by decide +kernel
theorem dL_law_894 : decode cL_law 894 = .ok (.aload_n 0, 1) := by decide +kernel
theorem dL_law_895 : decode cL_law 895 = .ok (.iload_n 3, 1) := by decide +kernel
theorem dL_law_896 : decode cL_law 896 = .ok (.iconst 1, 1) := by decide +kernel
theorem dL_law_897 : decode cL_law 897 = .ok (.iadd, 1) := by decide +kernel
theorem dL_law_898 : decode cL_law 898 = .ok (.iaload, 1) := by decide +kernel
theorem dL_law_899 : decode cL_law 899 = .ok (.aload_n 0, 1) := by decide +kernel
theorem dL_law_900 : decode cL_law 900 = .ok (.iload_n 3, 1) := by decide +kernel
theorem dL_law_901 : decode cL_law 901 = .ok (.iconst 2, 1) := by decide +kernel
theorem dL_law_902 : decode cL_law 902 = .ok (.iadd, 1) := by decide +kernel
theorem dL_law_903 : decode cL_law 903 = .ok (.iaload, 1) := by decide +kernel
theorem dL_law_904 : decode cL_law 904 = .ok (.invokevirtual 127, 3) := by decide +kernel
theorem dL_law_907 : decode cL_law 907 = .ok (.aload_n 2, 1) := by decide +kernel
theorem dL_law_908 : decode cL_law 908 = .ok (.aload_n 0, 1) := by decide +kernel
theorem dL_law_909 : decode cL_law 909 = .ok (.iload_n 3, 1) := by decide +kernel
theorem dL_law_910 : decode cL_law 910 = .ok (.iconst 1, 1) := by decide +kernel
theorem dL_law_911 : decode cL_law 911 = .ok (.iadd, 1) := by decide +kernel
theorem dL_law_912 : decode cL_law 912 = .ok (.iaload, 1) := by decide +kernel
theorem dL_law_913 : decode cL_law 913 = .ok (.aload_n 0, 1) := by decide +kernel
theorem dL_law_914 : decode cL_law 914 = .ok (.iload_n 3, 1) := by decide +kernel
theorem dL_law_915 : decode cL_law 915 = .ok (.iconst 2, 1) := by decide +kernel
theorem dL_law_916 : decode cL_law 916 = .ok (.iadd, 1) := by decide +kernel
theorem dL_law_917 : decode cL_law 917 = .ok (.iaload, 1) := by decide +kernel
theorem dL_law_918 : decode cL_law 918 = .ok (.invokevirtual 130, 3) := by decide +kernel
theorem dL_law_921 : decode cL_law 921 = .ok (.if_icmp .eq 189, 3) := by decide +kernel
theorem dL_law_924 : decode cL_law 924 = .ok (.iconst 0, 1) := by decide +kernel
theorem dL_law_925 : decode cL_law 925 = .ok (.ireturn, 1) := by decide +kernel
theorem dL_law_926 : decode cL_law 926 = .ok (.aload_n 1, 1) := by decide +kernel
theorem dL_law_927 : decode cL_law 927 = .ok (.aload_n 0, 1) := by decide +kernel
theorem dL_law_928 : decode cL_law 928 = .ok (.iload_n 3, 1) := by decide +kernel
theorem dL_law_929 : decode cL_law 929 = .ok (.iconst 1, 1) := by decide +kernel
theorem dL_law_930 : decode cL_law 930 = .ok (.iadd, 1) := by decide +kernel
theorem dL_law_931 : decode cL_law 931 = .ok (.iaload, 1) := by decide +kernel
theorem dL_law_932 : decode cL_law 932 = .ok (.aload_n 0, 1) := by decide +kernel
theorem dL_law_933 : decode cL_law 933 = .ok (.iload_n 3, 1) := by decide +kernel
theorem dL_law_934 : decode cL_law 934 = .ok (.iconst 2, 1) := by decide +kernel
theorem dL_law_935 : decode cL_law 935 = .ok (.iadd, 1) := by decide +kernel
theorem dL_law_936 : decode cL_law 936 = .ok (.iaload, 1) := by decide +kernel
theorem dL_law_937 : decode cL_law 937 = .ok (.invokevirtual 131, 3) := by decide +kernel
theorem dL_law_940 : decode cL_law 940 = .ok (.aload_n 2, 1) := by decide +kernel
theorem dL_law_941 : decode cL_law 941 = .ok (.aload_n 0, 1) := by decide +kernel
theorem dL_law_942 : decode cL_law 942 = .ok (.iload_n 3, 1) := by decide +kernel
theorem dL_law_943 : decode cL_law 943 = .ok (.iconst 1, 1) := by decide +kernel
theorem dL_law_944 : decode cL_law 944 = .ok (.iadd, 1) := by decide +kernel
theorem dL_law_945 : decode cL_law 945 = .ok (.iaload, 1) := by decide +kernel
theorem dL_law_946 : decode cL_law 946 = .ok (.aload_n 0, 1) := by decide +kernel
theorem dL_law_947 : decode cL_law 947 = .ok (.iload_n 3, 1) := by decide +kernel
theorem dL_law_948 : decode cL_law 948 = .ok (.iconst 2, 1) := by decide +kernel
theorem dL_law_949 : decode cL_law 949 = .ok (.iadd, 1) := by decide +kernel
theorem dL_law_950 : decode cL_law 950 = .ok (.iaload, 1) := by decide +kernel
theorem dL_law_951 : decode cL_law 951 = .ok (.invokevirtual 134, 3) := by decide +kernel
theorem dL_law_954 : decode cL_law 954 = .ok (.if_icmp .eq 156, 3) := by decide +kernel
theorem dL_law_957 : decode cL_law 957 = .ok (.iconst 0, 1) := by decide +kernel
theorem dL_law_958 : decode cL_law 958 = .ok (.ireturn, 1) := by decide +kernel
theorem dL_law_959 : decode cL_law 959 = .ok (.aload_n 1, 1) := by decide +kernel
theorem dL_law_960 : decode cL_law 960 = .ok (.aload_n 0, 1) := by decide +kernel
theorem dL_law_961 : decode cL_law 961 = .ok (.iload_n 3, 1) := by decide +kernel
theorem dL_law_962 : decode cL_law 962 = .ok (.iconst 1, 1) := by decide +kernel
theorem dL_law_963 : decode cL_law 963 = .ok (.iadd, 1) := by decide +kernel
theorem dL_law_964 : decode cL_law 964 = .ok (.iaload, 1) := by decide +kernel
theorem dL_law_965 : decode cL_law 965 = .ok (.invokevirtual 135, 3) := by decide +kernel
theorem dL_law_968 : decode cL_law 968 = .ok (.aload_n 2, 1) := by decide +kernel
theorem dL_law_969 : decode cL_law 969 = .ok (.aload_n 0, 1) := by decide +kernel
theorem dL_law_970 : decode cL_law 970 = .ok (.iload_n 3, 1) := by decide +kernel
theorem dL_law_971 : decode cL_law 971 = .ok (.iconst 1, 1) := by decide +kernel
theorem dL_law_972 : decode cL_law 972 = .ok (.iadd, 1) := by decide +kernel
theorem dL_law_973 : decode cL_law 973 = .ok (.iaload, 1) := by decide +kernel
theorem dL_law_974 : decode cL_law 974 = .ok (.invokevirtual 138, 3) := by decide +kernel
theorem dL_law_977 : decode cL_law 977 = .ok (.if_icmp .eq 133, 3) := by decide +kernel
theorem dL_law_980 : decode cL_law 980 = .ok (.iconst 0, 1) := by decide +kernel
theorem dL_law_981 : decode cL_law 981 = .ok (.ireturn, 1) := by decide +kernel
theorem dL_law_982 : decode cL_law 982 = .ok (.aload_n 1, 1) := by decide +kernel
theorem dL_law_983 : decode cL_law 983 = .ok (.aload_n 0, 1) := by decide +kernel
theorem dL_law_984 : decode cL_law 984 = .ok (.iload_n 3, 1) := by decide +kernel
theorem dL_law_985 : decode cL_law 985 = .ok (.iconst 1, 1) := by decide +kernel
theorem dL_law_986 : decode cL_law 986 = .ok (.iadd, 1) := by decide +kernel
theorem dL_law_987 : decode cL_law 987 = .ok (.iaload, 1) := by decide +kernel
theorem dL_law_988 : decode cL_law 988 = .ok (.invokevirtual 139, 3) := by decide +kernel
theorem dL_law_991 : decode cL_law 991 = .ok (.aload_n 2, 1) := by decide +kernel
theorem dL_law_992 : decode cL_law 992 = .ok (.aload_n 0, 1) := by decide +kernel
theorem dL_law_993 : decode cL_law 993 = .ok (.iload_n 3, 1) := by decide +kernel
theorem dL_law_994 : decode cL_law 994 = .ok (.iconst 1, 1) := by decide +kernel
theorem dL_law_995 : decode cL_law 995 = .ok (.iadd, 1) := by decide +kernel
theorem dL_law_996 : decode cL_law 996 = .ok (.iaload, 1) := by decide +kernel
theorem dL_law_997 : decode cL_law 997 = .ok (.invokevirtual 142, 3) := by decide +kernel
theorem dL_law_1000 : decode cL_law 1000 = .ok (.if_icmp .eq 110, 3) := by decide +kernel
theorem dL_law_1003 : decode cL_law 1003 = .ok (.iconst 0, 1) := by decide +kernel
theorem dL_law_1004 : decode cL_law 1004 = .ok (.ireturn, 1) := by decide +kernel
theorem dL_law_1005 : decode cL_law 1005 = .ok (.aload_n 1, 1) := by decide +kernel
theorem dL_law_1006 : decode cL_law 1006 = .ok (.invokevirtual 143, 3) := by decide +kernel
theorem dL_law_1009 : decode cL_law 1009 = .ok (.aload_n 2, 1) := by decide +kernel
theorem dL_law_1010 : decode cL_law 1010 = .ok (.invokevirtual 146, 3) := by decide +kernel
theorem dL_law_1013 : decode cL_law 1013 = .ok (.if_icmp .eq 97, 3) := by decide +kernel
theorem dL_law_1016 : decode cL_law 1016 = .ok (.iconst 0, 1) := by decide +kernel
theorem dL_law_1017 : decode cL_law 1017 = .ok (.ireturn, 1) := by decide +kernel
theorem dL_law_1018 : decode cL_law 1018 = .ok (.aload_n 1, 1) := by decide +kernel
theorem dL_law_1019 : decode cL_law 1019 = .ok (.aload_n 0, 1) := by decide +kernel
theorem dL_law_1020 : decode cL_law 1020 = .ok (.iload_n 3, 1) := by decide +kernel
theorem dL_law_1021 : decode cL_law 1021 = .ok (.iconst 1, 1) := by decide +kernel
theorem dL_law_1022 : decode cL_law 1022 = .ok (.iadd, 1) := by decide +kernel
theorem dL_law_1023 : decode cL_law 1023 = .ok (.iaload, 1) := by decide +kernel
theorem dL_law_1024 : decode cL_law 1024 = .ok (.invokevirtual 147, 3) := by decide +kernel
theorem dL_law_1027 : decode cL_law 1027 = .ok (.aload_n 2, 1) := by decide +kernel
theorem dL_law_1028 : decode cL_law 1028 = .ok (.aload_n 0, 1) := by decide +kernel
theorem dL_law_1029 : decode cL_law 1029 = .ok (.iload_n 3, 1) := by decide +kernel
theorem dL_law_1030 : decode cL_law 1030 = .ok (.iconst 1, 1) := by decide +kernel
theorem dL_law_1031 : decode cL_law 1031 = .ok (.iadd, 1) := by decide +kernel
theorem dL_law_1032 : decode cL_law 1032 = .ok (.iaload, 1) := by decide +kernel
theorem dL_law_1033 : decode cL_law 1033 = .ok (.invokevirtual 150, 3) := by decide +kernel
theorem dL_law_1036 : decode cL_law 1036 = .ok (.if_icmp .eq 74, 3) := by decide +kernel
theorem dL_law_1039 : decode cL_law 1039 = .ok (.iconst 0, 1) := by decide +kernel
theorem dL_law_1040 : decode cL_law 1040 = .ok (.ireturn, 1) := by decide +kernel
theorem dL_law_1041 : decode cL_law 1041 = .ok (.aload_n 1, 1) := by decide +kernel
theorem dL_law_1042 : decode cL_law 1042 = .ok (.aload_n 0, 1) := by decide +kernel
theorem dL_law_1043 : decode cL_law 1043 = .ok (.iload_n 3, 1) := by decide +kernel
theorem dL_law_1044 : decode cL_law 1044 = .ok (.iconst 1, 1) := by decide +kernel
theorem dL_law_1045 : decode cL_law 1045 = .ok (.iadd, 1) := by decide +kernel
theorem dL_law_1046 : decode cL_law 1046 = .ok (.iaload, 1) := by decide +kernel
theorem dL_law_1047 : decode cL_law 1047 = .ok (.invokevirtual 151, 3) := by decide +kernel
theorem dL_law_1050 : decode cL_law 1050 = .ok (.aload_n 2, 1) := by decide +kernel
theorem dL_law_1051 : decode cL_law 1051 = .ok (.aload_n 0, 1) := by decide +kernel
theorem dL_law_1052 : decode cL_law 1052 = .ok (.iload_n 3, 1) := by decide +kernel
theorem dL_law_1053 : decode cL_law 1053 = .ok (.iconst 1, 1) := by decide +kernel
theorem dL_law_1054 : decode cL_law 1054 = .ok (.iadd, 1) := by decide +kernel
theorem dL_law_1055 : decode cL_law 1055 = .ok (.iaload, 1) := by decide +kernel
theorem dL_law_1056 : decode cL_law 1056 = .ok (.invokevirtual 154, 3) := by decide +kernel
theorem dL_law_1059 : decode cL_law 1059 = .ok (.if_icmp .eq 51, 3) := by decide +kernel
theorem dL_law_1062 : decode cL_law 1062 = .ok (.iconst 0, 1) := by decide +kernel
theorem dL_law_1063 : decode cL_law 1063 = .ok (.ireturn, 1) := by decide +kernel
theorem dL_law_1064 : decode cL_law 1064 = .ok (.aload_n 1, 1) := by decide +kernel
theorem dL_law_1065 : decode cL_law 1065 = .ok (.aload_n 0, 1) := by decide +kernel
theorem dL_law_1066 : decode cL_law 1066 = .ok (.iload_n 3, 1) := by decide +kernel
theorem dL_law_1067 : decode cL_law 1067 = .ok (.iconst 1, 1) := by decide +kernel
theorem dL_law_1068 : decode cL_law 1068 = .ok (.iadd, 1) := by decide +kernel
theorem dL_law_1069 : decode cL_law 1069 = .ok (.iaload, 1) := by decide +kernel
theorem dL_law_1070 : decode cL_law 1070 = .ok (.invokevirtual 155, 3) := by decide +kernel
theorem dL_law_1073 : decode cL_law 1073 = .ok (.aload_n 2, 1) := by decide +kernel
theorem dL_law_1074 : decode cL_law 1074 = .ok (.aload_n 0, 1) := by decide +kernel
theorem dL_law_1075 : decode cL_law 1075 = .ok (.iload_n 3, 1) := by decide +kernel
theorem dL_law_1076 : decode cL_law 1076 = .ok (.iconst 1, 1) := by decide +kernel
theorem dL_law_1077 : decode cL_law 1077 = .ok (.iadd, 1) := by decide +kernel
theorem dL_law_1078 : decode cL_law 1078 = .ok (.iaload, 1) := by decide +kernel
theorem dL_law_1079 : decode cL_law 1079 = .ok (.invokevirtual 158, 3) := by decide +kernel
theorem dL_law_1082 : decode cL_law 1082 = .ok (.if_icmp .eq 28, 3) := by decide +kernel
theorem dL_law_1085 : decode cL_law 1085 = .ok (.iconst 0, 1) := by decide +kernel
theorem dL_law_1086 : decode cL_law 1086 = .ok (.ireturn, 1) := by decide +kernel
theorem dL_law_1087 : decode cL_law 1087 = .ok (.aload_n 1, 1) := by decide +kernel
theorem dL_law_1088 : decode cL_law 1088 = .ok (.aload_n 0, 1) := by decide +kernel
theorem dL_law_1089 : decode cL_law 1089 = .ok (.iload_n 3, 1) := by decide +kernel
theorem dL_law_1090 : decode cL_law 1090 = .ok (.iconst 1, 1) := by decide +kernel
theorem dL_law_1091 : decode cL_law 1091 = .ok (.iadd, 1) := by decide +kernel
theorem dL_law_1092 : decode cL_law 1092 = .ok (.iaload, 1) := by decide +kernel
theorem dL_law_1093 : decode cL_law 1093 = .ok (.invokevirtual 159, 3) := by decide +kernel
theorem dL_law_1096 : decode cL_law 1096 = .ok (.aload_n 2, 1) := by decide +kernel
theorem dL_law_1097 : decode cL_law 1097 = .ok (.aload_n 0, 1) := by decide +kernel
theorem dL_law_1098 : decode cL_law 1098 = .ok (.iload_n 3, 1) := by decide +kernel
theorem dL_law_1099 : decode cL_law 1099 = .ok (.iconst 1, 1) := by decide +kernel
theorem dL_law_1100 : decode cL_law 1100 = .ok (.iadd, 1) := by decide +kernel
theorem dL_law_1101 : decode cL_law 1101 = .ok (.iaload, 1) := by decide +kernel
theorem dL_law_1102 : decode cL_law 1102 = .ok (.invokevirtual 162, 3) := by decide +kernel
theorem dL_law_1105 : decode cL_law 1105 = .ok (.if_icmp .eq 5, 3) := by decide +kernel
theorem dL_law_1108 : decode cL_law 1108 = .ok (.iconst 0, 1) := by decide +kernel
theorem dL_law_1109 : decode cL_law 1109 = .ok (.ireturn, 1) := by decide +kernel
theorem dL_law_1110 : decode cL_law 1110 = .ok (.iinc 3 6, 3) := by decide +kernel
theorem dL_law_1113 : decode cL_law 1113 = .ok (.goto (-1095), 3) := by decide +kernel
theorem dL_law_1116 : decode cL_law 1116 = .ok (.iconst 1, 1) := by decide +kernel
theorem dL_law_1117 : decode cL_law 1117 = .ok (.ireturn, 1) := by decide +kernel
theorem lm_13 : Cond.methodLink RL 13 yX11_feed ∈ xTS := xTS_in (tin_3 _ (List.mem_of_getElem? (i := 72) rfl)) rfl
theorem lm_17 : Cond.methodLink RL 17 yX12_feed ∈ xTS := xTS_in (tin_6 _ (List.mem_of_getElem? (i := 89) rfl)) rfl
theorem lm_18 : Cond.methodLink RL 18 yX11_end ∈ xTS := xTS_in (tin_3 _ (List.mem_of_getElem? (i := 80) rfl)) rfl
theorem lm_22 : Cond.methodLink RL 22 yX12_end ∈ xTS := xTS_in (tin_6 _ (List.mem_of_getElem? (i := 98) rfl)) rfl
theorem lm_23 : Cond.methodLink RL 23 yX11_grammar ∈ xTS := xTS_in (tin_3 _ (List.mem_of_getElem? (i := 84) rfl)) rfl
theorem lm_27 : Cond.methodLink RL 27 yX12_grammar ∈ xTS := xTS_in (tin_7 _ (List.mem_of_getElem? (i := 162) rfl)) rfl
theorem lm_28 : Cond.methodLink RL 28 yX11_fault ∈ xTS := xTS_in (tin_3 _ (List.mem_of_getElem? (i := 193) rfl)) rfl
theorem lm_31 : Cond.methodLink RL 31 yX12_fault ∈ xTS := xTS_in (tin_7 _ (List.mem_of_getElem? (i := 232) rfl)) rfl
theorem lm_32 : Cond.methodLink RL 32 yX11_rule ∈ xTS := xTS_in (tin_3 _ (List.mem_of_getElem? (i := 197) rfl)) rfl
theorem lm_36 : Cond.methodLink RL 36 yX12_rule ∈ xTS := xTS_in (tin_7 _ (List.mem_of_getElem? (i := 236) rfl)) rfl
theorem lm_37 : Cond.methodLink RL 37 yX11_kind ∈ xTS := xTS_in (tin_3 _ (List.mem_of_getElem? (i := 205) rfl)) rfl
theorem lm_40 : Cond.methodLink RL 40 yX12_kind ∈ xTS := xTS_in (tin_8 _ (List.mem_of_getElem? (i := 31) rfl)) rfl
theorem lm_41 : Cond.methodLink RL 41 yX11_item ∈ xTS := xTS_in (tin_4 _ (List.mem_of_getElem? (i := 19) rfl)) rfl
theorem lm_44 : Cond.methodLink RL 44 yX12_item ∈ xTS := xTS_in (tin_8 _ (List.mem_of_getElem? (i := 19) rfl)) rfl
theorem lm_45 : Cond.methodLink RL 45 yX11_place ∈ xTS := xTS_in (tin_4 _ (List.mem_of_getElem? (i := 32) rfl)) rfl
theorem lm_48 : Cond.methodLink RL 48 yX12_place ∈ xTS := xTS_in (tin_8 _ (List.mem_of_getElem? (i := 78) rfl)) rfl
theorem lm_49 : Cond.methodLink RL 49 yX11_step ∈ xTS := xTS_in (tin_4 _ (List.mem_of_getElem? (i := 118) rfl)) rfl
theorem lm_53 : Cond.methodLink RL 53 yX12_step ∈ xTS := xTS_in (tin_8 _ (List.mem_of_getElem? (i := 126) rfl)) rfl
theorem lm_54 : Cond.methodLink RL 54 yX11_merge ∈ xTS := xTS_in (tin_4 _ (List.mem_of_getElem? (i := 132) rfl)) rfl
theorem lm_57 : Cond.methodLink RL 57 yX12_merge ∈ xTS := xTS_in (tin_8 _ (List.mem_of_getElem? (i := 179) rfl)) rfl
theorem lm_58 : Cond.methodLink RL 58 yX11_depth ∈ xTS := xTS_in (tin_4 _ (List.mem_of_getElem? (i := 150) rfl)) rfl
theorem lm_62 : Cond.methodLink RL 62 yX12_depth ∈ xTS := xTS_in (tin_8 _ (List.mem_of_getElem? (i := 203) rfl)) rfl
theorem lm_63 : Cond.methodLink RL 63 yX11_drop ∈ xTS := xTS_in (tin_4 _ (List.mem_of_getElem? (i := 158) rfl)) rfl
theorem lm_66 : Cond.methodLink RL 66 yX12_drop ∈ xTS := xTS_in (tin_8 _ (List.mem_of_getElem? (i := 211) rfl)) rfl
theorem lm_67 : Cond.methodLink RL 67 yX11_add ∈ xTS := xTS_in (tin_4 _ (List.mem_of_getElem? (i := 166) rfl)) rfl
theorem lm_70 : Cond.methodLink RL 70 yX12_add ∈ xTS := xTS_in (tin_8 _ (List.mem_of_getElem? (i := 219) rfl)) rfl
theorem lm_71 : Cond.methodLink RL 71 yX11_undo ∈ xTS := xTS_in (tin_4 _ (List.mem_of_getElem? (i := 175) rfl)) rfl
theorem lm_74 : Cond.methodLink RL 74 yX12_undo ∈ xTS := xTS_in (tin_8 _ (List.mem_of_getElem? (i := 227) rfl)) rfl
theorem lm_75 : Cond.methodLink RL 75 yX11_twins ∈ xTS := xTS_in (tin_4 _ (List.mem_of_getElem? (i := 179) rfl)) rfl
theorem lm_78 : Cond.methodLink RL 78 yX12_twins ∈ xTS := xTS_in (tin_8 _ (List.mem_of_getElem? (i := 130) rfl)) rfl
theorem lm_79 : Cond.methodLink RL 79 yX11_twin ∈ xTS := xTS_in (tin_4 _ (List.mem_of_getElem? (i := 233) rfl)) rfl
theorem lm_82 : Cond.methodLink RL 82 yX12_twin ∈ xTS := xTS_in (tin_8 _ (List.mem_of_getElem? (i := 155) rfl)) rfl
theorem lm_83 : Cond.methodLink RL 83 yX11_suspects ∈ xTS := xTS_in (tin_5 _ (List.mem_of_getElem? (i := 18) rfl)) rfl
theorem lm_86 : Cond.methodLink RL 86 yX12_suspects ∈ xTS := xTS_in (tin_8 _ (List.mem_of_getElem? (i := 159) rfl)) rfl
theorem lm_87 : Cond.methodLink RL 87 yX11_suspectAt ∈ xTS := xTS_in (tin_5 _ (List.mem_of_getElem? (i := 22) rfl)) rfl
theorem lm_90 : Cond.methodLink RL 90 yX12_suspectAt ∈ xTS := xTS_in (tin_8 _ (List.mem_of_getElem? (i := 163) rfl)) rfl
theorem lm_91 : Cond.methodLink RL 91 yX11_proven ∈ xTS := xTS_in (tin_5 _ (List.mem_of_getElem? (i := 35) rfl)) rfl
theorem lm_94 : Cond.methodLink RL 94 yX12_proven ∈ xTS := xTS_in (tin_8 _ (List.mem_of_getElem? (i := 167) rfl)) rfl
theorem lm_95 : Cond.methodLink RL 95 yX11_shadow ∈ xTS := xTS_in (tin_5 _ (List.mem_of_getElem? (i := 39) rfl)) rfl
theorem lm_98 : Cond.methodLink RL 98 yX12_shadow ∈ xTS := xTS_in (tin_8 _ (List.mem_of_getElem? (i := 175) rfl)) rfl
theorem lm_99 : Cond.methodLink RL 99 yX11_trees ∈ xTS := xTS_in (tin_5 _ (List.mem_of_getElem? (i := 43) rfl)) rfl
theorem lm_102 : Cond.methodLink RL 102 yX12_trees ∈ xTS := xTS_in (tin_8 _ (List.mem_of_getElem? (i := 235) rfl)) rfl
theorem lm_103 : Cond.methodLink RL 103 yX11_tree ∈ xTS := xTS_in (tin_5 _ (List.mem_of_getElem? (i := 103) rfl)) rfl
theorem lm_106 : Cond.methodLink RL 106 yX12_tree ∈ xTS := xTS_in (tin_9 _ (List.mem_of_getElem? (i := 43) rfl)) rfl
theorem lm_107 : Cond.methodLink RL 107 yX11_treeAt ∈ xTS := xTS_in (tin_5 _ (List.mem_of_getElem? (i := 135) rfl)) rfl
theorem lm_110 : Cond.methodLink RL 110 yX12_treeAt ∈ xTS := xTS_in (tin_9 _ (List.mem_of_getElem? (i := 59) rfl)) rfl
theorem lm_111 : Cond.methodLink RL 111 yX11_witness ∈ xTS := xTS_in (tin_5 _ (List.mem_of_getElem? (i := 139) rfl)) rfl
theorem lm_114 : Cond.methodLink RL 114 yX12_witness ∈ xTS := xTS_in (tin_9 _ (List.mem_of_getElem? (i := 63) rfl)) rfl
theorem lm_115 : Cond.methodLink RL 115 yX11_witnessAt ∈ xTS := xTS_in (tin_5 _ (List.mem_of_getElem? (i := 155) rfl)) rfl
theorem lm_118 : Cond.methodLink RL 118 yX12_witnessAt ∈ xTS := xTS_in (tin_9 _ (List.mem_of_getElem? (i := 71) rfl)) rfl
theorem lm_119 : Cond.methodLink RL 119 yX11_tag ∈ xTS := xTS_in (tin_5 _ (List.mem_of_getElem? (i := 159) rfl)) rfl
theorem lm_122 : Cond.methodLink RL 122 yX12_tag ∈ xTS := xTS_in (tin_9 _ (List.mem_of_getElem? (i := 75) rfl)) rfl
theorem lm_123 : Cond.methodLink RL 123 yX11_byteAt ∈ xTS := xTS_in (tin_5 _ (List.mem_of_getElem? (i := 175) rfl)) rfl
theorem lm_126 : Cond.methodLink RL 126 yX12_byteAt ∈ xTS := xTS_in (tin_9 _ (List.mem_of_getElem? (i := 94) rfl)) rfl
theorem lm_127 : Cond.methodLink RL 127 yX11_drawn ∈ xTS := xTS_in (tin_5 _ (List.mem_of_getElem? (i := 179) rfl)) rfl
theorem lm_130 : Cond.methodLink RL 130 yX12_drawn ∈ xTS := xTS_in (tin_9 _ (List.mem_of_getElem? (i := 98) rfl)) rfl
theorem lm_131 : Cond.methodLink RL 131 yX11_odds ∈ xTS := xTS_in (tin_5 _ (List.mem_of_getElem? (i := 208) rfl)) rfl
theorem lm_134 : Cond.methodLink RL 134 yX12_odds ∈ xTS := xTS_in (tin_9 _ (List.mem_of_getElem? (i := 119) rfl)) rfl
theorem lm_135 : Cond.methodLink RL 135 yX11_book ∈ xTS := xTS_in (tin_5 _ (List.mem_of_getElem? (i := 212) rfl)) rfl
theorem lm_138 : Cond.methodLink RL 138 yX12_book ∈ xTS := xTS_in (tin_9 _ (List.mem_of_getElem? (i := 123) rfl)) rfl
theorem lm_139 : Cond.methodLink RL 139 yX11_told ∈ xTS := xTS_in (tin_6 _ (List.mem_of_getElem? (i := 11) rfl)) rfl
theorem lm_142 : Cond.methodLink RL 142 yX12_told ∈ xTS := xTS_in (tin_9 _ (List.mem_of_getElem? (i := 147) rfl)) rfl
theorem lm_143 : Cond.methodLink RL 143 yX11_sentence ∈ xTS := xTS_in (tin_6 _ (List.mem_of_getElem? (i := 15) rfl)) rfl
theorem lm_146 : Cond.methodLink RL 146 yX12_sentence ∈ xTS := xTS_in (tin_9 _ (List.mem_of_getElem? (i := 151) rfl)) rfl
theorem lm_147 : Cond.methodLink RL 147 yX11_said ∈ xTS := xTS_in (tin_6 _ (List.mem_of_getElem? (i := 59) rfl)) rfl
theorem lm_150 : Cond.methodLink RL 150 yX12_said ∈ xTS := xTS_in (tin_9 _ (List.mem_of_getElem? (i := 179) rfl)) rfl
theorem lm_151 : Cond.methodLink RL 151 yX11_image ∈ xTS := xTS_in (tin_6 _ (List.mem_of_getElem? (i := 76) rfl)) rfl
theorem lm_154 : Cond.methodLink RL 154 yX12_image ∈ xTS := xTS_in (tin_9 _ (List.mem_of_getElem? (i := 194) rfl)) rfl
theorem lm_155 : Cond.methodLink RL 155 yX11_restore ∈ xTS := xTS_in (tin_6 _ (List.mem_of_getElem? (i := 80) rfl)) rfl
theorem lm_158 : Cond.methodLink RL 158 yX12_restore ∈ xTS := xTS_in (tin_9 _ (List.mem_of_getElem? (i := 198) rfl)) rfl
theorem lm_159 : Cond.methodLink RL 159 yX11_count ∈ xTS := xTS_in (tin_6 _ (List.mem_of_getElem? (i := 84) rfl)) rfl
theorem lm_162 : Cond.methodLink RL 162 yX12_count ∈ xTS := xTS_in (tin_9 _ (List.mem_of_getElem? (i := 202) rfl)) rfl
def kc_0 (Ls : Nat) (xs : Nat → Int32) (C : xK) : xK := x_aload 1 (x_aload 0 (x_iload 3 (x_push (.int 1) (x_iadd (x_sld Ls xs (x_aload 0 (x_iload 3 (x_push (.int 2) (x_iadd (x_sld Ls xs (x_aload 0 (x_iload 3 (x_push (.int 3) (x_iadd (x_sld Ls xs (x_aload 0 (x_iload 3 (x_push (.int 4) (x_iadd (x_sld Ls xs (x_aload 0 (x_iload 3 (x_push (.int 5) (x_iadd (x_sld Ls xs (y_cv5 0 (w_RIIIII f_X11_feed) (x_aload 2 (x_aload 0 (x_iload 3 (x_push (.int 1) (x_iadd (x_sld Ls xs (x_aload 0 (x_iload 3 (x_push (.int 2) (x_iadd (x_sld Ls xs (x_aload 0 (x_iload 3 (x_push (.int 3) (x_iadd (x_sld Ls xs (x_aload 0 (x_iload 3 (x_push (.int 4) (x_iadd (x_sld Ls xs (x_aload 0 (x_iload 3 (x_push (.int 5) (x_iadd (x_sld Ls xs (y_cv5 180 (w_RIIIII f_X12_feed) (x_icmp_eq C xKF))))))))))))))))))))))))))))))))))))))))))))))))))))))
set_option maxRecDepth 20000 in
theorem tc_0 {p : Program} {l : Launch} {e : Env} {s : State} {m : MethodId} {args : Array Value} {below : List Frame} {meth : Method} {c : Code} {g : xG} {Q : State → Prop} {b Ls : Nat} {xs : Nat → Int32} {sl : Nat} (X : xX p s m args c meth cL_law RL 4 g) (S : xSc s g b Ls xs) (hsl : sl ≤ room_1.slots) {C : xK} (h : xAt p l e room_1 s m args below meth c g 4 xFT xN 231 sl Q C 1110) : xAt p l e room_1 s m args below meth c g 4 xFT xN 231 sl Q (kc_0 Ls xs C) 192 := by
  unfold kc_0
  refine r_aload_n (pc := 192) X dL_law_192 fn1 ?_
  refine r_aload_n (pc := 193) X dL_law_193 fn0 ?_
  refine r_iload_n (pc := 194) X dL_law_194 fn3 ?_
  refine r_iconst (pc := 195) X dL_law_195 (by decide +kernel) ?_
  refine r_iadd (pc := 196) X dL_law_196 ?_
  refine r_sld (pc := 197) X S dL_law_197 ?_
  refine r_aload_n (pc := 198) X dL_law_198 fn0 ?_
  refine r_iload_n (pc := 199) X dL_law_199 fn3 ?_
  refine r_iconst (pc := 200) X dL_law_200 (by decide +kernel) ?_
  refine r_iadd (pc := 201) X dL_law_201 ?_
  refine r_sld (pc := 202) X S dL_law_202 ?_
  refine r_aload_n (pc := 203) X dL_law_203 fn0 ?_
  refine r_iload_n (pc := 204) X dL_law_204 fn3 ?_
  refine r_iconst (pc := 205) X dL_law_205 (by decide +kernel) ?_
  refine r_iadd (pc := 206) X dL_law_206 ?_
  refine r_sld (pc := 207) X S dL_law_207 ?_
  refine r_aload_n (pc := 208) X dL_law_208 fn0 ?_
  refine r_iload_n (pc := 209) X dL_law_209 fn3 ?_
  refine r_iconst (pc := 210) X dL_law_210 (by decide +kernel) ?_
  refine r_iadd (pc := 211) X dL_law_211 ?_
  refine r_sld (pc := 212) X S dL_law_212 ?_
  refine r_aload_n (pc := 213) X dL_law_213 fn0 ?_
  refine r_iload_n (pc := 214) X dL_law_214 fn3 ?_
  refine r_iconst (pc := 215) X dL_law_215 (by decide +kernel) ?_
  refine r_iadd (pc := 216) X dL_law_216 ?_
  refine r_sld (pc := 217) X S dL_law_217 ?_
  refine s_cv5 (pc := 218) (ci := 11) X xok11 (by decide +kernel) ob_0 rfl (con_X11_feed l) mf_X11_feed lm_13 ⟨Nat.le_of_ble_eq_true rfl, Nat.le_of_ble_eq_true rfl⟩ ⟨Nat.le_of_ble_eq_true rfl, hsl⟩ dL_law_218 ?_
  refine r_aload_n (pc := 221) X dL_law_221 fn2 ?_
  refine r_aload_n (pc := 222) X dL_law_222 fn0 ?_
  refine r_iload_n (pc := 223) X dL_law_223 fn3 ?_
  refine r_iconst (pc := 224) X dL_law_224 (by decide +kernel) ?_
  refine r_iadd (pc := 225) X dL_law_225 ?_
  refine r_sld (pc := 226) X S dL_law_226 ?_
  refine r_aload_n (pc := 227) X dL_law_227 fn0 ?_
  refine r_iload_n (pc := 228) X dL_law_228 fn3 ?_
  refine r_iconst (pc := 229) X dL_law_229 (by decide +kernel) ?_
  refine r_iadd (pc := 230) X dL_law_230 ?_
  refine r_sld (pc := 231) X S dL_law_231 ?_
  refine r_aload_n (pc := 232) X dL_law_232 fn0 ?_
  refine r_iload_n (pc := 233) X dL_law_233 fn3 ?_
  refine r_iconst (pc := 234) X dL_law_234 (by decide +kernel) ?_
  refine r_iadd (pc := 235) X dL_law_235 ?_
  refine r_sld (pc := 236) X S dL_law_236 ?_
  refine r_aload_n (pc := 237) X dL_law_237 fn0 ?_
  refine r_iload_n (pc := 238) X dL_law_238 fn3 ?_
  refine r_iconst (pc := 239) X dL_law_239 (by decide +kernel) ?_
  refine r_iadd (pc := 240) X dL_law_240 ?_
  refine r_sld (pc := 241) X S dL_law_241 ?_
  refine r_aload_n (pc := 242) X dL_law_242 fn0 ?_
  refine r_iload_n (pc := 243) X dL_law_243 fn3 ?_
  refine r_iconst (pc := 244) X dL_law_244 (by decide +kernel) ?_
  refine r_iadd (pc := 245) X dL_law_245 ?_
  refine r_sld (pc := 246) X S dL_law_246 ?_
  refine s_cv5 (pc := 247) (ci := 12) X xok12 (by decide +kernel) ob_180 rfl (con_X12_feed l) mf_X12_feed lm_17 ⟨Nat.le_of_ble_eq_true rfl, Nat.le_of_ble_eq_true rfl⟩ ⟨Nat.le_of_ble_eq_true rfl, hsl⟩ dL_law_247 ?_
  refine r_icmp_eq (pc := 250) (tgt := 1110) X dL_law_250 (by decide +kernel) ?_ r_KF
  exact h
def kc_1 (Ls : Nat) (xs : Nat → Int32) (C : xK) : xK := x_aload 1 (x_aload 0 (x_iload 3 (x_push (.int 1) (x_iadd (x_sld Ls xs (y_cv1 0 (w_RI f_X11_end) (x_aload 2 (x_aload 0 (x_iload 3 (x_push (.int 1) (x_iadd (x_sld Ls xs (y_cv1 180 (w_RI f_X12_end) (x_icmp_eq C xKF))))))))))))))
set_option maxRecDepth 20000 in
theorem tc_1 {p : Program} {l : Launch} {e : Env} {s : State} {m : MethodId} {args : Array Value} {below : List Frame} {meth : Method} {c : Code} {g : xG} {Q : State → Prop} {b Ls : Nat} {xs : Nat → Int32} {sl : Nat} (X : xX p s m args c meth cL_law RL 4 g) (S : xSc s g b Ls xs) (hsl : sl ≤ room_1.slots) {C : xK} (h : xAt p l e room_1 s m args below meth c g 4 xFT xN 231 sl Q C 1110) : xAt p l e room_1 s m args below meth c g 4 xFT xN 231 sl Q (kc_1 Ls xs C) 255 := by
  unfold kc_1
  refine r_aload_n (pc := 255) X dL_law_255 fn1 ?_
  refine r_aload_n (pc := 256) X dL_law_256 fn0 ?_
  refine r_iload_n (pc := 257) X dL_law_257 fn3 ?_
  refine r_iconst (pc := 258) X dL_law_258 (by decide +kernel) ?_
  refine r_iadd (pc := 259) X dL_law_259 ?_
  refine r_sld (pc := 260) X S dL_law_260 ?_
  refine s_cv1 (pc := 261) (ci := 11) X xok11 (by decide +kernel) ob_0 rfl (con_X11_end l) mf_X11_end lm_18 ⟨Nat.le_of_ble_eq_true rfl, Nat.le_of_ble_eq_true rfl⟩ ⟨Nat.le_of_ble_eq_true rfl, hsl⟩ dL_law_261 ?_
  refine r_aload_n (pc := 264) X dL_law_264 fn2 ?_
  refine r_aload_n (pc := 265) X dL_law_265 fn0 ?_
  refine r_iload_n (pc := 266) X dL_law_266 fn3 ?_
  refine r_iconst (pc := 267) X dL_law_267 (by decide +kernel) ?_
  refine r_iadd (pc := 268) X dL_law_268 ?_
  refine r_sld (pc := 269) X S dL_law_269 ?_
  refine s_cv1 (pc := 270) (ci := 12) X xok12 (by decide +kernel) ob_180 rfl (con_X12_end l) mf_X12_end lm_22 ⟨Nat.le_of_ble_eq_true rfl, Nat.le_of_ble_eq_true rfl⟩ ⟨Nat.le_of_ble_eq_true rfl, hsl⟩ dL_law_270 ?_
  refine r_icmp_eq (pc := 273) (tgt := 1110) X dL_law_273 (by decide +kernel) ?_ r_KF
  exact h
def kc_2 (Ls : Nat) (xs : Nat → Int32) (C : xK) : xK := x_aload 1 (y_cv0 0 (w_R f_X11_grammar) (x_aload 2 (y_cv0 180 (w_R f_X12_grammar) (x_icmp_eq C xKF))))
set_option maxRecDepth 20000 in
theorem tc_2 {p : Program} {l : Launch} {e : Env} {s : State} {m : MethodId} {args : Array Value} {below : List Frame} {meth : Method} {c : Code} {g : xG} {Q : State → Prop} {b Ls : Nat} {xs : Nat → Int32} {sl : Nat} (X : xX p s m args c meth cL_law RL 4 g) (S : xSc s g b Ls xs) (hsl : sl ≤ room_1.slots) {C : xK} (h : xAt p l e room_1 s m args below meth c g 4 xFT xN 231 sl Q C 1110) : xAt p l e room_1 s m args below meth c g 4 xFT xN 231 sl Q (kc_2 Ls xs C) 278 := by
  unfold kc_2
  refine r_aload_n (pc := 278) X dL_law_278 fn1 ?_
  refine s_cv0 (pc := 279) (ci := 11) X xok11 (by decide +kernel) ob_0 rfl (con_X11_grammar l) mf_X11_grammar lm_23 ⟨Nat.le_of_ble_eq_true rfl, Nat.le_of_ble_eq_true rfl⟩ ⟨Nat.le_of_ble_eq_true rfl, hsl⟩ dL_law_279 ?_
  refine r_aload_n (pc := 282) X dL_law_282 fn2 ?_
  refine s_cv0 (pc := 283) (ci := 12) X xok12 (by decide +kernel) ob_180 rfl (con_X12_grammar l) mf_X12_grammar lm_27 ⟨Nat.le_of_ble_eq_true rfl, Nat.le_of_ble_eq_true rfl⟩ ⟨Nat.le_of_ble_eq_true rfl, hsl⟩ dL_law_283 ?_
  refine r_icmp_eq (pc := 286) (tgt := 1110) X dL_law_286 (by decide +kernel) ?_ r_KF
  exact h
def kc_3 (Ls : Nat) (xs : Nat → Int32) (C : xK) : xK := x_aload 1 (y_cv0 0 (w_R f_X11_fault) (x_aload 2 (y_cv0 180 (w_R f_X12_fault) (x_icmp_eq C xKF))))
set_option maxRecDepth 20000 in
theorem tc_3 {p : Program} {l : Launch} {e : Env} {s : State} {m : MethodId} {args : Array Value} {below : List Frame} {meth : Method} {c : Code} {g : xG} {Q : State → Prop} {b Ls : Nat} {xs : Nat → Int32} {sl : Nat} (X : xX p s m args c meth cL_law RL 4 g) (S : xSc s g b Ls xs) (hsl : sl ≤ room_1.slots) {C : xK} (h : xAt p l e room_1 s m args below meth c g 4 xFT xN 231 sl Q C 1110) : xAt p l e room_1 s m args below meth c g 4 xFT xN 231 sl Q (kc_3 Ls xs C) 291 := by
  unfold kc_3
  refine r_aload_n (pc := 291) X dL_law_291 fn1 ?_
  refine s_cv0 (pc := 292) (ci := 11) X xok11 (by decide +kernel) ob_0 rfl (con_X11_fault l) mf_X11_fault lm_28 ⟨Nat.le_of_ble_eq_true rfl, Nat.le_of_ble_eq_true rfl⟩ ⟨Nat.le_of_ble_eq_true rfl, hsl⟩ dL_law_292 ?_
  refine r_aload_n (pc := 295) X dL_law_295 fn2 ?_
  refine s_cv0 (pc := 296) (ci := 12) X xok12 (by decide +kernel) ob_180 rfl (con_X12_fault l) mf_X12_fault lm_31 ⟨Nat.le_of_ble_eq_true rfl, Nat.le_of_ble_eq_true rfl⟩ ⟨Nat.le_of_ble_eq_true rfl, hsl⟩ dL_law_296 ?_
  refine r_icmp_eq (pc := 299) (tgt := 1110) X dL_law_299 (by decide +kernel) ?_ r_KF
  exact h
def kc_4 (Ls : Nat) (xs : Nat → Int32) (C : xK) : xK := x_aload 1 (x_aload 0 (x_iload 3 (x_push (.int 1) (x_iadd (x_sld Ls xs (x_aload 0 (x_iload 3 (x_push (.int 2) (x_iadd (x_sld Ls xs (y_cv2 0 (w_RII f_X11_rule) (x_aload 2 (x_aload 0 (x_iload 3 (x_push (.int 1) (x_iadd (x_sld Ls xs (x_aload 0 (x_iload 3 (x_push (.int 2) (x_iadd (x_sld Ls xs (y_cv2 180 (w_RII f_X12_rule) (x_icmp_eq C xKF))))))))))))))))))))))))
set_option maxRecDepth 20000 in
theorem tc_4 {p : Program} {l : Launch} {e : Env} {s : State} {m : MethodId} {args : Array Value} {below : List Frame} {meth : Method} {c : Code} {g : xG} {Q : State → Prop} {b Ls : Nat} {xs : Nat → Int32} {sl : Nat} (X : xX p s m args c meth cL_law RL 4 g) (S : xSc s g b Ls xs) (hsl : sl ≤ room_1.slots) {C : xK} (h : xAt p l e room_1 s m args below meth c g 4 xFT xN 231 sl Q C 1110) : xAt p l e room_1 s m args below meth c g 4 xFT xN 231 sl Q (kc_4 Ls xs C) 304 := by
  unfold kc_4
  refine r_aload_n (pc := 304) X dL_law_304 fn1 ?_
  refine r_aload_n (pc := 305) X dL_law_305 fn0 ?_
  refine r_iload_n (pc := 306) X dL_law_306 fn3 ?_
  refine r_iconst (pc := 307) X dL_law_307 (by decide +kernel) ?_
  refine r_iadd (pc := 308) X dL_law_308 ?_
  refine r_sld (pc := 309) X S dL_law_309 ?_
  refine r_aload_n (pc := 310) X dL_law_310 fn0 ?_
  refine r_iload_n (pc := 311) X dL_law_311 fn3 ?_
  refine r_iconst (pc := 312) X dL_law_312 (by decide +kernel) ?_
  refine r_iadd (pc := 313) X dL_law_313 ?_
  refine r_sld (pc := 314) X S dL_law_314 ?_
  refine s_cv2 (pc := 315) (ci := 11) X xok11 (by decide +kernel) ob_0 rfl (con_X11_rule l) mf_X11_rule lm_32 ⟨Nat.le_of_ble_eq_true rfl, Nat.le_of_ble_eq_true rfl⟩ ⟨Nat.le_of_ble_eq_true rfl, hsl⟩ dL_law_315 ?_
  refine r_aload_n (pc := 318) X dL_law_318 fn2 ?_
  refine r_aload_n (pc := 319) X dL_law_319 fn0 ?_
  refine r_iload_n (pc := 320) X dL_law_320 fn3 ?_
  refine r_iconst (pc := 321) X dL_law_321 (by decide +kernel) ?_
  refine r_iadd (pc := 322) X dL_law_322 ?_
  refine r_sld (pc := 323) X S dL_law_323 ?_
  refine r_aload_n (pc := 324) X dL_law_324 fn0 ?_
  refine r_iload_n (pc := 325) X dL_law_325 fn3 ?_
  refine r_iconst (pc := 326) X dL_law_326 (by decide +kernel) ?_
  refine r_iadd (pc := 327) X dL_law_327 ?_
  refine r_sld (pc := 328) X S dL_law_328 ?_
  refine s_cv2 (pc := 329) (ci := 12) X xok12 (by decide +kernel) ob_180 rfl (con_X12_rule l) mf_X12_rule lm_36 ⟨Nat.le_of_ble_eq_true rfl, Nat.le_of_ble_eq_true rfl⟩ ⟨Nat.le_of_ble_eq_true rfl, hsl⟩ dL_law_329 ?_
  refine r_icmp_eq (pc := 332) (tgt := 1110) X dL_law_332 (by decide +kernel) ?_ r_KF
  exact h
def kc_5 (Ls : Nat) (xs : Nat → Int32) (C : xK) : xK := x_aload 1 (x_aload 0 (x_iload 3 (x_push (.int 1) (x_iadd (x_sld Ls xs (x_aload 0 (x_iload 3 (x_push (.int 2) (x_iadd (x_sld Ls xs (y_cv2 0 (w_RII f_X11_kind) (x_aload 2 (x_aload 0 (x_iload 3 (x_push (.int 1) (x_iadd (x_sld Ls xs (x_aload 0 (x_iload 3 (x_push (.int 2) (x_iadd (x_sld Ls xs (y_cv2 180 (w_RII f_X12_kind) (x_icmp_eq C xKF))))))))))))))))))))))))
set_option maxRecDepth 20000 in
theorem tc_5 {p : Program} {l : Launch} {e : Env} {s : State} {m : MethodId} {args : Array Value} {below : List Frame} {meth : Method} {c : Code} {g : xG} {Q : State → Prop} {b Ls : Nat} {xs : Nat → Int32} {sl : Nat} (X : xX p s m args c meth cL_law RL 4 g) (S : xSc s g b Ls xs) (hsl : sl ≤ room_1.slots) {C : xK} (h : xAt p l e room_1 s m args below meth c g 4 xFT xN 231 sl Q C 1110) : xAt p l e room_1 s m args below meth c g 4 xFT xN 231 sl Q (kc_5 Ls xs C) 337 := by
  unfold kc_5
  refine r_aload_n (pc := 337) X dL_law_337 fn1 ?_
  refine r_aload_n (pc := 338) X dL_law_338 fn0 ?_
  refine r_iload_n (pc := 339) X dL_law_339 fn3 ?_
  refine r_iconst (pc := 340) X dL_law_340 (by decide +kernel) ?_
  refine r_iadd (pc := 341) X dL_law_341 ?_
  refine r_sld (pc := 342) X S dL_law_342 ?_
  refine r_aload_n (pc := 343) X dL_law_343 fn0 ?_
  refine r_iload_n (pc := 344) X dL_law_344 fn3 ?_
  refine r_iconst (pc := 345) X dL_law_345 (by decide +kernel) ?_
  refine r_iadd (pc := 346) X dL_law_346 ?_
  refine r_sld (pc := 347) X S dL_law_347 ?_
  refine s_cv2 (pc := 348) (ci := 11) X xok11 (by decide +kernel) ob_0 rfl (con_X11_kind l) mf_X11_kind lm_37 ⟨Nat.le_of_ble_eq_true rfl, Nat.le_of_ble_eq_true rfl⟩ ⟨Nat.le_of_ble_eq_true rfl, hsl⟩ dL_law_348 ?_
  refine r_aload_n (pc := 351) X dL_law_351 fn2 ?_
  refine r_aload_n (pc := 352) X dL_law_352 fn0 ?_
  refine r_iload_n (pc := 353) X dL_law_353 fn3 ?_
  refine r_iconst (pc := 354) X dL_law_354 (by decide +kernel) ?_
  refine r_iadd (pc := 355) X dL_law_355 ?_
  refine r_sld (pc := 356) X S dL_law_356 ?_
  refine r_aload_n (pc := 357) X dL_law_357 fn0 ?_
  refine r_iload_n (pc := 358) X dL_law_358 fn3 ?_
  refine r_iconst (pc := 359) X dL_law_359 (by decide +kernel) ?_
  refine r_iadd (pc := 360) X dL_law_360 ?_
  refine r_sld (pc := 361) X S dL_law_361 ?_
  refine s_cv2 (pc := 362) (ci := 12) X xok12 (by decide +kernel) ob_180 rfl (con_X12_kind l) mf_X12_kind lm_40 ⟨Nat.le_of_ble_eq_true rfl, Nat.le_of_ble_eq_true rfl⟩ ⟨Nat.le_of_ble_eq_true rfl, hsl⟩ dL_law_362 ?_
  refine r_icmp_eq (pc := 365) (tgt := 1110) X dL_law_365 (by decide +kernel) ?_ r_KF
  exact h
def kc_6 (Ls : Nat) (xs : Nat → Int32) (C : xK) : xK := x_aload 1 (x_aload 0 (x_iload 3 (x_push (.int 1) (x_iadd (x_sld Ls xs (x_aload 0 (x_iload 3 (x_push (.int 2) (x_iadd (x_sld Ls xs (y_cv2 0 (w_RII f_X11_item) (x_aload 2 (x_aload 0 (x_iload 3 (x_push (.int 1) (x_iadd (x_sld Ls xs (x_aload 0 (x_iload 3 (x_push (.int 2) (x_iadd (x_sld Ls xs (y_cv2 180 (w_RII f_X12_item) (x_icmp_eq C xKF))))))))))))))))))))))))
set_option maxRecDepth 20000 in
theorem tc_6 {p : Program} {l : Launch} {e : Env} {s : State} {m : MethodId} {args : Array Value} {below : List Frame} {meth : Method} {c : Code} {g : xG} {Q : State → Prop} {b Ls : Nat} {xs : Nat → Int32} {sl : Nat} (X : xX p s m args c meth cL_law RL 4 g) (S : xSc s g b Ls xs) (hsl : sl ≤ room_1.slots) {C : xK} (h : xAt p l e room_1 s m args below meth c g 4 xFT xN 231 sl Q C 1110) : xAt p l e room_1 s m args below meth c g 4 xFT xN 231 sl Q (kc_6 Ls xs C) 370 := by
  unfold kc_6
  refine r_aload_n (pc := 370) X dL_law_370 fn1 ?_
  refine r_aload_n (pc := 371) X dL_law_371 fn0 ?_
  refine r_iload_n (pc := 372) X dL_law_372 fn3 ?_
  refine r_iconst (pc := 373) X dL_law_373 (by decide +kernel) ?_
  refine r_iadd (pc := 374) X dL_law_374 ?_
  refine r_sld (pc := 375) X S dL_law_375 ?_
  refine r_aload_n (pc := 376) X dL_law_376 fn0 ?_
  refine r_iload_n (pc := 377) X dL_law_377 fn3 ?_
  refine r_iconst (pc := 378) X dL_law_378 (by decide +kernel) ?_
  refine r_iadd (pc := 379) X dL_law_379 ?_
  refine r_sld (pc := 380) X S dL_law_380 ?_
  refine s_cv2 (pc := 381) (ci := 11) X xok11 (by decide +kernel) ob_0 rfl (con_X11_item l) mf_X11_item lm_41 ⟨Nat.le_of_ble_eq_true rfl, Nat.le_of_ble_eq_true rfl⟩ ⟨Nat.le_of_ble_eq_true rfl, hsl⟩ dL_law_381 ?_
  refine r_aload_n (pc := 384) X dL_law_384 fn2 ?_
  refine r_aload_n (pc := 385) X dL_law_385 fn0 ?_
  refine r_iload_n (pc := 386) X dL_law_386 fn3 ?_
  refine r_iconst (pc := 387) X dL_law_387 (by decide +kernel) ?_
  refine r_iadd (pc := 388) X dL_law_388 ?_
  refine r_sld (pc := 389) X S dL_law_389 ?_
  refine r_aload_n (pc := 390) X dL_law_390 fn0 ?_
  refine r_iload_n (pc := 391) X dL_law_391 fn3 ?_
  refine r_iconst (pc := 392) X dL_law_392 (by decide +kernel) ?_
  refine r_iadd (pc := 393) X dL_law_393 ?_
  refine r_sld (pc := 394) X S dL_law_394 ?_
  refine s_cv2 (pc := 395) (ci := 12) X xok12 (by decide +kernel) ob_180 rfl (con_X12_item l) mf_X12_item lm_44 ⟨Nat.le_of_ble_eq_true rfl, Nat.le_of_ble_eq_true rfl⟩ ⟨Nat.le_of_ble_eq_true rfl, hsl⟩ dL_law_395 ?_
  refine r_icmp_eq (pc := 398) (tgt := 1110) X dL_law_398 (by decide +kernel) ?_ r_KF
  exact h
def kc_7 (Ls : Nat) (xs : Nat → Int32) (C : xK) : xK := x_aload 1 (x_aload 0 (x_iload 3 (x_push (.int 1) (x_iadd (x_sld Ls xs (x_aload 0 (x_iload 3 (x_push (.int 2) (x_iadd (x_sld Ls xs (y_cv2 0 (w_RII f_X11_place) (x_aload 2 (x_aload 0 (x_iload 3 (x_push (.int 1) (x_iadd (x_sld Ls xs (x_aload 0 (x_iload 3 (x_push (.int 2) (x_iadd (x_sld Ls xs (y_cv2 180 (w_RII f_X12_place) (x_icmp_eq C xKF))))))))))))))))))))))))
set_option maxRecDepth 20000 in
theorem tc_7 {p : Program} {l : Launch} {e : Env} {s : State} {m : MethodId} {args : Array Value} {below : List Frame} {meth : Method} {c : Code} {g : xG} {Q : State → Prop} {b Ls : Nat} {xs : Nat → Int32} {sl : Nat} (X : xX p s m args c meth cL_law RL 4 g) (S : xSc s g b Ls xs) (hsl : sl ≤ room_1.slots) {C : xK} (h : xAt p l e room_1 s m args below meth c g 4 xFT xN 231 sl Q C 1110) : xAt p l e room_1 s m args below meth c g 4 xFT xN 231 sl Q (kc_7 Ls xs C) 403 := by
  unfold kc_7
  refine r_aload_n (pc := 403) X dL_law_403 fn1 ?_
  refine r_aload_n (pc := 404) X dL_law_404 fn0 ?_
  refine r_iload_n (pc := 405) X dL_law_405 fn3 ?_
  refine r_iconst (pc := 406) X dL_law_406 (by decide +kernel) ?_
  refine r_iadd (pc := 407) X dL_law_407 ?_
  refine r_sld (pc := 408) X S dL_law_408 ?_
  refine r_aload_n (pc := 409) X dL_law_409 fn0 ?_
  refine r_iload_n (pc := 410) X dL_law_410 fn3 ?_
  refine r_iconst (pc := 411) X dL_law_411 (by decide +kernel) ?_
  refine r_iadd (pc := 412) X dL_law_412 ?_
  refine r_sld (pc := 413) X S dL_law_413 ?_
  refine s_cv2 (pc := 414) (ci := 11) X xok11 (by decide +kernel) ob_0 rfl (con_X11_place l) mf_X11_place lm_45 ⟨Nat.le_of_ble_eq_true rfl, Nat.le_of_ble_eq_true rfl⟩ ⟨Nat.le_of_ble_eq_true rfl, hsl⟩ dL_law_414 ?_
  refine r_aload_n (pc := 417) X dL_law_417 fn2 ?_
  refine r_aload_n (pc := 418) X dL_law_418 fn0 ?_
  refine r_iload_n (pc := 419) X dL_law_419 fn3 ?_
  refine r_iconst (pc := 420) X dL_law_420 (by decide +kernel) ?_
  refine r_iadd (pc := 421) X dL_law_421 ?_
  refine r_sld (pc := 422) X S dL_law_422 ?_
  refine r_aload_n (pc := 423) X dL_law_423 fn0 ?_
  refine r_iload_n (pc := 424) X dL_law_424 fn3 ?_
  refine r_iconst (pc := 425) X dL_law_425 (by decide +kernel) ?_
  refine r_iadd (pc := 426) X dL_law_426 ?_
  refine r_sld (pc := 427) X S dL_law_427 ?_
  refine s_cv2 (pc := 428) (ci := 12) X xok12 (by decide +kernel) ob_180 rfl (con_X12_place l) mf_X12_place lm_48 ⟨Nat.le_of_ble_eq_true rfl, Nat.le_of_ble_eq_true rfl⟩ ⟨Nat.le_of_ble_eq_true rfl, hsl⟩ dL_law_428 ?_
  refine r_icmp_eq (pc := 431) (tgt := 1110) X dL_law_431 (by decide +kernel) ?_ r_KF
  exact h
def kc_8 (Ls : Nat) (xs : Nat → Int32) (C : xK) : xK := x_aload 1 (x_aload 0 (x_iload 3 (x_push (.int 1) (x_iadd (x_sld Ls xs (x_aload 0 (x_iload 3 (x_push (.int 2) (x_iadd (x_sld Ls xs (x_aload 0 (x_iload 3 (x_push (.int 3) (x_iadd (x_sld Ls xs (y_cv3 0 (w_RIII f_X11_step) (x_aload 2 (x_aload 0 (x_iload 3 (x_push (.int 1) (x_iadd (x_sld Ls xs (x_aload 0 (x_iload 3 (x_push (.int 2) (x_iadd (x_sld Ls xs (x_aload 0 (x_iload 3 (x_push (.int 3) (x_iadd (x_sld Ls xs (y_cv3 180 (w_RIII f_X12_step) (x_icmp_eq C xKF))))))))))))))))))))))))))))))))))
set_option maxRecDepth 20000 in
theorem tc_8 {p : Program} {l : Launch} {e : Env} {s : State} {m : MethodId} {args : Array Value} {below : List Frame} {meth : Method} {c : Code} {g : xG} {Q : State → Prop} {b Ls : Nat} {xs : Nat → Int32} {sl : Nat} (X : xX p s m args c meth cL_law RL 4 g) (S : xSc s g b Ls xs) (hsl : sl ≤ room_1.slots) {C : xK} (h : xAt p l e room_1 s m args below meth c g 4 xFT xN 231 sl Q C 1110) : xAt p l e room_1 s m args below meth c g 4 xFT xN 231 sl Q (kc_8 Ls xs C) 436 := by
  unfold kc_8
  refine r_aload_n (pc := 436) X dL_law_436 fn1 ?_
  refine r_aload_n (pc := 437) X dL_law_437 fn0 ?_
  refine r_iload_n (pc := 438) X dL_law_438 fn3 ?_
  refine r_iconst (pc := 439) X dL_law_439 (by decide +kernel) ?_
  refine r_iadd (pc := 440) X dL_law_440 ?_
  refine r_sld (pc := 441) X S dL_law_441 ?_
  refine r_aload_n (pc := 442) X dL_law_442 fn0 ?_
  refine r_iload_n (pc := 443) X dL_law_443 fn3 ?_
  refine r_iconst (pc := 444) X dL_law_444 (by decide +kernel) ?_
  refine r_iadd (pc := 445) X dL_law_445 ?_
  refine r_sld (pc := 446) X S dL_law_446 ?_
  refine r_aload_n (pc := 447) X dL_law_447 fn0 ?_
  refine r_iload_n (pc := 448) X dL_law_448 fn3 ?_
  refine r_iconst (pc := 449) X dL_law_449 (by decide +kernel) ?_
  refine r_iadd (pc := 450) X dL_law_450 ?_
  refine r_sld (pc := 451) X S dL_law_451 ?_
  refine s_cv3 (pc := 452) (ci := 11) X xok11 (by decide +kernel) ob_0 rfl (con_X11_step l) mf_X11_step lm_49 ⟨Nat.le_of_ble_eq_true rfl, Nat.le_of_ble_eq_true rfl⟩ ⟨Nat.le_of_ble_eq_true rfl, hsl⟩ dL_law_452 ?_
  refine r_aload_n (pc := 455) X dL_law_455 fn2 ?_
  refine r_aload_n (pc := 456) X dL_law_456 fn0 ?_
  refine r_iload_n (pc := 457) X dL_law_457 fn3 ?_
  refine r_iconst (pc := 458) X dL_law_458 (by decide +kernel) ?_
  refine r_iadd (pc := 459) X dL_law_459 ?_
  refine r_sld (pc := 460) X S dL_law_460 ?_
  refine r_aload_n (pc := 461) X dL_law_461 fn0 ?_
  refine r_iload_n (pc := 462) X dL_law_462 fn3 ?_
  refine r_iconst (pc := 463) X dL_law_463 (by decide +kernel) ?_
  refine r_iadd (pc := 464) X dL_law_464 ?_
  refine r_sld (pc := 465) X S dL_law_465 ?_
  refine r_aload_n (pc := 466) X dL_law_466 fn0 ?_
  refine r_iload_n (pc := 467) X dL_law_467 fn3 ?_
  refine r_iconst (pc := 468) X dL_law_468 (by decide +kernel) ?_
  refine r_iadd (pc := 469) X dL_law_469 ?_
  refine r_sld (pc := 470) X S dL_law_470 ?_
  refine s_cv3 (pc := 471) (ci := 12) X xok12 (by decide +kernel) ob_180 rfl (con_X12_step l) mf_X12_step lm_53 ⟨Nat.le_of_ble_eq_true rfl, Nat.le_of_ble_eq_true rfl⟩ ⟨Nat.le_of_ble_eq_true rfl, hsl⟩ dL_law_471 ?_
  refine r_icmp_eq (pc := 474) (tgt := 1110) X dL_law_474 (by decide +kernel) ?_ r_KF
  exact h
def kc_9 (Ls : Nat) (xs : Nat → Int32) (C : xK) : xK := x_aload 1 (x_aload 0 (x_iload 3 (x_push (.int 1) (x_iadd (x_sld Ls xs (x_aload 0 (x_iload 3 (x_push (.int 2) (x_iadd (x_sld Ls xs (y_cv2 0 (w_RII f_X11_merge) (x_aload 2 (x_aload 0 (x_iload 3 (x_push (.int 1) (x_iadd (x_sld Ls xs (x_aload 0 (x_iload 3 (x_push (.int 2) (x_iadd (x_sld Ls xs (y_cv2 180 (w_RII f_X12_merge) (x_icmp_eq C xKF))))))))))))))))))))))))
set_option maxRecDepth 20000 in
theorem tc_9 {p : Program} {l : Launch} {e : Env} {s : State} {m : MethodId} {args : Array Value} {below : List Frame} {meth : Method} {c : Code} {g : xG} {Q : State → Prop} {b Ls : Nat} {xs : Nat → Int32} {sl : Nat} (X : xX p s m args c meth cL_law RL 4 g) (S : xSc s g b Ls xs) (hsl : sl ≤ room_1.slots) {C : xK} (h : xAt p l e room_1 s m args below meth c g 4 xFT xN 231 sl Q C 1110) : xAt p l e room_1 s m args below meth c g 4 xFT xN 231 sl Q (kc_9 Ls xs C) 479 := by
  unfold kc_9
  refine r_aload_n (pc := 479) X dL_law_479 fn1 ?_
  refine r_aload_n (pc := 480) X dL_law_480 fn0 ?_
  refine r_iload_n (pc := 481) X dL_law_481 fn3 ?_
  refine r_iconst (pc := 482) X dL_law_482 (by decide +kernel) ?_
  refine r_iadd (pc := 483) X dL_law_483 ?_
  refine r_sld (pc := 484) X S dL_law_484 ?_
  refine r_aload_n (pc := 485) X dL_law_485 fn0 ?_
  refine r_iload_n (pc := 486) X dL_law_486 fn3 ?_
  refine r_iconst (pc := 487) X dL_law_487 (by decide +kernel) ?_
  refine r_iadd (pc := 488) X dL_law_488 ?_
  refine r_sld (pc := 489) X S dL_law_489 ?_
  refine s_cv2 (pc := 490) (ci := 11) X xok11 (by decide +kernel) ob_0 rfl (con_X11_merge l) mf_X11_merge lm_54 ⟨Nat.le_of_ble_eq_true rfl, Nat.le_of_ble_eq_true rfl⟩ ⟨Nat.le_of_ble_eq_true rfl, hsl⟩ dL_law_490 ?_
  refine r_aload_n (pc := 493) X dL_law_493 fn2 ?_
  refine r_aload_n (pc := 494) X dL_law_494 fn0 ?_
  refine r_iload_n (pc := 495) X dL_law_495 fn3 ?_
  refine r_iconst (pc := 496) X dL_law_496 (by decide +kernel) ?_
  refine r_iadd (pc := 497) X dL_law_497 ?_
  refine r_sld (pc := 498) X S dL_law_498 ?_
  refine r_aload_n (pc := 499) X dL_law_499 fn0 ?_
  refine r_iload_n (pc := 500) X dL_law_500 fn3 ?_
  refine r_iconst (pc := 501) X dL_law_501 (by decide +kernel) ?_
  refine r_iadd (pc := 502) X dL_law_502 ?_
  refine r_sld (pc := 503) X S dL_law_503 ?_
  refine s_cv2 (pc := 504) (ci := 12) X xok12 (by decide +kernel) ob_180 rfl (con_X12_merge l) mf_X12_merge lm_57 ⟨Nat.le_of_ble_eq_true rfl, Nat.le_of_ble_eq_true rfl⟩ ⟨Nat.le_of_ble_eq_true rfl, hsl⟩ dL_law_504 ?_
  refine r_icmp_eq (pc := 507) (tgt := 1110) X dL_law_507 (by decide +kernel) ?_ r_KF
  exact h
def kc_10 (Ls : Nat) (xs : Nat → Int32) (C : xK) : xK := x_aload 1 (x_aload 0 (x_iload 3 (x_push (.int 1) (x_iadd (x_sld Ls xs (y_cv1 0 (w_RI f_X11_depth) (x_aload 2 (x_aload 0 (x_iload 3 (x_push (.int 1) (x_iadd (x_sld Ls xs (y_cv1 180 (w_RI f_X12_depth) (x_icmp_eq C xKF))))))))))))))
set_option maxRecDepth 20000 in
theorem tc_10 {p : Program} {l : Launch} {e : Env} {s : State} {m : MethodId} {args : Array Value} {below : List Frame} {meth : Method} {c : Code} {g : xG} {Q : State → Prop} {b Ls : Nat} {xs : Nat → Int32} {sl : Nat} (X : xX p s m args c meth cL_law RL 4 g) (S : xSc s g b Ls xs) (hsl : sl ≤ room_1.slots) {C : xK} (h : xAt p l e room_1 s m args below meth c g 4 xFT xN 231 sl Q C 1110) : xAt p l e room_1 s m args below meth c g 4 xFT xN 231 sl Q (kc_10 Ls xs C) 512 := by
  unfold kc_10
  refine r_aload_n (pc := 512) X dL_law_512 fn1 ?_
  refine r_aload_n (pc := 513) X dL_law_513 fn0 ?_
  refine r_iload_n (pc := 514) X dL_law_514 fn3 ?_
  refine r_iconst (pc := 515) X dL_law_515 (by decide +kernel) ?_
  refine r_iadd (pc := 516) X dL_law_516 ?_
  refine r_sld (pc := 517) X S dL_law_517 ?_
  refine s_cv1 (pc := 518) (ci := 11) X xok11 (by decide +kernel) ob_0 rfl (con_X11_depth l) mf_X11_depth lm_58 ⟨Nat.le_of_ble_eq_true rfl, Nat.le_of_ble_eq_true rfl⟩ ⟨Nat.le_of_ble_eq_true rfl, hsl⟩ dL_law_518 ?_
  refine r_aload_n (pc := 521) X dL_law_521 fn2 ?_
  refine r_aload_n (pc := 522) X dL_law_522 fn0 ?_
  refine r_iload_n (pc := 523) X dL_law_523 fn3 ?_
  refine r_iconst (pc := 524) X dL_law_524 (by decide +kernel) ?_
  refine r_iadd (pc := 525) X dL_law_525 ?_
  refine r_sld (pc := 526) X S dL_law_526 ?_
  refine s_cv1 (pc := 527) (ci := 12) X xok12 (by decide +kernel) ob_180 rfl (con_X12_depth l) mf_X12_depth lm_62 ⟨Nat.le_of_ble_eq_true rfl, Nat.le_of_ble_eq_true rfl⟩ ⟨Nat.le_of_ble_eq_true rfl, hsl⟩ dL_law_527 ?_
  refine r_icmp_eq (pc := 530) (tgt := 1110) X dL_law_530 (by decide +kernel) ?_ r_KF
  exact h
def kc_11 (Ls : Nat) (xs : Nat → Int32) (C : xK) : xK := x_aload 1 (x_aload 0 (x_iload 3 (x_push (.int 1) (x_iadd (x_sld Ls xs (y_cv1 0 (w_RI f_X11_drop) (x_aload 2 (x_aload 0 (x_iload 3 (x_push (.int 1) (x_iadd (x_sld Ls xs (y_cv1 180 (w_RI f_X12_drop) (x_icmp_eq C xKF))))))))))))))
set_option maxRecDepth 20000 in
theorem tc_11 {p : Program} {l : Launch} {e : Env} {s : State} {m : MethodId} {args : Array Value} {below : List Frame} {meth : Method} {c : Code} {g : xG} {Q : State → Prop} {b Ls : Nat} {xs : Nat → Int32} {sl : Nat} (X : xX p s m args c meth cL_law RL 4 g) (S : xSc s g b Ls xs) (hsl : sl ≤ room_1.slots) {C : xK} (h : xAt p l e room_1 s m args below meth c g 4 xFT xN 231 sl Q C 1110) : xAt p l e room_1 s m args below meth c g 4 xFT xN 231 sl Q (kc_11 Ls xs C) 535 := by
  unfold kc_11
  refine r_aload_n (pc := 535) X dL_law_535 fn1 ?_
  refine r_aload_n (pc := 536) X dL_law_536 fn0 ?_
  refine r_iload_n (pc := 537) X dL_law_537 fn3 ?_
  refine r_iconst (pc := 538) X dL_law_538 (by decide +kernel) ?_
  refine r_iadd (pc := 539) X dL_law_539 ?_
  refine r_sld (pc := 540) X S dL_law_540 ?_
  refine s_cv1 (pc := 541) (ci := 11) X xok11 (by decide +kernel) ob_0 rfl (con_X11_drop l) mf_X11_drop lm_63 ⟨Nat.le_of_ble_eq_true rfl, Nat.le_of_ble_eq_true rfl⟩ ⟨Nat.le_of_ble_eq_true rfl, hsl⟩ dL_law_541 ?_
  refine r_aload_n (pc := 544) X dL_law_544 fn2 ?_
  refine r_aload_n (pc := 545) X dL_law_545 fn0 ?_
  refine r_iload_n (pc := 546) X dL_law_546 fn3 ?_
  refine r_iconst (pc := 547) X dL_law_547 (by decide +kernel) ?_
  refine r_iadd (pc := 548) X dL_law_548 ?_
  refine r_sld (pc := 549) X S dL_law_549 ?_
  refine s_cv1 (pc := 550) (ci := 12) X xok12 (by decide +kernel) ob_180 rfl (con_X12_drop l) mf_X12_drop lm_66 ⟨Nat.le_of_ble_eq_true rfl, Nat.le_of_ble_eq_true rfl⟩ ⟨Nat.le_of_ble_eq_true rfl, hsl⟩ dL_law_550 ?_
  refine r_icmp_eq (pc := 553) (tgt := 1110) X dL_law_553 (by decide +kernel) ?_ r_KF
  exact h
def kc_12 (Ls : Nat) (xs : Nat → Int32) (C : xK) : xK := x_aload 1 (x_aload 0 (x_iload 3 (x_push (.int 1) (x_iadd (x_sld Ls xs (y_cv1 0 (w_RI f_X11_add) (x_aload 2 (x_aload 0 (x_iload 3 (x_push (.int 1) (x_iadd (x_sld Ls xs (y_cv1 180 (w_RI f_X12_add) (x_icmp_eq C xKF))))))))))))))
set_option maxRecDepth 20000 in
theorem tc_12 {p : Program} {l : Launch} {e : Env} {s : State} {m : MethodId} {args : Array Value} {below : List Frame} {meth : Method} {c : Code} {g : xG} {Q : State → Prop} {b Ls : Nat} {xs : Nat → Int32} {sl : Nat} (X : xX p s m args c meth cL_law RL 4 g) (S : xSc s g b Ls xs) (hsl : sl ≤ room_1.slots) {C : xK} (h : xAt p l e room_1 s m args below meth c g 4 xFT xN 231 sl Q C 1110) : xAt p l e room_1 s m args below meth c g 4 xFT xN 231 sl Q (kc_12 Ls xs C) 558 := by
  unfold kc_12
  refine r_aload_n (pc := 558) X dL_law_558 fn1 ?_
  refine r_aload_n (pc := 559) X dL_law_559 fn0 ?_
  refine r_iload_n (pc := 560) X dL_law_560 fn3 ?_
  refine r_iconst (pc := 561) X dL_law_561 (by decide +kernel) ?_
  refine r_iadd (pc := 562) X dL_law_562 ?_
  refine r_sld (pc := 563) X S dL_law_563 ?_
  refine s_cv1 (pc := 564) (ci := 11) X xok11 (by decide +kernel) ob_0 rfl (con_X11_add l) mf_X11_add lm_67 ⟨Nat.le_of_ble_eq_true rfl, Nat.le_of_ble_eq_true rfl⟩ ⟨Nat.le_of_ble_eq_true rfl, hsl⟩ dL_law_564 ?_
  refine r_aload_n (pc := 567) X dL_law_567 fn2 ?_
  refine r_aload_n (pc := 568) X dL_law_568 fn0 ?_
  refine r_iload_n (pc := 569) X dL_law_569 fn3 ?_
  refine r_iconst (pc := 570) X dL_law_570 (by decide +kernel) ?_
  refine r_iadd (pc := 571) X dL_law_571 ?_
  refine r_sld (pc := 572) X S dL_law_572 ?_
  refine s_cv1 (pc := 573) (ci := 12) X xok12 (by decide +kernel) ob_180 rfl (con_X12_add l) mf_X12_add lm_70 ⟨Nat.le_of_ble_eq_true rfl, Nat.le_of_ble_eq_true rfl⟩ ⟨Nat.le_of_ble_eq_true rfl, hsl⟩ dL_law_573 ?_
  refine r_icmp_eq (pc := 576) (tgt := 1110) X dL_law_576 (by decide +kernel) ?_ r_KF
  exact h
def kc_13 (Ls : Nat) (xs : Nat → Int32) (C : xK) : xK := x_aload 1 (y_cv0 0 (w_R f_X11_undo) (x_aload 2 (y_cv0 180 (w_R f_X12_undo) (x_icmp_eq C xKF))))
set_option maxRecDepth 20000 in
theorem tc_13 {p : Program} {l : Launch} {e : Env} {s : State} {m : MethodId} {args : Array Value} {below : List Frame} {meth : Method} {c : Code} {g : xG} {Q : State → Prop} {b Ls : Nat} {xs : Nat → Int32} {sl : Nat} (X : xX p s m args c meth cL_law RL 4 g) (S : xSc s g b Ls xs) (hsl : sl ≤ room_1.slots) {C : xK} (h : xAt p l e room_1 s m args below meth c g 4 xFT xN 231 sl Q C 1110) : xAt p l e room_1 s m args below meth c g 4 xFT xN 231 sl Q (kc_13 Ls xs C) 581 := by
  unfold kc_13
  refine r_aload_n (pc := 581) X dL_law_581 fn1 ?_
  refine s_cv0 (pc := 582) (ci := 11) X xok11 (by decide +kernel) ob_0 rfl (con_X11_undo l) mf_X11_undo lm_71 ⟨Nat.le_of_ble_eq_true rfl, Nat.le_of_ble_eq_true rfl⟩ ⟨Nat.le_of_ble_eq_true rfl, hsl⟩ dL_law_582 ?_
  refine r_aload_n (pc := 585) X dL_law_585 fn2 ?_
  refine s_cv0 (pc := 586) (ci := 12) X xok12 (by decide +kernel) ob_180 rfl (con_X12_undo l) mf_X12_undo lm_74 ⟨Nat.le_of_ble_eq_true rfl, Nat.le_of_ble_eq_true rfl⟩ ⟨Nat.le_of_ble_eq_true rfl, hsl⟩ dL_law_586 ?_
  refine r_icmp_eq (pc := 589) (tgt := 1110) X dL_law_589 (by decide +kernel) ?_ r_KF
  exact h
def kc_14 (Ls : Nat) (xs : Nat → Int32) (C : xK) : xK := x_aload 1 (x_aload 0 (x_iload 3 (x_push (.int 1) (x_iadd (x_sld Ls xs (y_cv1 0 (w_RI f_X11_twins) (x_aload 2 (x_aload 0 (x_iload 3 (x_push (.int 1) (x_iadd (x_sld Ls xs (y_cv1 180 (w_RI f_X12_twins) (x_icmp_eq C xKF))))))))))))))
set_option maxRecDepth 20000 in
theorem tc_14 {p : Program} {l : Launch} {e : Env} {s : State} {m : MethodId} {args : Array Value} {below : List Frame} {meth : Method} {c : Code} {g : xG} {Q : State → Prop} {b Ls : Nat} {xs : Nat → Int32} {sl : Nat} (X : xX p s m args c meth cL_law RL 4 g) (S : xSc s g b Ls xs) (hsl : sl ≤ room_1.slots) {C : xK} (h : xAt p l e room_1 s m args below meth c g 4 xFT xN 231 sl Q C 1110) : xAt p l e room_1 s m args below meth c g 4 xFT xN 231 sl Q (kc_14 Ls xs C) 594 := by
  unfold kc_14
  refine r_aload_n (pc := 594) X dL_law_594 fn1 ?_
  refine r_aload_n (pc := 595) X dL_law_595 fn0 ?_
  refine r_iload_n (pc := 596) X dL_law_596 fn3 ?_
  refine r_iconst (pc := 597) X dL_law_597 (by decide +kernel) ?_
  refine r_iadd (pc := 598) X dL_law_598 ?_
  refine r_sld (pc := 599) X S dL_law_599 ?_
  refine s_cv1 (pc := 600) (ci := 11) X xok11 (by decide +kernel) ob_0 rfl (con_X11_twins l) mf_X11_twins lm_75 ⟨Nat.le_of_ble_eq_true rfl, Nat.le_of_ble_eq_true rfl⟩ ⟨Nat.le_of_ble_eq_true rfl, hsl⟩ dL_law_600 ?_
  refine r_aload_n (pc := 603) X dL_law_603 fn2 ?_
  refine r_aload_n (pc := 604) X dL_law_604 fn0 ?_
  refine r_iload_n (pc := 605) X dL_law_605 fn3 ?_
  refine r_iconst (pc := 606) X dL_law_606 (by decide +kernel) ?_
  refine r_iadd (pc := 607) X dL_law_607 ?_
  refine r_sld (pc := 608) X S dL_law_608 ?_
  refine s_cv1 (pc := 609) (ci := 12) X xok12 (by decide +kernel) ob_180 rfl (con_X12_twins l) mf_X12_twins lm_78 ⟨Nat.le_of_ble_eq_true rfl, Nat.le_of_ble_eq_true rfl⟩ ⟨Nat.le_of_ble_eq_true rfl, hsl⟩ dL_law_609 ?_
  refine r_icmp_eq (pc := 612) (tgt := 1110) X dL_law_612 (by decide +kernel) ?_ r_KF
  exact h
def kc_15 (Ls : Nat) (xs : Nat → Int32) (C : xK) : xK := x_aload 1 (x_aload 0 (x_iload 3 (x_push (.int 1) (x_iadd (x_sld Ls xs (x_aload 0 (x_iload 3 (x_push (.int 2) (x_iadd (x_sld Ls xs (x_aload 0 (x_iload 3 (x_push (.int 3) (x_iadd (x_sld Ls xs (y_cv3 0 (w_RIII f_X11_twin) (x_aload 2 (x_aload 0 (x_iload 3 (x_push (.int 1) (x_iadd (x_sld Ls xs (x_aload 0 (x_iload 3 (x_push (.int 2) (x_iadd (x_sld Ls xs (x_aload 0 (x_iload 3 (x_push (.int 3) (x_iadd (x_sld Ls xs (y_cv3 180 (w_RIII f_X12_twin) (x_icmp_eq C xKF))))))))))))))))))))))))))))))))))
set_option maxRecDepth 20000 in
theorem tc_15 {p : Program} {l : Launch} {e : Env} {s : State} {m : MethodId} {args : Array Value} {below : List Frame} {meth : Method} {c : Code} {g : xG} {Q : State → Prop} {b Ls : Nat} {xs : Nat → Int32} {sl : Nat} (X : xX p s m args c meth cL_law RL 4 g) (S : xSc s g b Ls xs) (hsl : sl ≤ room_1.slots) {C : xK} (h : xAt p l e room_1 s m args below meth c g 4 xFT xN 231 sl Q C 1110) : xAt p l e room_1 s m args below meth c g 4 xFT xN 231 sl Q (kc_15 Ls xs C) 617 := by
  unfold kc_15
  refine r_aload_n (pc := 617) X dL_law_617 fn1 ?_
  refine r_aload_n (pc := 618) X dL_law_618 fn0 ?_
  refine r_iload_n (pc := 619) X dL_law_619 fn3 ?_
  refine r_iconst (pc := 620) X dL_law_620 (by decide +kernel) ?_
  refine r_iadd (pc := 621) X dL_law_621 ?_
  refine r_sld (pc := 622) X S dL_law_622 ?_
  refine r_aload_n (pc := 623) X dL_law_623 fn0 ?_
  refine r_iload_n (pc := 624) X dL_law_624 fn3 ?_
  refine r_iconst (pc := 625) X dL_law_625 (by decide +kernel) ?_
  refine r_iadd (pc := 626) X dL_law_626 ?_
  refine r_sld (pc := 627) X S dL_law_627 ?_
  refine r_aload_n (pc := 628) X dL_law_628 fn0 ?_
  refine r_iload_n (pc := 629) X dL_law_629 fn3 ?_
  refine r_iconst (pc := 630) X dL_law_630 (by decide +kernel) ?_
  refine r_iadd (pc := 631) X dL_law_631 ?_
  refine r_sld (pc := 632) X S dL_law_632 ?_
  refine s_cv3 (pc := 633) (ci := 11) X xok11 (by decide +kernel) ob_0 rfl (con_X11_twin l) mf_X11_twin lm_79 ⟨Nat.le_of_ble_eq_true rfl, Nat.le_of_ble_eq_true rfl⟩ ⟨Nat.le_of_ble_eq_true rfl, hsl⟩ dL_law_633 ?_
  refine r_aload_n (pc := 636) X dL_law_636 fn2 ?_
  refine r_aload_n (pc := 637) X dL_law_637 fn0 ?_
  refine r_iload_n (pc := 638) X dL_law_638 fn3 ?_
  refine r_iconst (pc := 639) X dL_law_639 (by decide +kernel) ?_
  refine r_iadd (pc := 640) X dL_law_640 ?_
  refine r_sld (pc := 641) X S dL_law_641 ?_
  refine r_aload_n (pc := 642) X dL_law_642 fn0 ?_
  refine r_iload_n (pc := 643) X dL_law_643 fn3 ?_
  refine r_iconst (pc := 644) X dL_law_644 (by decide +kernel) ?_
  refine r_iadd (pc := 645) X dL_law_645 ?_
  refine r_sld (pc := 646) X S dL_law_646 ?_
  refine r_aload_n (pc := 647) X dL_law_647 fn0 ?_
  refine r_iload_n (pc := 648) X dL_law_648 fn3 ?_
  refine r_iconst (pc := 649) X dL_law_649 (by decide +kernel) ?_
  refine r_iadd (pc := 650) X dL_law_650 ?_
  refine r_sld (pc := 651) X S dL_law_651 ?_
  refine s_cv3 (pc := 652) (ci := 12) X xok12 (by decide +kernel) ob_180 rfl (con_X12_twin l) mf_X12_twin lm_82 ⟨Nat.le_of_ble_eq_true rfl, Nat.le_of_ble_eq_true rfl⟩ ⟨Nat.le_of_ble_eq_true rfl, hsl⟩ dL_law_652 ?_
  refine r_icmp_eq (pc := 655) (tgt := 1110) X dL_law_655 (by decide +kernel) ?_ r_KF
  exact h
def kc_16 (Ls : Nat) (xs : Nat → Int32) (C : xK) : xK := x_aload 1 (x_aload 0 (x_iload 3 (x_push (.int 1) (x_iadd (x_sld Ls xs (y_cv1 0 (w_RI f_X11_suspects) (x_aload 2 (x_aload 0 (x_iload 3 (x_push (.int 1) (x_iadd (x_sld Ls xs (y_cv1 180 (w_RI f_X12_suspects) (x_icmp_eq C xKF))))))))))))))
set_option maxRecDepth 20000 in
theorem tc_16 {p : Program} {l : Launch} {e : Env} {s : State} {m : MethodId} {args : Array Value} {below : List Frame} {meth : Method} {c : Code} {g : xG} {Q : State → Prop} {b Ls : Nat} {xs : Nat → Int32} {sl : Nat} (X : xX p s m args c meth cL_law RL 4 g) (S : xSc s g b Ls xs) (hsl : sl ≤ room_1.slots) {C : xK} (h : xAt p l e room_1 s m args below meth c g 4 xFT xN 231 sl Q C 1110) : xAt p l e room_1 s m args below meth c g 4 xFT xN 231 sl Q (kc_16 Ls xs C) 660 := by
  unfold kc_16
  refine r_aload_n (pc := 660) X dL_law_660 fn1 ?_
  refine r_aload_n (pc := 661) X dL_law_661 fn0 ?_
  refine r_iload_n (pc := 662) X dL_law_662 fn3 ?_
  refine r_iconst (pc := 663) X dL_law_663 (by decide +kernel) ?_
  refine r_iadd (pc := 664) X dL_law_664 ?_
  refine r_sld (pc := 665) X S dL_law_665 ?_
  refine s_cv1 (pc := 666) (ci := 11) X xok11 (by decide +kernel) ob_0 rfl (con_X11_suspects l) mf_X11_suspects lm_83 ⟨Nat.le_of_ble_eq_true rfl, Nat.le_of_ble_eq_true rfl⟩ ⟨Nat.le_of_ble_eq_true rfl, hsl⟩ dL_law_666 ?_
  refine r_aload_n (pc := 669) X dL_law_669 fn2 ?_
  refine r_aload_n (pc := 670) X dL_law_670 fn0 ?_
  refine r_iload_n (pc := 671) X dL_law_671 fn3 ?_
  refine r_iconst (pc := 672) X dL_law_672 (by decide +kernel) ?_
  refine r_iadd (pc := 673) X dL_law_673 ?_
  refine r_sld (pc := 674) X S dL_law_674 ?_
  refine s_cv1 (pc := 675) (ci := 12) X xok12 (by decide +kernel) ob_180 rfl (con_X12_suspects l) mf_X12_suspects lm_86 ⟨Nat.le_of_ble_eq_true rfl, Nat.le_of_ble_eq_true rfl⟩ ⟨Nat.le_of_ble_eq_true rfl, hsl⟩ dL_law_675 ?_
  refine r_icmp_eq (pc := 678) (tgt := 1110) X dL_law_678 (by decide +kernel) ?_ r_KF
  exact h
def kc_17 (Ls : Nat) (xs : Nat → Int32) (C : xK) : xK := x_aload 1 (x_aload 0 (x_iload 3 (x_push (.int 1) (x_iadd (x_sld Ls xs (x_aload 0 (x_iload 3 (x_push (.int 2) (x_iadd (x_sld Ls xs (y_cv2 0 (w_RII f_X11_suspectAt) (x_aload 2 (x_aload 0 (x_iload 3 (x_push (.int 1) (x_iadd (x_sld Ls xs (x_aload 0 (x_iload 3 (x_push (.int 2) (x_iadd (x_sld Ls xs (y_cv2 180 (w_RII f_X12_suspectAt) (x_icmp_eq C xKF))))))))))))))))))))))))
set_option maxRecDepth 20000 in
theorem tc_17 {p : Program} {l : Launch} {e : Env} {s : State} {m : MethodId} {args : Array Value} {below : List Frame} {meth : Method} {c : Code} {g : xG} {Q : State → Prop} {b Ls : Nat} {xs : Nat → Int32} {sl : Nat} (X : xX p s m args c meth cL_law RL 4 g) (S : xSc s g b Ls xs) (hsl : sl ≤ room_1.slots) {C : xK} (h : xAt p l e room_1 s m args below meth c g 4 xFT xN 231 sl Q C 1110) : xAt p l e room_1 s m args below meth c g 4 xFT xN 231 sl Q (kc_17 Ls xs C) 683 := by
  unfold kc_17
  refine r_aload_n (pc := 683) X dL_law_683 fn1 ?_
  refine r_aload_n (pc := 684) X dL_law_684 fn0 ?_
  refine r_iload_n (pc := 685) X dL_law_685 fn3 ?_
  refine r_iconst (pc := 686) X dL_law_686 (by decide +kernel) ?_
  refine r_iadd (pc := 687) X dL_law_687 ?_
  refine r_sld (pc := 688) X S dL_law_688 ?_
  refine r_aload_n (pc := 689) X dL_law_689 fn0 ?_
  refine r_iload_n (pc := 690) X dL_law_690 fn3 ?_
  refine r_iconst (pc := 691) X dL_law_691 (by decide +kernel) ?_
  refine r_iadd (pc := 692) X dL_law_692 ?_
  refine r_sld (pc := 693) X S dL_law_693 ?_
  refine s_cv2 (pc := 694) (ci := 11) X xok11 (by decide +kernel) ob_0 rfl (con_X11_suspectAt l) mf_X11_suspectAt lm_87 ⟨Nat.le_of_ble_eq_true rfl, Nat.le_of_ble_eq_true rfl⟩ ⟨Nat.le_of_ble_eq_true rfl, hsl⟩ dL_law_694 ?_
  refine r_aload_n (pc := 697) X dL_law_697 fn2 ?_
  refine r_aload_n (pc := 698) X dL_law_698 fn0 ?_
  refine r_iload_n (pc := 699) X dL_law_699 fn3 ?_
  refine r_iconst (pc := 700) X dL_law_700 (by decide +kernel) ?_
  refine r_iadd (pc := 701) X dL_law_701 ?_
  refine r_sld (pc := 702) X S dL_law_702 ?_
  refine r_aload_n (pc := 703) X dL_law_703 fn0 ?_
  refine r_iload_n (pc := 704) X dL_law_704 fn3 ?_
  refine r_iconst (pc := 705) X dL_law_705 (by decide +kernel) ?_
  refine r_iadd (pc := 706) X dL_law_706 ?_
  refine r_sld (pc := 707) X S dL_law_707 ?_
  refine s_cv2 (pc := 708) (ci := 12) X xok12 (by decide +kernel) ob_180 rfl (con_X12_suspectAt l) mf_X12_suspectAt lm_90 ⟨Nat.le_of_ble_eq_true rfl, Nat.le_of_ble_eq_true rfl⟩ ⟨Nat.le_of_ble_eq_true rfl, hsl⟩ dL_law_708 ?_
  refine r_icmp_eq (pc := 711) (tgt := 1110) X dL_law_711 (by decide +kernel) ?_ r_KF
  exact h
def kc_18 (Ls : Nat) (xs : Nat → Int32) (C : xK) : xK := x_aload 1 (y_cv0 0 (w_R f_X11_proven) (x_aload 2 (y_cv0 180 (w_R f_X12_proven) (x_icmp_eq C xKF))))
set_option maxRecDepth 20000 in
theorem tc_18 {p : Program} {l : Launch} {e : Env} {s : State} {m : MethodId} {args : Array Value} {below : List Frame} {meth : Method} {c : Code} {g : xG} {Q : State → Prop} {b Ls : Nat} {xs : Nat → Int32} {sl : Nat} (X : xX p s m args c meth cL_law RL 4 g) (S : xSc s g b Ls xs) (hsl : sl ≤ room_1.slots) {C : xK} (h : xAt p l e room_1 s m args below meth c g 4 xFT xN 231 sl Q C 1110) : xAt p l e room_1 s m args below meth c g 4 xFT xN 231 sl Q (kc_18 Ls xs C) 716 := by
  unfold kc_18
  refine r_aload_n (pc := 716) X dL_law_716 fn1 ?_
  refine s_cv0 (pc := 717) (ci := 11) X xok11 (by decide +kernel) ob_0 rfl (con_X11_proven l) mf_X11_proven lm_91 ⟨Nat.le_of_ble_eq_true rfl, Nat.le_of_ble_eq_true rfl⟩ ⟨Nat.le_of_ble_eq_true rfl, hsl⟩ dL_law_717 ?_
  refine r_aload_n (pc := 720) X dL_law_720 fn2 ?_
  refine s_cv0 (pc := 721) (ci := 12) X xok12 (by decide +kernel) ob_180 rfl (con_X12_proven l) mf_X12_proven lm_94 ⟨Nat.le_of_ble_eq_true rfl, Nat.le_of_ble_eq_true rfl⟩ ⟨Nat.le_of_ble_eq_true rfl, hsl⟩ dL_law_721 ?_
  refine r_icmp_eq (pc := 724) (tgt := 1110) X dL_law_724 (by decide +kernel) ?_ r_KF
  exact h
def kc_19 (Ls : Nat) (xs : Nat → Int32) (C : xK) : xK := x_aload 1 (y_cv0 0 (w_R f_X11_shadow) (x_aload 2 (y_cv0 180 (w_R f_X12_shadow) (x_icmp_eq C xKF))))
set_option maxRecDepth 20000 in
theorem tc_19 {p : Program} {l : Launch} {e : Env} {s : State} {m : MethodId} {args : Array Value} {below : List Frame} {meth : Method} {c : Code} {g : xG} {Q : State → Prop} {b Ls : Nat} {xs : Nat → Int32} {sl : Nat} (X : xX p s m args c meth cL_law RL 4 g) (S : xSc s g b Ls xs) (hsl : sl ≤ room_1.slots) {C : xK} (h : xAt p l e room_1 s m args below meth c g 4 xFT xN 231 sl Q C 1110) : xAt p l e room_1 s m args below meth c g 4 xFT xN 231 sl Q (kc_19 Ls xs C) 729 := by
  unfold kc_19
  refine r_aload_n (pc := 729) X dL_law_729 fn1 ?_
  refine s_cv0 (pc := 730) (ci := 11) X xok11 (by decide +kernel) ob_0 rfl (con_X11_shadow l) mf_X11_shadow lm_95 ⟨Nat.le_of_ble_eq_true rfl, Nat.le_of_ble_eq_true rfl⟩ ⟨Nat.le_of_ble_eq_true rfl, hsl⟩ dL_law_730 ?_
  refine r_aload_n (pc := 733) X dL_law_733 fn2 ?_
  refine s_cv0 (pc := 734) (ci := 12) X xok12 (by decide +kernel) ob_180 rfl (con_X12_shadow l) mf_X12_shadow lm_98 ⟨Nat.le_of_ble_eq_true rfl, Nat.le_of_ble_eq_true rfl⟩ ⟨Nat.le_of_ble_eq_true rfl, hsl⟩ dL_law_734 ?_
  refine r_icmp_eq (pc := 737) (tgt := 1110) X dL_law_737 (by decide +kernel) ?_ r_KF
  exact h
def kc_20 (Ls : Nat) (xs : Nat → Int32) (C : xK) : xK := x_aload 1 (y_cv0 0 (w_R f_X11_trees) (x_aload 2 (y_cv0 180 (w_R f_X12_trees) (x_icmp_eq C xKF))))
set_option maxRecDepth 20000 in
theorem tc_20 {p : Program} {l : Launch} {e : Env} {s : State} {m : MethodId} {args : Array Value} {below : List Frame} {meth : Method} {c : Code} {g : xG} {Q : State → Prop} {b Ls : Nat} {xs : Nat → Int32} {sl : Nat} (X : xX p s m args c meth cL_law RL 4 g) (S : xSc s g b Ls xs) (hsl : sl ≤ room_1.slots) {C : xK} (h : xAt p l e room_1 s m args below meth c g 4 xFT xN 231 sl Q C 1110) : xAt p l e room_1 s m args below meth c g 4 xFT xN 231 sl Q (kc_20 Ls xs C) 742 := by
  unfold kc_20
  refine r_aload_n (pc := 742) X dL_law_742 fn1 ?_
  refine s_cv0 (pc := 743) (ci := 11) X xok11 (by decide +kernel) ob_0 rfl (con_X11_trees l) mf_X11_trees lm_99 ⟨Nat.le_of_ble_eq_true rfl, Nat.le_of_ble_eq_true rfl⟩ ⟨Nat.le_of_ble_eq_true rfl, hsl⟩ dL_law_743 ?_
  refine r_aload_n (pc := 746) X dL_law_746 fn2 ?_
  refine s_cv0 (pc := 747) (ci := 12) X xok12 (by decide +kernel) ob_180 rfl (con_X12_trees l) mf_X12_trees lm_102 ⟨Nat.le_of_ble_eq_true rfl, Nat.le_of_ble_eq_true rfl⟩ ⟨Nat.le_of_ble_eq_true rfl, hsl⟩ dL_law_747 ?_
  refine r_icmp_eq (pc := 750) (tgt := 1110) X dL_law_750 (by decide +kernel) ?_ r_KF
  exact h
def kc_21 (Ls : Nat) (xs : Nat → Int32) (C : xK) : xK := x_aload 1 (x_aload 0 (x_iload 3 (x_push (.int 1) (x_iadd (x_sld Ls xs (y_cv1 0 (w_RI f_X11_tree) (x_aload 2 (x_aload 0 (x_iload 3 (x_push (.int 1) (x_iadd (x_sld Ls xs (y_cv1 180 (w_RI f_X12_tree) (x_icmp_eq C xKF))))))))))))))
set_option maxRecDepth 20000 in
theorem tc_21 {p : Program} {l : Launch} {e : Env} {s : State} {m : MethodId} {args : Array Value} {below : List Frame} {meth : Method} {c : Code} {g : xG} {Q : State → Prop} {b Ls : Nat} {xs : Nat → Int32} {sl : Nat} (X : xX p s m args c meth cL_law RL 4 g) (S : xSc s g b Ls xs) (hsl : sl ≤ room_1.slots) {C : xK} (h : xAt p l e room_1 s m args below meth c g 4 xFT xN 231 sl Q C 1110) : xAt p l e room_1 s m args below meth c g 4 xFT xN 231 sl Q (kc_21 Ls xs C) 755 := by
  unfold kc_21
  refine r_aload_n (pc := 755) X dL_law_755 fn1 ?_
  refine r_aload_n (pc := 756) X dL_law_756 fn0 ?_
  refine r_iload_n (pc := 757) X dL_law_757 fn3 ?_
  refine r_iconst (pc := 758) X dL_law_758 (by decide +kernel) ?_
  refine r_iadd (pc := 759) X dL_law_759 ?_
  refine r_sld (pc := 760) X S dL_law_760 ?_
  refine s_cv1 (pc := 761) (ci := 11) X xok11 (by decide +kernel) ob_0 rfl (con_X11_tree l) mf_X11_tree lm_103 ⟨Nat.le_of_ble_eq_true rfl, Nat.le_of_ble_eq_true rfl⟩ ⟨Nat.le_of_ble_eq_true rfl, hsl⟩ dL_law_761 ?_
  refine r_aload_n (pc := 764) X dL_law_764 fn2 ?_
  refine r_aload_n (pc := 765) X dL_law_765 fn0 ?_
  refine r_iload_n (pc := 766) X dL_law_766 fn3 ?_
  refine r_iconst (pc := 767) X dL_law_767 (by decide +kernel) ?_
  refine r_iadd (pc := 768) X dL_law_768 ?_
  refine r_sld (pc := 769) X S dL_law_769 ?_
  refine s_cv1 (pc := 770) (ci := 12) X xok12 (by decide +kernel) ob_180 rfl (con_X12_tree l) mf_X12_tree lm_106 ⟨Nat.le_of_ble_eq_true rfl, Nat.le_of_ble_eq_true rfl⟩ ⟨Nat.le_of_ble_eq_true rfl, hsl⟩ dL_law_770 ?_
  refine r_icmp_eq (pc := 773) (tgt := 1110) X dL_law_773 (by decide +kernel) ?_ r_KF
  exact h
def kc_22 (Ls : Nat) (xs : Nat → Int32) (C : xK) : xK := x_aload 1 (x_aload 0 (x_iload 3 (x_push (.int 1) (x_iadd (x_sld Ls xs (y_cv1 0 (w_RI f_X11_treeAt) (x_aload 2 (x_aload 0 (x_iload 3 (x_push (.int 1) (x_iadd (x_sld Ls xs (y_cv1 180 (w_RI f_X12_treeAt) (x_icmp_eq C xKF))))))))))))))
set_option maxRecDepth 20000 in
theorem tc_22 {p : Program} {l : Launch} {e : Env} {s : State} {m : MethodId} {args : Array Value} {below : List Frame} {meth : Method} {c : Code} {g : xG} {Q : State → Prop} {b Ls : Nat} {xs : Nat → Int32} {sl : Nat} (X : xX p s m args c meth cL_law RL 4 g) (S : xSc s g b Ls xs) (hsl : sl ≤ room_1.slots) {C : xK} (h : xAt p l e room_1 s m args below meth c g 4 xFT xN 231 sl Q C 1110) : xAt p l e room_1 s m args below meth c g 4 xFT xN 231 sl Q (kc_22 Ls xs C) 778 := by
  unfold kc_22
  refine r_aload_n (pc := 778) X dL_law_778 fn1 ?_
  refine r_aload_n (pc := 779) X dL_law_779 fn0 ?_
  refine r_iload_n (pc := 780) X dL_law_780 fn3 ?_
  refine r_iconst (pc := 781) X dL_law_781 (by decide +kernel) ?_
  refine r_iadd (pc := 782) X dL_law_782 ?_
  refine r_sld (pc := 783) X S dL_law_783 ?_
  refine s_cv1 (pc := 784) (ci := 11) X xok11 (by decide +kernel) ob_0 rfl (con_X11_treeAt l) mf_X11_treeAt lm_107 ⟨Nat.le_of_ble_eq_true rfl, Nat.le_of_ble_eq_true rfl⟩ ⟨Nat.le_of_ble_eq_true rfl, hsl⟩ dL_law_784 ?_
  refine r_aload_n (pc := 787) X dL_law_787 fn2 ?_
  refine r_aload_n (pc := 788) X dL_law_788 fn0 ?_
  refine r_iload_n (pc := 789) X dL_law_789 fn3 ?_
  refine r_iconst (pc := 790) X dL_law_790 (by decide +kernel) ?_
  refine r_iadd (pc := 791) X dL_law_791 ?_
  refine r_sld (pc := 792) X S dL_law_792 ?_
  refine s_cv1 (pc := 793) (ci := 12) X xok12 (by decide +kernel) ob_180 rfl (con_X12_treeAt l) mf_X12_treeAt lm_110 ⟨Nat.le_of_ble_eq_true rfl, Nat.le_of_ble_eq_true rfl⟩ ⟨Nat.le_of_ble_eq_true rfl, hsl⟩ dL_law_793 ?_
  refine r_icmp_eq (pc := 796) (tgt := 1110) X dL_law_796 (by decide +kernel) ?_ r_KF
  exact h
def kc_23 (Ls : Nat) (xs : Nat → Int32) (C : xK) : xK := x_aload 1 (x_aload 0 (x_iload 3 (x_push (.int 1) (x_iadd (x_sld Ls xs (y_cv1 0 (w_RI f_X11_witness) (x_aload 2 (x_aload 0 (x_iload 3 (x_push (.int 1) (x_iadd (x_sld Ls xs (y_cv1 180 (w_RI f_X12_witness) (x_icmp_eq C xKF))))))))))))))
set_option maxRecDepth 20000 in
theorem tc_23 {p : Program} {l : Launch} {e : Env} {s : State} {m : MethodId} {args : Array Value} {below : List Frame} {meth : Method} {c : Code} {g : xG} {Q : State → Prop} {b Ls : Nat} {xs : Nat → Int32} {sl : Nat} (X : xX p s m args c meth cL_law RL 4 g) (S : xSc s g b Ls xs) (hsl : sl ≤ room_1.slots) {C : xK} (h : xAt p l e room_1 s m args below meth c g 4 xFT xN 231 sl Q C 1110) : xAt p l e room_1 s m args below meth c g 4 xFT xN 231 sl Q (kc_23 Ls xs C) 801 := by
  unfold kc_23
  refine r_aload_n (pc := 801) X dL_law_801 fn1 ?_
  refine r_aload_n (pc := 802) X dL_law_802 fn0 ?_
  refine r_iload_n (pc := 803) X dL_law_803 fn3 ?_
  refine r_iconst (pc := 804) X dL_law_804 (by decide +kernel) ?_
  refine r_iadd (pc := 805) X dL_law_805 ?_
  refine r_sld (pc := 806) X S dL_law_806 ?_
  refine s_cv1 (pc := 807) (ci := 11) X xok11 (by decide +kernel) ob_0 rfl (con_X11_witness l) mf_X11_witness lm_111 ⟨Nat.le_of_ble_eq_true rfl, Nat.le_of_ble_eq_true rfl⟩ ⟨Nat.le_of_ble_eq_true rfl, hsl⟩ dL_law_807 ?_
  refine r_aload_n (pc := 810) X dL_law_810 fn2 ?_
  refine r_aload_n (pc := 811) X dL_law_811 fn0 ?_
  refine r_iload_n (pc := 812) X dL_law_812 fn3 ?_
  refine r_iconst (pc := 813) X dL_law_813 (by decide +kernel) ?_
  refine r_iadd (pc := 814) X dL_law_814 ?_
  refine r_sld (pc := 815) X S dL_law_815 ?_
  refine s_cv1 (pc := 816) (ci := 12) X xok12 (by decide +kernel) ob_180 rfl (con_X12_witness l) mf_X12_witness lm_114 ⟨Nat.le_of_ble_eq_true rfl, Nat.le_of_ble_eq_true rfl⟩ ⟨Nat.le_of_ble_eq_true rfl, hsl⟩ dL_law_816 ?_
  refine r_icmp_eq (pc := 819) (tgt := 1110) X dL_law_819 (by decide +kernel) ?_ r_KF
  exact h
def kc_24 (Ls : Nat) (xs : Nat → Int32) (C : xK) : xK := x_aload 1 (x_aload 0 (x_iload 3 (x_push (.int 1) (x_iadd (x_sld Ls xs (y_cv1 0 (w_RI f_X11_witnessAt) (x_aload 2 (x_aload 0 (x_iload 3 (x_push (.int 1) (x_iadd (x_sld Ls xs (y_cv1 180 (w_RI f_X12_witnessAt) (x_icmp_eq C xKF))))))))))))))
set_option maxRecDepth 20000 in
theorem tc_24 {p : Program} {l : Launch} {e : Env} {s : State} {m : MethodId} {args : Array Value} {below : List Frame} {meth : Method} {c : Code} {g : xG} {Q : State → Prop} {b Ls : Nat} {xs : Nat → Int32} {sl : Nat} (X : xX p s m args c meth cL_law RL 4 g) (S : xSc s g b Ls xs) (hsl : sl ≤ room_1.slots) {C : xK} (h : xAt p l e room_1 s m args below meth c g 4 xFT xN 231 sl Q C 1110) : xAt p l e room_1 s m args below meth c g 4 xFT xN 231 sl Q (kc_24 Ls xs C) 824 := by
  unfold kc_24
  refine r_aload_n (pc := 824) X dL_law_824 fn1 ?_
  refine r_aload_n (pc := 825) X dL_law_825 fn0 ?_
  refine r_iload_n (pc := 826) X dL_law_826 fn3 ?_
  refine r_iconst (pc := 827) X dL_law_827 (by decide +kernel) ?_
  refine r_iadd (pc := 828) X dL_law_828 ?_
  refine r_sld (pc := 829) X S dL_law_829 ?_
  refine s_cv1 (pc := 830) (ci := 11) X xok11 (by decide +kernel) ob_0 rfl (con_X11_witnessAt l) mf_X11_witnessAt lm_115 ⟨Nat.le_of_ble_eq_true rfl, Nat.le_of_ble_eq_true rfl⟩ ⟨Nat.le_of_ble_eq_true rfl, hsl⟩ dL_law_830 ?_
  refine r_aload_n (pc := 833) X dL_law_833 fn2 ?_
  refine r_aload_n (pc := 834) X dL_law_834 fn0 ?_
  refine r_iload_n (pc := 835) X dL_law_835 fn3 ?_
  refine r_iconst (pc := 836) X dL_law_836 (by decide +kernel) ?_
  refine r_iadd (pc := 837) X dL_law_837 ?_
  refine r_sld (pc := 838) X S dL_law_838 ?_
  refine s_cv1 (pc := 839) (ci := 12) X xok12 (by decide +kernel) ob_180 rfl (con_X12_witnessAt l) mf_X12_witnessAt lm_118 ⟨Nat.le_of_ble_eq_true rfl, Nat.le_of_ble_eq_true rfl⟩ ⟨Nat.le_of_ble_eq_true rfl, hsl⟩ dL_law_839 ?_
  refine r_icmp_eq (pc := 842) (tgt := 1110) X dL_law_842 (by decide +kernel) ?_ r_KF
  exact h
def kc_25 (Ls : Nat) (xs : Nat → Int32) (C : xK) : xK := x_aload 1 (x_aload 0 (x_iload 3 (x_push (.int 1) (x_iadd (x_sld Ls xs (y_cv1 0 (w_RI f_X11_tag) (x_aload 2 (x_aload 0 (x_iload 3 (x_push (.int 1) (x_iadd (x_sld Ls xs (y_cv1 180 (w_RI f_X12_tag) (x_icmp_eq C xKF))))))))))))))
set_option maxRecDepth 20000 in
theorem tc_25 {p : Program} {l : Launch} {e : Env} {s : State} {m : MethodId} {args : Array Value} {below : List Frame} {meth : Method} {c : Code} {g : xG} {Q : State → Prop} {b Ls : Nat} {xs : Nat → Int32} {sl : Nat} (X : xX p s m args c meth cL_law RL 4 g) (S : xSc s g b Ls xs) (hsl : sl ≤ room_1.slots) {C : xK} (h : xAt p l e room_1 s m args below meth c g 4 xFT xN 231 sl Q C 1110) : xAt p l e room_1 s m args below meth c g 4 xFT xN 231 sl Q (kc_25 Ls xs C) 847 := by
  unfold kc_25
  refine r_aload_n (pc := 847) X dL_law_847 fn1 ?_
  refine r_aload_n (pc := 848) X dL_law_848 fn0 ?_
  refine r_iload_n (pc := 849) X dL_law_849 fn3 ?_
  refine r_iconst (pc := 850) X dL_law_850 (by decide +kernel) ?_
  refine r_iadd (pc := 851) X dL_law_851 ?_
  refine r_sld (pc := 852) X S dL_law_852 ?_
  refine s_cv1 (pc := 853) (ci := 11) X xok11 (by decide +kernel) ob_0 rfl (con_X11_tag l) mf_X11_tag lm_119 ⟨Nat.le_of_ble_eq_true rfl, Nat.le_of_ble_eq_true rfl⟩ ⟨Nat.le_of_ble_eq_true rfl, hsl⟩ dL_law_853 ?_
  refine r_aload_n (pc := 856) X dL_law_856 fn2 ?_
  refine r_aload_n (pc := 857) X dL_law_857 fn0 ?_
  refine r_iload_n (pc := 858) X dL_law_858 fn3 ?_
  refine r_iconst (pc := 859) X dL_law_859 (by decide +kernel) ?_
  refine r_iadd (pc := 860) X dL_law_860 ?_
  refine r_sld (pc := 861) X S dL_law_861 ?_
  refine s_cv1 (pc := 862) (ci := 12) X xok12 (by decide +kernel) ob_180 rfl (con_X12_tag l) mf_X12_tag lm_122 ⟨Nat.le_of_ble_eq_true rfl, Nat.le_of_ble_eq_true rfl⟩ ⟨Nat.le_of_ble_eq_true rfl, hsl⟩ dL_law_862 ?_
  refine r_icmp_eq (pc := 865) (tgt := 1110) X dL_law_865 (by decide +kernel) ?_ r_KF
  exact h
def kc_26 (Ls : Nat) (xs : Nat → Int32) (C : xK) : xK := x_aload 1 (x_aload 0 (x_iload 3 (x_push (.int 1) (x_iadd (x_sld Ls xs (y_cv1 0 (w_RI f_X11_byteAt) (x_aload 2 (x_aload 0 (x_iload 3 (x_push (.int 1) (x_iadd (x_sld Ls xs (y_cv1 180 (w_RI f_X12_byteAt) (x_icmp_eq C xKF))))))))))))))
set_option maxRecDepth 20000 in
theorem tc_26 {p : Program} {l : Launch} {e : Env} {s : State} {m : MethodId} {args : Array Value} {below : List Frame} {meth : Method} {c : Code} {g : xG} {Q : State → Prop} {b Ls : Nat} {xs : Nat → Int32} {sl : Nat} (X : xX p s m args c meth cL_law RL 4 g) (S : xSc s g b Ls xs) (hsl : sl ≤ room_1.slots) {C : xK} (h : xAt p l e room_1 s m args below meth c g 4 xFT xN 231 sl Q C 1110) : xAt p l e room_1 s m args below meth c g 4 xFT xN 231 sl Q (kc_26 Ls xs C) 870 := by
  unfold kc_26
  refine r_aload_n (pc := 870) X dL_law_870 fn1 ?_
  refine r_aload_n (pc := 871) X dL_law_871 fn0 ?_
  refine r_iload_n (pc := 872) X dL_law_872 fn3 ?_
  refine r_iconst (pc := 873) X dL_law_873 (by decide +kernel) ?_
  refine r_iadd (pc := 874) X dL_law_874 ?_
  refine r_sld (pc := 875) X S dL_law_875 ?_
  refine s_cv1 (pc := 876) (ci := 11) X xok11 (by decide +kernel) ob_0 rfl (con_X11_byteAt l) mf_X11_byteAt lm_123 ⟨Nat.le_of_ble_eq_true rfl, Nat.le_of_ble_eq_true rfl⟩ ⟨Nat.le_of_ble_eq_true rfl, hsl⟩ dL_law_876 ?_
  refine r_aload_n (pc := 879) X dL_law_879 fn2 ?_
  refine r_aload_n (pc := 880) X dL_law_880 fn0 ?_
  refine r_iload_n (pc := 881) X dL_law_881 fn3 ?_
  refine r_iconst (pc := 882) X dL_law_882 (by decide +kernel) ?_
  refine r_iadd (pc := 883) X dL_law_883 ?_
  refine r_sld (pc := 884) X S dL_law_884 ?_
  refine s_cv1 (pc := 885) (ci := 12) X xok12 (by decide +kernel) ob_180 rfl (con_X12_byteAt l) mf_X12_byteAt lm_126 ⟨Nat.le_of_ble_eq_true rfl, Nat.le_of_ble_eq_true rfl⟩ ⟨Nat.le_of_ble_eq_true rfl, hsl⟩ dL_law_885 ?_
  refine r_icmp_eq (pc := 888) (tgt := 1110) X dL_law_888 (by decide +kernel) ?_ r_KF
  exact h
def kc_27 (Ls : Nat) (xs : Nat → Int32) (C : xK) : xK := x_aload 1 (x_aload 0 (x_iload 3 (x_push (.int 1) (x_iadd (x_sld Ls xs (x_aload 0 (x_iload 3 (x_push (.int 2) (x_iadd (x_sld Ls xs (y_cv2 0 (w_RII f_X11_drawn) (x_aload 2 (x_aload 0 (x_iload 3 (x_push (.int 1) (x_iadd (x_sld Ls xs (x_aload 0 (x_iload 3 (x_push (.int 2) (x_iadd (x_sld Ls xs (y_cv2 180 (w_RII f_X12_drawn) (x_icmp_eq C xKF))))))))))))))))))))))))
set_option maxRecDepth 20000 in
theorem tc_27 {p : Program} {l : Launch} {e : Env} {s : State} {m : MethodId} {args : Array Value} {below : List Frame} {meth : Method} {c : Code} {g : xG} {Q : State → Prop} {b Ls : Nat} {xs : Nat → Int32} {sl : Nat} (X : xX p s m args c meth cL_law RL 4 g) (S : xSc s g b Ls xs) (hsl : sl ≤ room_1.slots) {C : xK} (h : xAt p l e room_1 s m args below meth c g 4 xFT xN 231 sl Q C 1110) : xAt p l e room_1 s m args below meth c g 4 xFT xN 231 sl Q (kc_27 Ls xs C) 893 := by
  unfold kc_27
  refine r_aload_n (pc := 893) X dL_law_893 fn1 ?_
  refine r_aload_n (pc := 894) X dL_law_894 fn0 ?_
  refine r_iload_n (pc := 895) X dL_law_895 fn3 ?_
  refine r_iconst (pc := 896) X dL_law_896 (by decide +kernel) ?_
  refine r_iadd (pc := 897) X dL_law_897 ?_
  refine r_sld (pc := 898) X S dL_law_898 ?_
  refine r_aload_n (pc := 899) X dL_law_899 fn0 ?_
  refine r_iload_n (pc := 900) X dL_law_900 fn3 ?_
  refine r_iconst (pc := 901) X dL_law_901 (by decide +kernel) ?_
  refine r_iadd (pc := 902) X dL_law_902 ?_
  refine r_sld (pc := 903) X S dL_law_903 ?_
  refine s_cv2 (pc := 904) (ci := 11) X xok11 (by decide +kernel) ob_0 rfl (con_X11_drawn l) mf_X11_drawn lm_127 ⟨Nat.le_of_ble_eq_true rfl, Nat.le_of_ble_eq_true rfl⟩ ⟨Nat.le_of_ble_eq_true rfl, hsl⟩ dL_law_904 ?_
  refine r_aload_n (pc := 907) X dL_law_907 fn2 ?_
  refine r_aload_n (pc := 908) X dL_law_908 fn0 ?_
  refine r_iload_n (pc := 909) X dL_law_909 fn3 ?_
  refine r_iconst (pc := 910) X dL_law_910 (by decide +kernel) ?_
  refine r_iadd (pc := 911) X dL_law_911 ?_
  refine r_sld (pc := 912) X S dL_law_912 ?_
  refine r_aload_n (pc := 913) X dL_law_913 fn0 ?_
  refine r_iload_n (pc := 914) X dL_law_914 fn3 ?_
  refine r_iconst (pc := 915) X dL_law_915 (by decide +kernel) ?_
  refine r_iadd (pc := 916) X dL_law_916 ?_
  refine r_sld (pc := 917) X S dL_law_917 ?_
  refine s_cv2 (pc := 918) (ci := 12) X xok12 (by decide +kernel) ob_180 rfl (con_X12_drawn l) mf_X12_drawn lm_130 ⟨Nat.le_of_ble_eq_true rfl, Nat.le_of_ble_eq_true rfl⟩ ⟨Nat.le_of_ble_eq_true rfl, hsl⟩ dL_law_918 ?_
  refine r_icmp_eq (pc := 921) (tgt := 1110) X dL_law_921 (by decide +kernel) ?_ r_KF
  exact h
def kc_28 (Ls : Nat) (xs : Nat → Int32) (C : xK) : xK := x_aload 1 (x_aload 0 (x_iload 3 (x_push (.int 1) (x_iadd (x_sld Ls xs (x_aload 0 (x_iload 3 (x_push (.int 2) (x_iadd (x_sld Ls xs (y_cv2 0 (w_RII f_X11_odds) (x_aload 2 (x_aload 0 (x_iload 3 (x_push (.int 1) (x_iadd (x_sld Ls xs (x_aload 0 (x_iload 3 (x_push (.int 2) (x_iadd (x_sld Ls xs (y_cv2 180 (w_RII f_X12_odds) (x_icmp_eq C xKF))))))))))))))))))))))))
set_option maxRecDepth 20000 in
theorem tc_28 {p : Program} {l : Launch} {e : Env} {s : State} {m : MethodId} {args : Array Value} {below : List Frame} {meth : Method} {c : Code} {g : xG} {Q : State → Prop} {b Ls : Nat} {xs : Nat → Int32} {sl : Nat} (X : xX p s m args c meth cL_law RL 4 g) (S : xSc s g b Ls xs) (hsl : sl ≤ room_1.slots) {C : xK} (h : xAt p l e room_1 s m args below meth c g 4 xFT xN 231 sl Q C 1110) : xAt p l e room_1 s m args below meth c g 4 xFT xN 231 sl Q (kc_28 Ls xs C) 926 := by
  unfold kc_28
  refine r_aload_n (pc := 926) X dL_law_926 fn1 ?_
  refine r_aload_n (pc := 927) X dL_law_927 fn0 ?_
  refine r_iload_n (pc := 928) X dL_law_928 fn3 ?_
  refine r_iconst (pc := 929) X dL_law_929 (by decide +kernel) ?_
  refine r_iadd (pc := 930) X dL_law_930 ?_
  refine r_sld (pc := 931) X S dL_law_931 ?_
  refine r_aload_n (pc := 932) X dL_law_932 fn0 ?_
  refine r_iload_n (pc := 933) X dL_law_933 fn3 ?_
  refine r_iconst (pc := 934) X dL_law_934 (by decide +kernel) ?_
  refine r_iadd (pc := 935) X dL_law_935 ?_
  refine r_sld (pc := 936) X S dL_law_936 ?_
  refine s_cv2 (pc := 937) (ci := 11) X xok11 (by decide +kernel) ob_0 rfl (con_X11_odds l) mf_X11_odds lm_131 ⟨Nat.le_of_ble_eq_true rfl, Nat.le_of_ble_eq_true rfl⟩ ⟨Nat.le_of_ble_eq_true rfl, hsl⟩ dL_law_937 ?_
  refine r_aload_n (pc := 940) X dL_law_940 fn2 ?_
  refine r_aload_n (pc := 941) X dL_law_941 fn0 ?_
  refine r_iload_n (pc := 942) X dL_law_942 fn3 ?_
  refine r_iconst (pc := 943) X dL_law_943 (by decide +kernel) ?_
  refine r_iadd (pc := 944) X dL_law_944 ?_
  refine r_sld (pc := 945) X S dL_law_945 ?_
  refine r_aload_n (pc := 946) X dL_law_946 fn0 ?_
  refine r_iload_n (pc := 947) X dL_law_947 fn3 ?_
  refine r_iconst (pc := 948) X dL_law_948 (by decide +kernel) ?_
  refine r_iadd (pc := 949) X dL_law_949 ?_
  refine r_sld (pc := 950) X S dL_law_950 ?_
  refine s_cv2 (pc := 951) (ci := 12) X xok12 (by decide +kernel) ob_180 rfl (con_X12_odds l) mf_X12_odds lm_134 ⟨Nat.le_of_ble_eq_true rfl, Nat.le_of_ble_eq_true rfl⟩ ⟨Nat.le_of_ble_eq_true rfl, hsl⟩ dL_law_951 ?_
  refine r_icmp_eq (pc := 954) (tgt := 1110) X dL_law_954 (by decide +kernel) ?_ r_KF
  exact h
def kc_29 (Ls : Nat) (xs : Nat → Int32) (C : xK) : xK := x_aload 1 (x_aload 0 (x_iload 3 (x_push (.int 1) (x_iadd (x_sld Ls xs (y_cv1 0 (w_RI f_X11_book) (x_aload 2 (x_aload 0 (x_iload 3 (x_push (.int 1) (x_iadd (x_sld Ls xs (y_cv1 180 (w_RI f_X12_book) (x_icmp_eq C xKF))))))))))))))
set_option maxRecDepth 20000 in
theorem tc_29 {p : Program} {l : Launch} {e : Env} {s : State} {m : MethodId} {args : Array Value} {below : List Frame} {meth : Method} {c : Code} {g : xG} {Q : State → Prop} {b Ls : Nat} {xs : Nat → Int32} {sl : Nat} (X : xX p s m args c meth cL_law RL 4 g) (S : xSc s g b Ls xs) (hsl : sl ≤ room_1.slots) {C : xK} (h : xAt p l e room_1 s m args below meth c g 4 xFT xN 231 sl Q C 1110) : xAt p l e room_1 s m args below meth c g 4 xFT xN 231 sl Q (kc_29 Ls xs C) 959 := by
  unfold kc_29
  refine r_aload_n (pc := 959) X dL_law_959 fn1 ?_
  refine r_aload_n (pc := 960) X dL_law_960 fn0 ?_
  refine r_iload_n (pc := 961) X dL_law_961 fn3 ?_
  refine r_iconst (pc := 962) X dL_law_962 (by decide +kernel) ?_
  refine r_iadd (pc := 963) X dL_law_963 ?_
  refine r_sld (pc := 964) X S dL_law_964 ?_
  refine s_cv1 (pc := 965) (ci := 11) X xok11 (by decide +kernel) ob_0 rfl (con_X11_book l) mf_X11_book lm_135 ⟨Nat.le_of_ble_eq_true rfl, Nat.le_of_ble_eq_true rfl⟩ ⟨Nat.le_of_ble_eq_true rfl, hsl⟩ dL_law_965 ?_
  refine r_aload_n (pc := 968) X dL_law_968 fn2 ?_
  refine r_aload_n (pc := 969) X dL_law_969 fn0 ?_
  refine r_iload_n (pc := 970) X dL_law_970 fn3 ?_
  refine r_iconst (pc := 971) X dL_law_971 (by decide +kernel) ?_
  refine r_iadd (pc := 972) X dL_law_972 ?_
  refine r_sld (pc := 973) X S dL_law_973 ?_
  refine s_cv1 (pc := 974) (ci := 12) X xok12 (by decide +kernel) ob_180 rfl (con_X12_book l) mf_X12_book lm_138 ⟨Nat.le_of_ble_eq_true rfl, Nat.le_of_ble_eq_true rfl⟩ ⟨Nat.le_of_ble_eq_true rfl, hsl⟩ dL_law_974 ?_
  refine r_icmp_eq (pc := 977) (tgt := 1110) X dL_law_977 (by decide +kernel) ?_ r_KF
  exact h
def kc_30 (Ls : Nat) (xs : Nat → Int32) (C : xK) : xK := x_aload 1 (x_aload 0 (x_iload 3 (x_push (.int 1) (x_iadd (x_sld Ls xs (y_cv1 0 (w_RI f_X11_told) (x_aload 2 (x_aload 0 (x_iload 3 (x_push (.int 1) (x_iadd (x_sld Ls xs (y_cv1 180 (w_RI f_X12_told) (x_icmp_eq C xKF))))))))))))))
set_option maxRecDepth 20000 in
theorem tc_30 {p : Program} {l : Launch} {e : Env} {s : State} {m : MethodId} {args : Array Value} {below : List Frame} {meth : Method} {c : Code} {g : xG} {Q : State → Prop} {b Ls : Nat} {xs : Nat → Int32} {sl : Nat} (X : xX p s m args c meth cL_law RL 4 g) (S : xSc s g b Ls xs) (hsl : sl ≤ room_1.slots) {C : xK} (h : xAt p l e room_1 s m args below meth c g 4 xFT xN 231 sl Q C 1110) : xAt p l e room_1 s m args below meth c g 4 xFT xN 231 sl Q (kc_30 Ls xs C) 982 := by
  unfold kc_30
  refine r_aload_n (pc := 982) X dL_law_982 fn1 ?_
  refine r_aload_n (pc := 983) X dL_law_983 fn0 ?_
  refine r_iload_n (pc := 984) X dL_law_984 fn3 ?_
  refine r_iconst (pc := 985) X dL_law_985 (by decide +kernel) ?_
  refine r_iadd (pc := 986) X dL_law_986 ?_
  refine r_sld (pc := 987) X S dL_law_987 ?_
  refine s_cv1 (pc := 988) (ci := 11) X xok11 (by decide +kernel) ob_0 rfl (con_X11_told l) mf_X11_told lm_139 ⟨Nat.le_of_ble_eq_true rfl, Nat.le_of_ble_eq_true rfl⟩ ⟨Nat.le_of_ble_eq_true rfl, hsl⟩ dL_law_988 ?_
  refine r_aload_n (pc := 991) X dL_law_991 fn2 ?_
  refine r_aload_n (pc := 992) X dL_law_992 fn0 ?_
  refine r_iload_n (pc := 993) X dL_law_993 fn3 ?_
  refine r_iconst (pc := 994) X dL_law_994 (by decide +kernel) ?_
  refine r_iadd (pc := 995) X dL_law_995 ?_
  refine r_sld (pc := 996) X S dL_law_996 ?_
  refine s_cv1 (pc := 997) (ci := 12) X xok12 (by decide +kernel) ob_180 rfl (con_X12_told l) mf_X12_told lm_142 ⟨Nat.le_of_ble_eq_true rfl, Nat.le_of_ble_eq_true rfl⟩ ⟨Nat.le_of_ble_eq_true rfl, hsl⟩ dL_law_997 ?_
  refine r_icmp_eq (pc := 1000) (tgt := 1110) X dL_law_1000 (by decide +kernel) ?_ r_KF
  exact h
def kc_31 (Ls : Nat) (xs : Nat → Int32) (C : xK) : xK := x_aload 1 (y_cv0 0 (w_R f_X11_sentence) (x_aload 2 (y_cv0 180 (w_R f_X12_sentence) (x_icmp_eq C xKF))))
set_option maxRecDepth 20000 in
theorem tc_31 {p : Program} {l : Launch} {e : Env} {s : State} {m : MethodId} {args : Array Value} {below : List Frame} {meth : Method} {c : Code} {g : xG} {Q : State → Prop} {b Ls : Nat} {xs : Nat → Int32} {sl : Nat} (X : xX p s m args c meth cL_law RL 4 g) (S : xSc s g b Ls xs) (hsl : sl ≤ room_1.slots) {C : xK} (h : xAt p l e room_1 s m args below meth c g 4 xFT xN 231 sl Q C 1110) : xAt p l e room_1 s m args below meth c g 4 xFT xN 231 sl Q (kc_31 Ls xs C) 1005 := by
  unfold kc_31
  refine r_aload_n (pc := 1005) X dL_law_1005 fn1 ?_
  refine s_cv0 (pc := 1006) (ci := 11) X xok11 (by decide +kernel) ob_0 rfl (con_X11_sentence l) mf_X11_sentence lm_143 ⟨Nat.le_of_ble_eq_true rfl, Nat.le_of_ble_eq_true rfl⟩ ⟨Nat.le_of_ble_eq_true rfl, hsl⟩ dL_law_1006 ?_
  refine r_aload_n (pc := 1009) X dL_law_1009 fn2 ?_
  refine s_cv0 (pc := 1010) (ci := 12) X xok12 (by decide +kernel) ob_180 rfl (con_X12_sentence l) mf_X12_sentence lm_146 ⟨Nat.le_of_ble_eq_true rfl, Nat.le_of_ble_eq_true rfl⟩ ⟨Nat.le_of_ble_eq_true rfl, hsl⟩ dL_law_1010 ?_
  refine r_icmp_eq (pc := 1013) (tgt := 1110) X dL_law_1013 (by decide +kernel) ?_ r_KF
  exact h
def kc_32 (Ls : Nat) (xs : Nat → Int32) (C : xK) : xK := x_aload 1 (x_aload 0 (x_iload 3 (x_push (.int 1) (x_iadd (x_sld Ls xs (y_cv1 0 (w_RI f_X11_said) (x_aload 2 (x_aload 0 (x_iload 3 (x_push (.int 1) (x_iadd (x_sld Ls xs (y_cv1 180 (w_RI f_X12_said) (x_icmp_eq C xKF))))))))))))))
set_option maxRecDepth 20000 in
theorem tc_32 {p : Program} {l : Launch} {e : Env} {s : State} {m : MethodId} {args : Array Value} {below : List Frame} {meth : Method} {c : Code} {g : xG} {Q : State → Prop} {b Ls : Nat} {xs : Nat → Int32} {sl : Nat} (X : xX p s m args c meth cL_law RL 4 g) (S : xSc s g b Ls xs) (hsl : sl ≤ room_1.slots) {C : xK} (h : xAt p l e room_1 s m args below meth c g 4 xFT xN 231 sl Q C 1110) : xAt p l e room_1 s m args below meth c g 4 xFT xN 231 sl Q (kc_32 Ls xs C) 1018 := by
  unfold kc_32
  refine r_aload_n (pc := 1018) X dL_law_1018 fn1 ?_
  refine r_aload_n (pc := 1019) X dL_law_1019 fn0 ?_
  refine r_iload_n (pc := 1020) X dL_law_1020 fn3 ?_
  refine r_iconst (pc := 1021) X dL_law_1021 (by decide +kernel) ?_
  refine r_iadd (pc := 1022) X dL_law_1022 ?_
  refine r_sld (pc := 1023) X S dL_law_1023 ?_
  refine s_cv1 (pc := 1024) (ci := 11) X xok11 (by decide +kernel) ob_0 rfl (con_X11_said l) mf_X11_said lm_147 ⟨Nat.le_of_ble_eq_true rfl, Nat.le_of_ble_eq_true rfl⟩ ⟨Nat.le_of_ble_eq_true rfl, hsl⟩ dL_law_1024 ?_
  refine r_aload_n (pc := 1027) X dL_law_1027 fn2 ?_
  refine r_aload_n (pc := 1028) X dL_law_1028 fn0 ?_
  refine r_iload_n (pc := 1029) X dL_law_1029 fn3 ?_
  refine r_iconst (pc := 1030) X dL_law_1030 (by decide +kernel) ?_
  refine r_iadd (pc := 1031) X dL_law_1031 ?_
  refine r_sld (pc := 1032) X S dL_law_1032 ?_
  refine s_cv1 (pc := 1033) (ci := 12) X xok12 (by decide +kernel) ob_180 rfl (con_X12_said l) mf_X12_said lm_150 ⟨Nat.le_of_ble_eq_true rfl, Nat.le_of_ble_eq_true rfl⟩ ⟨Nat.le_of_ble_eq_true rfl, hsl⟩ dL_law_1033 ?_
  refine r_icmp_eq (pc := 1036) (tgt := 1110) X dL_law_1036 (by decide +kernel) ?_ r_KF
  exact h
def kc_33 (Ls : Nat) (xs : Nat → Int32) (C : xK) : xK := x_aload 1 (x_aload 0 (x_iload 3 (x_push (.int 1) (x_iadd (x_sld Ls xs (y_cv1 0 (w_RI f_X11_image) (x_aload 2 (x_aload 0 (x_iload 3 (x_push (.int 1) (x_iadd (x_sld Ls xs (y_cv1 180 (w_RI f_X12_image) (x_icmp_eq C xKF))))))))))))))
set_option maxRecDepth 20000 in
theorem tc_33 {p : Program} {l : Launch} {e : Env} {s : State} {m : MethodId} {args : Array Value} {below : List Frame} {meth : Method} {c : Code} {g : xG} {Q : State → Prop} {b Ls : Nat} {xs : Nat → Int32} {sl : Nat} (X : xX p s m args c meth cL_law RL 4 g) (S : xSc s g b Ls xs) (hsl : sl ≤ room_1.slots) {C : xK} (h : xAt p l e room_1 s m args below meth c g 4 xFT xN 231 sl Q C 1110) : xAt p l e room_1 s m args below meth c g 4 xFT xN 231 sl Q (kc_33 Ls xs C) 1041 := by
  unfold kc_33
  refine r_aload_n (pc := 1041) X dL_law_1041 fn1 ?_
  refine r_aload_n (pc := 1042) X dL_law_1042 fn0 ?_
  refine r_iload_n (pc := 1043) X dL_law_1043 fn3 ?_
  refine r_iconst (pc := 1044) X dL_law_1044 (by decide +kernel) ?_
  refine r_iadd (pc := 1045) X dL_law_1045 ?_
  refine r_sld (pc := 1046) X S dL_law_1046 ?_
  refine s_cv1 (pc := 1047) (ci := 11) X xok11 (by decide +kernel) ob_0 rfl (con_X11_image l) mf_X11_image lm_151 ⟨Nat.le_of_ble_eq_true rfl, Nat.le_of_ble_eq_true rfl⟩ ⟨Nat.le_of_ble_eq_true rfl, hsl⟩ dL_law_1047 ?_
  refine r_aload_n (pc := 1050) X dL_law_1050 fn2 ?_
  refine r_aload_n (pc := 1051) X dL_law_1051 fn0 ?_
  refine r_iload_n (pc := 1052) X dL_law_1052 fn3 ?_
  refine r_iconst (pc := 1053) X dL_law_1053 (by decide +kernel) ?_
  refine r_iadd (pc := 1054) X dL_law_1054 ?_
  refine r_sld (pc := 1055) X S dL_law_1055 ?_
  refine s_cv1 (pc := 1056) (ci := 12) X xok12 (by decide +kernel) ob_180 rfl (con_X12_image l) mf_X12_image lm_154 ⟨Nat.le_of_ble_eq_true rfl, Nat.le_of_ble_eq_true rfl⟩ ⟨Nat.le_of_ble_eq_true rfl, hsl⟩ dL_law_1056 ?_
  refine r_icmp_eq (pc := 1059) (tgt := 1110) X dL_law_1059 (by decide +kernel) ?_ r_KF
  exact h
def kc_34 (Ls : Nat) (xs : Nat → Int32) (C : xK) : xK := x_aload 1 (x_aload 0 (x_iload 3 (x_push (.int 1) (x_iadd (x_sld Ls xs (y_cv1 0 (w_RI f_X11_restore) (x_aload 2 (x_aload 0 (x_iload 3 (x_push (.int 1) (x_iadd (x_sld Ls xs (y_cv1 180 (w_RI f_X12_restore) (x_icmp_eq C xKF))))))))))))))
set_option maxRecDepth 20000 in
theorem tc_34 {p : Program} {l : Launch} {e : Env} {s : State} {m : MethodId} {args : Array Value} {below : List Frame} {meth : Method} {c : Code} {g : xG} {Q : State → Prop} {b Ls : Nat} {xs : Nat → Int32} {sl : Nat} (X : xX p s m args c meth cL_law RL 4 g) (S : xSc s g b Ls xs) (hsl : sl ≤ room_1.slots) {C : xK} (h : xAt p l e room_1 s m args below meth c g 4 xFT xN 231 sl Q C 1110) : xAt p l e room_1 s m args below meth c g 4 xFT xN 231 sl Q (kc_34 Ls xs C) 1064 := by
  unfold kc_34
  refine r_aload_n (pc := 1064) X dL_law_1064 fn1 ?_
  refine r_aload_n (pc := 1065) X dL_law_1065 fn0 ?_
  refine r_iload_n (pc := 1066) X dL_law_1066 fn3 ?_
  refine r_iconst (pc := 1067) X dL_law_1067 (by decide +kernel) ?_
  refine r_iadd (pc := 1068) X dL_law_1068 ?_
  refine r_sld (pc := 1069) X S dL_law_1069 ?_
  refine s_cv1 (pc := 1070) (ci := 11) X xok11 (by decide +kernel) ob_0 rfl (con_X11_restore l) mf_X11_restore lm_155 ⟨Nat.le_of_ble_eq_true rfl, Nat.le_of_ble_eq_true rfl⟩ ⟨Nat.le_of_ble_eq_true rfl, hsl⟩ dL_law_1070 ?_
  refine r_aload_n (pc := 1073) X dL_law_1073 fn2 ?_
  refine r_aload_n (pc := 1074) X dL_law_1074 fn0 ?_
  refine r_iload_n (pc := 1075) X dL_law_1075 fn3 ?_
  refine r_iconst (pc := 1076) X dL_law_1076 (by decide +kernel) ?_
  refine r_iadd (pc := 1077) X dL_law_1077 ?_
  refine r_sld (pc := 1078) X S dL_law_1078 ?_
  refine s_cv1 (pc := 1079) (ci := 12) X xok12 (by decide +kernel) ob_180 rfl (con_X12_restore l) mf_X12_restore lm_158 ⟨Nat.le_of_ble_eq_true rfl, Nat.le_of_ble_eq_true rfl⟩ ⟨Nat.le_of_ble_eq_true rfl, hsl⟩ dL_law_1079 ?_
  refine r_icmp_eq (pc := 1082) (tgt := 1110) X dL_law_1082 (by decide +kernel) ?_ r_KF
  exact h
def kc_35 (Ls : Nat) (xs : Nat → Int32) (C : xK) : xK := x_aload 1 (x_aload 0 (x_iload 3 (x_push (.int 1) (x_iadd (x_sld Ls xs (y_cv1 0 (w_RI f_X11_count) (x_aload 2 (x_aload 0 (x_iload 3 (x_push (.int 1) (x_iadd (x_sld Ls xs (y_cv1 180 (w_RI f_X12_count) (x_icmp_eq C xKF))))))))))))))
set_option maxRecDepth 20000 in
theorem tc_35 {p : Program} {l : Launch} {e : Env} {s : State} {m : MethodId} {args : Array Value} {below : List Frame} {meth : Method} {c : Code} {g : xG} {Q : State → Prop} {b Ls : Nat} {xs : Nat → Int32} {sl : Nat} (X : xX p s m args c meth cL_law RL 4 g) (S : xSc s g b Ls xs) (hsl : sl ≤ room_1.slots) {C : xK} (h : xAt p l e room_1 s m args below meth c g 4 xFT xN 231 sl Q C 1110) : xAt p l e room_1 s m args below meth c g 4 xFT xN 231 sl Q (kc_35 Ls xs C) 1087 := by
  unfold kc_35
  refine r_aload_n (pc := 1087) X dL_law_1087 fn1 ?_
  refine r_aload_n (pc := 1088) X dL_law_1088 fn0 ?_
  refine r_iload_n (pc := 1089) X dL_law_1089 fn3 ?_
  refine r_iconst (pc := 1090) X dL_law_1090 (by decide +kernel) ?_
  refine r_iadd (pc := 1091) X dL_law_1091 ?_
  refine r_sld (pc := 1092) X S dL_law_1092 ?_
  refine s_cv1 (pc := 1093) (ci := 11) X xok11 (by decide +kernel) ob_0 rfl (con_X11_count l) mf_X11_count lm_159 ⟨Nat.le_of_ble_eq_true rfl, Nat.le_of_ble_eq_true rfl⟩ ⟨Nat.le_of_ble_eq_true rfl, hsl⟩ dL_law_1093 ?_
  refine r_aload_n (pc := 1096) X dL_law_1096 fn2 ?_
  refine r_aload_n (pc := 1097) X dL_law_1097 fn0 ?_
  refine r_iload_n (pc := 1098) X dL_law_1098 fn3 ?_
  refine r_iconst (pc := 1099) X dL_law_1099 (by decide +kernel) ?_
  refine r_iadd (pc := 1100) X dL_law_1100 ?_
  refine r_sld (pc := 1101) X S dL_law_1101 ?_
  refine s_cv1 (pc := 1102) (ci := 12) X xok12 (by decide +kernel) ob_180 rfl (con_X12_count l) mf_X12_count lm_162 ⟨Nat.le_of_ble_eq_true rfl, Nat.le_of_ble_eq_true rfl⟩ ⟨Nat.le_of_ble_eq_true rfl, hsl⟩ dL_law_1102 ?_
  refine r_icmp_eq (pc := 1105) (tgt := 1110) X dL_law_1105 (by decide +kernel) ?_ r_KF
  exact h
def kL_18 (Ls : Nat) (xs : Nat → Int32) (CE C : xK) : xK := x_iload 3 (x_aload 0 (x_sln Ls (x_push (.int 6) (x_isub (x_icmp_gt CE (x_aload 0 (x_iload 3 (x_sld Ls xs (x_push (.int 63) (x_iand (x_tsw 0 [kc_0 Ls xs C, kc_1 Ls xs C, kc_2 Ls xs C, kc_3 Ls xs C, kc_4 Ls xs C, kc_5 Ls xs C, kc_6 Ls xs C, kc_7 Ls xs C, kc_8 Ls xs C, kc_9 Ls xs C, kc_10 Ls xs C, kc_11 Ls xs C, kc_12 Ls xs C, kc_13 Ls xs C, kc_14 Ls xs C, kc_15 Ls xs C, kc_16 Ls xs C, kc_17 Ls xs C, kc_18 Ls xs C, kc_19 Ls xs C, kc_20 Ls xs C, kc_21 Ls xs C, kc_22 Ls xs C, kc_23 Ls xs C, kc_24 Ls xs C, kc_25 Ls xs C, kc_26 Ls xs C, kc_27 Ls xs C, kc_28 Ls xs C, kc_29 Ls xs C, kc_30 Ls xs C, kc_31 Ls xs C, kc_32 Ls xs C, kc_33 Ls xs C, kc_34 Ls xs C, kc_35 Ls xs C] C)))))))))))
set_option maxRecDepth 20000 in
theorem tL_18 {p : Program} {l : Launch} {e : Env} {s : State} {m : MethodId} {args : Array Value} {below : List Frame} {meth : Method} {c : Code} {g : xG} {Q : State → Prop} {b Ls : Nat} {xs : Nat → Int32} {sl : Nat} (X : xX p s m args c meth cL_law RL 4 g) (S : xSc s g b Ls xs) (hsl : sl ≤ room_1.slots) {CE C : xK} (hE : xAt p l e room_1 s m args below meth c g 4 xFT xN 231 sl Q CE 1116) (h : xAt p l e room_1 s m args below meth c g 4 xFT xN 231 sl Q C 1110) : xAt p l e room_1 s m args below meth c g 4 xFT xN 231 sl Q (kL_18 Ls xs CE C) 18 := by
  unfold kL_18
  refine r_iload_n (pc := 18) X dL_law_18 fn3 ?_
  refine r_aload_n (pc := 19) X dL_law_19 fn0 ?_
  refine r_sln (pc := 20) X S dL_law_20 ?_
  refine r_bipush (pc := 21) X dL_law_21 (by decide +kernel) ?_
  refine r_isub (pc := 23) X dL_law_23 ?_
  refine r_icmp_gt (pc := 24) (tgt := 1116) X dL_law_24 (by decide +kernel) hE ?_
  refine r_aload_n (pc := 27) X dL_law_27 fn0 ?_
  refine r_iload_n (pc := 28) X dL_law_28 fn3 ?_
  refine r_sld (pc := 29) X S dL_law_29 ?_
  refine r_bipush (pc := 30) X dL_law_30 (by decide +kernel) ?_
  refine r_iand (pc := 32) X dL_law_32 ?_
  exact r_tsw (pc := 33) (offs := [159, 222, 245, 258, 271, 304, 337, 370, 403, 446, 479, 502, 525, 548, 561, 584, 627, 650, 683, 696, 709, 722, 745, 768, 791, 814, 837, 860, 893, 926, 949, 972, 985, 1008, 1031, 1054]) (td := 1110) X dL_law_33 (by decide +kernel) (by decide +kernel) h (show xswOK _ _ _ _ _ _ _ _ _ _ _ _ _ _ _ _ _ _ _ _ from ⟨⟨192, by decide, tc_0 X S hsl h⟩, ⟨⟨255, by decide, tc_1 X S hsl h⟩, ⟨⟨278, by decide, tc_2 X S hsl h⟩, ⟨⟨291, by decide, tc_3 X S hsl h⟩, ⟨⟨304, by decide, tc_4 X S hsl h⟩, ⟨⟨337, by decide, tc_5 X S hsl h⟩, ⟨⟨370, by decide, tc_6 X S hsl h⟩, ⟨⟨403, by decide, tc_7 X S hsl h⟩, ⟨⟨436, by decide, tc_8 X S hsl h⟩, ⟨⟨479, by decide, tc_9 X S hsl h⟩, ⟨⟨512, by decide, tc_10 X S hsl h⟩, ⟨⟨535, by decide, tc_11 X S hsl h⟩, ⟨⟨558, by decide, tc_12 X S hsl h⟩, ⟨⟨581, by decide, tc_13 X S hsl h⟩, ⟨⟨594, by decide, tc_14 X S hsl h⟩, ⟨⟨617, by decide, tc_15 X S hsl h⟩, ⟨⟨660, by decide, tc_16 X S hsl h⟩, ⟨⟨683, by decide, tc_17 X S hsl h⟩, ⟨⟨716, by decide, tc_18 X S hsl h⟩, ⟨⟨729, by decide, tc_19 X S hsl h⟩, ⟨⟨742, by decide, tc_20 X S hsl h⟩, ⟨⟨755, by decide, tc_21 X S hsl h⟩, ⟨⟨778, by decide, tc_22 X S hsl h⟩, ⟨⟨801, by decide, tc_23 X S hsl h⟩, ⟨⟨824, by decide, tc_24 X S hsl h⟩, ⟨⟨847, by decide, tc_25 X S hsl h⟩, ⟨⟨870, by decide, tc_26 X S hsl h⟩, ⟨⟨893, by decide, tc_27 X S hsl h⟩, ⟨⟨926, by decide, tc_28 X S hsl h⟩, ⟨⟨959, by decide, tc_29 X S hsl h⟩, ⟨⟨982, by decide, tc_30 X S hsl h⟩, ⟨⟨1005, by decide, tc_31 X S hsl h⟩, ⟨⟨1018, by decide, tc_32 X S hsl h⟩, ⟨⟨1041, by decide, tc_33 X S hsl h⟩, ⟨⟨1064, by decide, tc_34 X S hsl h⟩, ⟨⟨1087, by decide, tc_35 X S hsl h⟩, trivial⟩⟩⟩⟩⟩⟩⟩⟩⟩⟩⟩⟩⟩⟩⟩⟩⟩⟩⟩⟩⟩⟩⟩⟩⟩⟩⟩⟩⟩⟩⟩⟩⟩⟩⟩⟩)
def kL_1110 (C : xK) : xK := x_iinc 3 6 C
theorem tL_1110 {p : Program} {l : Launch} {e : Env} {s : State} {m : MethodId} {args : Array Value} {below : List Frame} {meth : Method} {c : Code} {g : xG} {Q : State → Prop} {b Ls : Nat} {xs : Nat → Int32} {sl : Nat} (X : xX p s m args c meth cL_law RL 4 g) (S : xSc s g b Ls xs) {C : xK} (h : xAt p l e room_1 s m args below meth c g 4 xFT xN 231 sl Q C 18) : xAt p l e room_1 s m args below meth c g 4 xFT xN 231 sl Q (kL_1110 C) 1110 := by
  unfold kL_1110
  refine r_iinc (pc := 1110) X dL_law_1110 (by decide +kernel) (by decide +kernel) ?_
  exact r_goto (pc := 1113) (tgt := 18) X dL_law_1113 (by decide +kernel) h
theorem lm_9 : Cond.methodLink RL 9 yX11_init ∈ xTS := xTS_in (tin_1 _ (List.mem_of_getElem? (i := 19) rfl)) rfl
theorem lm_12 : Cond.methodLink RL 12 yX12_init ∈ xTS := xTS_in (tin_6 _ (List.mem_of_getElem? (i := 103) rfl)) rfl
theorem if_X11_init : xIF yX11_init cX11_init 2 0 := ⟨⟨by decide +kernel, by decide +kernel, by decide +kernel⟩, xTS_in (tin_1 _ (List.mem_of_getElem? (i := 21) rfl)) rfl, xTS_in (tin_1 _ (List.mem_of_getElem? (i := 20) rfl)) rfl, xTS_in (tin_1 _ (List.mem_of_getElem? (i := 1) rfl)) rfl, rfl⟩
theorem if_X12_init : xIF yX12_init cX12_init 2 0 := ⟨⟨by decide +kernel, by decide +kernel, by decide +kernel⟩, xTS_in (tin_6 _ (List.mem_of_getElem? (i := 105) rfl)) rfl, xTS_in (tin_6 _ (List.mem_of_getElem? (i := 104) rfl)) rfl, xTS_in (tin_1 _ (List.mem_of_getElem? (i := 13) rfl)) rfl, rfl⟩
def kL_0 (C : xK) : xK := x_new 0 11 (x_dup (z_ci0 (w_R f_X11_init) (x_astore 1 (x_new 180 12 (x_dup (z_ci0 (w_R f_X12_init) (x_astore 2 (x_push (.int 0) (x_istore 3 C)))))))))
set_option maxRecDepth 20000 in
theorem tL_0 {p : Program} {l : Launch} {e : Env} {s : State} {m : MethodId} {args : Array Value} {below : List Frame} {meth : Method} {c : Code} {g : xG} {Q : State → Prop} (X : xX p s m args c meth cL_law RL 4 g) {C : xK} (h : xAt p l e room_1 s m args below meth c g 4 xFF 231 231 283288 Q C 18) : xAt p l e room_1 s m args below meth c g 4 xFF 0 0 0 Q (kL_0 C) 0 := by
  unfold kL_0
  refine r_new (pc := 0) X xok11 (Nat.le_of_ble_eq_true rfl) (by decide +kernel) nw_RL_7 (Nat.le_of_ble_eq_true rfl) (Nat.le_of_ble_eq_true rfl) dL_law_0 ?_
  refine r_dup (pc := 3) X dL_law_3 ?_
  refine q_ci0 (pc := 4) X (con_X11_init l) if_X11_init lm_9 ⟨(Nat.le_of_ble_eq_true rfl), (Nat.le_of_ble_eq_true rfl)⟩ ⟨(Nat.le_of_ble_eq_true rfl), (Nat.le_of_ble_eq_true rfl)⟩ dL_law_4 ?_
  refine r_astore_n (pc := 7) X dL_law_7 fn1 (by decide +kernel) ?_
  refine r_new (pc := 8) X xok12 (Nat.le_of_ble_eq_true rfl) (by decide +kernel) nw_RL_10 (Nat.le_of_ble_eq_true rfl) (Nat.le_of_ble_eq_true rfl) dL_law_8 ?_
  refine r_dup (pc := 11) X dL_law_11 ?_
  refine q_ci0 (pc := 12) X (con_X12_init l) if_X12_init lm_12 ⟨(Nat.le_of_ble_eq_true rfl), (Nat.le_of_ble_eq_true rfl)⟩ ⟨(Nat.le_of_ble_eq_true rfl), (Nat.le_of_ble_eq_true rfl)⟩ dL_law_12 ?_
  refine r_astore_n (pc := 15) X dL_law_15 fn2 (by decide +kernel) ?_
  refine r_iconst (pc := 16) X dL_law_16 (by decide +kernel) ?_
  refine r_istore_n (pc := 17) X dL_law_17 fn3 (by decide +kernel) ?_
  exact h

