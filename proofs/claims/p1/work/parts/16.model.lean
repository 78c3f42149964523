/-! THE REFERENCE'S CONSTRUCTOR -/
def up1 (g : Int → Int) (i v : Int) : Int → Int := fun j => if j = i then v else g j
theorem updL_up1 {g : Int → Int} {i v : Int} (h : 0 ≤ i) : vp_updL (fun j : Nat => Int64.ofInt (g (j : Int))) i.toNat (Int64.ofInt v) = fun j : Nat => Int64.ofInt (up1 g i v (j : Int)) := by
  funext j
  unfold vp_updL up1
  by_cases hj : j = i.toNat
  · rw [if_pos hj, if_pos (by omega)]
  · rw [if_neg hj, if_neg (by omega)]
def mmF : Int → Int := (up1 (up1 (up1 (up1 z0 21 (-1)) 31 (-1)) 40 (-1)) 59 (-1))
def Mm0 : Mem := fun a => if a = 67 then mmF else z0
def MmA : Mem := (up (up (up (up (up (up (up (up (up (up (up (up (up (up (up (up (up Mm0 73 0 1903518073) 73 1 1869636974) 73 2 7103847) 73 3 1819239275) 73 4 422541682533) 73 5 418497262196) 73 6 1918985844) 73 7 1802399604) 73 8 1752132708) 73 9 1953854062) 73 10 1818584692) 73 11 491394656372) 73 12 1651471464) 73 13 7300710) 73 14 28526) 73 15 495672977012) 73 16 26479)
def exA : Option (List AV × Mem) := exec 3000 0 136 (blk 136 0) (ini 136 [aR 22 0 67]) [] MmA
def MmB : Mem := (exA.getD ([], MmA)).2
theorem exA_ok : (match exA with | some r => r.1.length == 0 | none => false) = true := by decide +kernel
theorem ex_get {x : Option (List AV × Mem)} {M0 : Mem} (h : (match x with | some r => r.1.length == 0 | none => false) = true) : x = some ([], (x.getD ([], M0)).2) := by
  cases x with
  | none => cases h
  | some r =>
    obtain ⟨a, b⟩ := r
    cases a with
    | nil => rfl
    | cons v a => cases h
theorem exA_eq : exA = some ([], MmB) := by
  unfold MmB
  exact ex_get exA_ok
theorem ex_plain : ∃ n, exec n 0 136 (blk 136 0) (ini 136 [aR 22 0 67]) [] MmA = some ([], MmB) := ⟨3000, by
  have h := exA_eq
  unfold exA at h
  exact h⟩
def MmC : Mem := cpy MmB 70 69 0 0 117
theorem dX12_init_0 : decode cX12_init 0 = .ok (.aload_n 0, 1) := by decide +kernel
theorem dX12_init_1 : decode cX12_init 1 = .ok (.invokespecial 27, 3) := by decide +kernel
theorem dX12_init_4 : decode cX12_init 4 = .ok (.aload_n 0, 1) := by decide +kernel
theorem dX12_init_5 : decode cX12_init 5 = .ok (.sipush 940, 3) := by decide +kernel
theorem dX12_init_8 : decode cX12_init 8 = .ok (.newarray .byte, 2) := by decide +kernel
theorem dX12_init_10 : decode cX12_init 10 = .ok (.putfield 14, 3) := by decide +kernel
theorem dX12_init_13 : decode cX12_init 13 = .ok (.aload_n 0, 1) := by decide +kernel
theorem dX12_init_14 : decode cX12_init 14 = .ok (.sipush 383, 3) := by decide +kernel
theorem dX12_init_17 : decode cX12_init 17 = .ok (.newarray .int, 2) := by decide +kernel
theorem dX12_init_19 : decode cX12_init 19 = .ok (.putfield 33, 3) := by decide +kernel
theorem dX12_init_22 : decode cX12_init 22 = .ok (.aload_n 0, 1) := by decide +kernel
theorem dX12_init_23 : decode cX12_init 23 = .ok (.bipush 117, 2) := by decide +kernel
theorem dX12_init_25 : decode cX12_init 25 = .ok (.newarray .int, 2) := by decide +kernel
theorem dX12_init_27 : decode cX12_init 27 = .ok (.putfield 37, 3) := by decide +kernel
theorem dX12_init_30 : decode cX12_init 30 = .ok (.aload_n 0, 1) := by decide +kernel
theorem dX12_init_31 : decode cX12_init 31 = .ok (.sipush 240, 3) := by decide +kernel
theorem dX12_init_34 : decode cX12_init 34 = .ok (.newarray .int, 2) := by decide +kernel
theorem dX12_init_36 : decode cX12_init 36 = .ok (.putfield 40, 3) := by decide +kernel
theorem dX12_init_39 : decode cX12_init 39 = .ok (.aload_n 0, 1) := by decide +kernel
theorem dX12_init_40 : decode cX12_init 40 = .ok (.bipush 34, 2) := by decide +kernel
theorem dX12_init_42 : decode cX12_init 42 = .ok (.newarray .long, 2) := by decide +kernel
theorem dX12_init_44 : decode cX12_init 44 = .ok (.putfield 43, 3) := by decide +kernel
theorem dX12_init_47 : decode cX12_init 47 = .ok (.aload_n 0, 1) := by decide +kernel
theorem dX12_init_48 : decode cX12_init 48 = .ok (.bipush 17, 2) := by decide +kernel
theorem dX12_init_50 : decode cX12_init 50 = .ok (.newarray .long, 2) := by decide +kernel
theorem dX12_init_52 : decode cX12_init 52 = .ok (.putfield 47, 3) := by decide +kernel
theorem dX12_init_55 : decode cX12_init 55 = .ok (.aload_n 0, 1) := by decide +kernel
theorem dX12_init_56 : decode cX12_init 56 = .ok (.iconst (-1), 1) := by decide +kernel
theorem dX12_init_57 : decode cX12_init 57 = .ok (.putfield 50, 3) := by decide +kernel
theorem dX12_init_60 : decode cX12_init 60 = .ok (.aload_n 0, 1) := by decide +kernel
theorem dX12_init_61 : decode cX12_init 61 = .ok (.bipush 24, 2) := by decide +kernel
theorem dX12_init_63 : decode cX12_init 63 = .ok (.newarray .int, 2) := by decide +kernel
theorem dX12_init_65 : decode cX12_init 65 = .ok (.putfield 53, 3) := by decide +kernel
theorem dX12_init_68 : decode cX12_init 68 = .ok (.aload_n 0, 1) := by decide +kernel
theorem dX12_init_69 : decode cX12_init 69 = .ok (.bipush 24, 2) := by decide +kernel
theorem dX12_init_71 : decode cX12_init 71 = .ok (.newarray .int, 2) := by decide +kernel
theorem dX12_init_73 : decode cX12_init 73 = .ok (.putfield 56, 3) := by decide +kernel
theorem dX12_init_76 : decode cX12_init 76 = .ok (.aload_n 0, 1) := by decide +kernel
theorem dX12_init_77 : decode cX12_init 77 = .ok (.iconst 4, 1) := by decide +kernel
theorem dX12_init_78 : decode cX12_init 78 = .ok (.newarray .int, 2) := by decide +kernel
theorem dX12_init_80 : decode cX12_init 80 = .ok (.putfield 59, 3) := by decide +kernel
theorem dX12_init_83 : decode cX12_init 83 = .ok (.aload_n 0, 1) := by decide +kernel
theorem dX12_init_84 : decode cX12_init 84 = .ok (.bipush 24, 2) := by decide +kernel
theorem dX12_init_86 : decode cX12_init 86 = .ok (.newarray .int, 2) := by decide +kernel
theorem dX12_init_88 : decode cX12_init 88 = .ok (.putfield 62, 3) := by decide +kernel
theorem dX12_init_91 : decode cX12_init 91 = .ok (.aload_n 0, 1) := by decide +kernel
theorem dX12_init_92 : decode cX12_init 92 = .ok (.iconst (-1), 1) := by decide +kernel
theorem dX12_init_93 : decode cX12_init 93 = .ok (.putfield 65, 3) := by decide +kernel
theorem dX12_init_96 : decode cX12_init 96 = .ok (.aload_n 0, 1) := by decide +kernel
theorem dX12_init_97 : decode cX12_init 97 = .ok (.bipush 7, 2) := by decide +kernel
theorem dX12_init_99 : decode cX12_init 99 = .ok (.newarray .int, 2) := by decide +kernel
theorem dX12_init_101 : decode cX12_init 101 = .ok (.putfield 68, 3) := by decide +kernel
theorem dX12_init_104 : decode cX12_init 104 = .ok (.aload_n 0, 1) := by decide +kernel
theorem dX12_init_105 : decode cX12_init 105 = .ok (.bipush 7, 2) := by decide +kernel
theorem dX12_init_107 : decode cX12_init 107 = .ok (.newarray .int, 2) := by decide +kernel
theorem dX12_init_109 : decode cX12_init 109 = .ok (.putfield 71, 3) := by decide +kernel
theorem dX12_init_112 : decode cX12_init 112 = .ok (.aload_n 0, 1) := by decide +kernel
theorem dX12_init_113 : decode cX12_init 113 = .ok (.bipush 6, 2) := by decide +kernel
theorem dX12_init_115 : decode cX12_init 115 = .ok (.newarray .int, 2) := by decide +kernel
theorem dX12_init_117 : decode cX12_init 117 = .ok (.putfield 74, 3) := by decide +kernel
theorem dX12_init_120 : decode cX12_init 120 = .ok (.aload_n 0, 1) := by decide +kernel
theorem dX12_init_121 : decode cX12_init 121 = .ok (.bipush 24, 2) := by decide +kernel
theorem dX12_init_123 : decode cX12_init 123 = .ok (.newarray .int, 2) := by decide +kernel
theorem dX12_init_125 : decode cX12_init 125 = .ok (.putfield 77, 3) := by decide +kernel
theorem dX12_init_128 : decode cX12_init 128 = .ok (.aload_n 0, 1) := by decide +kernel
theorem dX12_init_129 : decode cX12_init 129 = .ok (.iconst (-1), 1) := by decide +kernel
theorem dX12_init_130 : decode cX12_init 130 = .ok (.putfield 80, 3) := by decide +kernel
theorem dX12_init_133 : decode cX12_init 133 = .ok (.aload_n 0, 1) := by decide +kernel
theorem dX12_init_134 : decode cX12_init 134 = .ok (.bipush 6, 2) := by decide +kernel
theorem dX12_init_136 : decode cX12_init 136 = .ok (.newarray .int, 2) := by decide +kernel
theorem dX12_init_138 : decode cX12_init 138 = .ok (.putfield 83, 3) := by decide +kernel
theorem dX12_init_141 : decode cX12_init 141 = .ok (.aload_n 0, 1) := by decide +kernel
theorem dX12_init_142 : decode cX12_init 142 = .ok (.bipush 6, 2) := by decide +kernel
theorem dX12_init_144 : decode cX12_init 144 = .ok (.newarray .int, 2) := by decide +kernel
theorem dX12_init_146 : decode cX12_init 146 = .ok (.putfield 86, 3) := by decide +kernel
theorem dX12_init_149 : decode cX12_init 149 = .ok (.aload_n 0, 1) := by decide +kernel
theorem dX12_init_150 : decode cX12_init 150 = .ok (.iconst 4, 1) := by decide +kernel
theorem dX12_init_151 : decode cX12_init 151 = .ok (.newarray .int, 2) := by decide +kernel
theorem dX12_init_153 : decode cX12_init 153 = .ok (.putfield 89, 3) := by decide +kernel
theorem dX12_init_156 : decode cX12_init 156 = .ok (.aload_n 0, 1) := by decide +kernel
theorem dX12_init_157 : decode cX12_init 157 = .ok (.sipush 15625, 3) := by decide +kernel
theorem dX12_init_160 : decode cX12_init 160 = .ok (.newarray .int, 2) := by decide +kernel
theorem dX12_init_162 : decode cX12_init 162 = .ok (.putfield 92, 3) := by decide +kernel
theorem dX12_init_165 : decode cX12_init 165 = .ok (.aload_n 0, 1) := by decide +kernel
theorem dX12_init_166 : decode cX12_init 166 = .ok (.sipush 15625, 3) := by decide +kernel
theorem dX12_init_169 : decode cX12_init 169 = .ok (.newarray .int, 2) := by decide +kernel
theorem dX12_init_171 : decode cX12_init 171 = .ok (.putfield 95, 3) := by decide +kernel
theorem dX12_init_174 : decode cX12_init 174 = .ok (.aload_n 0, 1) := by decide +kernel
theorem dX12_init_175 : decode cX12_init 175 = .ok (.sipush 15625, 3) := by decide +kernel
theorem dX12_init_178 : decode cX12_init 178 = .ok (.newarray .int, 2) := by decide +kernel
theorem dX12_init_180 : decode cX12_init 180 = .ok (.putfield 98, 3) := by decide +kernel
theorem dX12_init_183 : decode cX12_init 183 = .ok (.aload_n 0, 1) := by decide +kernel
theorem dX12_init_184 : decode cX12_init 184 = .ok (.sipush 15625, 3) := by decide +kernel
theorem dX12_init_187 : decode cX12_init 187 = .ok (.newarray .boolean, 2) := by decide +kernel
theorem dX12_init_189 : decode cX12_init 189 = .ok (.putfield 101, 3) := by decide +kernel
theorem dX12_init_192 : decode cX12_init 192 = .ok (.aload_n 0, 1) := by decide +kernel
theorem dX12_init_193 : decode cX12_init 193 = .ok (.iconst (-1), 1) := by decide +kernel
theorem dX12_init_194 : decode cX12_init 194 = .ok (.putfield 105, 3) := by decide +kernel
theorem dX12_init_197 : decode cX12_init 197 = .ok (.aload_n 0, 1) := by decide +kernel
theorem dX12_init_198 : decode cX12_init 198 = .ok (.sipush 766, 3) := by decide +kernel
theorem dX12_init_201 : decode cX12_init 201 = .ok (.newarray .int, 2) := by decide +kernel
theorem dX12_init_203 : decode cX12_init 203 = .ok (.putfield 108, 3) := by decide +kernel
theorem dX12_init_206 : decode cX12_init 206 = .ok (.aload_n 0, 1) := by decide +kernel
theorem dX12_init_207 : decode cX12_init 207 = .ok (.bipush 34, 2) := by decide +kernel
theorem dX12_init_209 : decode cX12_init 209 = .ok (.newarray .long, 2) := by decide +kernel
theorem dX12_init_211 : decode cX12_init 211 = .ok (.putfield 111, 3) := by decide +kernel
theorem dX12_init_214 : decode cX12_init 214 = .ok (.aload_n 0, 1) := by decide +kernel
theorem dX12_init_215 : decode cX12_init 215 = .ok (.iconst 2, 1) := by decide +kernel
theorem dX12_init_216 : decode cX12_init 216 = .ok (.newarray .boolean, 2) := by decide +kernel
theorem dX12_init_218 : decode cX12_init 218 = .ok (.putfield 114, 3) := by decide +kernel
theorem dX12_init_221 : decode cX12_init 221 = .ok (.aload_n 0, 1) := by decide +kernel
theorem dX12_init_222 : decode cX12_init 222 = .ok (.getfield 47, 3) := by decide +kernel
theorem dX12_init_225 : decode cX12_init 225 = .ok (.iconst 0, 1) := by decide +kernel
theorem dX12_init_226 : decode cX12_init 226 = .ok (.ldc2_w 117, 3) := by decide +kernel
theorem dX12_init_229 : decode cX12_init 229 = .ok (.lastore, 1) := by decide +kernel
theorem dX12_init_230 : decode cX12_init 230 = .ok (.aload_n 0, 1) := by decide +kernel
theorem dX12_init_231 : decode cX12_init 231 = .ok (.getfield 47, 3) := by decide +kernel
theorem dX12_init_234 : decode cX12_init 234 = .ok (.iconst 1, 1) := by decide +kernel
theorem dX12_init_235 : decode cX12_init 235 = .ok (.ldc2_w 119, 3) := by decide +kernel
theorem dX12_init_238 : decode cX12_init 238 = .ok (.lastore, 1) := by decide +kernel
theorem dX12_init_239 : decode cX12_init 239 = .ok (.aload_n 0, 1) := by decide +kernel
theorem dX12_init_240 : decode cX12_init 240 = .ok (.getfield 47, 3) := by decide +kernel
theorem dX12_init_243 : decode cX12_init 243 = .ok (.iconst 2, 1) := by decide +kernel
theorem dX12_init_244 : decode cX12_init 244 = .ok (.ldc2_w 121, 3) := by decide +kernel
theorem dX12_init_247 : decode cX12_init 247 = .ok (.lastore, 1) := by decide +kernel
theorem dX12_init_248 : decode cX12_init 248 = .ok (.aload_n 0, 1) := by decide +kernel
theorem dX12_init_249 : decode cX12_init 249 = .ok (.getfield 47, 3) := by decide +kernel
theorem dX12_init_252 : decode cX12_init 252 = .ok (.iconst 3, 1) := by decide +kernel
theorem dX12_init_253 : decode cX12_init 253 = .ok (.ldc2_w 123, 3) := by decide +kernel
theorem dX12_init_256 : decode cX12_init 256 = .ok (.lastore, 1) := by decide +kernel
theorem dX12_init_257 : decode cX12_init 257 = .ok (.aload_n 0, 1) := by decide +kernel
theorem dX12_init_258 : decode cX12_init 258 = .ok (.getfield 47, 3) := by decide +kernel
theorem dX12_init_261 : decode cX12_init 261 = .ok (.iconst 4, 1) := by decide +kernel
theorem dX12_init_262 : decode cX12_init 262 = .ok (.ldc2_w 125, 3) := by decide +kernel
theorem dX12_init_265 : decode cX12_init 265 = .ok (.lastore, 1) := by decide +kernel
theorem dX12_init_266 : decode cX12_init 266 = .ok (.aload_n 0, 1) := by decide +kernel
theorem dX12_init_267 : decode cX12_init 267 = .ok (.getfield 47, 3) := by decide +kernel
theorem dX12_init_270 : decode cX12_init 270 = .ok (.iconst 5, 1) := by decide +kernel
theorem dX12_init_271 : decode cX12_init 271 = .ok (.ldc2_w 127, 3) := by decide +kernel
theorem dX12_init_274 : decode cX12_init 274 = .ok (.lastore, 1) := by decide +kernel
theorem dX12_init_275 : decode cX12_init 275 = .ok (.aload_n 0, 1) := by decide +kernel
theorem dX12_init_276 : decode cX12_init 276 = .ok (.getfield 47, 3) := by decide +kernel
theorem dX12_init_279 : decode cX12_init 279 = .ok (.bipush 6, 2) := by decide +kernel
theorem dX12_init_281 : decode cX12_init 281 = .ok (.ldc2_w 129, 3) := by decide +kernel
theorem dX12_init_284 : decode cX12_init 284 = .ok (.lastore, 1) := by decide +kernel
theorem dX12_init_285 : decode cX12_init 285 = .ok (.aload_n 0, 1) := by decide +kernel
theorem dX12_init_286 : decode cX12_init 286 = .ok (.getfield 47, 3) := by decide +kernel
theorem dX12_init_289 : decode cX12_init 289 = .ok (.bipush 7, 2) := by decide +kernel
theorem dX12_init_291 : decode cX12_init 291 = .ok (.ldc2_w 131, 3) := by decide +kernel
theorem dX12_init_294 : decode cX12_init 294 = .ok (.lastore, 1) := by decide +kernel
theorem dX12_init_295 : decode cX12_init 295 = .ok (.aload_n 0, 1) := by decide +kernel
theorem dX12_init_296 : decode cX12_init 296 = .ok (.getfield 47, 3) := by decide +kernel
theorem dX12_init_299 : decode cX12_init 299 = .ok (.bipush 8, 2) := by decide +kernel
theorem dX12_init_301 : decode cX12_init 301 = .ok (.ldc2_w 133, 3) := by decide +kernel
theorem dX12_init_304 : decode cX12_init 304 = .ok (.lastore, 1) := by decide +kernel
theorem dX12_init_305 : decode cX12_init 305 = .ok (.aload_n 0, 1) := by decide +kernel
theorem dX12_init_306 : decode cX12_init 306 = .ok (.getfield 47, 3) := by decide +kernel
theorem dX12_init_309 : decode cX12_init 309 = .ok (.bipush 9, 2) := by decide +kernel
theorem dX12_init_311 : decode cX12_init 311 = .ok (.ldc2_w 135, 3) := by decide +kernel
theorem dX12_init_314 : decode cX12_init 314 = .ok (.lastore, 1) := by decide +kernel
theorem dX12_init_315 : decode cX12_init 315 = .ok (.aload_n 0, 1) := by decide +kernel
theorem dX12_init_316 : decode cX12_init 316 = .ok (.getfield 47, 3) := by decide +kernel
theorem dX12_init_319 : decode cX12_init 319 = .ok (.bipush 10, 2) := by decide +kernel
theorem dX12_init_321 : decode cX12_init 321 = .ok (.ldc2_w 137, 3) := by decide +kernel
theorem dX12_init_324 : decode cX12_init 324 = .ok (.lastore, 1) := by decide +kernel
theorem dX12_init_325 : decode cX12_init 325 = .ok (.aload_n 0, 1) := by decide +kernel
theorem dX12_init_326 : decode cX12_init 326 = .ok (.getfield 47, 3) := by decide +kernel
theorem dX12_init_329 : decode cX12_init 329 = .ok (.bipush 11, 2) := by decide +kernel
theorem dX12_init_331 : decode cX12_init 331 = .ok (.ldc2_w 139, 3) := by decide +kernel
theorem dX12_init_334 : decode cX12_init 334 = .ok (.lastore, 1) := by decide +kernel
theorem dX12_init_335 : decode cX12_init 335 = .ok (.aload_n 0, 1) := by decide +kernel
theorem dX12_init_336 : decode cX12_init 336 = .ok (.getfield 47, 3) := by decide +kernel
theorem dX12_init_339 : decode cX12_init 339 = .ok (.bipush 12, 2) := by decide +kernel
theorem dX12_init_341 : decode cX12_init 341 = .ok (.ldc2_w 141, 3) := by decide +kernel
theorem dX12_init_344 : decode cX12_init 344 = .ok (.lastore, 1) := by decide +kernel
theorem dX12_init_345 : decode cX12_init 345 = .ok (.aload_n 0, 1) := by decide +kernel
theorem dX12_init_346 : decode cX12_init 346 = .ok (.getfield 47, 3) := by decide +kernel
theorem dX12_init_349 : decode cX12_init 349 = .ok (.bipush 13, 2) := by decide +kernel
theorem dX12_init_351 : decode cX12_init 351 = .ok (.ldc2_w 143, 3) := by decide +kernel
theorem dX12_init_354 : decode cX12_init 354 = .ok (.lastore, 1) := by decide +kernel
theorem dX12_init_355 : decode cX12_init 355 = .ok (.aload_n 0, 1) := by decide +kernel
theorem dX12_init_356 : decode cX12_init 356 = .ok (.getfield 47, 3) := by decide +kernel
theorem dX12_init_359 : decode cX12_init 359 = .ok (.bipush 14, 2) := by decide +kernel
theorem dX12_init_361 : decode cX12_init 361 = .ok (.ldc2_w 145, 3) := by decide +kernel
theorem dX12_init_364 : decode cX12_init 364 = .ok (.lastore, 1) := by decide +kernel
theorem dX12_init_365 : decode cX12_init 365 = .ok (.aload_n 0, 1) := by decide +kernel
theorem dX12_init_366 : decode cX12_init 366 = .ok (.getfield 47, 3) := by decide +kernel
theorem dX12_init_369 : decode cX12_init 369 = .ok (.bipush 15, 2) := by decide +kernel
theorem dX12_init_371 : decode cX12_init 371 = .ok (.ldc2_w 147, 3) := by decide +kernel
theorem dX12_init_374 : decode cX12_init 374 = .ok (.lastore, 1) := by decide +kernel
theorem dX12_init_375 : decode cX12_init 375 = .ok (.aload_n 0, 1) := by decide +kernel
theorem dX12_init_376 : decode cX12_init 376 = .ok (.getfield 47, 3) := by decide +kernel
theorem dX12_init_379 : decode cX12_init 379 = .ok (.bipush 16, 2) := by decide +kernel
theorem dX12_init_381 : decode cX12_init 381 = .ok (.ldc2_w 149, 3) := by decide +kernel
theorem dX12_init_384 : decode cX12_init 384 = .ok (.lastore, 1) := by decide +kernel
theorem dX12_init_385 : decode cX12_init 385 = .ok (.aload_n 0, 1) := by decide +kernel
theorem dX12_init_386 : decode cX12_init 386 = .ok (.invokevirtual 151, 3) := by decide +kernel
theorem dX12_init_389 : decode cX12_init 389 = .ok (.iconst 0, 1) := by decide +kernel
theorem dX12_init_390 : decode cX12_init 390 = .ok (.istore_n 1, 1) := by decide +kernel
theorem dX12_init_391 : decode cX12_init 391 = .ok (.iload_n 1, 1) := by decide +kernel
theorem dX12_init_392 : decode cX12_init 392 = .ok (.bipush 117, 2) := by decide +kernel
theorem dX12_init_394 : decode cX12_init 394 = .ok (.if_icmp .ge 21, 3) := by decide +kernel
theorem dX12_init_397 : decode cX12_init 397 = .ok (.aload_n 0, 1) := by decide +kernel
theorem dX12_init_398 : decode cX12_init 398 = .ok (.getfield 33, 3) := by decide +kernel
theorem dX12_init_401 : decode cX12_init 401 = .ok (.iload_n 1, 1) := by decide +kernel
theorem dX12_init_402 : decode cX12_init 402 = .ok (.aload_n 0, 1) := by decide +kernel
theorem dX12_init_403 : decode cX12_init 403 = .ok (.getfield 37, 3) := by decide +kernel
theorem dX12_init_406 : decode cX12_init 406 = .ok (.iload_n 1, 1) := by decide +kernel
theorem dX12_init_407 : decode cX12_init 407 = .ok (.iaload, 1) := by decide +kernel
theorem dX12_init_408 : decode cX12_init 408 = .ok (.iastore, 1) := by decide +kernel
theorem dX12_init_409 : decode cX12_init 409 = .ok (.iinc 1 1, 3) := by decide +kernel
theorem dX12_init_412 : decode cX12_init 412 = .ok (.goto (-21), 3) := by decide +kernel
theorem dX12_init_415 : decode cX12_init 415 = .ok (.return_, 1) := by decide +kernel
/-- what the loop has copied -/
def cpk (k : Nat) : Mem := cpy MmB 70 69 0 0 (k : Int)
theorem cpk_s (k : Nat) : up (cpk k) 69 (k : Int) (MmB 70 (k : Int)) = cpk (k + 1) := by
  funext b j
  unfold up cpk cpy
  by_cases h : b = 69 ∧ j = (k : Int)
  · obtain ⟨rfl, rfl⟩ := h
    rw [if_pos ⟨rfl, rfl⟩, if_pos ⟨rfl, by omega, by omega⟩]
    congr 1; omega
  · rw [if_neg h]
    by_cases h2 : b = 69 ∧ 0 ≤ j ∧ j < 0 + (k : Int)
    · rw [if_pos h2, if_pos ⟨h2.1, h2.2.1, by omega⟩]
    · rw [if_neg h2, if_neg (by omega)]
theorem cpk_h (k : Nat) (j : Int) : cpk k 70 j = MmB 70 j := by
  unfold cpk cpy
  rw [if_neg (fun h => absurd h.1 (by decide))]
section ML
variable {p : Program} {l : Launch} {e : Env} {R : Room} {s : State} {m : MethodId} {args : Array Value} {below : List Frame} {meth : Method} {c : Code} {D : va_G} {T : Nat → ClassId} {A : Nat → Prop} {ad : Nat → Nat} {H0 : Heap} {cells slots : Nat} {Q : State → Prop}
def S67 : List Nat := [67, 68, 69, 70, 71, 72, 73, 74, 75, 76, 77, 78, 79, 80, 81, 82, 83, 84, 85, 86, 87, 88, 89, 90, 91]
theorem S67_clo : clo S67 = true := by decide +kernel
theorem mloop (hx : p.tables.exec = Jvm.exec) (hb : c.code = cX12_init) (hown : s.vm.findClass RX12 = some m.cls) (hts : ∀ w ∈ gtb, w.before args s = true) (hK : va_K D classes (tysL T) s) (hD : adD A ad S67)
    (kk : ∀ (ls : Array Slot) (H : Heap) (locs : List Loc), va_P D classes (wld T ad MmC S67) H → va_S A H0 H locs → W p l e R s m args below meth c H locs cells slots Q (F0 m 415 ls [])) :
    ∀ (n k : Nat), k + n = 117 → ∀ (ls : Array Slot) (H : Heap) (locs : List Loc), lv_has ls 2 [(1, .int (Int32.ofInt (k : Int))), (0, .ref (ad 67))] → va_P D classes (wld T ad (cpk k) S67) H → va_S A H0 H locs → W p l e R s m args below meth c H locs cells slots Q (F0 m 391 ls []) := by
  intro n
  induction n with
  | zero =>
    intro k hk ls H locs hl hP hS
    have hk : k = 117 := by omega
    subst hk
    refine lv_iload_n hx hb dX12_init_391 rfl (lv_at hl 0 rfl) ?_
    refine lv_bipush (v := Int32.ofInt 117) hx hb dX12_init_392 (by decide) ?_
    refine lv_icmp_ge hx hb dX12_init_394 (tgt := 415) (by decide) (fun _ => kk ls H locs hP hS) (fun h => absurd (by decide) h)
  | succ n ih =>
    intro k hk ls H locs hl hP hS
    have ek : w32 (k : Int) = k := w32_of (by omega) (by omega)
    have q67 : S67[0]? = some 67 := rfl
    have q69 : S67[2]? = some 69 := rfl
    have q70 : S67[3]? = some 70 := rfl
    have he : ∀ k, (wld T ad (cpk k) S67)[0]? = some (ad 67, .inr (12, flds ad (cpk k) 67 12)) := fun k => wld_a q67
    have he69 : (wld T ad (cpk k) S67)[2]? = some (ad 69, .inl (T 0, 383, .inl (fun j => Int32.ofInt (cpk k 69 (j : Int))))) := wld_a q69
    have he70 : (wld T ad (cpk k) S67)[3]? = some (ad 70, .inl (T 0, 117, .inl (fun j => Int32.ofInt (cpk k 70 (j : Int))))) := wld_a q70
    refine lv_iload_n hx hb dX12_init_391 rfl (lv_at hl 0 rfl) ?_
    refine lv_bipush (v := Int32.ofInt 117) hx hb dX12_init_392 (by decide) ?_
    refine lv_icmp_ge hx hb dX12_init_394 (tgt := 415) (by decide) (fun h => absurd (le32.mp h) (by rw [ek]; show ¬ (117 : Int) ≤ k; omega)) (fun _ => ?_)
    refine lv_aload_n hx hb dX12_init_397 rfl (lv_at hl 1 rfl) ?_
    refine va_get (D := D) (ci := 12) (v := .ref (ad 69)) (C := cR 12) (T := cT 12) (N := cN 12) hx hb hts (iw_all 12 (by decide)) hown hK hP 0 (he k) rfl 6 (by decide) (hts _ (cwm_93)) (fun _ h9 => h9) rfl dX12_init_398 ?_
    refine lv_iload_n hx hb dX12_init_401 rfl (lv_at hl 0 rfl) ?_
    refine lv_aload_n hx hb dX12_init_402 rfl (lv_at hl 1 rfl) ?_
    refine va_get (D := D) (ci := 12) (v := .ref (ad 70)) (C := cR 12) (T := cT 12) (N := cN 12) hx hb hts (iw_all 12 (by decide)) hown hK hP 0 (he k) rfl 7 (by decide) (hts _ (cwm_94)) (fun _ h9 => h9) rfl dX12_init_403 ?_
    refine lv_iload_n hx hb dX12_init_406 rfl (lv_at hl 0 rfl) ?_
    refine va_iald hx hb hK hP 3 0 he70 rfl (vin (by omega) (by omega) (by decide)) dX12_init_407 ?_
    refine va_iast hx hb hK hP hD.D hS 2 0 he69 rfl (vin (by omega) (by omega) (by decide)) dX12_init_408 (fun H locs hP _ hS => ?_)
    have hE : went T ad (up (cpk k) 69 (k : Int) (cpk k 70 (k : Int))) 69 = .inl (T 0, 383, .inl (upd (fun j => Int32.ofInt (cpk k 69 (j : Int))) k (Int32.ofInt (cpk k 70 (k : Int))))) := by
      rw [went_0 (n := 383) rfl, fun_up (by omega)]
      rfl
    have et : (Int32.ofInt (k : Int)).toNatClampNeg = k := (tnc (by omega) (by omega)).trans rfl
    rw [et, wld_set hD q69 hE (fun b hb => went_up hb), cpk_h, cpk_s] at hP
    refine lv_iinc (k := 0) (v := Int32.ofInt ((k + 1 : Nat) : Int)) (lv' := [(1, .int (Int32.ofInt ((k + 1 : Nat) : Int))), (0, .ref (ad 67))]) hx hb dX12_init_409 hl rfl (by rw [← Int32.ofInt_add]; rfl) (by decide) rfl (fun ls hl => ?_)
    refine lv_goto hx hb dX12_init_412 (tgt := 391) (by decide) ?_
    exact ih (k + 1) (by omega) ls H locs hl hP hS
end ML
