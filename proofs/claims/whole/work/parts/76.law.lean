/-! the law: the two that it asks, call by call -/
section LawRows
variable {p : Program} {l : Launch} {e : Env} {R : Room} {s : State} {m : MethodId} {args : Array Value} {below : List Frame} {meth : Method} {c : Code} {Q : State → Prop} {G : Gt} {n0 nL N : Nat} {f : Nat → va_E} {cells slots pc : Nat} {L : List (Option Value)} {st : List Value} {cc : ByteArray} {own : String}
theorem w_sld (X : Cx G n0 p s m args meth c cc own nL) {b Ln : Nat} {xs : Nat → Int32} (hX : va_X b Ln xs s s.heap) (hbl : b < n0) (hbs : b < s.heap.size) (hL : Ln ≤ 2560) {i : Int} (hi : 0 ≤ i ∧ i < Ln) (hd : decode cc pc = .ok (.iaload, 1)) (kk : WW p l e R s m args below meth c Q G n0 nL N f cells slots (pc + 1) L (.int (jI (xs i.toNat).toInt) :: st)) : WW p l e R s m args below meth c Q G n0 nL N f cells slots pc L (.int (jI i) :: .ref b :: st) := fun H locs ls h1 h2 h3 => by
  have hcl : (jI i).toNatClampNeg = i.toNat := jI_cl hi.1 (by omega)
  refine va_sld X.1 X.2.1 hX hbs (Nat.not_le.mpr hbl) h2 ?_ hd ?_
  · rintro (q | q)
    · have q2 : jI i < jI 0 := q
      have := (jI_lt (a := i) (b := 0) (by unfold rg; omega) (by unfold rg; omega)).mp q2
      omega
    · rw [hcl] at q; omega
  · rw [hcl]
    have := kk H locs ls h1 h2 h3
    rw [jI_of] at this
    exact this
theorem w_slen (X : Cx G n0 p s m args meth c cc own nL) {b Ln : Nat} {xs : Nat → Int32} (hX : va_X b Ln xs s s.heap) (hbl : b < n0) (hbs : b < s.heap.size) (hd : decode cc pc = .ok (.arraylength, 1)) (kk : WW p l e R s m args below meth c Q G n0 nL N f cells slots (pc + 1) L (.int (jI (Ln : Int)) :: st)) : WW p l e R s m args below meth c Q G n0 nL N f cells slots pc L (.ref b :: st) := fun H locs ls h1 h2 h3 => va_slen X.1 X.2.1 hX hbs (Nat.not_le.mpr hbl) h2 hd (kk H locs ls h1 h2 h3)
theorem w_iandL (X : Cx G n0 p s m args meth c cc own nL) {x y : Int} (hd : decode cc pc = .ok (.iand, 1)) (kk : ∀ t : Int, rg t → WW p l e R s m args below meth c Q G n0 nL N f cells slots (pc + 1) L (.int (jI t) :: st)) : WW p l e R s m args below meth c Q G n0 nL N f cells slots pc L (.int (jI y) :: .int (jI x) :: st) := fun H locs ls h1 h2 h3 => lv_iand X.1 X.2.1 hd (by
  have := kk (jI x &&& jI y).toInt (rg_of _) H locs ls h1 h2 h3
  rw [jI_of] at this
  exact this)
theorem w_icmp_same (X : Cx G n0 p s m args meth c cc own nL) {v : Int32} {off : Int} (tgt : Nat) (hd : decode cc pc = .ok (.if_icmp .eq off, 3)) (ht : (pc : Int) + off = (tgt : Int)) (k : WW p l e R s m args below meth c Q G n0 nL N f cells slots tgt L st) : WW p l e R s m args below meth c Q G n0 nL N f cells slots pc L (.int v :: .int v :: st) := fun H locs ls h1 h2 h3 => lv_icmp_eq X.1 X.2.1 hd ht (fun _ => k H locs ls h1 h2 h3) (fun h => absurd rfl h)
end LawRows
abbrev LA (p : Program) (l : Launch) (e : Env) (s : State) (m : MethodId) (b : Nat) (below : List Frame) (meth : Method) (c : Code) (Q : State → Prop) (G : Gt) (n0 : Nat) (i : Int) (pc : Nat) (mi : Nat → Nat → Int) (mr : Nat → Nat → Nat) : Prop := WW p l e room_1 s m #[Value.ref b] below meth c Q G n0 4 492 (σ G n0 mi mr) 492 73239 pc [some (.ref b), some (.ref (n0 + 0)), some (.ref (n0 + 473)), some (.int (jI i))] []
theorem dL_law_0 : decode cL_law 0 = .ok (.new 7, 3) := by decide +kernel
theorem dL_law_3 : decode cL_law 3 = .ok (.dup, 1) := by decide +kernel
theorem dL_law_4 : decode cL_law 4 = .ok (.invokespecial 9, 3) := by decide +kernel
theorem dL_law_7 : decode cL_law 7 = .ok (.astore_n 1, 1) := by decide +kernel
theorem dL_law_8 : decode cL_law 8 = .ok (.new 10, 3) := by decide +kernel
theorem dL_law_11 : decode cL_law 11 = .ok (.dup, 1) := by decide +kernel
theorem dL_law_12 : decode cL_law 12 = .ok (.invokespecial 12, 3) := by decide +kernel
theorem dL_law_15 : decode cL_law 15 = .ok (.astore_n 2, 1) := by decide +kernel
theorem dL_law_16 : decode cL_law 16 = .ok (.iconst 0, 1) := by decide +kernel
theorem dL_law_17 : decode cL_law 17 = .ok (.istore_n 3, 1) := by decide +kernel
theorem dL_law_18 : decode cL_law 18 = .ok (.iload_n 3, 1) := by decide +kernel
theorem dL_law_19 : decode cL_law 19 = .ok (.aload_n 0, 1) := by decide +kernel
theorem dL_law_20 : decode cL_law 20 = .ok (.arraylength, 1) := by decide +kernel
theorem dL_law_21 : decode cL_law 21 = .ok (.iconst 5, 1) := by decide +kernel
theorem dL_law_22 : decode cL_law 22 = .ok (.isub, 1) := by decide +kernel
theorem dL_law_23 : decode cL_law 23 = .ok (.if_icmp .gt 722, 3) := by decide +kernel
theorem dL_law_26 : decode cL_law 26 = .ok (.aload_n 0, 1) := by decide +kernel
theorem dL_law_27 : decode cL_law 27 = .ok (.iload_n 3, 1) := by decide +kernel
theorem dL_law_28 : decode cL_law 28 = .ok (.iaload, 1) := by decide +kernel
theorem dL_law_29 : decode cL_law 29 = .ok (.bipush 31, 2) := by decide +kernel
theorem dL_law_31 : decode cL_law 31 = .ok (.iand, 1) := by decide +kernel
theorem dL_law_32 : decode cL_law 32 = .ok (.tableswitch 707 0 22 #[108, 131, 154, 187, 240, 283, 316, 349, 372, 405, 428, 451, 474, 487, 500, 513, 526, 559, 572, 595, 618, 661, 684], 108) := by decide +kernel
theorem dL_law_140 : decode cL_law 140 = .ok (.aload_n 1, 1) := by decide +kernel
theorem dL_law_141 : decode cL_law 141 = .ok (.aload_n 0, 1) := by decide +kernel
theorem dL_law_142 : decode cL_law 142 = .ok (.iload_n 3, 1) := by decide +kernel
theorem dL_law_143 : decode cL_law 143 = .ok (.iconst 1, 1) := by decide +kernel
theorem dL_law_144 : decode cL_law 144 = .ok (.iadd, 1) := by decide +kernel
theorem dL_law_145 : decode cL_law 145 = .ok (.iaload, 1) := by decide +kernel
theorem dL_law_146 : decode cL_law 146 = .ok (.invokevirtual 13, 3) := by decide +kernel
theorem dL_law_149 : decode cL_law 149 = .ok (.aload_n 2, 1) := by decide +kernel
theorem dL_law_150 : decode cL_law 150 = .ok (.aload_n 0, 1) := by decide +kernel
theorem dL_law_151 : decode cL_law 151 = .ok (.iload_n 3, 1) := by decide +kernel
theorem dL_law_152 : decode cL_law 152 = .ok (.iconst 1, 1) := by decide +kernel
theorem dL_law_153 : decode cL_law 153 = .ok (.iadd, 1) := by decide +kernel
theorem dL_law_154 : decode cL_law 154 = .ok (.iaload, 1) := by decide +kernel
theorem dL_law_155 : decode cL_law 155 = .ok (.invokevirtual 17, 3) := by decide +kernel
theorem dL_law_158 : decode cL_law 158 = .ok (.if_icmp .eq 581, 3) := by decide +kernel
theorem dL_law_161 : decode cL_law 161 = .ok (.iconst 0, 1) := by decide +kernel
theorem dL_law_162 : decode cL_law 162 = .ok (.ireturn, 1) := by decide +kernel
theorem dL_law_163 : decode cL_law 163 = .ok (.aload_n 1, 1) := by decide +kernel
theorem dL_law_164 : decode cL_law 164 = .ok (.aload_n 0, 1) := by decide +kernel
theorem dL_law_165 : decode cL_law 165 = .ok (.iload_n 3, 1) := by decide +kernel
theorem dL_law_166 : decode cL_law 166 = .ok (.iconst 1, 1) := by decide +kernel
theorem dL_law_167 : decode cL_law 167 = .ok (.iadd, 1) := by decide +kernel
theorem dL_law_168 : decode cL_law 168 = .ok (.iaload, 1) := by decide +kernel
theorem dL_law_169 : decode cL_law 169 = .ok (.invokevirtual 18, 3) := by decide +kernel
theorem dL_law_172 : decode cL_law 172 = .ok (.aload_n 2, 1) := by decide +kernel
theorem dL_law_173 : decode cL_law 173 = .ok (.aload_n 0, 1) := by decide +kernel
theorem dL_law_174 : decode cL_law 174 = .ok (.iload_n 3, 1) := by decide +kernel
theorem dL_law_175 : decode cL_law 175 = .ok (.iconst 1, 1) := by decide +kernel
theorem dL_law_176 : decode cL_law 176 = .ok (.iadd, 1) := by decide +kernel
theorem dL_law_177 : decode cL_law 177 = .ok (.iaload, 1) := by decide +kernel
theorem dL_law_178 : decode cL_law 178 = .ok (.invokevirtual 21, 3) := by decide +kernel
theorem dL_law_181 : decode cL_law 181 = .ok (.if_icmp .eq 558, 3) := by decide +kernel
theorem dL_law_184 : decode cL_law 184 = .ok (.iconst 0, 1) := by decide +kernel
theorem dL_law_185 : decode cL_law 185 = .ok (.ireturn, 1) := by decide +kernel
theorem dL_law_186 : decode cL_law 186 = .ok (.aload_n 1, 1) := by decide +kernel
theorem dL_law_187 : decode cL_law 187 = .ok (.aload_n 0, 1) := by decide +kernel
theorem dL_law_188 : decode cL_law 188 = .ok (.iload_n 3, 1) := by decide +kernel
theorem dL_law_189 : decode cL_law 189 = .ok (.iconst 1, 1) := by decide +kernel
theorem dL_law_190 : decode cL_law 190 = .ok (.iadd, 1) := by decide +kernel
theorem dL_law_191 : decode cL_law 191 = .ok (.iaload, 1) := by decide +kernel
theorem dL_law_192 : decode cL_law 192 = .ok (.aload_n 0, 1) := by decide +kernel
theorem dL_law_193 : decode cL_law 193 = .ok (.iload_n 3, 1) := by decide +kernel
theorem dL_law_194 : decode cL_law 194 = .ok (.iconst 2, 1) := by decide +kernel
theorem dL_law_195 : decode cL_law 195 = .ok (.iadd, 1) := by decide +kernel
theorem dL_law_196 : decode cL_law 196 = .ok (.iaload, 1) := by decide +kernel
theorem dL_law_197 : decode cL_law 197 = .ok (.invokevirtual 22, 3) := by decide +kernel
theorem dL_law_200 : decode cL_law 200 = .ok (.aload_n 2, 1) := by decide +kernel
theorem dL_law_201 : decode cL_law 201 = .ok (.aload_n 0, 1) := by decide +kernel
theorem dL_law_202 : decode cL_law 202 = .ok (.iload_n 3, 1) := by decide +kernel
theorem dL_law_203 : decode cL_law 203 = .ok (.iconst 1, 1) := by decide +kernel
theorem dL_law_204 : decode cL_law 204 = .ok (.iadd, 1) := by decide +kernel
theorem dL_law_205 : decode cL_law 205 = .ok (.iaload, 1) := by decide +kernel
theorem dL_law_206 : decode cL_law 206 = .ok (.aload_n 0, 1) := by decide +kernel
theorem dL_law_207 : decode cL_law 207 = .ok (.iload_n 3, 1) := by decide +kernel
theorem dL_law_208 : decode cL_law 208 = .ok (.iconst 2, 1) := by decide +kernel
theorem dL_law_209 : decode cL_law 209 = .ok (.iadd, 1) := by decide +kernel
theorem dL_law_210 : decode cL_law 210 = .ok (.iaload, 1) := by decide +kernel
theorem dL_law_211 : decode cL_law 211 = .ok (.invokevirtual 26, 3) := by decide +kernel
theorem dL_law_214 : decode cL_law 214 = .ok (.if_icmp .eq 525, 3) := by decide +kernel
theorem dL_law_217 : decode cL_law 217 = .ok (.iconst 0, 1) := by decide +kernel
theorem dL_law_218 : decode cL_law 218 = .ok (.ireturn, 1) := by decide +kernel
theorem dL_law_219 : decode cL_law 219 = .ok (.aload_n 1, 1) := by decide +kernel
theorem dL_law_220 : decode cL_law 220 = .ok (.aload_n 0, 1) := by decide +kernel
theorem dL_law_221 : decode cL_law 221 = .ok (.iload_n 3, 1) := by decide +kernel
theorem dL_law_222 : decode cL_law 222 = .ok (.iconst 1, 1) := by decide +kernel
theorem dL_law_223 : decode cL_law 223 = .ok (.iadd, 1) := by decide +kernel
theorem dL_law_224 : decode cL_law 224 = .ok (.iaload, 1) := by decide +kernel
theorem dL_law_225 : decode cL_law 225 = .ok (.aload_n 0, 1) := by decide +kernel
theorem dL_law_226 : decode cL_law 226 = .ok (.iload_n 3, 1) := by decide +kernel
theorem dL_law_227 : decode cL_law 227 = .ok (.iconst 2, 1) := by decide +kernel
theorem dL_law_228 : decode cL_law 228 = .ok (.iadd, 1) := by decide +kernel
theorem dL_law_229 : decode cL_law 229 = .ok (.iaload, 1) := by decide +kernel
theorem dL_law_230 : decode cL_law 230 = .ok (.aload_n 0, 1) := by decide +kernel
theorem dL_law_231 : decode cL_law 231 = .ok (.iload_n 3, 1) := by decide +kernel
theorem dL_law_232 : decode cL_law 232 = .ok (.iconst 3, 1) := by decide +kernel
theorem dL_law_233 : decode cL_law 233 = .ok (.iadd, 1) := by decide +kernel
theorem dL_law_234 : decode cL_law 234 = .ok (.iaload, 1) := by decide +kernel
theorem dL_law_235 : decode cL_law 235 = .ok (.aload_n 0, 1) := by decide +kernel
theorem dL_law_236 : decode cL_law 236 = .ok (.iload_n 3, 1) := by decide +kernel
theorem dL_law_237 : decode cL_law 237 = .ok (.iconst 4, 1) := by decide +kernel
theorem dL_law_238 : decode cL_law 238 = .ok (.iadd, 1) := by decide +kernel
theorem dL_law_239 : decode cL_law 239 = .ok (.iaload, 1) := by decide +kernel
theorem dL_law_240 : decode cL_law 240 = .ok (.invokevirtual 27, 3) := by decide +kernel
theorem dL_law_243 : decode cL_law 243 = .ok (.aload_n 2, 1) := by decide +kernel
theorem dL_law_244 : decode cL_law 244 = .ok (.aload_n 0, 1) := by decide +kernel
theorem dL_law_245 : decode cL_law 245 = .ok (.iload_n 3, 1) := by decide +kernel
theorem dL_law_246 : decode cL_law 246 = .ok (.iconst 1, 1) := by decide +kernel
theorem dL_law_247 : decode cL_law 247 = .ok (.iadd, 1) := by decide +kernel
theorem dL_law_248 : decode cL_law 248 = .ok (.iaload, 1) := by decide +kernel
theorem dL_law_249 : decode cL_law 249 = .ok (.aload_n 0, 1) := by decide +kernel
theorem dL_law_250 : decode cL_law 250 = .ok (.iload_n 3, 1) := by decide +kernel
theorem dL_law_251 : decode cL_law 251 = .ok (.iconst 2, 1) := by decide +kernel
theorem dL_law_252 : decode cL_law 252 = .ok (.iadd, 1) := by decide +kernel
theorem dL_law_253 : decode cL_law 253 = .ok (.iaload, 1) := by decide +kernel
theorem dL_law_254 : decode cL_law 254 = .ok (.aload_n 0, 1) := by decide +kernel
theorem dL_law_255 : decode cL_law 255 = .ok (.iload_n 3, 1) := by decide +kernel
theorem dL_law_256 : decode cL_law 256 = .ok (.iconst 3, 1) := by decide +kernel
theorem dL_law_257 : decode cL_law 257 = .ok (.iadd, 1) := by decide +kernel
theorem dL_law_258 : decode cL_law 258 = .ok (.iaload, 1) := by decide +kernel
theorem dL_law_259 : decode cL_law 259 = .ok (.aload_n 0, 1) := by decide +kernel
theorem dL_law_260 : decode cL_law 260 = .ok (.iload_n 3, 1) := by decide +kernel
theorem dL_law_261 : decode cL_law 261 = .ok (.iconst 4, 1) := by decide +kernel
theorem dL_law_262 : decode cL_law 262 = .ok (.iadd, 1) := by decide +kernel
theorem dL_law_263 : decode cL_law 263 = .ok (.iaload, 1) := by decide +kernel
theorem dL_law_264 : decode cL_law 264 = .ok (.invokevirtual 31, 3) := by decide +kernel
theorem dL_law_267 : decode cL_law 267 = .ok (.if_icmp .eq 472, 3) := by decide +kernel
theorem dL_law_270 : decode cL_law 270 = .ok (.iconst 0, 1) := by decide +kernel
theorem dL_law_271 : decode cL_law 271 = .ok (.ireturn, 1) := by decide +kernel
theorem dL_law_272 : decode cL_law 272 = .ok (.aload_n 1, 1) := by decide +kernel
theorem dL_law_273 : decode cL_law 273 = .ok (.aload_n 0, 1) := by decide +kernel
theorem dL_law_274 : decode cL_law 274 = .ok (.iload_n 3, 1) := by decide +kernel
theorem dL_law_275 : decode cL_law 275 = .ok (.iconst 1, 1) := by decide +kernel
theorem dL_law_276 : decode cL_law 276 = .ok (.iadd, 1) := by decide +kernel
theorem dL_law_277 : decode cL_law 277 = .ok (.iaload, 1) := by decide +kernel
theorem dL_law_278 : decode cL_law 278 = .ok (.aload_n 0, 1) := by decide +kernel
theorem dL_law_279 : decode cL_law 279 = .ok (.iload_n 3, 1) := by decide +kernel
theorem dL_law_280 : decode cL_law 280 = .ok (.iconst 2, 1) := by decide +kernel
theorem dL_law_281 : decode cL_law 281 = .ok (.iadd, 1) := by decide +kernel
theorem dL_law_282 : decode cL_law 282 = .ok (.iaload, 1) := by decide +kernel
theorem dL_law_283 : decode cL_law 283 = .ok (.aload_n 0, 1) := by decide +kernel
theorem dL_law_284 : decode cL_law 284 = .ok (.iload_n 3, 1) := by decide +kernel
theorem dL_law_285 : decode cL_law 285 = .ok (.iconst 3, 1) := by decide +kernel
theorem dL_law_286 : decode cL_law 286 = .ok (.iadd, 1) := by decide +kernel
theorem dL_law_287 : decode cL_law 287 = .ok (.iaload, 1) := by decide +kernel
theorem dL_law_288 : decode cL_law 288 = .ok (.invokevirtual 32, 3) := by decide +kernel
theorem dL_law_291 : decode cL_law 291 = .ok (.aload_n 2, 1) := by decide +kernel
theorem dL_law_292 : decode cL_law 292 = .ok (.aload_n 0, 1) := by decide +kernel
theorem dL_law_293 : decode cL_law 293 = .ok (.iload_n 3, 1) := by decide +kernel
theorem dL_law_294 : decode cL_law 294 = .ok (.iconst 1, 1) := by decide +kernel
theorem dL_law_295 : decode cL_law 295 = .ok (.iadd, 1) := by decide +kernel
theorem dL_law_296 : decode cL_law 296 = .ok (.iaload, 1) := by decide +kernel
theorem dL_law_297 : decode cL_law 297 = .ok (.aload_n 0, 1) := by decide +kernel
theorem dL_law_298 : decode cL_law 298 = .ok (.iload_n 3, 1) := by decide +kernel
theorem dL_law_299 : decode cL_law 299 = .ok (.iconst 2, 1) := by decide +kernel
theorem dL_law_300 : decode cL_law 300 = .ok (.iadd, 1) := by decide +kernel
theorem dL_law_301 : decode cL_law 301 = .ok (.iaload, 1) := by decide +kernel
theorem dL_law_302 : decode cL_law 302 = .ok (.aload_n 0, 1) := by decide +kernel
theorem dL_law_303 : decode cL_law 303 = .ok (.iload_n 3, 1) := by decide +kernel
theorem dL_law_304 : decode cL_law 304 = .ok (.iconst 3, 1) := by decide +kernel
theorem dL_law_305 : decode cL_law 305 = .ok (.iadd, 1) := by decide +kernel
theorem dL_law_306 : decode cL_law 306 = .ok (.iaload, 1) := by decide +kernel
theorem dL_law_307 : decode cL_law 307 = .ok (.invokevirtual 36, 3) := by decide +kernel
theorem dL_law_310 : decode cL_law 310 = .ok (.if_icmp .eq 429, 3) := by decide +kernel
theorem dL_law_313 : decode cL_law 313 = .ok (.iconst 0, 1) := by decide +kernel
theorem dL_law_314 : decode cL_law 314 = .ok (.ireturn, 1) := by decide +kernel
theorem dL_law_315 : decode cL_law 315 = .ok (.aload_n 1, 1) := by decide +kernel
theorem dL_law_316 : decode cL_law 316 = .ok (.aload_n 0, 1) := by decide +kernel
theorem dL_law_317 : decode cL_law 317 = .ok (.iload_n 3, 1) := by decide +kernel
theorem dL_law_318 : decode cL_law 318 = .ok (.iconst 1, 1) := by decide +kernel
theorem dL_law_319 : decode cL_law 319 = .ok (.iadd, 1) := by decide +kernel
theorem dL_law_320 : decode cL_law 320 = .ok (.iaload, 1) := by decide +kernel
theorem dL_law_321 : decode cL_law 321 = .ok (.aload_n 0, 1) := by decide +kernel
theorem dL_law_322 : decode cL_law 322 = .ok (.iload_n 3, 1) := by decide +kernel
theorem dL_law_323 : decode cL_law 323 = .ok (.iconst 2, 1) := by decide +kernel
theorem dL_law_324 : decode cL_law 324 = .ok (.iadd, 1) := by decide +kernel
theorem dL_law_325 : decode cL_law 325 = .ok (.iaload, 1) := by decide +kernel
theorem dL_law_326 : decode cL_law 326 = .ok (.invokevirtual 37, 3) := by decide +kernel
theorem dL_law_329 : decode cL_law 329 = .ok (.aload_n 2, 1) := by decide +kernel
theorem dL_law_330 : decode cL_law 330 = .ok (.aload_n 0, 1) := by decide +kernel
theorem dL_law_331 : decode cL_law 331 = .ok (.iload_n 3, 1) := by decide +kernel
theorem dL_law_332 : decode cL_law 332 = .ok (.iconst 1, 1) := by decide +kernel
theorem dL_law_333 : decode cL_law 333 = .ok (.iadd, 1) := by decide +kernel
theorem dL_law_334 : decode cL_law 334 = .ok (.iaload, 1) := by decide +kernel
theorem dL_law_335 : decode cL_law 335 = .ok (.aload_n 0, 1) := by decide +kernel
theorem dL_law_336 : decode cL_law 336 = .ok (.iload_n 3, 1) := by decide +kernel
theorem dL_law_337 : decode cL_law 337 = .ok (.iconst 2, 1) := by decide +kernel
theorem dL_law_338 : decode cL_law 338 = .ok (.iadd, 1) := by decide +kernel
theorem dL_law_339 : decode cL_law 339 = .ok (.iaload, 1) := by decide +kernel
theorem dL_law_340 : decode cL_law 340 = .ok (.invokevirtual 40, 3) := by decide +kernel
theorem dL_law_343 : decode cL_law 343 = .ok (.if_icmp .eq 396, 3) := by decide +kernel
theorem dL_law_346 : decode cL_law 346 = .ok (.iconst 0, 1) := by decide +kernel
theorem dL_law_347 : decode cL_law 347 = .ok (.ireturn, 1) := by decide +kernel
theorem dL_law_348 : decode cL_law 348 = .ok (.aload_n 1, 1) := by decide +kernel
theorem dL_law_349 : decode cL_law 349 = .ok (.aload_n 0, 1) := by decide +kernel
theorem dL_law_350 : decode cL_law 350 = .ok (.iload_n 3, 1) := by decide +kernel
theorem dL_law_351 : decode cL_law 351 = .ok (.iconst 1, 1) := by decide +kernel
theorem dL_law_352 : decode cL_law 352 = .ok (.iadd, 1) := by decide +kernel
theorem dL_law_353 : decode cL_law 353 = .ok (.iaload, 1) := by decide +kernel
theorem dL_law_354 : decode cL_law 354 = .ok (.aload_n 0, 1) := by decide +kernel
theorem dL_law_355 : decode cL_law 355 = .ok (.iload_n 3, 1) := by decide +kernel
theorem dL_law_356 : decode cL_law 356 = .ok (.iconst 2, 1) := by decide +kernel
theorem dL_law_357 : decode cL_law 357 = .ok (.iadd, 1) := by decide +kernel
theorem dL_law_358 : decode cL_law 358 = .ok (.iaload, 1) := by decide +kernel
theorem dL_law_359 : decode cL_law 359 = .ok (.invokevirtual 41, 3) := by decide +kernel
theorem dL_law_362 : decode cL_law 362 = .ok (.aload_n 2, 1) := by decide +kernel
theorem dL_law_363 : decode cL_law 363 = .ok (.aload_n 0, 1) := by decide +kernel
theorem dL_law_364 : decode cL_law 364 = .ok (.iload_n 3, 1) := by decide +kernel
theorem dL_law_365 : decode cL_law 365 = .ok (.iconst 1, 1) := by decide +kernel
theorem dL_law_366 : decode cL_law 366 = .ok (.iadd, 1) := by decide +kernel
theorem dL_law_367 : decode cL_law 367 = .ok (.iaload, 1) := by decide +kernel
theorem dL_law_368 : decode cL_law 368 = .ok (.aload_n 0, 1) := by decide +kernel
theorem dL_law_369 : decode cL_law 369 = .ok (.iload_n 3, 1) := by decide +kernel
theorem dL_law_370 : decode cL_law 370 = .ok (.iconst 2, 1) := by decide +kernel
theorem dL_law_371 : decode cL_law 371 = .ok (.iadd, 1) := by decide +kernel
theorem dL_law_372 : decode cL_law 372 = .ok (.iaload, 1) := by decide +kernel
theorem dL_law_373 : decode cL_law 373 = .ok (.invokevirtual 44, 3) := by decide +kernel
theorem dL_law_376 : decode cL_law 376 = .ok (.if_icmp .eq 363, 3) := by decide +kernel
theorem dL_law_379 : decode cL_law 379 = .ok (.iconst 0, 1) := by decide +kernel
theorem dL_law_380 : decode cL_law 380 = .ok (.ireturn, 1) := by decide +kernel
theorem dL_law_381 : decode cL_law 381 = .ok (.aload_n 1, 1) := by decide +kernel
theorem dL_law_382 : decode cL_law 382 = .ok (.aload_n 0, 1) := by decide +kernel
theorem dL_law_383 : decode cL_law 383 = .ok (.iload_n 3, 1) := by decide +kernel
theorem dL_law_384 : decode cL_law 384 = .ok (.iconst 1, 1) := by decide +kernel
theorem dL_law_385 : decode cL_law 385 = .ok (.iadd, 1) := by decide +kernel
theorem dL_law_386 : decode cL_law 386 = .ok (.iaload, 1) := by decide +kernel
theorem dL_law_387 : decode cL_law 387 = .ok (.invokevirtual 45, 3) := by decide +kernel
theorem dL_law_390 : decode cL_law 390 = .ok (.aload_n 2, 1) := by decide +kernel
theorem dL_law_391 : decode cL_law 391 = .ok (.aload_n 0, 1) := by decide +kernel
theorem dL_law_392 : decode cL_law 392 = .ok (.iload_n 3, 1) := by decide +kernel
theorem dL_law_393 : decode cL_law 393 = .ok (.iconst 1, 1) := by decide +kernel
theorem dL_law_394 : decode cL_law 394 = .ok (.iadd, 1) := by decide +kernel
theorem dL_law_395 : decode cL_law 395 = .ok (.iaload, 1) := by decide +kernel
theorem dL_law_396 : decode cL_law 396 = .ok (.invokevirtual 48, 3) := by decide +kernel
theorem dL_law_399 : decode cL_law 399 = .ok (.if_icmp .eq 340, 3) := by decide +kernel
theorem dL_law_402 : decode cL_law 402 = .ok (.iconst 0, 1) := by decide +kernel
theorem dL_law_403 : decode cL_law 403 = .ok (.ireturn, 1) := by decide +kernel
theorem dL_law_404 : decode cL_law 404 = .ok (.aload_n 1, 1) := by decide +kernel
theorem dL_law_405 : decode cL_law 405 = .ok (.aload_n 0, 1) := by decide +kernel
theorem dL_law_406 : decode cL_law 406 = .ok (.iload_n 3, 1) := by decide +kernel
theorem dL_law_407 : decode cL_law 407 = .ok (.iconst 1, 1) := by decide +kernel
theorem dL_law_408 : decode cL_law 408 = .ok (.iadd, 1) := by decide +kernel
theorem dL_law_409 : decode cL_law 409 = .ok (.iaload, 1) := by decide +kernel
theorem dL_law_410 : decode cL_law 410 = .ok (.aload_n 0, 1) := by decide +kernel
theorem dL_law_411 : decode cL_law 411 = .ok (.iload_n 3, 1) := by decide +kernel
theorem dL_law_412 : decode cL_law 412 = .ok (.iconst 2, 1) := by decide +kernel
theorem dL_law_413 : decode cL_law 413 = .ok (.iadd, 1) := by decide +kernel
theorem dL_law_414 : decode cL_law 414 = .ok (.iaload, 1) := by decide +kernel
theorem dL_law_415 : decode cL_law 415 = .ok (.invokevirtual 49, 3) := by decide +kernel
theorem dL_law_418 : decode cL_law 418 = .ok (.aload_n 2, 1) := by decide +kernel
theorem dL_law_419 : decode cL_law 419 = .ok (.aload_n 0, 1) := by decide +kernel
theorem dL_law_420 : decode cL_law 420 = .ok (.iload_n 3, 1) := by decide +kernel
theorem dL_law_421 : decode cL_law 421 = .ok (.iconst 1, 1) := by decide +kernel
theorem dL_law_422 : decode cL_law 422 = .ok (.iadd, 1) := by decide +kernel
theorem dL_law_423 : decode cL_law 423 = .ok (.iaload, 1) := by decide +kernel
theorem dL_law_424 : decode cL_law 424 = .ok (.aload_n 0, 1) := by decide +kernel
theorem dL_law_425 : decode cL_law 425 = .ok (.iload_n 3, 1) := by decide +kernel
theorem dL_law_426 : decode cL_law 426 = .ok (.iconst 2, 1) := by decide +kernel
theorem dL_law_427 : decode cL_law 427 = .ok (.iadd, 1) := by decide +kernel
theorem dL_law_428 : decode cL_law 428 = .ok (.iaload, 1) := by decide +kernel
theorem dL_law_429 : decode cL_law 429 = .ok (.invokevirtual 52, 3) := by decide +kernel
theorem dL_law_432 : decode cL_law 432 = .ok (.if_icmp .eq 307, 3) := by decide +kernel
theorem dL_law_435 : decode cL_law 435 = .ok (.iconst 0, 1) := by decide +kernel
theorem dL_law_436 : decode cL_law 436 = .ok (.ireturn, 1) := by decide +kernel
theorem dL_law_437 : decode cL_law 437 = .ok (.aload_n 1, 1) := by decide +kernel
theorem dL_law_438 : decode cL_law 438 = .ok (.aload_n 0, 1) := by decide +kernel
theorem dL_law_439 : decode cL_law 439 = .ok (.iload_n 3, 1) := by decide +kernel
theorem dL_law_440 : decode cL_law 440 = .ok (.iconst 1, 1) := by decide +kernel
theorem dL_law_441 : decode cL_law 441 = .ok (.iadd, 1) := by decide +kernel
theorem dL_law_442 : decode cL_law 442 = .ok (.iaload, 1) := by decide +kernel
theorem dL_law_443 : decode cL_law 443 = .ok (.invokevirtual 53, 3) := by decide +kernel
theorem dL_law_446 : decode cL_law 446 = .ok (.aload_n 2, 1) := by decide +kernel
theorem dL_law_447 : decode cL_law 447 = .ok (.aload_n 0, 1) := by decide +kernel
theorem dL_law_448 : decode cL_law 448 = .ok (.iload_n 3, 1) := by decide +kernel
theorem dL_law_449 : decode cL_law 449 = .ok (.iconst 1, 1) := by decide +kernel
theorem dL_law_450 : decode cL_law 450 = .ok (.iadd, 1) := by decide +kernel
theorem dL_law_451 : decode cL_law 451 = .ok (.iaload, 1) := by decide +kernel
theorem dL_law_452 : decode cL_law 452 = .ok (.invokevirtual 56, 3) := by decide +kernel
theorem dL_law_455 : decode cL_law 455 = .ok (.if_icmp .eq 284, 3) := by decide +kernel
theorem dL_law_458 : decode cL_law 458 = .ok (.iconst 0, 1) := by decide +kernel
theorem dL_law_459 : decode cL_law 459 = .ok (.ireturn, 1) := by decide +kernel
theorem dL_law_460 : decode cL_law 460 = .ok (.aload_n 1, 1) := by decide +kernel
theorem dL_law_461 : decode cL_law 461 = .ok (.aload_n 0, 1) := by decide +kernel
theorem dL_law_462 : decode cL_law 462 = .ok (.iload_n 3, 1) := by decide +kernel
theorem dL_law_463 : decode cL_law 463 = .ok (.iconst 1, 1) := by decide +kernel
theorem dL_law_464 : decode cL_law 464 = .ok (.iadd, 1) := by decide +kernel
theorem dL_law_465 : decode cL_law 465 = .ok (.iaload, 1) := by decide +kernel
theorem dL_law_466 : decode cL_law 466 = .ok (.invokevirtual 57, 3) := by decide +kernel
theorem dL_law_469 : decode cL_law 469 = .ok (.aload_n 2, 1) := by decide +kernel
theorem dL_law_470 : decode cL_law 470 = .ok (.aload_n 0, 1) := by decide +kernel
theorem dL_law_471 : decode cL_law 471 = .ok (.iload_n 3, 1) := by decide +kernel
theorem dL_law_472 : decode cL_law 472 = .ok (.iconst 1, 1) := by decide +kernel
theorem dL_law_473 : decode cL_law 473 = .ok (.iadd, 1) := by decide +kernel
theorem dL_law_474 : decode cL_law 474 = .ok (.iaload, 1) := by decide +kernel
theorem dL_law_475 : decode cL_law 475 = .ok (.invokevirtual 60, 3) := by decide +kernel
theorem dL_law_478 : decode cL_law 478 = .ok (.if_icmp .eq 261, 3) := by decide +kernel
theorem dL_law_481 : decode cL_law 481 = .ok (.iconst 0, 1) := by decide +kernel
theorem dL_law_482 : decode cL_law 482 = .ok (.ireturn, 1) := by decide +kernel
theorem dL_law_483 : decode cL_law 483 = .ok (.aload_n 1, 1) := by decide +kernel
theorem dL_law_484 : decode cL_law 484 = .ok (.aload_n 0, 1) := by decide +kernel
theorem dL_law_485 : decode cL_law 485 = .ok (.iload_n 3, 1) := by decide +kernel
theorem dL_law_486 : decode cL_law 486 = .ok (.iconst 1, 1) := by decide +kernel
theorem dL_law_487 : decode cL_law 487 = .ok (.iadd, 1) := by decide +kernel
theorem dL_law_488 : decode cL_law 488 = .ok (.iaload, 1) := by decide +kernel
theorem dL_law_489 : decode cL_law 489 = .ok (.invokevirtual 61, 3) := by decide +kernel
theorem dL_law_492 : decode cL_law 492 = .ok (.aload_n 2, 1) := by decide +kernel
theorem dL_law_493 : decode cL_law 493 = .ok (.aload_n 0, 1) := by decide +kernel
theorem dL_law_494 : decode cL_law 494 = .ok (.iload_n 3, 1) := by decide +kernel
theorem dL_law_495 : decode cL_law 495 = .ok (.iconst 1, 1) := by decide +kernel
theorem dL_law_496 : decode cL_law 496 = .ok (.iadd, 1) := by decide +kernel
theorem dL_law_497 : decode cL_law 497 = .ok (.iaload, 1) := by decide +kernel
theorem dL_law_498 : decode cL_law 498 = .ok (.invokevirtual 64, 3) := by decide +kernel
theorem dL_law_501 : decode cL_law 501 = .ok (.if_icmp .eq 238, 3) := by decide +kernel
theorem dL_law_504 : decode cL_law 504 = .ok (.iconst 0, 1) := by decide +kernel
theorem dL_law_505 : decode cL_law 505 = .ok (.ireturn, 1) := by decide +kernel
theorem dL_law_506 : decode cL_law 506 = .ok (.aload_n 1, 1) := by decide +kernel
theorem dL_law_507 : decode cL_law 507 = .ok (.invokevirtual 65, 3) := by decide +kernel
theorem dL_law_510 : decode cL_law 510 = .ok (.aload_n 2, 1) := by decide +kernel
theorem dL_law_511 : decode cL_law 511 = .ok (.invokevirtual 69, 3) := by decide +kernel
theorem dL_law_514 : decode cL_law 514 = .ok (.if_icmp .eq 225, 3) := by decide +kernel
theorem dL_law_517 : decode cL_law 517 = .ok (.iconst 0, 1) := by decide +kernel
theorem dL_law_518 : decode cL_law 518 = .ok (.ireturn, 1) := by decide +kernel
theorem dL_law_519 : decode cL_law 519 = .ok (.aload_n 1, 1) := by decide +kernel
theorem dL_law_520 : decode cL_law 520 = .ok (.invokevirtual 70, 3) := by decide +kernel
theorem dL_law_523 : decode cL_law 523 = .ok (.aload_n 2, 1) := by decide +kernel
theorem dL_law_524 : decode cL_law 524 = .ok (.invokevirtual 73, 3) := by decide +kernel
theorem dL_law_527 : decode cL_law 527 = .ok (.if_icmp .eq 212, 3) := by decide +kernel
theorem dL_law_530 : decode cL_law 530 = .ok (.iconst 0, 1) := by decide +kernel
theorem dL_law_531 : decode cL_law 531 = .ok (.ireturn, 1) := by decide +kernel
theorem dL_law_532 : decode cL_law 532 = .ok (.aload_n 1, 1) := by decide +kernel
theorem dL_law_533 : decode cL_law 533 = .ok (.invokevirtual 74, 3) := by decide +kernel
theorem dL_law_536 : decode cL_law 536 = .ok (.aload_n 2, 1) := by decide +kernel
theorem dL_law_537 : decode cL_law 537 = .ok (.invokevirtual 77, 3) := by decide +kernel
theorem dL_law_540 : decode cL_law 540 = .ok (.if_icmp .eq 199, 3) := by decide +kernel
theorem dL_law_543 : decode cL_law 543 = .ok (.iconst 0, 1) := by decide +kernel
theorem dL_law_544 : decode cL_law 544 = .ok (.ireturn, 1) := by decide +kernel
theorem dL_law_545 : decode cL_law 545 = .ok (.aload_n 1, 1) := by decide +kernel
theorem dL_law_546 : decode cL_law 546 = .ok (.invokevirtual 78, 3) := by decide +kernel
theorem dL_law_549 : decode cL_law 549 = .ok (.aload_n 2, 1) := by decide +kernel
theorem dL_law_550 : decode cL_law 550 = .ok (.invokevirtual 81, 3) := by decide +kernel
theorem dL_law_553 : decode cL_law 553 = .ok (.if_icmp .eq 186, 3) := by decide +kernel
theorem dL_law_556 : decode cL_law 556 = .ok (.iconst 0, 1) := by decide +kernel
theorem dL_law_557 : decode cL_law 557 = .ok (.ireturn, 1) := by decide +kernel
theorem dL_law_558 : decode cL_law 558 = .ok (.aload_n 1, 1) := by decide +kernel
theorem dL_law_559 : decode cL_law 559 = .ok (.aload_n 0, 1) := by decide +kernel
theorem dL_law_560 : decode cL_law 560 = .ok (.iload_n 3, 1) := by decide +kernel
theorem dL_law_561 : decode cL_law 561 = .ok (.iconst 1, 1) := by decide +kernel
theorem dL_law_562 : decode cL_law 562 = .ok (.iadd, 1) := by decide +kernel
theorem dL_law_563 : decode cL_law 563 = .ok (.iaload, 1) := by decide +kernel
theorem dL_law_564 : decode cL_law 564 = .ok (.aload_n 0, 1) := by decide +kernel
theorem dL_law_565 : decode cL_law 565 = .ok (.iload_n 3, 1) := by decide +kernel
theorem dL_law_566 : decode cL_law 566 = .ok (.iconst 2, 1) := by decide +kernel
theorem dL_law_567 : decode cL_law 567 = .ok (.iadd, 1) := by decide +kernel
theorem dL_law_568 : decode cL_law 568 = .ok (.iaload, 1) := by decide +kernel
theorem dL_law_569 : decode cL_law 569 = .ok (.invokevirtual 82, 3) := by decide +kernel
theorem dL_law_572 : decode cL_law 572 = .ok (.aload_n 2, 1) := by decide +kernel
theorem dL_law_573 : decode cL_law 573 = .ok (.aload_n 0, 1) := by decide +kernel
theorem dL_law_574 : decode cL_law 574 = .ok (.iload_n 3, 1) := by decide +kernel
theorem dL_law_575 : decode cL_law 575 = .ok (.iconst 1, 1) := by decide +kernel
theorem dL_law_576 : decode cL_law 576 = .ok (.iadd, 1) := by decide +kernel
theorem dL_law_577 : decode cL_law 577 = .ok (.iaload, 1) := by decide +kernel
theorem dL_law_578 : decode cL_law 578 = .ok (.aload_n 0, 1) := by decide +kernel
theorem dL_law_579 : decode cL_law 579 = .ok (.iload_n 3, 1) := by decide +kernel
theorem dL_law_580 : decode cL_law 580 = .ok (.iconst 2, 1) := by decide +kernel
theorem dL_law_581 : decode cL_law 581 = .ok (.iadd, 1) := by decide +kernel
theorem dL_law_582 : decode cL_law 582 = .ok (.iaload, 1) := by decide +kernel
theorem dL_law_583 : decode cL_law 583 = .ok (.invokevirtual 85, 3) := by decide +kernel
theorem dL_law_586 : decode cL_law 586 = .ok (.if_icmp .eq 153, 3) := by decide +kernel
theorem dL_law_589 : decode cL_law 589 = .ok (.iconst 0, 1) := by decide +kernel
theorem dL_law_590 : decode cL_law 590 = .ok (.ireturn, 1) := by decide +kernel
theorem dL_law_591 : decode cL_law 591 = .ok (.aload_n 1, 1) := by decide +kernel
theorem dL_law_592 : decode cL_law 592 = .ok (.invokevirtual 86, 3) := by decide +kernel
theorem dL_law_595 : decode cL_law 595 = .ok (.aload_n 2, 1) := by decide +kernel
theorem dL_law_596 : decode cL_law 596 = .ok (.invokevirtual 89, 3) := by decide +kernel
theorem dL_law_599 : decode cL_law 599 = .ok (.if_icmp .eq 140, 3) := by decide +kernel
theorem dL_law_602 : decode cL_law 602 = .ok (.iconst 0, 1) := by decide +kernel
theorem dL_law_603 : decode cL_law 603 = .ok (.ireturn, 1) := by decide +kernel
theorem dL_law_604 : decode cL_law 604 = .ok (.aload_n 1, 1) := by decide +kernel
theorem dL_law_605 : decode cL_law 605 = .ok (.aload_n 0, 1) := by decide +kernel
theorem dL_law_606 : decode cL_law 606 = .ok (.iload_n 3, 1) := by decide +kernel
theorem dL_law_607 : decode cL_law 607 = .ok (.iconst 1, 1) := by decide +kernel
theorem dL_law_608 : decode cL_law 608 = .ok (.iadd, 1) := by decide +kernel
theorem dL_law_609 : decode cL_law 609 = .ok (.iaload, 1) := by decide +kernel
theorem dL_law_610 : decode cL_law 610 = .ok (.invokevirtual 90, 3) := by decide +kernel
theorem dL_law_613 : decode cL_law 613 = .ok (.aload_n 2, 1) := by decide +kernel
theorem dL_law_614 : decode cL_law 614 = .ok (.aload_n 0, 1) := by decide +kernel
theorem dL_law_615 : decode cL_law 615 = .ok (.iload_n 3, 1) := by decide +kernel
theorem dL_law_616 : decode cL_law 616 = .ok (.iconst 1, 1) := by decide +kernel
theorem dL_law_617 : decode cL_law 617 = .ok (.iadd, 1) := by decide +kernel
theorem dL_law_618 : decode cL_law 618 = .ok (.iaload, 1) := by decide +kernel
theorem dL_law_619 : decode cL_law 619 = .ok (.invokevirtual 93, 3) := by decide +kernel
theorem dL_law_622 : decode cL_law 622 = .ok (.if_icmp .eq 117, 3) := by decide +kernel
theorem dL_law_625 : decode cL_law 625 = .ok (.iconst 0, 1) := by decide +kernel
theorem dL_law_626 : decode cL_law 626 = .ok (.ireturn, 1) := by decide +kernel
theorem dL_law_627 : decode cL_law 627 = .ok (.aload_n 1, 1) := by decide +kernel
theorem dL_law_628 : decode cL_law 628 = .ok (.aload_n 0, 1) := by decide +kernel
theorem dL_law_629 : decode cL_law 629 = .ok (.iload_n 3, 1) := by decide +kernel
theorem dL_law_630 : decode cL_law 630 = .ok (.iconst 1, 1) := by decide +kernel
theorem dL_law_631 : decode cL_law 631 = .ok (.iadd, 1) := by decide +kernel
theorem dL_law_632 : decode cL_law 632 = .ok (.iaload, 1) := by decide +kernel
theorem dL_law_633 : decode cL_law 633 = .ok (.invokevirtual 94, 3) := by decide +kernel
theorem dL_law_636 : decode cL_law 636 = .ok (.aload_n 2, 1) := by decide +kernel
theorem dL_law_637 : decode cL_law 637 = .ok (.aload_n 0, 1) := by decide +kernel
theorem dL_law_638 : decode cL_law 638 = .ok (.iload_n 3, 1) := by decide +kernel
theorem dL_law_639 : decode cL_law 639 = .ok (.iconst 1, 1) := by decide +kernel
theorem dL_law_640 : decode cL_law 640 = .ok (.iadd, 1) := by decide +kernel
theorem dL_law_641 : decode cL_law 641 = .ok (.iaload, 1) := by decide +kernel
theorem dL_law_642 : decode cL_law 642 = .ok (.invokevirtual 97, 3) := by decide +kernel
theorem dL_law_645 : decode cL_law 645 = .ok (.if_icmp .eq 94, 3) := by decide +kernel
theorem dL_law_648 : decode cL_law 648 = .ok (.iconst 0, 1) := by decide +kernel
theorem dL_law_649 : decode cL_law 649 = .ok (.ireturn, 1) := by decide +kernel
theorem dL_law_650 : decode cL_law 650 = .ok (.aload_n 1, 1) := by decide +kernel
theorem dL_law_651 : decode cL_law 651 = .ok (.aload_n 0, 1) := by decide +kernel
theorem dL_law_652 : decode cL_law 652 = .ok (.iload_n 3, 1) := by decide +kernel
theorem dL_law_653 : decode cL_law 653 = .ok (.iconst 1, 1) := by decide +kernel
theorem dL_law_654 : decode cL_law 654 = .ok (.iadd, 1) := by decide +kernel
theorem dL_law_655 : decode cL_law 655 = .ok (.iaload, 1) := by decide +kernel
theorem dL_law_656 : decode cL_law 656 = .ok (.aload_n 0, 1) := by decide +kernel
theorem dL_law_657 : decode cL_law 657 = .ok (.iload_n 3, 1) := by decide +kernel
theorem dL_law_658 : decode cL_law 658 = .ok (.iconst 2, 1) := by decide +kernel
theorem dL_law_659 : decode cL_law 659 = .ok (.iadd, 1) := by decide +kernel
theorem dL_law_660 : decode cL_law 660 = .ok (.iaload, 1) := by decide +kernel
theorem dL_law_661 : decode cL_law 661 = .ok (.aload_n 0, 1) := by decide +kernel
theorem dL_law_662 : decode cL_law 662 = .ok (.iload_n 3, 1) := by decide +kernel
theorem dL_law_663 : decode cL_law 663 = .ok (.iconst 3, 1) := by decide +kernel
theorem dL_law_664 : decode cL_law 664 = .ok (.iadd, 1) := by decide +kernel
theorem dL_law_665 : decode cL_law 665 = .ok (.iaload, 1) := by decide +kernel
theorem dL_law_666 : decode cL_law 666 = .ok (.invokevirtual 98, 3) := by decide +kernel
theorem dL_law_669 : decode cL_law 669 = .ok (.aload_n 2, 1) := by decide +kernel
theorem dL_law_670 : decode cL_law 670 = .ok (.aload_n 0, 1) := by decide +kernel
theorem dL_law_671 : decode cL_law 671 = .ok (.iload_n 3, 1) := by decide +kernel
theorem dL_law_672 : decode cL_law 672 = .ok (.iconst 1, 1) := by decide +kernel
theorem dL_law_673 : decode cL_law 673 = .ok (.iadd, 1) := by decide +kernel
theorem dL_law_674 : decode cL_law 674 = .ok (.iaload, 1) := by decide +kernel
theorem dL_law_675 : decode cL_law 675 = .ok (.aload_n 0, 1) := by decide +kernel
theorem dL_law_676 : decode cL_law 676 = .ok (.iload_n 3, 1) := by decide +kernel
theorem dL_law_677 : decode cL_law 677 = .ok (.iconst 2, 1) := by decide +kernel
theorem dL_law_678 : decode cL_law 678 = .ok (.iadd, 1) := by decide +kernel
theorem dL_law_679 : decode cL_law 679 = .ok (.iaload, 1) := by decide +kernel
theorem dL_law_680 : decode cL_law 680 = .ok (.aload_n 0, 1) := by decide +kernel
theorem dL_law_681 : decode cL_law 681 = .ok (.iload_n 3, 1) := by decide +kernel
theorem dL_law_682 : decode cL_law 682 = .ok (.iconst 3, 1) := by decide +kernel
theorem dL_law_683 : decode cL_law 683 = .ok (.iadd, 1) := by decide +kernel
theorem dL_law_684 : decode cL_law 684 = .ok (.iaload, 1) := by decide +kernel
theorem dL_law_685 : decode cL_law 685 = .ok (.invokevirtual 101, 3) := by decide +kernel
theorem dL_law_688 : decode cL_law 688 = .ok (.if_icmp .eq 51, 3) := by decide +kernel
theorem dL_law_691 : decode cL_law 691 = .ok (.iconst 0, 1) := by decide +kernel
theorem dL_law_692 : decode cL_law 692 = .ok (.ireturn, 1) := by decide +kernel
theorem dL_law_693 : decode cL_law 693 = .ok (.aload_n 1, 1) := by decide +kernel
theorem dL_law_694 : decode cL_law 694 = .ok (.aload_n 0, 1) := by decide +kernel
theorem dL_law_695 : decode cL_law 695 = .ok (.iload_n 3, 1) := by decide +kernel
theorem dL_law_696 : decode cL_law 696 = .ok (.iconst 1, 1) := by decide +kernel
theorem dL_law_697 : decode cL_law 697 = .ok (.iadd, 1) := by decide +kernel
theorem dL_law_698 : decode cL_law 698 = .ok (.iaload, 1) := by decide +kernel
theorem dL_law_699 : decode cL_law 699 = .ok (.invokevirtual 102, 3) := by decide +kernel
theorem dL_law_702 : decode cL_law 702 = .ok (.aload_n 2, 1) := by decide +kernel
theorem dL_law_703 : decode cL_law 703 = .ok (.aload_n 0, 1) := by decide +kernel
theorem dL_law_704 : decode cL_law 704 = .ok (.iload_n 3, 1) := by decide +kernel
theorem dL_law_705 : decode cL_law 705 = .ok (.iconst 1, 1) := by decide +kernel
theorem dL_law_706 : decode cL_law 706 = .ok (.iadd, 1) := by decide +kernel
theorem dL_law_707 : decode cL_law 707 = .ok (.iaload, 1) := by decide +kernel
theorem dL_law_708 : decode cL_law 708 = .ok (.invokevirtual 105, 3) := by decide +kernel
theorem dL_law_711 : decode cL_law 711 = .ok (.if_icmp .eq 28, 3) := by decide +kernel
theorem dL_law_714 : decode cL_law 714 = .ok (.iconst 0, 1) := by decide +kernel
theorem dL_law_715 : decode cL_law 715 = .ok (.ireturn, 1) := by decide +kernel
theorem dL_law_716 : decode cL_law 716 = .ok (.aload_n 1, 1) := by decide +kernel
theorem dL_law_717 : decode cL_law 717 = .ok (.aload_n 0, 1) := by decide +kernel
theorem dL_law_718 : decode cL_law 718 = .ok (.iload_n 3, 1) := by decide +kernel
theorem dL_law_719 : decode cL_law 719 = .ok (.iconst 1, 1) := by decide +kernel
theorem dL_law_720 : decode cL_law 720 = .ok (.iadd, 1) := by decide +kernel
theorem dL_law_721 : decode cL_law 721 = .ok (.iaload, 1) := by decide +kernel
theorem dL_law_722 : decode cL_law 722 = .ok (.invokevirtual 106, 3) := by decide +kernel
theorem dL_law_725 : decode cL_law 725 = .ok (.aload_n 2, 1) := by decide +kernel
theorem dL_law_726 : decode cL_law 726 = .ok (.aload_n 0, 1) := by decide +kernel
theorem dL_law_727 : decode cL_law 727 = .ok (.iload_n 3, 1) := by decide +kernel
theorem dL_law_728 : decode cL_law 728 = .ok (.iconst 1, 1) := by decide +kernel
theorem dL_law_729 : decode cL_law 729 = .ok (.iadd, 1) := by decide +kernel
theorem dL_law_730 : decode cL_law 730 = .ok (.iaload, 1) := by decide +kernel
theorem dL_law_731 : decode cL_law 731 = .ok (.invokevirtual 109, 3) := by decide +kernel
theorem dL_law_734 : decode cL_law 734 = .ok (.if_icmp .eq 5, 3) := by decide +kernel
theorem dL_law_737 : decode cL_law 737 = .ok (.iconst 0, 1) := by decide +kernel
theorem dL_law_738 : decode cL_law 738 = .ok (.ireturn, 1) := by decide +kernel
theorem dL_law_739 : decode cL_law 739 = .ok (.iinc 3 5, 3) := by decide +kernel
theorem dL_law_742 : decode cL_law 742 = .ok (.goto (-724), 3) := by decide +kernel
theorem dL_law_745 : decode cL_law 745 = .ok (.iconst 1, 1) := by decide +kernel
theorem dL_law_746 : decode cL_law 746 = .ok (.ireturn, 1) := by decide +kernel
set_option maxRecDepth 20000 in
set_option maxHeartbeats 4000000 in
theorem lc_0 {p : Program} {l : Launch} {e : Env} {s : State} {m : MethodId} {b : Nat} {below : List Frame} {meth : Method} {c : Code} {Q : State → Prop} {G : Gt} {n0 Ln : Nat} {xs : Nat → Int32} {i : Int} {mi : Nat → Nat → Int} {mr : Nat → Nat → Nat} (X : Cx G n0 p s m #[Value.ref b] meth c cL_law "CrowdLawsLaw" 4) (hX : va_X b Ln xs s s.heap) (hbl : b < n0) (hbs : b < s.heap.size) (hL : Ln ≤ 2560) (hi : 0 ≤ i ∧ i + 5 ≤ Ln) (hJ : JI mi mr) (next : ∀ m2 q2, JI m2 q2 → LA p l e s m b below meth c Q G n0 i 739 m2 q2) : LA p l e s m b below meth c Q G n0 i 140 mi mr := by
  obtain ⟨L, set, H, o, hC, hM⟩ := hJ
  refine w_aload_n X dL_law_140 rfl ?_
  refine w_aload_n X dL_law_141 rfl ?_
  refine w_iload_n X dL_law_142 rfl ?_
  refine w_iconst X dL_law_143 ?_
  refine w_iadd X dL_law_144 ?_
  refine w_sld X hX hbl hbs hL ⟨by omega, by omega⟩ dL_law_145 ?_
  refine s_callVi X _ (c_X7_states (l := l) (G := G) (n0 := n0) hC (rg_of (xs (i + 1).toNat))) gM_L_13 gI_yX7_states gS_yX7_states gN_X7 gC_yX7_states (by decide) (σ_0 G n0 _ _) rfl dL_law_146 hl_yX7_states ⟨Nat.le_of_ble_eq_true rfl, Nat.le_of_ble_eq_true rfl⟩ (Nat.le_of_ble_eq_true rfl) rfl (fun r m1 q1 h1 => ?_) ⟨Nat.le_of_ble_eq_true rfl, Nat.le_of_ble_eq_true rfl⟩
  obtain ⟨post, hC8, hk8⟩ := ag_states (l := l) (G := G) (n0 := n0) hC hM (rg_of (xs (i + 1).toNat)) h1
  refine w_aload_n X dL_law_149 rfl ?_
  refine w_aload_n X dL_law_150 rfl ?_
  refine w_iload_n X dL_law_151 rfl ?_
  refine w_iconst X dL_law_152 ?_
  refine w_iadd X dL_law_153 ?_
  refine w_sld X hX hbl hbs hL ⟨by omega, by omega⟩ dL_law_154 ?_
  refine s_callVi X _ hC8 gM_L_17 gI_yX8_states gS_yX8_states gN_X8 gC_yX8_states (by decide) (σ_473 G n0 _ _) rfl dL_law_155 hl_yX8_states ⟨Nat.le_of_ble_eq_true rfl, Nat.le_of_ble_eq_true rfl⟩ (Nat.le_of_ble_eq_true rfl) rfl (fun r2 m2 q2 h2 => ?_) ⟨Nat.le_of_ble_eq_true rfl, Nat.le_of_ble_eq_true rfl⟩
  obtain ⟨he, hJ2⟩ := hk8 r2 m2 q2 h2
  subst he
  exact w_icmp_same X 739 dL_law_158 rfl (next _ _ hJ2)
set_option maxRecDepth 20000 in
set_option maxHeartbeats 4000000 in
theorem lc_1 {p : Program} {l : Launch} {e : Env} {s : State} {m : MethodId} {b : Nat} {below : List Frame} {meth : Method} {c : Code} {Q : State → Prop} {G : Gt} {n0 Ln : Nat} {xs : Nat → Int32} {i : Int} {mi : Nat → Nat → Int} {mr : Nat → Nat → Nat} (X : Cx G n0 p s m #[Value.ref b] meth c cL_law "CrowdLawsLaw" 4) (hX : va_X b Ln xs s s.heap) (hbl : b < n0) (hbs : b < s.heap.size) (hL : Ln ≤ 2560) (hi : 0 ≤ i ∧ i + 5 ≤ Ln) (hJ : JI mi mr) (next : ∀ m2 q2, JI m2 q2 → LA p l e s m b below meth c Q G n0 i 739 m2 q2) : LA p l e s m b below meth c Q G n0 i 163 mi mr := by
  obtain ⟨L, set, H, o, hC, hM⟩ := hJ
  refine w_aload_n X dL_law_163 rfl ?_
  refine w_aload_n X dL_law_164 rfl ?_
  refine w_iload_n X dL_law_165 rfl ?_
  refine w_iconst X dL_law_166 ?_
  refine w_iadd X dL_law_167 ?_
  refine w_sld X hX hbl hbs hL ⟨by omega, by omega⟩ dL_law_168 ?_
  refine s_callVi X _ (c_X7_start (l := l) (G := G) (n0 := n0) hC (rg_of (xs (i + 1).toNat))) gM_L_18 gI_yX7_start gS_yX7_start gN_X7 gC_yX7_start (by decide) (σ_0 G n0 _ _) rfl dL_law_169 hl_yX7_start ⟨Nat.le_of_ble_eq_true rfl, Nat.le_of_ble_eq_true rfl⟩ (Nat.le_of_ble_eq_true rfl) rfl (fun r m1 q1 h1 => ?_) ⟨Nat.le_of_ble_eq_true rfl, Nat.le_of_ble_eq_true rfl⟩
  obtain ⟨post, hC8, hk8⟩ := ag_start (l := l) (G := G) (n0 := n0) hC hM (rg_of (xs (i + 1).toNat)) h1
  refine w_aload_n X dL_law_172 rfl ?_
  refine w_aload_n X dL_law_173 rfl ?_
  refine w_iload_n X dL_law_174 rfl ?_
  refine w_iconst X dL_law_175 ?_
  refine w_iadd X dL_law_176 ?_
  refine w_sld X hX hbl hbs hL ⟨by omega, by omega⟩ dL_law_177 ?_
  refine s_callVi X _ hC8 gM_L_21 gI_yX8_start gS_yX8_start gN_X8 gC_yX8_start (by decide) (σ_473 G n0 _ _) rfl dL_law_178 hl_yX8_start ⟨Nat.le_of_ble_eq_true rfl, Nat.le_of_ble_eq_true rfl⟩ (Nat.le_of_ble_eq_true rfl) rfl (fun r2 m2 q2 h2 => ?_) ⟨Nat.le_of_ble_eq_true rfl, Nat.le_of_ble_eq_true rfl⟩
  obtain ⟨he, hJ2⟩ := hk8 r2 m2 q2 h2
  subst he
  exact w_icmp_same X 739 dL_law_181 rfl (next _ _ hJ2)
set_option maxRecDepth 20000 in
set_option maxHeartbeats 4000000 in
theorem lc_2 {p : Program} {l : Launch} {e : Env} {s : State} {m : MethodId} {b : Nat} {below : List Frame} {meth : Method} {c : Code} {Q : State → Prop} {G : Gt} {n0 Ln : Nat} {xs : Nat → Int32} {i : Int} {mi : Nat → Nat → Int} {mr : Nat → Nat → Nat} (X : Cx G n0 p s m #[Value.ref b] meth c cL_law "CrowdLawsLaw" 4) (hX : va_X b Ln xs s s.heap) (hbl : b < n0) (hbs : b < s.heap.size) (hL : Ln ≤ 2560) (hi : 0 ≤ i ∧ i + 5 ≤ Ln) (hJ : JI mi mr) (next : ∀ m2 q2, JI m2 q2 → LA p l e s m b below meth c Q G n0 i 739 m2 q2) : LA p l e s m b below meth c Q G n0 i 186 mi mr := by
  obtain ⟨L, set, H, o, hC, hM⟩ := hJ
  refine w_aload_n X dL_law_186 rfl ?_
  refine w_aload_n X dL_law_187 rfl ?_
  refine w_iload_n X dL_law_188 rfl ?_
  refine w_iconst X dL_law_189 ?_
  refine w_iadd X dL_law_190 ?_
  refine w_sld X hX hbl hbs hL ⟨by omega, by omega⟩ dL_law_191 ?_
  refine w_aload_n X dL_law_192 rfl ?_
  refine w_iload_n X dL_law_193 rfl ?_
  refine w_iconst X dL_law_194 ?_
  refine w_iadd X dL_law_195 ?_
  refine w_sld X hX hbl hbs hL ⟨by omega, by omega⟩ dL_law_196 ?_
  refine s_callVi X _ (c_X7_alone (l := l) (G := G) (n0 := n0) hC (rg_of (xs (i + 1).toNat)) (rg_of (xs (i + 2).toNat))) gM_L_22 gI_yX7_alone gS_yX7_alone gN_X7 gC_yX7_alone (by decide) (σ_0 G n0 _ _) rfl dL_law_197 hl_yX7_alone ⟨Nat.le_of_ble_eq_true rfl, Nat.le_of_ble_eq_true rfl⟩ (Nat.le_of_ble_eq_true rfl) rfl (fun r m1 q1 h1 => ?_) ⟨Nat.le_of_ble_eq_true rfl, Nat.le_of_ble_eq_true rfl⟩
  obtain ⟨post, hC8, hk8⟩ := ag_alone (l := l) (G := G) (n0 := n0) hC hM (rg_of (xs (i + 1).toNat)) (rg_of (xs (i + 2).toNat)) h1
  refine w_aload_n X dL_law_200 rfl ?_
  refine w_aload_n X dL_law_201 rfl ?_
  refine w_iload_n X dL_law_202 rfl ?_
  refine w_iconst X dL_law_203 ?_
  refine w_iadd X dL_law_204 ?_
  refine w_sld X hX hbl hbs hL ⟨by omega, by omega⟩ dL_law_205 ?_
  refine w_aload_n X dL_law_206 rfl ?_
  refine w_iload_n X dL_law_207 rfl ?_
  refine w_iconst X dL_law_208 ?_
  refine w_iadd X dL_law_209 ?_
  refine w_sld X hX hbl hbs hL ⟨by omega, by omega⟩ dL_law_210 ?_
  refine s_callVi X _ hC8 gM_L_26 gI_yX8_alone gS_yX8_alone gN_X8 gC_yX8_alone (by decide) (σ_473 G n0 _ _) rfl dL_law_211 hl_yX8_alone ⟨Nat.le_of_ble_eq_true rfl, Nat.le_of_ble_eq_true rfl⟩ (Nat.le_of_ble_eq_true rfl) rfl (fun r2 m2 q2 h2 => ?_) ⟨Nat.le_of_ble_eq_true rfl, Nat.le_of_ble_eq_true rfl⟩
  obtain ⟨he, hJ2⟩ := hk8 r2 m2 q2 h2
  subst he
  exact w_icmp_same X 739 dL_law_214 rfl (next _ _ hJ2)
set_option maxRecDepth 20000 in
set_option maxHeartbeats 4000000 in
theorem lc_3 {p : Program} {l : Launch} {e : Env} {s : State} {m : MethodId} {b : Nat} {below : List Frame} {meth : Method} {c : Code} {Q : State → Prop} {G : Gt} {n0 Ln : Nat} {xs : Nat → Int32} {i : Int} {mi : Nat → Nat → Int} {mr : Nat → Nat → Nat} (X : Cx G n0 p s m #[Value.ref b] meth c cL_law "CrowdLawsLaw" 4) (hX : va_X b Ln xs s s.heap) (hbl : b < n0) (hbs : b < s.heap.size) (hL : Ln ≤ 2560) (hi : 0 ≤ i ∧ i + 5 ≤ Ln) (hJ : JI mi mr) (next : ∀ m2 q2, JI m2 q2 → LA p l e s m b below meth c Q G n0 i 739 m2 q2) : LA p l e s m b below meth c Q G n0 i 219 mi mr := by
  obtain ⟨L, set, H, o, hC, hM⟩ := hJ
  refine w_aload_n X dL_law_219 rfl ?_
  refine w_aload_n X dL_law_220 rfl ?_
  refine w_iload_n X dL_law_221 rfl ?_
  refine w_iconst X dL_law_222 ?_
  refine w_iadd X dL_law_223 ?_
  refine w_sld X hX hbl hbs hL ⟨by omega, by omega⟩ dL_law_224 ?_
  refine w_aload_n X dL_law_225 rfl ?_
  refine w_iload_n X dL_law_226 rfl ?_
  refine w_iconst X dL_law_227 ?_
  refine w_iadd X dL_law_228 ?_
  refine w_sld X hX hbl hbs hL ⟨by omega, by omega⟩ dL_law_229 ?_
  refine w_aload_n X dL_law_230 rfl ?_
  refine w_iload_n X dL_law_231 rfl ?_
  refine w_iconst X dL_law_232 ?_
  refine w_iadd X dL_law_233 ?_
  refine w_sld X hX hbl hbs hL ⟨by omega, by omega⟩ dL_law_234 ?_
  refine w_aload_n X dL_law_235 rfl ?_
  refine w_iload_n X dL_law_236 rfl ?_
  refine w_iconst X dL_law_237 ?_
  refine w_iadd X dL_law_238 ?_
  refine w_sld X hX hbl hbs hL ⟨by omega, by omega⟩ dL_law_239 ?_
  refine s_callVi X _ (c_X7_pair (l := l) (G := G) (n0 := n0) hC (rg_of (xs (i + 1).toNat)) (rg_of (xs (i + 2).toNat)) (rg_of (xs (i + 3).toNat)) (rg_of (xs (i + 4).toNat))) gM_L_27 gI_yX7_pair gS_yX7_pair gN_X7 gC_yX7_pair (by decide) (σ_0 G n0 _ _) rfl dL_law_240 hl_yX7_pair ⟨Nat.le_of_ble_eq_true rfl, Nat.le_of_ble_eq_true rfl⟩ (Nat.le_of_ble_eq_true rfl) rfl (fun r m1 q1 h1 => ?_) ⟨Nat.le_of_ble_eq_true rfl, Nat.le_of_ble_eq_true rfl⟩
  obtain ⟨post, hC8, hk8⟩ := ag_pair (l := l) (G := G) (n0 := n0) hC hM (rg_of (xs (i + 1).toNat)) (rg_of (xs (i + 2).toNat)) (rg_of (xs (i + 3).toNat)) (rg_of (xs (i + 4).toNat)) h1
  refine w_aload_n X dL_law_243 rfl ?_
  refine w_aload_n X dL_law_244 rfl ?_
  refine w_iload_n X dL_law_245 rfl ?_
  refine w_iconst X dL_law_246 ?_
  refine w_iadd X dL_law_247 ?_
  refine w_sld X hX hbl hbs hL ⟨by omega, by omega⟩ dL_law_248 ?_
  refine w_aload_n X dL_law_249 rfl ?_
  refine w_iload_n X dL_law_250 rfl ?_
  refine w_iconst X dL_law_251 ?_
  refine w_iadd X dL_law_252 ?_
  refine w_sld X hX hbl hbs hL ⟨by omega, by omega⟩ dL_law_253 ?_
  refine w_aload_n X dL_law_254 rfl ?_
  refine w_iload_n X dL_law_255 rfl ?_
  refine w_iconst X dL_law_256 ?_
  refine w_iadd X dL_law_257 ?_
  refine w_sld X hX hbl hbs hL ⟨by omega, by omega⟩ dL_law_258 ?_
  refine w_aload_n X dL_law_259 rfl ?_
  refine w_iload_n X dL_law_260 rfl ?_
  refine w_iconst X dL_law_261 ?_
  refine w_iadd X dL_law_262 ?_
  refine w_sld X hX hbl hbs hL ⟨by omega, by omega⟩ dL_law_263 ?_
  refine s_callVi X _ hC8 gM_L_31 gI_yX8_pair gS_yX8_pair gN_X8 gC_yX8_pair (by decide) (σ_473 G n0 _ _) rfl dL_law_264 hl_yX8_pair ⟨Nat.le_of_ble_eq_true rfl, Nat.le_of_ble_eq_true rfl⟩ (Nat.le_of_ble_eq_true rfl) rfl (fun r2 m2 q2 h2 => ?_) ⟨Nat.le_of_ble_eq_true rfl, Nat.le_of_ble_eq_true rfl⟩
  obtain ⟨he, hJ2⟩ := hk8 r2 m2 q2 h2
  subst he
  exact w_icmp_same X 739 dL_law_267 rfl (next _ _ hJ2)
set_option maxRecDepth 20000 in
set_option maxHeartbeats 4000000 in
theorem lc_4 {p : Program} {l : Launch} {e : Env} {s : State} {m : MethodId} {b : Nat} {below : List Frame} {meth : Method} {c : Code} {Q : State → Prop} {G : Gt} {n0 Ln : Nat} {xs : Nat → Int32} {i : Int} {mi : Nat → Nat → Int} {mr : Nat → Nat → Nat} (X : Cx G n0 p s m #[Value.ref b] meth c cL_law "CrowdLawsLaw" 4) (hX : va_X b Ln xs s s.heap) (hbl : b < n0) (hbs : b < s.heap.size) (hL : Ln ≤ 2560) (hi : 0 ≤ i ∧ i + 5 ≤ Ln) (hJ : JI mi mr) (next : ∀ m2 q2, JI m2 q2 → LA p l e s m b below meth c Q G n0 i 739 m2 q2) : LA p l e s m b below meth c Q G n0 i 272 mi mr := by
  obtain ⟨L, set, H, o, hC, hM⟩ := hJ
  refine w_aload_n X dL_law_272 rfl ?_
  refine w_aload_n X dL_law_273 rfl ?_
  refine w_iload_n X dL_law_274 rfl ?_
  refine w_iconst X dL_law_275 ?_
  refine w_iadd X dL_law_276 ?_
  refine w_sld X hX hbl hbs hL ⟨by omega, by omega⟩ dL_law_277 ?_
  refine w_aload_n X dL_law_278 rfl ?_
  refine w_iload_n X dL_law_279 rfl ?_
  refine w_iconst X dL_law_280 ?_
  refine w_iadd X dL_law_281 ?_
  refine w_sld X hX hbl hbs hL ⟨by omega, by omega⟩ dL_law_282 ?_
  refine w_aload_n X dL_law_283 rfl ?_
  refine w_iload_n X dL_law_284 rfl ?_
  refine w_iconst X dL_law_285 ?_
  refine w_iadd X dL_law_286 ?_
  refine w_sld X hX hbl hbs hL ⟨by omega, by omega⟩ dL_law_287 ?_
  refine s_callVi X _ (c_X7_all (l := l) (G := G) (n0 := n0) hC (rg_of (xs (i + 1).toNat)) (rg_of (xs (i + 2).toNat)) (rg_of (xs (i + 3).toNat))) gM_L_32 gI_yX7_all gS_yX7_all gN_X7 gC_yX7_all (by decide) (σ_0 G n0 _ _) rfl dL_law_288 hl_yX7_all ⟨Nat.le_of_ble_eq_true rfl, Nat.le_of_ble_eq_true rfl⟩ (Nat.le_of_ble_eq_true rfl) rfl (fun r m1 q1 h1 => ?_) ⟨Nat.le_of_ble_eq_true rfl, Nat.le_of_ble_eq_true rfl⟩
  obtain ⟨post, hC8, hk8⟩ := ag_all (l := l) (G := G) (n0 := n0) hC hM (rg_of (xs (i + 1).toNat)) (rg_of (xs (i + 2).toNat)) (rg_of (xs (i + 3).toNat)) h1
  refine w_aload_n X dL_law_291 rfl ?_
  refine w_aload_n X dL_law_292 rfl ?_
  refine w_iload_n X dL_law_293 rfl ?_
  refine w_iconst X dL_law_294 ?_
  refine w_iadd X dL_law_295 ?_
  refine w_sld X hX hbl hbs hL ⟨by omega, by omega⟩ dL_law_296 ?_
  refine w_aload_n X dL_law_297 rfl ?_
  refine w_iload_n X dL_law_298 rfl ?_
  refine w_iconst X dL_law_299 ?_
  refine w_iadd X dL_law_300 ?_
  refine w_sld X hX hbl hbs hL ⟨by omega, by omega⟩ dL_law_301 ?_
  refine w_aload_n X dL_law_302 rfl ?_
  refine w_iload_n X dL_law_303 rfl ?_
  refine w_iconst X dL_law_304 ?_
  refine w_iadd X dL_law_305 ?_
  refine w_sld X hX hbl hbs hL ⟨by omega, by omega⟩ dL_law_306 ?_
  refine s_callVi X _ hC8 gM_L_36 gI_yX8_all gS_yX8_all gN_X8 gC_yX8_all (by decide) (σ_473 G n0 _ _) rfl dL_law_307 hl_yX8_all ⟨Nat.le_of_ble_eq_true rfl, Nat.le_of_ble_eq_true rfl⟩ (Nat.le_of_ble_eq_true rfl) rfl (fun r2 m2 q2 h2 => ?_) ⟨Nat.le_of_ble_eq_true rfl, Nat.le_of_ble_eq_true rfl⟩
  obtain ⟨he, hJ2⟩ := hk8 r2 m2 q2 h2
  subst he
  exact w_icmp_same X 739 dL_law_310 rfl (next _ _ hJ2)
set_option maxRecDepth 20000 in
set_option maxHeartbeats 4000000 in
theorem lc_5 {p : Program} {l : Launch} {e : Env} {s : State} {m : MethodId} {b : Nat} {below : List Frame} {meth : Method} {c : Code} {Q : State → Prop} {G : Gt} {n0 Ln : Nat} {xs : Nat → Int32} {i : Int} {mi : Nat → Nat → Int} {mr : Nat → Nat → Nat} (X : Cx G n0 p s m #[Value.ref b] meth c cL_law "CrowdLawsLaw" 4) (hX : va_X b Ln xs s s.heap) (hbl : b < n0) (hbs : b < s.heap.size) (hL : Ln ≤ 2560) (hi : 0 ≤ i ∧ i + 5 ≤ Ln) (hJ : JI mi mr) (next : ∀ m2 q2, JI m2 q2 → LA p l e s m b below meth c Q G n0 i 739 m2 q2) : LA p l e s m b below meth c Q G n0 i 315 mi mr := by
  obtain ⟨L, set, H, o, hC, hM⟩ := hJ
  refine w_aload_n X dL_law_315 rfl ?_
  refine w_aload_n X dL_law_316 rfl ?_
  refine w_iload_n X dL_law_317 rfl ?_
  refine w_iconst X dL_law_318 ?_
  refine w_iadd X dL_law_319 ?_
  refine w_sld X hX hbl hbs hL ⟨by omega, by omega⟩ dL_law_320 ?_
  refine w_aload_n X dL_law_321 rfl ?_
  refine w_iload_n X dL_law_322 rfl ?_
  refine w_iconst X dL_law_323 ?_
  refine w_iadd X dL_law_324 ?_
  refine w_sld X hX hbl hbs hL ⟨by omega, by omega⟩ dL_law_325 ?_
  refine s_callVi X _ (c_X7_need (l := l) (G := G) (n0 := n0) hC (rg_of (xs (i + 1).toNat)) (rg_of (xs (i + 2).toNat))) gM_L_37 gI_yX7_need gS_yX7_need gN_X7 gC_yX7_need (by decide) (σ_0 G n0 _ _) rfl dL_law_326 hl_yX7_need ⟨Nat.le_of_ble_eq_true rfl, Nat.le_of_ble_eq_true rfl⟩ (Nat.le_of_ble_eq_true rfl) rfl (fun r m1 q1 h1 => ?_) ⟨Nat.le_of_ble_eq_true rfl, Nat.le_of_ble_eq_true rfl⟩
  obtain ⟨post, hC8, hk8⟩ := ag_need (l := l) (G := G) (n0 := n0) hC hM (rg_of (xs (i + 1).toNat)) (rg_of (xs (i + 2).toNat)) h1
  refine w_aload_n X dL_law_329 rfl ?_
  refine w_aload_n X dL_law_330 rfl ?_
  refine w_iload_n X dL_law_331 rfl ?_
  refine w_iconst X dL_law_332 ?_
  refine w_iadd X dL_law_333 ?_
  refine w_sld X hX hbl hbs hL ⟨by omega, by omega⟩ dL_law_334 ?_
  refine w_aload_n X dL_law_335 rfl ?_
  refine w_iload_n X dL_law_336 rfl ?_
  refine w_iconst X dL_law_337 ?_
  refine w_iadd X dL_law_338 ?_
  refine w_sld X hX hbl hbs hL ⟨by omega, by omega⟩ dL_law_339 ?_
  refine s_callVi X _ hC8 gM_L_40 gI_yX8_need gS_yX8_need gN_X8 gC_yX8_need (by decide) (σ_473 G n0 _ _) rfl dL_law_340 hl_yX8_need ⟨Nat.le_of_ble_eq_true rfl, Nat.le_of_ble_eq_true rfl⟩ (Nat.le_of_ble_eq_true rfl) rfl (fun r2 m2 q2 h2 => ?_) ⟨Nat.le_of_ble_eq_true rfl, Nat.le_of_ble_eq_true rfl⟩
  obtain ⟨he, hJ2⟩ := hk8 r2 m2 q2 h2
  subst he
  exact w_icmp_same X 739 dL_law_343 rfl (next _ _ hJ2)
set_option maxRecDepth 20000 in
set_option maxHeartbeats 4000000 in
theorem lc_6 {p : Program} {l : Launch} {e : Env} {s : State} {m : MethodId} {b : Nat} {below : List Frame} {meth : Method} {c : Code} {Q : State → Prop} {G : Gt} {n0 Ln : Nat} {xs : Nat → Int32} {i : Int} {mi : Nat → Nat → Int} {mr : Nat → Nat → Nat} (X : Cx G n0 p s m #[Value.ref b] meth c cL_law "CrowdLawsLaw" 4) (hX : va_X b Ln xs s s.heap) (hbl : b < n0) (hbs : b < s.heap.size) (hL : Ln ≤ 2560) (hi : 0 ≤ i ∧ i + 5 ≤ Ln) (hJ : JI mi mr) (next : ∀ m2 q2, JI m2 q2 → LA p l e s m b below meth c Q G n0 i 739 m2 q2) : LA p l e s m b below meth c Q G n0 i 348 mi mr := by
  obtain ⟨L, set, H, o, hC, hM⟩ := hJ
  refine w_aload_n X dL_law_348 rfl ?_
  refine w_aload_n X dL_law_349 rfl ?_
  refine w_iload_n X dL_law_350 rfl ?_
  refine w_iconst X dL_law_351 ?_
  refine w_iadd X dL_law_352 ?_
  refine w_sld X hX hbl hbs hL ⟨by omega, by omega⟩ dL_law_353 ?_
  refine w_aload_n X dL_law_354 rfl ?_
  refine w_iload_n X dL_law_355 rfl ?_
  refine w_iconst X dL_law_356 ?_
  refine w_iadd X dL_law_357 ?_
  refine w_sld X hX hbl hbs hL ⟨by omega, by omega⟩ dL_law_358 ?_
  refine s_callVi X _ (c_X7_rule (l := l) (G := G) (n0 := n0) hC (rg_of (xs (i + 1).toNat)) (rg_of (xs (i + 2).toNat))) gM_L_41 gI_yX7_rule gS_yX7_rule gN_X7 gC_yX7_rule (by decide) (σ_0 G n0 _ _) rfl dL_law_359 hl_yX7_rule ⟨Nat.le_of_ble_eq_true rfl, Nat.le_of_ble_eq_true rfl⟩ (Nat.le_of_ble_eq_true rfl) rfl (fun r m1 q1 h1 => ?_) ⟨Nat.le_of_ble_eq_true rfl, Nat.le_of_ble_eq_true rfl⟩
  obtain ⟨post, hC8, hk8⟩ := ag_rule (l := l) (G := G) (n0 := n0) hC hM (rg_of (xs (i + 1).toNat)) (rg_of (xs (i + 2).toNat)) h1
  refine w_aload_n X dL_law_362 rfl ?_
  refine w_aload_n X dL_law_363 rfl ?_
  refine w_iload_n X dL_law_364 rfl ?_
  refine w_iconst X dL_law_365 ?_
  refine w_iadd X dL_law_366 ?_
  refine w_sld X hX hbl hbs hL ⟨by omega, by omega⟩ dL_law_367 ?_
  refine w_aload_n X dL_law_368 rfl ?_
  refine w_iload_n X dL_law_369 rfl ?_
  refine w_iconst X dL_law_370 ?_
  refine w_iadd X dL_law_371 ?_
  refine w_sld X hX hbl hbs hL ⟨by omega, by omega⟩ dL_law_372 ?_
  refine s_callVi X _ hC8 gM_L_44 gI_yX8_rule gS_yX8_rule gN_X8 gC_yX8_rule (by decide) (σ_473 G n0 _ _) rfl dL_law_373 hl_yX8_rule ⟨Nat.le_of_ble_eq_true rfl, Nat.le_of_ble_eq_true rfl⟩ (Nat.le_of_ble_eq_true rfl) rfl (fun r2 m2 q2 h2 => ?_) ⟨Nat.le_of_ble_eq_true rfl, Nat.le_of_ble_eq_true rfl⟩
  obtain ⟨he, hJ2⟩ := hk8 r2 m2 q2 h2
  subst he
  exact w_icmp_same X 739 dL_law_376 rfl (next _ _ hJ2)
set_option maxRecDepth 20000 in
set_option maxHeartbeats 4000000 in
theorem lc_7 {p : Program} {l : Launch} {e : Env} {s : State} {m : MethodId} {b : Nat} {below : List Frame} {meth : Method} {c : Code} {Q : State → Prop} {G : Gt} {n0 Ln : Nat} {xs : Nat → Int32} {i : Int} {mi : Nat → Nat → Int} {mr : Nat → Nat → Nat} (X : Cx G n0 p s m #[Value.ref b] meth c cL_law "CrowdLawsLaw" 4) (hX : va_X b Ln xs s s.heap) (hbl : b < n0) (hbs : b < s.heap.size) (hL : Ln ≤ 2560) (hi : 0 ≤ i ∧ i + 5 ≤ Ln) (hJ : JI mi mr) (next : ∀ m2 q2, JI m2 q2 → LA p l e s m b below meth c Q G n0 i 739 m2 q2) : LA p l e s m b below meth c Q G n0 i 381 mi mr := by
  obtain ⟨L, set, H, o, hC, hM⟩ := hJ
  refine w_aload_n X dL_law_381 rfl ?_
  refine w_aload_n X dL_law_382 rfl ?_
  refine w_iload_n X dL_law_383 rfl ?_
  refine w_iconst X dL_law_384 ?_
  refine w_iadd X dL_law_385 ?_
  refine w_sld X hX hbl hbs hL ⟨by omega, by omega⟩ dL_law_386 ?_
  refine s_callVi X _ (c_X7_bad (l := l) (G := G) (n0 := n0) hC (rg_of (xs (i + 1).toNat))) gM_L_45 gI_yX7_bad gS_yX7_bad gN_X7 gC_yX7_bad (by decide) (σ_0 G n0 _ _) rfl dL_law_387 hl_yX7_bad ⟨Nat.le_of_ble_eq_true rfl, Nat.le_of_ble_eq_true rfl⟩ (Nat.le_of_ble_eq_true rfl) rfl (fun r m1 q1 h1 => ?_) ⟨Nat.le_of_ble_eq_true rfl, Nat.le_of_ble_eq_true rfl⟩
  obtain ⟨post, hC8, hk8⟩ := ag_bad (l := l) (G := G) (n0 := n0) hC hM (rg_of (xs (i + 1).toNat)) h1
  refine w_aload_n X dL_law_390 rfl ?_
  refine w_aload_n X dL_law_391 rfl ?_
  refine w_iload_n X dL_law_392 rfl ?_
  refine w_iconst X dL_law_393 ?_
  refine w_iadd X dL_law_394 ?_
  refine w_sld X hX hbl hbs hL ⟨by omega, by omega⟩ dL_law_395 ?_
  refine s_callVi X _ hC8 gM_L_48 gI_yX8_bad gS_yX8_bad gN_X8 gC_yX8_bad (by decide) (σ_473 G n0 _ _) rfl dL_law_396 hl_yX8_bad ⟨Nat.le_of_ble_eq_true rfl, Nat.le_of_ble_eq_true rfl⟩ (Nat.le_of_ble_eq_true rfl) rfl (fun r2 m2 q2 h2 => ?_) ⟨Nat.le_of_ble_eq_true rfl, Nat.le_of_ble_eq_true rfl⟩
  obtain ⟨he, hJ2⟩ := hk8 r2 m2 q2 h2
  subst he
  exact w_icmp_same X 739 dL_law_399 rfl (next _ _ hJ2)
set_option maxRecDepth 20000 in
set_option maxHeartbeats 4000000 in
theorem lc_8 {p : Program} {l : Launch} {e : Env} {s : State} {m : MethodId} {b : Nat} {below : List Frame} {meth : Method} {c : Code} {Q : State → Prop} {G : Gt} {n0 Ln : Nat} {xs : Nat → Int32} {i : Int} {mi : Nat → Nat → Int} {mr : Nat → Nat → Nat} (X : Cx G n0 p s m #[Value.ref b] meth c cL_law "CrowdLawsLaw" 4) (hX : va_X b Ln xs s s.heap) (hbl : b < n0) (hbs : b < s.heap.size) (hL : Ln ≤ 2560) (hi : 0 ≤ i ∧ i + 5 ≤ Ln) (hJ : JI mi mr) (next : ∀ m2 q2, JI m2 q2 → LA p l e s m b below meth c Q G n0 i 739 m2 q2) : LA p l e s m b below meth c Q G n0 i 404 mi mr := by
  obtain ⟨L, set, H, o, hC, hM⟩ := hJ
  refine w_aload_n X dL_law_404 rfl ?_
  refine w_aload_n X dL_law_405 rfl ?_
  refine w_iload_n X dL_law_406 rfl ?_
  refine w_iconst X dL_law_407 ?_
  refine w_iadd X dL_law_408 ?_
  refine w_sld X hX hbl hbs hL ⟨by omega, by omega⟩ dL_law_409 ?_
  refine w_aload_n X dL_law_410 rfl ?_
  refine w_iload_n X dL_law_411 rfl ?_
  refine w_iconst X dL_law_412 ?_
  refine w_iadd X dL_law_413 ?_
  refine w_sld X hX hbl hbs hL ⟨by omega, by omega⟩ dL_law_414 ?_
  refine s_callVi X _ (c_X7_put (l := l) (G := G) (n0 := n0) hC (rg_of (xs (i + 1).toNat)) (rg_of (xs (i + 2).toNat))) gM_L_49 gI_yX7_put gS_yX7_put gN_X7 gC_yX7_put (by decide) (σ_0 G n0 _ _) rfl dL_law_415 hl_yX7_put ⟨Nat.le_of_ble_eq_true rfl, Nat.le_of_ble_eq_true rfl⟩ (Nat.le_of_ble_eq_true rfl) rfl (fun r m1 q1 h1 => ?_) ⟨Nat.le_of_ble_eq_true rfl, Nat.le_of_ble_eq_true rfl⟩
  obtain ⟨post, hC8, hk8⟩ := ag_put (l := l) (G := G) (n0 := n0) hC hM (rg_of (xs (i + 1).toNat)) (rg_of (xs (i + 2).toNat)) h1
  refine w_aload_n X dL_law_418 rfl ?_
  refine w_aload_n X dL_law_419 rfl ?_
  refine w_iload_n X dL_law_420 rfl ?_
  refine w_iconst X dL_law_421 ?_
  refine w_iadd X dL_law_422 ?_
  refine w_sld X hX hbl hbs hL ⟨by omega, by omega⟩ dL_law_423 ?_
  refine w_aload_n X dL_law_424 rfl ?_
  refine w_iload_n X dL_law_425 rfl ?_
  refine w_iconst X dL_law_426 ?_
  refine w_iadd X dL_law_427 ?_
  refine w_sld X hX hbl hbs hL ⟨by omega, by omega⟩ dL_law_428 ?_
  refine s_callVi X _ hC8 gM_L_52 gI_yX8_put gS_yX8_put gN_X8 gC_yX8_put (by decide) (σ_473 G n0 _ _) rfl dL_law_429 hl_yX8_put ⟨Nat.le_of_ble_eq_true rfl, Nat.le_of_ble_eq_true rfl⟩ (Nat.le_of_ble_eq_true rfl) rfl (fun r2 m2 q2 h2 => ?_) ⟨Nat.le_of_ble_eq_true rfl, Nat.le_of_ble_eq_true rfl⟩
  obtain ⟨he, hJ2⟩ := hk8 r2 m2 q2 h2
  subst he
  exact w_icmp_same X 739 dL_law_432 rfl (next _ _ hJ2)
set_option maxRecDepth 20000 in
set_option maxHeartbeats 4000000 in
theorem lc_9 {p : Program} {l : Launch} {e : Env} {s : State} {m : MethodId} {b : Nat} {below : List Frame} {meth : Method} {c : Code} {Q : State → Prop} {G : Gt} {n0 Ln : Nat} {xs : Nat → Int32} {i : Int} {mi : Nat → Nat → Int} {mr : Nat → Nat → Nat} (X : Cx G n0 p s m #[Value.ref b] meth c cL_law "CrowdLawsLaw" 4) (hX : va_X b Ln xs s s.heap) (hbl : b < n0) (hbs : b < s.heap.size) (hL : Ln ≤ 2560) (hi : 0 ≤ i ∧ i + 5 ≤ Ln) (hJ : JI mi mr) (next : ∀ m2 q2, JI m2 q2 → LA p l e s m b below meth c Q G n0 i 739 m2 q2) : LA p l e s m b below meth c Q G n0 i 437 mi mr := by
  obtain ⟨L, set, H, o, hC, hM⟩ := hJ
  refine w_aload_n X dL_law_437 rfl ?_
  refine w_aload_n X dL_law_438 rfl ?_
  refine w_iload_n X dL_law_439 rfl ?_
  refine w_iconst X dL_law_440 ?_
  refine w_iadd X dL_law_441 ?_
  refine w_sld X hX hbl hbs hL ⟨by omega, by omega⟩ dL_law_442 ?_
  refine s_callVi X _ (c_X7_at (l := l) (G := G) (n0 := n0) hC (rg_of (xs (i + 1).toNat))) gM_L_53 gI_yX7_at gS_yX7_at gN_X7 gC_yX7_at (by decide) (σ_0 G n0 _ _) rfl dL_law_443 hl_yX7_at ⟨Nat.le_of_ble_eq_true rfl, Nat.le_of_ble_eq_true rfl⟩ (Nat.le_of_ble_eq_true rfl) rfl (fun r m1 q1 h1 => ?_) ⟨Nat.le_of_ble_eq_true rfl, Nat.le_of_ble_eq_true rfl⟩
  obtain ⟨post, hC8, hk8⟩ := ag_at (l := l) (G := G) (n0 := n0) hC hM (rg_of (xs (i + 1).toNat)) h1
  refine w_aload_n X dL_law_446 rfl ?_
  refine w_aload_n X dL_law_447 rfl ?_
  refine w_iload_n X dL_law_448 rfl ?_
  refine w_iconst X dL_law_449 ?_
  refine w_iadd X dL_law_450 ?_
  refine w_sld X hX hbl hbs hL ⟨by omega, by omega⟩ dL_law_451 ?_
  refine s_callVi X _ hC8 gM_L_56 gI_yX8_at gS_yX8_at gN_X8 gC_yX8_at (by decide) (σ_473 G n0 _ _) rfl dL_law_452 hl_yX8_at ⟨Nat.le_of_ble_eq_true rfl, Nat.le_of_ble_eq_true rfl⟩ (Nat.le_of_ble_eq_true rfl) rfl (fun r2 m2 q2 h2 => ?_) ⟨Nat.le_of_ble_eq_true rfl, Nat.le_of_ble_eq_true rfl⟩
  obtain ⟨he, hJ2⟩ := hk8 r2 m2 q2 h2
  subst he
  exact w_icmp_same X 739 dL_law_455 rfl (next _ _ hJ2)
set_option maxRecDepth 20000 in
set_option maxHeartbeats 4000000 in
theorem lc_10 {p : Program} {l : Launch} {e : Env} {s : State} {m : MethodId} {b : Nat} {below : List Frame} {meth : Method} {c : Code} {Q : State → Prop} {G : Gt} {n0 Ln : Nat} {xs : Nat → Int32} {i : Int} {mi : Nat → Nat → Int} {mr : Nat → Nat → Nat} (X : Cx G n0 p s m #[Value.ref b] meth c cL_law "CrowdLawsLaw" 4) (hX : va_X b Ln xs s s.heap) (hbl : b < n0) (hbs : b < s.heap.size) (hL : Ln ≤ 2560) (hi : 0 ≤ i ∧ i + 5 ≤ Ln) (hJ : JI mi mr) (next : ∀ m2 q2, JI m2 q2 → LA p l e s m b below meth c Q G n0 i 739 m2 q2) : LA p l e s m b below meth c Q G n0 i 460 mi mr := by
  obtain ⟨L, set, H, o, hC, hM⟩ := hJ
  refine w_aload_n X dL_law_460 rfl ?_
  refine w_aload_n X dL_law_461 rfl ?_
  refine w_iload_n X dL_law_462 rfl ?_
  refine w_iconst X dL_law_463 ?_
  refine w_iadd X dL_law_464 ?_
  refine w_sld X hX hbl hbs hL ⟨by omega, by omega⟩ dL_law_465 ?_
  refine s_callVi X _ (c_X7_can (l := l) (G := G) (n0 := n0) hC (rg_of (xs (i + 1).toNat))) gM_L_57 gI_yX7_can gS_yX7_can gN_X7 gC_yX7_can (by decide) (σ_0 G n0 _ _) rfl dL_law_466 hl_yX7_can ⟨Nat.le_of_ble_eq_true rfl, Nat.le_of_ble_eq_true rfl⟩ (Nat.le_of_ble_eq_true rfl) rfl (fun r m1 q1 h1 => ?_) ⟨Nat.le_of_ble_eq_true rfl, Nat.le_of_ble_eq_true rfl⟩
  obtain ⟨post, hC8, hk8⟩ := ag_can (l := l) (G := G) (n0 := n0) hC hM (rg_of (xs (i + 1).toNat)) h1
  refine w_aload_n X dL_law_469 rfl ?_
  refine w_aload_n X dL_law_470 rfl ?_
  refine w_iload_n X dL_law_471 rfl ?_
  refine w_iconst X dL_law_472 ?_
  refine w_iadd X dL_law_473 ?_
  refine w_sld X hX hbl hbs hL ⟨by omega, by omega⟩ dL_law_474 ?_
  refine s_callVi X _ hC8 gM_L_60 gI_yX8_can gS_yX8_can gN_X8 gC_yX8_can (by decide) (σ_473 G n0 _ _) rfl dL_law_475 hl_yX8_can ⟨Nat.le_of_ble_eq_true rfl, Nat.le_of_ble_eq_true rfl⟩ (Nat.le_of_ble_eq_true rfl) rfl (fun r2 m2 q2 h2 => ?_) ⟨Nat.le_of_ble_eq_true rfl, Nat.le_of_ble_eq_true rfl⟩
  obtain ⟨he, hJ2⟩ := hk8 r2 m2 q2 h2
  subst he
  exact w_icmp_same X 739 dL_law_478 rfl (next _ _ hJ2)
set_option maxRecDepth 20000 in
set_option maxHeartbeats 4000000 in
theorem lc_11 {p : Program} {l : Launch} {e : Env} {s : State} {m : MethodId} {b : Nat} {below : List Frame} {meth : Method} {c : Code} {Q : State → Prop} {G : Gt} {n0 Ln : Nat} {xs : Nat → Int32} {i : Int} {mi : Nat → Nat → Int} {mr : Nat → Nat → Nat} (X : Cx G n0 p s m #[Value.ref b] meth c cL_law "CrowdLawsLaw" 4) (hX : va_X b Ln xs s s.heap) (hbl : b < n0) (hbs : b < s.heap.size) (hL : Ln ≤ 2560) (hi : 0 ≤ i ∧ i + 5 ≤ Ln) (hJ : JI mi mr) (next : ∀ m2 q2, JI m2 q2 → LA p l e s m b below meth c Q G n0 i 739 m2 q2) : LA p l e s m b below meth c Q G n0 i 483 mi mr := by
  obtain ⟨L, set, H, o, hC, hM⟩ := hJ
  refine w_aload_n X dL_law_483 rfl ?_
  refine w_aload_n X dL_law_484 rfl ?_
  refine w_iload_n X dL_law_485 rfl ?_
  refine w_iconst X dL_law_486 ?_
  refine w_iadd X dL_law_487 ?_
  refine w_sld X hX hbl hbs hL ⟨by omega, by omega⟩ dL_law_488 ?_
  refine s_callVi X _ (c_X7_step (l := l) (G := G) (n0 := n0) hC (rg_of (xs (i + 1).toNat))) gM_L_61 gI_yX7_step gS_yX7_step gN_X7 gC_yX7_step (by decide) (σ_0 G n0 _ _) rfl dL_law_489 hl_yX7_step ⟨Nat.le_of_ble_eq_true rfl, Nat.le_of_ble_eq_true rfl⟩ (Nat.le_of_ble_eq_true rfl) rfl (fun r m1 q1 h1 => ?_) ⟨Nat.le_of_ble_eq_true rfl, Nat.le_of_ble_eq_true rfl⟩
  obtain ⟨post, hC8, hk8⟩ := ag_step (l := l) (G := G) (n0 := n0) hC hM (rg_of (xs (i + 1).toNat)) h1
  refine w_aload_n X dL_law_492 rfl ?_
  refine w_aload_n X dL_law_493 rfl ?_
  refine w_iload_n X dL_law_494 rfl ?_
  refine w_iconst X dL_law_495 ?_
  refine w_iadd X dL_law_496 ?_
  refine w_sld X hX hbl hbs hL ⟨by omega, by omega⟩ dL_law_497 ?_
  refine s_callVi X _ hC8 gM_L_64 gI_yX8_step gS_yX8_step gN_X8 gC_yX8_step (by decide) (σ_473 G n0 _ _) rfl dL_law_498 hl_yX8_step ⟨Nat.le_of_ble_eq_true rfl, Nat.le_of_ble_eq_true rfl⟩ (Nat.le_of_ble_eq_true rfl) rfl (fun r2 m2 q2 h2 => ?_) ⟨Nat.le_of_ble_eq_true rfl, Nat.le_of_ble_eq_true rfl⟩
  obtain ⟨he, hJ2⟩ := hk8 r2 m2 q2 h2
  subst he
  exact w_icmp_same X 739 dL_law_501 rfl (next _ _ hJ2)
set_option maxRecDepth 20000 in
set_option maxHeartbeats 4000000 in
theorem lc_12 {p : Program} {l : Launch} {e : Env} {s : State} {m : MethodId} {b : Nat} {below : List Frame} {meth : Method} {c : Code} {Q : State → Prop} {G : Gt} {n0 Ln : Nat} {xs : Nat → Int32} {i : Int} {mi : Nat → Nat → Int} {mr : Nat → Nat → Nat} (X : Cx G n0 p s m #[Value.ref b] meth c cL_law "CrowdLawsLaw" 4) (hX : va_X b Ln xs s s.heap) (hbl : b < n0) (hbs : b < s.heap.size) (hL : Ln ≤ 2560) (hi : 0 ≤ i ∧ i + 5 ≤ Ln) (hJ : JI mi mr) (next : ∀ m2 q2, JI m2 q2 → LA p l e s m b below meth c Q G n0 i 739 m2 q2) : LA p l e s m b below meth c Q G n0 i 506 mi mr := by
  obtain ⟨L, set, H, o, hC, hM⟩ := hJ
  refine w_aload_n X dL_law_506 rfl ?_
  refine s_callVi X _ (c_X7_isBad (l := l) (G := G) (n0 := n0) hC ) gM_L_65 gI_yX7_isBad gS_yX7_isBad gN_X7 gC_yX7_isBad (by decide) (σ_0 G n0 _ _) rfl dL_law_507 hl_yX7_isBad ⟨Nat.le_of_ble_eq_true rfl, Nat.le_of_ble_eq_true rfl⟩ (Nat.le_of_ble_eq_true rfl) rfl (fun r m1 q1 h1 => ?_) ⟨Nat.le_of_ble_eq_true rfl, Nat.le_of_ble_eq_true rfl⟩
  obtain ⟨post, hC8, hk8⟩ := ag_isBad (l := l) (G := G) (n0 := n0) hC hM  h1
  refine w_aload_n X dL_law_510 rfl ?_
  refine s_callVi X _ hC8 gM_L_69 gI_yX8_isBad gS_yX8_isBad gN_X8 gC_yX8_isBad (by decide) (σ_473 G n0 _ _) rfl dL_law_511 hl_yX8_isBad ⟨Nat.le_of_ble_eq_true rfl, Nat.le_of_ble_eq_true rfl⟩ (Nat.le_of_ble_eq_true rfl) rfl (fun r2 m2 q2 h2 => ?_) ⟨Nat.le_of_ble_eq_true rfl, Nat.le_of_ble_eq_true rfl⟩
  obtain ⟨he, hJ2⟩ := hk8 r2 m2 q2 h2
  subst he
  exact w_icmp_same X 739 dL_law_514 rfl (next _ _ hJ2)
set_option maxRecDepth 20000 in
set_option maxHeartbeats 4000000 in
theorem lc_13 {p : Program} {l : Launch} {e : Env} {s : State} {m : MethodId} {b : Nat} {below : List Frame} {meth : Method} {c : Code} {Q : State → Prop} {G : Gt} {n0 Ln : Nat} {xs : Nat → Int32} {i : Int} {mi : Nat → Nat → Int} {mr : Nat → Nat → Nat} (X : Cx G n0 p s m #[Value.ref b] meth c cL_law "CrowdLawsLaw" 4) (hX : va_X b Ln xs s s.heap) (hbl : b < n0) (hbs : b < s.heap.size) (hL : Ln ≤ 2560) (hi : 0 ≤ i ∧ i + 5 ≤ Ln) (hJ : JI mi mr) (next : ∀ m2 q2, JI m2 q2 → LA p l e s m b below meth c Q G n0 i 739 m2 q2) : LA p l e s m b below meth c Q G n0 i 519 mi mr := by
  obtain ⟨L, set, H, o, hC, hM⟩ := hJ
  refine w_aload_n X dL_law_519 rfl ?_
  refine s_callVi X _ (c_X7_doomed (l := l) (G := G) (n0 := n0) hC ) gM_L_70 gI_yX7_doomed gS_yX7_doomed gN_X7 gC_yX7_doomed (by decide) (σ_0 G n0 _ _) rfl dL_law_520 hl_yX7_doomed ⟨Nat.le_of_ble_eq_true rfl, Nat.le_of_ble_eq_true rfl⟩ (Nat.le_of_ble_eq_true rfl) rfl (fun r m1 q1 h1 => ?_) ⟨Nat.le_of_ble_eq_true rfl, Nat.le_of_ble_eq_true rfl⟩
  obtain ⟨post, hC8, hk8⟩ := ag_doomed (l := l) (G := G) (n0 := n0) hC hM  h1
  refine w_aload_n X dL_law_523 rfl ?_
  refine s_callVi X _ hC8 gM_L_73 gI_yX8_doomed gS_yX8_doomed gN_X8 gC_yX8_doomed (by decide) (σ_473 G n0 _ _) rfl dL_law_524 hl_yX8_doomed ⟨Nat.le_of_ble_eq_true rfl, Nat.le_of_ble_eq_true rfl⟩ (Nat.le_of_ble_eq_true rfl) rfl (fun r2 m2 q2 h2 => ?_) ⟨Nat.le_of_ble_eq_true rfl, Nat.le_of_ble_eq_true rfl⟩
  obtain ⟨he, hJ2⟩ := hk8 r2 m2 q2 h2
  subst he
  exact w_icmp_same X 739 dL_law_527 rfl (next _ _ hJ2)
set_option maxRecDepth 20000 in
set_option maxHeartbeats 4000000 in
theorem lc_14 {p : Program} {l : Launch} {e : Env} {s : State} {m : MethodId} {b : Nat} {below : List Frame} {meth : Method} {c : Code} {Q : State → Prop} {G : Gt} {n0 Ln : Nat} {xs : Nat → Int32} {i : Int} {mi : Nat → Nat → Int} {mr : Nat → Nat → Nat} (X : Cx G n0 p s m #[Value.ref b] meth c cL_law "CrowdLawsLaw" 4) (hX : va_X b Ln xs s s.heap) (hbl : b < n0) (hbs : b < s.heap.size) (hL : Ln ≤ 2560) (hi : 0 ≤ i ∧ i + 5 ≤ Ln) (hJ : JI mi mr) (next : ∀ m2 q2, JI m2 q2 → LA p l e s m b below meth c Q G n0 i 739 m2 q2) : LA p l e s m b below meth c Q G n0 i 532 mi mr := by
  obtain ⟨L, set, H, o, hC, hM⟩ := hJ
  refine w_aload_n X dL_law_532 rfl ?_
  refine s_callVi X _ (c_X7_search (l := l) (G := G) (n0 := n0) hC ) gM_L_74 gI_yX7_search gS_yX7_search gN_X7 gC_yX7_search (by decide) (σ_0 G n0 _ _) rfl dL_law_533 hl_yX7_search ⟨Nat.le_of_ble_eq_true rfl, Nat.le_of_ble_eq_true rfl⟩ (Nat.le_of_ble_eq_true rfl) rfl (fun r m1 q1 h1 => ?_) ⟨Nat.le_of_ble_eq_true rfl, Nat.le_of_ble_eq_true rfl⟩
  obtain ⟨post, hC8, hk8⟩ := ag_search (l := l) (G := G) (n0 := n0) hC hM  h1
  refine w_aload_n X dL_law_536 rfl ?_
  refine s_callVi X _ hC8 gM_L_77 gI_yX8_search gS_yX8_search gN_X8 gC_yX8_search (by decide) (σ_473 G n0 _ _) rfl dL_law_537 hl_yX8_search ⟨Nat.le_of_ble_eq_true rfl, Nat.le_of_ble_eq_true rfl⟩ (Nat.le_of_ble_eq_true rfl) rfl (fun r2 m2 q2 h2 => ?_) ⟨Nat.le_of_ble_eq_true rfl, Nat.le_of_ble_eq_true rfl⟩
  obtain ⟨he, hJ2⟩ := hk8 r2 m2 q2 h2
  subst he
  exact w_icmp_same X 739 dL_law_540 rfl (next _ _ hJ2)
set_option maxRecDepth 20000 in
set_option maxHeartbeats 4000000 in
theorem lc_15 {p : Program} {l : Launch} {e : Env} {s : State} {m : MethodId} {b : Nat} {below : List Frame} {meth : Method} {c : Code} {Q : State → Prop} {G : Gt} {n0 Ln : Nat} {xs : Nat → Int32} {i : Int} {mi : Nat → Nat → Int} {mr : Nat → Nat → Nat} (X : Cx G n0 p s m #[Value.ref b] meth c cL_law "CrowdLawsLaw" 4) (hX : va_X b Ln xs s s.heap) (hbl : b < n0) (hbs : b < s.heap.size) (hL : Ln ≤ 2560) (hi : 0 ≤ i ∧ i + 5 ≤ Ln) (hJ : JI mi mr) (next : ∀ m2 q2, JI m2 q2 → LA p l e s m b below meth c Q G n0 i 739 m2 q2) : LA p l e s m b below meth c Q G n0 i 545 mi mr := by
  obtain ⟨L, set, H, o, hC, hM⟩ := hJ
  refine w_aload_n X dL_law_545 rfl ?_
  refine s_callVi X _ (c_X7_bases (l := l) (G := G) (n0 := n0) hC ) gM_L_78 gI_yX7_bases gS_yX7_bases gN_X7 gC_yX7_bases (by decide) (σ_0 G n0 _ _) rfl dL_law_546 hl_yX7_bases ⟨Nat.le_of_ble_eq_true rfl, Nat.le_of_ble_eq_true rfl⟩ (Nat.le_of_ble_eq_true rfl) rfl (fun r m1 q1 h1 => ?_) ⟨Nat.le_of_ble_eq_true rfl, Nat.le_of_ble_eq_true rfl⟩
  obtain ⟨post, hC8, hk8⟩ := ag_bases (l := l) (G := G) (n0 := n0) hC hM  h1
  refine w_aload_n X dL_law_549 rfl ?_
  refine s_callVi X _ hC8 gM_L_81 gI_yX8_bases gS_yX8_bases gN_X8 gC_yX8_bases (by decide) (σ_473 G n0 _ _) rfl dL_law_550 hl_yX8_bases ⟨Nat.le_of_ble_eq_true rfl, Nat.le_of_ble_eq_true rfl⟩ (Nat.le_of_ble_eq_true rfl) rfl (fun r2 m2 q2 h2 => ?_) ⟨Nat.le_of_ble_eq_true rfl, Nat.le_of_ble_eq_true rfl⟩
  obtain ⟨he, hJ2⟩ := hk8 r2 m2 q2 h2
  subst he
  exact w_icmp_same X 739 dL_law_553 rfl (next _ _ hJ2)
set_option maxRecDepth 20000 in
set_option maxHeartbeats 4000000 in
theorem lc_16 {p : Program} {l : Launch} {e : Env} {s : State} {m : MethodId} {b : Nat} {below : List Frame} {meth : Method} {c : Code} {Q : State → Prop} {G : Gt} {n0 Ln : Nat} {xs : Nat → Int32} {i : Int} {mi : Nat → Nat → Int} {mr : Nat → Nat → Nat} (X : Cx G n0 p s m #[Value.ref b] meth c cL_law "CrowdLawsLaw" 4) (hX : va_X b Ln xs s s.heap) (hbl : b < n0) (hbs : b < s.heap.size) (hL : Ln ≤ 2560) (hi : 0 ≤ i ∧ i + 5 ≤ Ln) (hJ : JI mi mr) (next : ∀ m2 q2, JI m2 q2 → LA p l e s m b below meth c Q G n0 i 739 m2 q2) : LA p l e s m b below meth c Q G n0 i 558 mi mr := by
  obtain ⟨L, set, H, o, hC, hM⟩ := hJ
  refine w_aload_n X dL_law_558 rfl ?_
  refine w_aload_n X dL_law_559 rfl ?_
  refine w_iload_n X dL_law_560 rfl ?_
  refine w_iconst X dL_law_561 ?_
  refine w_iadd X dL_law_562 ?_
  refine w_sld X hX hbl hbs hL ⟨by omega, by omega⟩ dL_law_563 ?_
  refine w_aload_n X dL_law_564 rfl ?_
  refine w_iload_n X dL_law_565 rfl ?_
  refine w_iconst X dL_law_566 ?_
  refine w_iadd X dL_law_567 ?_
  refine w_sld X hX hbl hbs hL ⟨by omega, by omega⟩ dL_law_568 ?_
  refine s_callVi X _ (c_X7_base (l := l) (G := G) (n0 := n0) hC (rg_of (xs (i + 1).toNat)) (rg_of (xs (i + 2).toNat))) gM_L_82 gI_yX7_base gS_yX7_base gN_X7 gC_yX7_base (by decide) (σ_0 G n0 _ _) rfl dL_law_569 hl_yX7_base ⟨Nat.le_of_ble_eq_true rfl, Nat.le_of_ble_eq_true rfl⟩ (Nat.le_of_ble_eq_true rfl) rfl (fun r m1 q1 h1 => ?_) ⟨Nat.le_of_ble_eq_true rfl, Nat.le_of_ble_eq_true rfl⟩
  obtain ⟨post, hC8, hk8⟩ := ag_base (l := l) (G := G) (n0 := n0) hC hM (rg_of (xs (i + 1).toNat)) (rg_of (xs (i + 2).toNat)) h1
  refine w_aload_n X dL_law_572 rfl ?_
  refine w_aload_n X dL_law_573 rfl ?_
  refine w_iload_n X dL_law_574 rfl ?_
  refine w_iconst X dL_law_575 ?_
  refine w_iadd X dL_law_576 ?_
  refine w_sld X hX hbl hbs hL ⟨by omega, by omega⟩ dL_law_577 ?_
  refine w_aload_n X dL_law_578 rfl ?_
  refine w_iload_n X dL_law_579 rfl ?_
  refine w_iconst X dL_law_580 ?_
  refine w_iadd X dL_law_581 ?_
  refine w_sld X hX hbl hbs hL ⟨by omega, by omega⟩ dL_law_582 ?_
  refine s_callVi X _ hC8 gM_L_85 gI_yX8_base gS_yX8_base gN_X8 gC_yX8_base (by decide) (σ_473 G n0 _ _) rfl dL_law_583 hl_yX8_base ⟨Nat.le_of_ble_eq_true rfl, Nat.le_of_ble_eq_true rfl⟩ (Nat.le_of_ble_eq_true rfl) rfl (fun r2 m2 q2 h2 => ?_) ⟨Nat.le_of_ble_eq_true rfl, Nat.le_of_ble_eq_true rfl⟩
  obtain ⟨he, hJ2⟩ := hk8 r2 m2 q2 h2
  subst he
  exact w_icmp_same X 739 dL_law_586 rfl (next _ _ hJ2)
set_option maxRecDepth 20000 in
set_option maxHeartbeats 4000000 in
theorem lc_17 {p : Program} {l : Launch} {e : Env} {s : State} {m : MethodId} {b : Nat} {below : List Frame} {meth : Method} {c : Code} {Q : State → Prop} {G : Gt} {n0 Ln : Nat} {xs : Nat → Int32} {i : Int} {mi : Nat → Nat → Int} {mr : Nat → Nat → Nat} (X : Cx G n0 p s m #[Value.ref b] meth c cL_law "CrowdLawsLaw" 4) (hX : va_X b Ln xs s s.heap) (hbl : b < n0) (hbs : b < s.heap.size) (hL : Ln ≤ 2560) (hi : 0 ≤ i ∧ i + 5 ≤ Ln) (hJ : JI mi mr) (next : ∀ m2 q2, JI m2 q2 → LA p l e s m b below meth c Q G n0 i 739 m2 q2) : LA p l e s m b below meth c Q G n0 i 591 mi mr := by
  obtain ⟨L, set, H, o, hC, hM⟩ := hJ
  refine w_aload_n X dL_law_591 rfl ?_
  refine s_callVi X _ (c_X7_least (l := l) (G := G) (n0 := n0) hC ) gM_L_86 gI_yX7_least gS_yX7_least gN_X7 gC_yX7_least (by decide) (σ_0 G n0 _ _) rfl dL_law_592 hl_yX7_least ⟨Nat.le_of_ble_eq_true rfl, Nat.le_of_ble_eq_true rfl⟩ (Nat.le_of_ble_eq_true rfl) rfl (fun r m1 q1 h1 => ?_) ⟨Nat.le_of_ble_eq_true rfl, Nat.le_of_ble_eq_true rfl⟩
  obtain ⟨post, hC8, hk8⟩ := ag_least (l := l) (G := G) (n0 := n0) hC hM  h1
  refine w_aload_n X dL_law_595 rfl ?_
  refine s_callVi X _ hC8 gM_L_89 gI_yX8_least gS_yX8_least gN_X8 gC_yX8_least (by decide) (σ_473 G n0 _ _) rfl dL_law_596 hl_yX8_least ⟨Nat.le_of_ble_eq_true rfl, Nat.le_of_ble_eq_true rfl⟩ (Nat.le_of_ble_eq_true rfl) rfl (fun r2 m2 q2 h2 => ?_) ⟨Nat.le_of_ble_eq_true rfl, Nat.le_of_ble_eq_true rfl⟩
  obtain ⟨he, hJ2⟩ := hk8 r2 m2 q2 h2
  subst he
  exact w_icmp_same X 739 dL_law_599 rfl (next _ _ hJ2)
set_option maxRecDepth 20000 in
set_option maxHeartbeats 4000000 in
theorem lc_18 {p : Program} {l : Launch} {e : Env} {s : State} {m : MethodId} {b : Nat} {below : List Frame} {meth : Method} {c : Code} {Q : State → Prop} {G : Gt} {n0 Ln : Nat} {xs : Nat → Int32} {i : Int} {mi : Nat → Nat → Int} {mr : Nat → Nat → Nat} (X : Cx G n0 p s m #[Value.ref b] meth c cL_law "CrowdLawsLaw" 4) (hX : va_X b Ln xs s s.heap) (hbl : b < n0) (hbs : b < s.heap.size) (hL : Ln ≤ 2560) (hi : 0 ≤ i ∧ i + 5 ≤ Ln) (hJ : JI mi mr) (next : ∀ m2 q2, JI m2 q2 → LA p l e s m b below meth c Q G n0 i 739 m2 q2) : LA p l e s m b below meth c Q G n0 i 604 mi mr := by
  obtain ⟨L, set, H, o, hC, hM⟩ := hJ
  refine w_aload_n X dL_law_604 rfl ?_
  refine w_aload_n X dL_law_605 rfl ?_
  refine w_iload_n X dL_law_606 rfl ?_
  refine w_iconst X dL_law_607 ?_
  refine w_iadd X dL_law_608 ?_
  refine w_sld X hX hbl hbs hL ⟨by omega, by omega⟩ dL_law_609 ?_
  refine s_callVi X _ (c_X7_reach (l := l) (G := G) (n0 := n0) hC (rg_of (xs (i + 1).toNat))) gM_L_90 gI_yX7_reach gS_yX7_reach gN_X7 gC_yX7_reach (by decide) (σ_0 G n0 _ _) rfl dL_law_610 hl_yX7_reach ⟨Nat.le_of_ble_eq_true rfl, Nat.le_of_ble_eq_true rfl⟩ (Nat.le_of_ble_eq_true rfl) rfl (fun r m1 q1 h1 => ?_) ⟨Nat.le_of_ble_eq_true rfl, Nat.le_of_ble_eq_true rfl⟩
  obtain ⟨post, hC8, hk8⟩ := ag_reach (l := l) (G := G) (n0 := n0) hC hM (rg_of (xs (i + 1).toNat)) h1
  refine w_aload_n X dL_law_613 rfl ?_
  refine w_aload_n X dL_law_614 rfl ?_
  refine w_iload_n X dL_law_615 rfl ?_
  refine w_iconst X dL_law_616 ?_
  refine w_iadd X dL_law_617 ?_
  refine w_sld X hX hbl hbs hL ⟨by omega, by omega⟩ dL_law_618 ?_
  refine s_callVi X _ hC8 gM_L_93 gI_yX8_reach gS_yX8_reach gN_X8 gC_yX8_reach (by decide) (σ_473 G n0 _ _) rfl dL_law_619 hl_yX8_reach ⟨Nat.le_of_ble_eq_true rfl, Nat.le_of_ble_eq_true rfl⟩ (Nat.le_of_ble_eq_true rfl) rfl (fun r2 m2 q2 h2 => ?_) ⟨Nat.le_of_ble_eq_true rfl, Nat.le_of_ble_eq_true rfl⟩
  obtain ⟨he, hJ2⟩ := hk8 r2 m2 q2 h2
  subst he
  exact w_icmp_same X 739 dL_law_622 rfl (next _ _ hJ2)
set_option maxRecDepth 20000 in
set_option maxHeartbeats 4000000 in
theorem lc_19 {p : Program} {l : Launch} {e : Env} {s : State} {m : MethodId} {b : Nat} {below : List Frame} {meth : Method} {c : Code} {Q : State → Prop} {G : Gt} {n0 Ln : Nat} {xs : Nat → Int32} {i : Int} {mi : Nat → Nat → Int} {mr : Nat → Nat → Nat} (X : Cx G n0 p s m #[Value.ref b] meth c cL_law "CrowdLawsLaw" 4) (hX : va_X b Ln xs s s.heap) (hbl : b < n0) (hbs : b < s.heap.size) (hL : Ln ≤ 2560) (hi : 0 ≤ i ∧ i + 5 ≤ Ln) (hJ : JI mi mr) (next : ∀ m2 q2, JI m2 q2 → LA p l e s m b below meth c Q G n0 i 739 m2 q2) : LA p l e s m b below meth c Q G n0 i 627 mi mr := by
  obtain ⟨L, set, H, o, hC, hM⟩ := hJ
  refine w_aload_n X dL_law_627 rfl ?_
  refine w_aload_n X dL_law_628 rfl ?_
  refine w_iload_n X dL_law_629 rfl ?_
  refine w_iconst X dL_law_630 ?_
  refine w_iadd X dL_law_631 ?_
  refine w_sld X hX hbl hbs hL ⟨by omega, by omega⟩ dL_law_632 ?_
  refine s_callVi X _ (c_X7_steps (l := l) (G := G) (n0 := n0) hC (rg_of (xs (i + 1).toNat))) gM_L_94 gI_yX7_steps gS_yX7_steps gN_X7 gC_yX7_steps (by decide) (σ_0 G n0 _ _) rfl dL_law_633 hl_yX7_steps ⟨Nat.le_of_ble_eq_true rfl, Nat.le_of_ble_eq_true rfl⟩ (Nat.le_of_ble_eq_true rfl) rfl (fun r m1 q1 h1 => ?_) ⟨Nat.le_of_ble_eq_true rfl, Nat.le_of_ble_eq_true rfl⟩
  obtain ⟨post, hC8, hk8⟩ := ag_steps (l := l) (G := G) (n0 := n0) hC hM (rg_of (xs (i + 1).toNat)) h1
  refine w_aload_n X dL_law_636 rfl ?_
  refine w_aload_n X dL_law_637 rfl ?_
  refine w_iload_n X dL_law_638 rfl ?_
  refine w_iconst X dL_law_639 ?_
  refine w_iadd X dL_law_640 ?_
  refine w_sld X hX hbl hbs hL ⟨by omega, by omega⟩ dL_law_641 ?_
  refine s_callVi X _ hC8 gM_L_97 gI_yX8_steps gS_yX8_steps gN_X8 gC_yX8_steps (by decide) (σ_473 G n0 _ _) rfl dL_law_642 hl_yX8_steps ⟨Nat.le_of_ble_eq_true rfl, Nat.le_of_ble_eq_true rfl⟩ (Nat.le_of_ble_eq_true rfl) rfl (fun r2 m2 q2 h2 => ?_) ⟨Nat.le_of_ble_eq_true rfl, Nat.le_of_ble_eq_true rfl⟩
  obtain ⟨he, hJ2⟩ := hk8 r2 m2 q2 h2
  subst he
  exact w_icmp_same X 739 dL_law_645 rfl (next _ _ hJ2)
set_option maxRecDepth 20000 in
set_option maxHeartbeats 4000000 in
theorem lc_20 {p : Program} {l : Launch} {e : Env} {s : State} {m : MethodId} {b : Nat} {below : List Frame} {meth : Method} {c : Code} {Q : State → Prop} {G : Gt} {n0 Ln : Nat} {xs : Nat → Int32} {i : Int} {mi : Nat → Nat → Int} {mr : Nat → Nat → Nat} (X : Cx G n0 p s m #[Value.ref b] meth c cL_law "CrowdLawsLaw" 4) (hX : va_X b Ln xs s s.heap) (hbl : b < n0) (hbs : b < s.heap.size) (hL : Ln ≤ 2560) (hi : 0 ≤ i ∧ i + 5 ≤ Ln) (hJ : JI mi mr) (next : ∀ m2 q2, JI m2 q2 → LA p l e s m b below meth c Q G n0 i 739 m2 q2) : LA p l e s m b below meth c Q G n0 i 650 mi mr := by
  obtain ⟨L, set, H, o, hC, hM⟩ := hJ
  refine w_aload_n X dL_law_650 rfl ?_
  refine w_aload_n X dL_law_651 rfl ?_
  refine w_iload_n X dL_law_652 rfl ?_
  refine w_iconst X dL_law_653 ?_
  refine w_iadd X dL_law_654 ?_
  refine w_sld X hX hbl hbs hL ⟨by omega, by omega⟩ dL_law_655 ?_
  refine w_aload_n X dL_law_656 rfl ?_
  refine w_iload_n X dL_law_657 rfl ?_
  refine w_iconst X dL_law_658 ?_
  refine w_iadd X dL_law_659 ?_
  refine w_sld X hX hbl hbs hL ⟨by omega, by omega⟩ dL_law_660 ?_
  refine w_aload_n X dL_law_661 rfl ?_
  refine w_iload_n X dL_law_662 rfl ?_
  refine w_iconst X dL_law_663 ?_
  refine w_iadd X dL_law_664 ?_
  refine w_sld X hX hbl hbs hL ⟨by omega, by omega⟩ dL_law_665 ?_
  refine s_callVi X _ (c_X7_run (l := l) (G := G) (n0 := n0) hC (rg_of (xs (i + 1).toNat)) (rg_of (xs (i + 2).toNat)) (rg_of (xs (i + 3).toNat))) gM_L_98 gI_yX7_run gS_yX7_run gN_X7 gC_yX7_run (by decide) (σ_0 G n0 _ _) rfl dL_law_666 hl_yX7_run ⟨Nat.le_of_ble_eq_true rfl, Nat.le_of_ble_eq_true rfl⟩ (Nat.le_of_ble_eq_true rfl) rfl (fun r m1 q1 h1 => ?_) ⟨Nat.le_of_ble_eq_true rfl, Nat.le_of_ble_eq_true rfl⟩
  obtain ⟨post, hC8, hk8⟩ := ag_run (l := l) (G := G) (n0 := n0) hC hM (rg_of (xs (i + 1).toNat)) (rg_of (xs (i + 2).toNat)) (rg_of (xs (i + 3).toNat)) h1
  refine w_aload_n X dL_law_669 rfl ?_
  refine w_aload_n X dL_law_670 rfl ?_
  refine w_iload_n X dL_law_671 rfl ?_
  refine w_iconst X dL_law_672 ?_
  refine w_iadd X dL_law_673 ?_
  refine w_sld X hX hbl hbs hL ⟨by omega, by omega⟩ dL_law_674 ?_
  refine w_aload_n X dL_law_675 rfl ?_
  refine w_iload_n X dL_law_676 rfl ?_
  refine w_iconst X dL_law_677 ?_
  refine w_iadd X dL_law_678 ?_
  refine w_sld X hX hbl hbs hL ⟨by omega, by omega⟩ dL_law_679 ?_
  refine w_aload_n X dL_law_680 rfl ?_
  refine w_iload_n X dL_law_681 rfl ?_
  refine w_iconst X dL_law_682 ?_
  refine w_iadd X dL_law_683 ?_
  refine w_sld X hX hbl hbs hL ⟨by omega, by omega⟩ dL_law_684 ?_
  refine s_callVi X _ hC8 gM_L_101 gI_yX8_run gS_yX8_run gN_X8 gC_yX8_run (by decide) (σ_473 G n0 _ _) rfl dL_law_685 hl_yX8_run ⟨Nat.le_of_ble_eq_true rfl, Nat.le_of_ble_eq_true rfl⟩ (Nat.le_of_ble_eq_true rfl) rfl (fun r2 m2 q2 h2 => ?_) ⟨Nat.le_of_ble_eq_true rfl, Nat.le_of_ble_eq_true rfl⟩
  obtain ⟨he, hJ2⟩ := hk8 r2 m2 q2 h2
  subst he
  exact w_icmp_same X 739 dL_law_688 rfl (next _ _ hJ2)
set_option maxRecDepth 20000 in
set_option maxHeartbeats 4000000 in
theorem lc_21 {p : Program} {l : Launch} {e : Env} {s : State} {m : MethodId} {b : Nat} {below : List Frame} {meth : Method} {c : Code} {Q : State → Prop} {G : Gt} {n0 Ln : Nat} {xs : Nat → Int32} {i : Int} {mi : Nat → Nat → Int} {mr : Nat → Nat → Nat} (X : Cx G n0 p s m #[Value.ref b] meth c cL_law "CrowdLawsLaw" 4) (hX : va_X b Ln xs s s.heap) (hbl : b < n0) (hbs : b < s.heap.size) (hL : Ln ≤ 2560) (hi : 0 ≤ i ∧ i + 5 ≤ Ln) (hJ : JI mi mr) (next : ∀ m2 q2, JI m2 q2 → LA p l e s m b below meth c Q G n0 i 739 m2 q2) : LA p l e s m b below meth c Q G n0 i 693 mi mr := by
  obtain ⟨L, set, H, o, hC, hM⟩ := hJ
  refine w_aload_n X dL_law_693 rfl ?_
  refine w_aload_n X dL_law_694 rfl ?_
  refine w_iload_n X dL_law_695 rfl ?_
  refine w_iconst X dL_law_696 ?_
  refine w_iadd X dL_law_697 ?_
  refine w_sld X hX hbl hbs hL ⟨by omega, by omega⟩ dL_law_698 ?_
  refine s_callVi X _ (c_X7_doomedOf (l := l) (G := G) (n0 := n0) hC (rg_of (xs (i + 1).toNat))) gM_L_102 gI_yX7_doomedOf gS_yX7_doomedOf gN_X7 gC_yX7_doomedOf (by decide) (σ_0 G n0 _ _) rfl dL_law_699 hl_yX7_doomedOf ⟨Nat.le_of_ble_eq_true rfl, Nat.le_of_ble_eq_true rfl⟩ (Nat.le_of_ble_eq_true rfl) rfl (fun r m1 q1 h1 => ?_) ⟨Nat.le_of_ble_eq_true rfl, Nat.le_of_ble_eq_true rfl⟩
  obtain ⟨post, hC8, hk8⟩ := ag_doomedOf (l := l) (G := G) (n0 := n0) hC hM (rg_of (xs (i + 1).toNat)) h1
  refine w_aload_n X dL_law_702 rfl ?_
  refine w_aload_n X dL_law_703 rfl ?_
  refine w_iload_n X dL_law_704 rfl ?_
  refine w_iconst X dL_law_705 ?_
  refine w_iadd X dL_law_706 ?_
  refine w_sld X hX hbl hbs hL ⟨by omega, by omega⟩ dL_law_707 ?_
  refine s_callVi X _ hC8 gM_L_105 gI_yX8_doomedOf gS_yX8_doomedOf gN_X8 gC_yX8_doomedOf (by decide) (σ_473 G n0 _ _) rfl dL_law_708 hl_yX8_doomedOf ⟨Nat.le_of_ble_eq_true rfl, Nat.le_of_ble_eq_true rfl⟩ (Nat.le_of_ble_eq_true rfl) rfl (fun r2 m2 q2 h2 => ?_) ⟨Nat.le_of_ble_eq_true rfl, Nat.le_of_ble_eq_true rfl⟩
  obtain ⟨he, hJ2⟩ := hk8 r2 m2 q2 h2
  subst he
  exact w_icmp_same X 739 dL_law_711 rfl (next _ _ hJ2)
set_option maxRecDepth 20000 in
set_option maxHeartbeats 4000000 in
theorem lc_22 {p : Program} {l : Launch} {e : Env} {s : State} {m : MethodId} {b : Nat} {below : List Frame} {meth : Method} {c : Code} {Q : State → Prop} {G : Gt} {n0 Ln : Nat} {xs : Nat → Int32} {i : Int} {mi : Nat → Nat → Int} {mr : Nat → Nat → Nat} (X : Cx G n0 p s m #[Value.ref b] meth c cL_law "CrowdLawsLaw" 4) (hX : va_X b Ln xs s s.heap) (hbl : b < n0) (hbs : b < s.heap.size) (hL : Ln ≤ 2560) (hi : 0 ≤ i ∧ i + 5 ≤ Ln) (hJ : JI mi mr) (next : ∀ m2 q2, JI m2 q2 → LA p l e s m b below meth c Q G n0 i 739 m2 q2) : LA p l e s m b below meth c Q G n0 i 716 mi mr := by
  obtain ⟨L, set, H, o, hC, hM⟩ := hJ
  refine w_aload_n X dL_law_716 rfl ?_
  refine w_aload_n X dL_law_717 rfl ?_
  refine w_iload_n X dL_law_718 rfl ?_
  refine w_iconst X dL_law_719 ?_
  refine w_iadd X dL_law_720 ?_
  refine w_sld X hX hbl hbs hL ⟨by omega, by omega⟩ dL_law_721 ?_
  refine s_callVi X _ (c_X7_total (l := l) (G := G) (n0 := n0) hC (rg_of (xs (i + 1).toNat))) gM_L_106 gI_yX7_total gS_yX7_total gN_X7 gC_yX7_total (by decide) (σ_0 G n0 _ _) rfl dL_law_722 hl_yX7_total ⟨Nat.le_of_ble_eq_true rfl, Nat.le_of_ble_eq_true rfl⟩ (Nat.le_of_ble_eq_true rfl) rfl (fun r m1 q1 h1 => ?_) ⟨Nat.le_of_ble_eq_true rfl, Nat.le_of_ble_eq_true rfl⟩
  obtain ⟨post, hC8, hk8⟩ := ag_total (l := l) (G := G) (n0 := n0) hC hM (rg_of (xs (i + 1).toNat)) h1
  refine w_aload_n X dL_law_725 rfl ?_
  refine w_aload_n X dL_law_726 rfl ?_
  refine w_iload_n X dL_law_727 rfl ?_
  refine w_iconst X dL_law_728 ?_
  refine w_iadd X dL_law_729 ?_
  refine w_sld X hX hbl hbs hL ⟨by omega, by omega⟩ dL_law_730 ?_
  refine s_callVi X _ hC8 gM_L_109 gI_yX8_total gS_yX8_total gN_X8 gC_yX8_total (by decide) (σ_473 G n0 _ _) rfl dL_law_731 hl_yX8_total ⟨Nat.le_of_ble_eq_true rfl, Nat.le_of_ble_eq_true rfl⟩ (Nat.le_of_ble_eq_true rfl) rfl (fun r2 m2 q2 h2 => ?_) ⟨Nat.le_of_ble_eq_true rfl, Nat.le_of_ble_eq_true rfl⟩
  obtain ⟨he, hJ2⟩ := hk8 r2 m2 q2 h2
  subst he
  exact w_icmp_same X 739 dL_law_734 rfl (next _ _ hJ2)
