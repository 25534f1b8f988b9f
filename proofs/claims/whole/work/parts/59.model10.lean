def glb (sc : Int) (ρ u : Nat → Int) (n : Nat) : Prop := ∀ x : Nat, x < n → 0 < lk0 ρ u x → ∃ i : Nat, (i : Int) < sc ∧ gol ρ i = (x : Int)
theorem glb_s {sc : Int} {ρ u : Nat → Int} {n : Nat} (h : glb sc ρ u n) (h2 : 0 < lk0 ρ u n → ∃ i : Nat, (i : Int) < sc ∧ gol ρ i = (n : Int)) : glb sc ρ u (n + 1) := fun x hx h0 => by
  rcases (show x < n ∨ x = n by omega) with q | q
  · exact h x q h0
  · subst q; exact h2 h0
def cod (r : Nat → Int) : Int := r 0 * 1004006004001 + r 1 * 1003003001 + r 2 * 1002001 + r 3 * 1001 + r 4
theorem cod_lt {r r' : Nat → Int} (h : ∀ j : Nat, j < 5 → 0 ≤ r j ∧ r j ≤ 1000) (h' : ∀ j : Nat, j < 5 → 0 ≤ r' j ∧ r' j ≤ 1000) (hl : lx (T5 r) (T5 r')) : cod r < cod r' ∧ 0 ≤ cod r ∧ cod r' ≤ 1005010010005001 := by
  have a0 := h 0 (by decide); have a1 := h 1 (by decide); have a2 := h 2 (by decide); have a3 := h 3 (by decide); have a4 := h 4 (by decide)
  have b0 := h' 0 (by decide); have b1 := h' 1 (by decide); have b2 := h' 2 (by decide); have b3 := h' 3 (by decide); have b4 := h' 4 (by decide)
  have hl2 : (r 0 < r' 0 ∨ r 0 = r' 0 ∧ (r 1 < r' 1 ∨ r 1 = r' 1 ∧ (r 2 < r' 2 ∨ r 2 = r' 2 ∧ (r 3 < r' 3 ∨ r 3 = r' 3 ∧ r 4 < r' 4)))) := hl
  clear hl h h'
  unfold cod
  omega
theorem Cnx_lx {sc : Int} {ρ w r r' : Nat → Int} {i : Nat} (hs : 1 ≤ sc ∧ sc ≤ 5) (h : Cnx sc ρ w r r' i) : lx (T5 r) (T5 r') := lx_5.mpr ⟨i, by have := h.1; omega, by rw [h.2.2.2.2 i (by have := h.1; omega), if_pos rfl]; omega, fun a ha => by have := h.1; rw [h.2.2.2.2 a (by omega), if_neg (by omega), if_neg (by omega)]⟩
theorem RS_b {sc : Int} {ρ u r : Nat → Int} (hs : 1 ≤ sc ∧ sc ≤ 5) (hR : RO sc ρ) (hr : RS sc ρ (lk0 ρ u) r) (hu : ∀ x : Nat, x < 5 → 0 ≤ lk0 ρ u x ∧ lk0 ρ u x ≤ 1000) : ∀ j : Nat, j < 5 → 0 ≤ r j ∧ r j ≤ 1000 := fun j hj => by
  refine ⟨hr.1 j hj, ?_⟩
  by_cases q : (j : Int) < sc
  · have a := RS_lf hs hr q
    have g := hR.2.2.2.2.2.2.2 j hj
    have b := hu (gol ρ j).toNat (by omega)
    omega
  · rw [hr.2.1 j hj (Or.inl (by omega))]; decide
theorem dX8_shared_0 : decode cX8_shared 0 = .ok (.iconst 1, 1) := by decide +kernel
theorem dX8_shared_1 : decode cX8_shared 1 = .ok (.istore 4, 2) := by decide +kernel
theorem dX8_shared_3 : decode cX8_shared 3 = .ok (.iconst 0, 1) := by decide +kernel
theorem dX8_shared_4 : decode cX8_shared 4 = .ok (.istore 5, 2) := by decide +kernel
theorem dX8_shared_6 : decode cX8_shared 6 = .ok (.iload 5, 2) := by decide +kernel
theorem dX8_shared_8 : decode cX8_shared 8 = .ok (.aload_n 0, 1) := by decide +kernel
theorem dX8_shared_9 : decode cX8_shared 9 = .ok (.getfield 7, 3) := by decide +kernel
theorem dX8_shared_12 : decode cX8_shared 12 = .ok (.if_icmp .ge 84, 3) := by decide +kernel
theorem dX8_shared_15 : decode cX8_shared 15 = .ok (.iload 4, 2) := by decide +kernel
theorem dX8_shared_17 : decode cX8_shared 17 = .ok (.aload_n 0, 1) := by decide +kernel
theorem dX8_shared_18 : decode cX8_shared 18 = .ok (.iload_n 1, 1) := by decide +kernel
theorem dX8_shared_19 : decode cX8_shared 19 = .ok (.iload_n 2, 1) := by decide +kernel
theorem dX8_shared_20 : decode cX8_shared 20 = .ok (.iload 5, 2) := by decide +kernel
theorem dX8_shared_22 : decode cX8_shared 22 = .ok (.invokevirtual 148, 3) := by decide +kernel
theorem dX8_shared_25 : decode cX8_shared 25 = .ok (.iadd, 1) := by decide +kernel
theorem dX8_shared_26 : decode cX8_shared 26 = .ok (.istore 4, 2) := by decide +kernel
theorem dX8_shared_28 : decode cX8_shared 28 = .ok (.iconst 0, 1) := by decide +kernel
theorem dX8_shared_29 : decode cX8_shared 29 = .ok (.istore 6, 2) := by decide +kernel
theorem dX8_shared_31 : decode cX8_shared 31 = .ok (.iconst 0, 1) := by decide +kernel
theorem dX8_shared_32 : decode cX8_shared 32 = .ok (.istore 7, 2) := by decide +kernel
theorem dX8_shared_34 : decode cX8_shared 34 = .ok (.iload 7, 2) := by decide +kernel
theorem dX8_shared_36 : decode cX8_shared 36 = .ok (.aload_n 0, 1) := by decide +kernel
theorem dX8_shared_37 : decode cX8_shared 37 = .ok (.getfield 7, 3) := by decide +kernel
theorem dX8_shared_40 : decode cX8_shared 40 = .ok (.if_icmp .ge 33, 3) := by decide +kernel
theorem dX8_shared_43 : decode cX8_shared 43 = .ok (.iload 6, 2) := by decide +kernel
theorem dX8_shared_45 : decode cX8_shared 45 = .ok (.ifCond .ne 15, 3) := by decide +kernel
theorem dX8_shared_48 : decode cX8_shared 48 = .ok (.aload_n 0, 1) := by decide +kernel
theorem dX8_shared_49 : decode cX8_shared 49 = .ok (.iload_n 2, 1) := by decide +kernel
theorem dX8_shared_50 : decode cX8_shared 50 = .ok (.iload 7, 2) := by decide +kernel
theorem dX8_shared_52 : decode cX8_shared 52 = .ok (.invokevirtual 110, 3) := by decide +kernel
theorem dX8_shared_55 : decode cX8_shared 55 = .ok (.iload 5, 2) := by decide +kernel
theorem dX8_shared_57 : decode cX8_shared 57 = .ok (.if_icmp .ne 7, 3) := by decide +kernel
theorem dX8_shared_60 : decode cX8_shared 60 = .ok (.iconst 1, 1) := by decide +kernel
theorem dX8_shared_61 : decode cX8_shared 61 = .ok (.goto 4, 3) := by decide +kernel
theorem dX8_shared_64 : decode cX8_shared 64 = .ok (.iconst 0, 1) := by decide +kernel
theorem dX8_shared_65 : decode cX8_shared 65 = .ok (.istore 6, 2) := by decide +kernel
theorem dX8_shared_67 : decode cX8_shared 67 = .ok (.iinc 7 1, 3) := by decide +kernel
theorem dX8_shared_70 : decode cX8_shared 70 = .ok (.goto (-36), 3) := by decide +kernel
theorem dX8_shared_73 : decode cX8_shared 73 = .ok (.iload 6, 2) := by decide +kernel
theorem dX8_shared_75 : decode cX8_shared 75 = .ok (.ifCond .ne 15, 3) := by decide +kernel
theorem dX8_shared_78 : decode cX8_shared 78 = .ok (.aload_n 0, 1) := by decide +kernel
theorem dX8_shared_79 : decode cX8_shared 79 = .ok (.iload_n 1, 1) := by decide +kernel
theorem dX8_shared_80 : decode cX8_shared 80 = .ok (.iload_n 2, 1) := by decide +kernel
theorem dX8_shared_81 : decode cX8_shared 81 = .ok (.iload 5, 2) := by decide +kernel
theorem dX8_shared_83 : decode cX8_shared 83 = .ok (.invokevirtual 148, 3) := by decide +kernel
theorem dX8_shared_86 : decode cX8_shared 86 = .ok (.ifCond .le 4, 3) := by decide +kernel
theorem dX8_shared_89 : decode cX8_shared 89 = .ok (.return_, 1) := by decide +kernel
theorem dX8_shared_90 : decode cX8_shared 90 = .ok (.iinc 5 1, 3) := by decide +kernel
theorem dX8_shared_93 : decode cX8_shared 93 = .ok (.goto (-87), 3) := by decide +kernel
theorem dX8_shared_96 : decode cX8_shared 96 = .ok (.iload_n 3, 1) := by decide +kernel
theorem dX8_shared_97 : decode cX8_shared 97 = .ok (.iload 4, 2) := by decide +kernel
theorem dX8_shared_99 : decode cX8_shared 99 = .ok (.iconst 1, 1) := by decide +kernel
theorem dX8_shared_100 : decode cX8_shared 100 = .ok (.iadd, 1) := by decide +kernel
theorem dX8_shared_101 : decode cX8_shared 101 = .ok (.if_icmp .ne 18, 3) := by decide +kernel
theorem dX8_shared_104 : decode cX8_shared 104 = .ok (.aload_n 0, 1) := by decide +kernel
theorem dX8_shared_105 : decode cX8_shared 105 = .ok (.getfield 35, 3) := by decide +kernel
theorem dX8_shared_108 : decode cX8_shared 108 = .ok (.iload_n 2, 1) := by decide +kernel
theorem dX8_shared_109 : decode cX8_shared 109 = .ok (.iaload, 1) := by decide +kernel
theorem dX8_shared_110 : decode cX8_shared 110 = .ok (.bipush (-9), 2) := by decide +kernel
theorem dX8_shared_112 : decode cX8_shared 112 = .ok (.if_icmp .eq 7, 3) := by decide +kernel
theorem dX8_shared_115 : decode cX8_shared 115 = .ok (.iconst 1, 1) := by decide +kernel
theorem dX8_shared_116 : decode cX8_shared 116 = .ok (.goto 4, 3) := by decide +kernel
theorem dX8_shared_119 : decode cX8_shared 119 = .ok (.iconst 0, 1) := by decide +kernel
theorem dX8_shared_120 : decode cX8_shared 120 = .ok (.istore 5, 2) := by decide +kernel
theorem dX8_shared_122 : decode cX8_shared 122 = .ok (.iload_n 3, 1) := by decide +kernel
theorem dX8_shared_123 : decode cX8_shared 123 = .ok (.iload 4, 2) := by decide +kernel
theorem dX8_shared_125 : decode cX8_shared 125 = .ok (.if_icmp .eq 9, 3) := by decide +kernel
theorem dX8_shared_128 : decode cX8_shared 128 = .ok (.iload 5, 2) := by decide +kernel
theorem dX8_shared_130 : decode cX8_shared 130 = .ok (.ifCond .ne 4, 3) := by decide +kernel
theorem dX8_shared_133 : decode cX8_shared 133 = .ok (.return_, 1) := by decide +kernel
theorem dX8_shared_134 : decode cX8_shared 134 = .ok (.iconst 0, 1) := by decide +kernel
theorem dX8_shared_135 : decode cX8_shared 135 = .ok (.istore 6, 2) := by decide +kernel
theorem dX8_shared_137 : decode cX8_shared 137 = .ok (.iload 6, 2) := by decide +kernel
theorem dX8_shared_139 : decode cX8_shared 139 = .ok (.iconst 5, 1) := by decide +kernel
theorem dX8_shared_140 : decode cX8_shared 140 = .ok (.if_icmp .ge 17, 3) := by decide +kernel
theorem dX8_shared_143 : decode cX8_shared 143 = .ok (.aload_n 0, 1) := by decide +kernel
theorem dX8_shared_144 : decode cX8_shared 144 = .ok (.getfield 53, 3) := by decide +kernel
theorem dX8_shared_147 : decode cX8_shared 147 = .ok (.iload 6, 2) := by decide +kernel
theorem dX8_shared_149 : decode cX8_shared 149 = .ok (.iconst 0, 1) := by decide +kernel
theorem dX8_shared_150 : decode cX8_shared 150 = .ok (.iastore, 1) := by decide +kernel
theorem dX8_shared_151 : decode cX8_shared 151 = .ok (.iinc 6 1, 3) := by decide +kernel
theorem dX8_shared_154 : decode cX8_shared 154 = .ok (.goto (-17), 3) := by decide +kernel
theorem dX8_shared_157 : decode cX8_shared 157 = .ok (.iconst 1, 1) := by decide +kernel
theorem dX8_shared_158 : decode cX8_shared 158 = .ok (.istore 6, 2) := by decide +kernel
theorem dX8_shared_160 : decode cX8_shared 160 = .ok (.iload 6, 2) := by decide +kernel
theorem dX8_shared_162 : decode cX8_shared 162 = .ok (.ifCond .eq 171, 3) := by decide +kernel
theorem dX8_shared_165 : decode cX8_shared 165 = .ok (.aload_n 0, 1) := by decide +kernel
theorem dX8_shared_166 : decode cX8_shared 166 = .ok (.getfield 145, 3) := by decide +kernel
theorem dX8_shared_169 : decode cX8_shared 169 = .ok (.bipush 100, 2) := by decide +kernel
theorem dX8_shared_171 : decode cX8_shared 171 = .ok (.if_icmp .gt 162, 3) := by decide +kernel
theorem dX8_shared_174 : decode cX8_shared 174 = .ok (.iconst 0, 1) := by decide +kernel
theorem dX8_shared_175 : decode cX8_shared 175 = .ok (.istore 7, 2) := by decide +kernel
theorem dX8_shared_177 : decode cX8_shared 177 = .ok (.iload 7, 2) := by decide +kernel
theorem dX8_shared_179 : decode cX8_shared 179 = .ok (.iconst 5, 1) := by decide +kernel
theorem dX8_shared_180 : decode cX8_shared 180 = .ok (.if_icmp .ge 53, 3) := by decide +kernel
theorem dX8_shared_183 : decode cX8_shared 183 = .ok (.aload_n 0, 1) := by decide +kernel
theorem dX8_shared_184 : decode cX8_shared 184 = .ok (.getfield 50, 3) := by decide +kernel
theorem dX8_shared_187 : decode cX8_shared 187 = .ok (.iload 7, 2) := by decide +kernel
theorem dX8_shared_189 : decode cX8_shared 189 = .ok (.iload 7, 2) := by decide +kernel
theorem dX8_shared_191 : decode cX8_shared 191 = .ok (.aload_n 0, 1) := by decide +kernel
theorem dX8_shared_192 : decode cX8_shared 192 = .ok (.getfield 7, 3) := by decide +kernel
theorem dX8_shared_195 : decode cX8_shared 195 = .ok (.if_icmp .ge 24, 3) := by decide +kernel
theorem dX8_shared_198 : decode cX8_shared 198 = .ok (.aload_n 0, 1) := by decide +kernel
theorem dX8_shared_199 : decode cX8_shared 199 = .ok (.iload_n 2, 1) := by decide +kernel
theorem dX8_shared_200 : decode cX8_shared 200 = .ok (.iload 7, 2) := by decide +kernel
theorem dX8_shared_202 : decode cX8_shared 202 = .ok (.invokevirtual 155, 3) := by decide +kernel
theorem dX8_shared_205 : decode cX8_shared 205 = .ok (.ifCond .eq 14, 3) := by decide +kernel
theorem dX8_shared_208 : decode cX8_shared 208 = .ok (.aload_n 0, 1) := by decide +kernel
theorem dX8_shared_209 : decode cX8_shared 209 = .ok (.iload_n 1, 1) := by decide +kernel
theorem dX8_shared_210 : decode cX8_shared 210 = .ok (.iload_n 2, 1) := by decide +kernel
theorem dX8_shared_211 : decode cX8_shared 211 = .ok (.iload 7, 2) := by decide +kernel
theorem dX8_shared_213 : decode cX8_shared 213 = .ok (.invokevirtual 159, 3) := by decide +kernel
theorem dX8_shared_216 : decode cX8_shared 216 = .ok (.goto 10, 3) := by decide +kernel
theorem dX8_shared_219 : decode cX8_shared 219 = .ok (.aload_n 0, 1) := by decide +kernel
theorem dX8_shared_220 : decode cX8_shared 220 = .ok (.getfield 53, 3) := by decide +kernel
theorem dX8_shared_223 : decode cX8_shared 223 = .ok (.iload 7, 2) := by decide +kernel
theorem dX8_shared_225 : decode cX8_shared 225 = .ok (.iaload, 1) := by decide +kernel
theorem dX8_shared_226 : decode cX8_shared 226 = .ok (.iastore, 1) := by decide +kernel
theorem dX8_shared_227 : decode cX8_shared 227 = .ok (.iinc 7 1, 3) := by decide +kernel
theorem dX8_shared_230 : decode cX8_shared 230 = .ok (.goto (-53), 3) := by decide +kernel
theorem dX8_shared_233 : decode cX8_shared 233 = .ok (.aload_n 0, 1) := by decide +kernel
theorem dX8_shared_234 : decode cX8_shared 234 = .ok (.getfield 35, 3) := by decide +kernel
theorem dX8_shared_237 : decode cX8_shared 237 = .ok (.iload_n 2, 1) := by decide +kernel
theorem dX8_shared_238 : decode cX8_shared 238 = .ok (.iaload, 1) := by decide +kernel
theorem dX8_shared_239 : decode cX8_shared 239 = .ok (.bipush (-9), 2) := by decide +kernel
theorem dX8_shared_241 : decode cX8_shared 241 = .ok (.if_icmp .eq 17, 3) := by decide +kernel
theorem dX8_shared_244 : decode cX8_shared 244 = .ok (.aload_n 0, 1) := by decide +kernel
theorem dX8_shared_245 : decode cX8_shared 245 = .ok (.getfield 50, 3) := by decide +kernel
theorem dX8_shared_248 : decode cX8_shared 248 = .ok (.aload_n 0, 1) := by decide +kernel
theorem dX8_shared_249 : decode cX8_shared 249 = .ok (.getfield 35, 3) := by decide +kernel
theorem dX8_shared_252 : decode cX8_shared 252 = .ok (.iload_n 2, 1) := by decide +kernel
theorem dX8_shared_253 : decode cX8_shared 253 = .ok (.iaload, 1) := by decide +kernel
theorem dX8_shared_254 : decode cX8_shared 254 = .ok (.iaload, 1) := by decide +kernel
theorem dX8_shared_255 : decode cX8_shared 255 = .ok (.ifCond .le 7, 3) := by decide +kernel
theorem dX8_shared_258 : decode cX8_shared 258 = .ok (.iconst 1, 1) := by decide +kernel
theorem dX8_shared_259 : decode cX8_shared 259 = .ok (.goto 4, 3) := by decide +kernel
theorem dX8_shared_262 : decode cX8_shared 262 = .ok (.iconst 0, 1) := by decide +kernel
theorem dX8_shared_263 : decode cX8_shared 263 = .ok (.istore 7, 2) := by decide +kernel
theorem dX8_shared_265 : decode cX8_shared 265 = .ok (.iload 5, 2) := by decide +kernel
theorem dX8_shared_267 : decode cX8_shared 267 = .ok (.ifCond .eq 11, 3) := by decide +kernel
theorem dX8_shared_270 : decode cX8_shared 270 = .ok (.iload 7, 2) := by decide +kernel
theorem dX8_shared_272 : decode cX8_shared 272 = .ok (.ifCond .ne 50, 3) := by decide +kernel
theorem dX8_shared_275 : decode cX8_shared 275 = .ok (.goto 8, 3) := by decide +kernel
theorem dX8_shared_278 : decode cX8_shared 278 = .ok (.iload 7, 2) := by decide +kernel
theorem dX8_shared_280 : decode cX8_shared 280 = .ok (.ifCond .eq 42, 3) := by decide +kernel
theorem dX8_shared_283 : decode cX8_shared 283 = .ok (.iload 5, 2) := by decide +kernel
theorem dX8_shared_285 : decode cX8_shared 285 = .ok (.ifCond .eq 18, 3) := by decide +kernel
theorem dX8_shared_288 : decode cX8_shared 288 = .ok (.aload_n 0, 1) := by decide +kernel
theorem dX8_shared_289 : decode cX8_shared 289 = .ok (.getfield 50, 3) := by decide +kernel
theorem dX8_shared_292 : decode cX8_shared 292 = .ok (.aload_n 0, 1) := by decide +kernel
theorem dX8_shared_293 : decode cX8_shared 293 = .ok (.getfield 35, 3) := by decide +kernel
theorem dX8_shared_296 : decode cX8_shared 296 = .ok (.iload_n 2, 1) := by decide +kernel
theorem dX8_shared_297 : decode cX8_shared 297 = .ok (.iaload, 1) := by decide +kernel
theorem dX8_shared_298 : decode cX8_shared 298 = .ok (.dup2, 1) := by decide +kernel
theorem dX8_shared_299 : decode cX8_shared 299 = .ok (.iaload, 1) := by decide +kernel
theorem dX8_shared_300 : decode cX8_shared 300 = .ok (.iconst 1, 1) := by decide +kernel
theorem dX8_shared_301 : decode cX8_shared 301 = .ok (.iadd, 1) := by decide +kernel
theorem dX8_shared_302 : decode cX8_shared 302 = .ok (.iastore, 1) := by decide +kernel
theorem dX8_shared_303 : decode cX8_shared 303 = .ok (.aload_n 0, 1) := by decide +kernel
theorem dX8_shared_304 : decode cX8_shared 304 = .ok (.getfield 50, 3) := by decide +kernel
theorem dX8_shared_307 : decode cX8_shared 307 = .ok (.aload_n 0, 1) := by decide +kernel
theorem dX8_shared_308 : decode cX8_shared 308 = .ok (.getfield 20, 3) := by decide +kernel
theorem dX8_shared_311 : decode cX8_shared 311 = .ok (.iload_n 2, 1) := by decide +kernel
theorem dX8_shared_312 : decode cX8_shared 312 = .ok (.iaload, 1) := by decide +kernel
theorem dX8_shared_313 : decode cX8_shared 313 = .ok (.dup2, 1) := by decide +kernel
theorem dX8_shared_314 : decode cX8_shared 314 = .ok (.iaload, 1) := by decide +kernel
theorem dX8_shared_315 : decode cX8_shared 315 = .ok (.iconst 1, 1) := by decide +kernel
theorem dX8_shared_316 : decode cX8_shared 316 = .ok (.iadd, 1) := by decide +kernel
theorem dX8_shared_317 : decode cX8_shared 317 = .ok (.iastore, 1) := by decide +kernel
theorem dX8_shared_318 : decode cX8_shared 318 = .ok (.aload_n 0, 1) := by decide +kernel
theorem dX8_shared_319 : decode cX8_shared 319 = .ok (.invokevirtual 152, 3) := by decide +kernel
theorem dX8_shared_322 : decode cX8_shared 322 = .ok (.aload_n 0, 1) := by decide +kernel
theorem dX8_shared_323 : decode cX8_shared 323 = .ok (.iload_n 1, 1) := by decide +kernel
theorem dX8_shared_324 : decode cX8_shared 324 = .ok (.iload_n 2, 1) := by decide +kernel
theorem dX8_shared_325 : decode cX8_shared 325 = .ok (.invokevirtual 162, 3) := by decide +kernel
theorem dX8_shared_328 : decode cX8_shared 328 = .ok (.istore 6, 2) := by decide +kernel
theorem dX8_shared_330 : decode cX8_shared 330 = .ok (.goto (-170), 3) := by decide +kernel
theorem dX8_shared_333 : decode cX8_shared 333 = .ok (.return_, 1) := by decide +kernel
theorem hl_yX8_shared : (yX8_shared.cls ≠ "java/lang/invoke/MethodHandle" ∧ yX8_shared.cls ≠ "java/lang/invoke/VarHandle") ∧ (parseMethodDescriptor yX8_shared.desc).map (fun d => d.parameters.length) = some 3 := by decide +kernel
set_option maxRecDepth 20000 in
set_option maxHeartbeats 4000000 in
theorem c_X8_shared {l : Launch} {G : Gt} {n0 : Nat} {mi : Nat → Nat → Int} {mr : Nat → Nat → Nat} {L : Lws} (hA : AB L) (hM : ML L mi) {k : Nat} (hk : (k : Int) < L.2.1) (h2_ : L.2.2.2.1 k 1 = 2) {b : Nat} (hb : RB mi b) (hzu : zf L.1 (Ub mi b)) {t : Int} (ht : 0 ≤ t ∧ t ≤ 100000) {D C W : V5 → Prop} (hDn : ∀ v, D v → ∀ j : Nat, j < 5 → 0 ≤ F5 v j) (hG : ∀ v, D v → ∃ g, C g ∧ gv v g) (hS : ∀ y, ShC L.1 (L.2.2.2.1 k) (Ub mi b) y → D y) (hNI : NI D C t W mi) : Cv l yX8_shared cX8_shared 8 4 G n0 [.ref (n0 + 473), .int (jI (b : Int)), .int (jI (k : Int)), .int (jI t)] mi mr (fun mi9 mr9 => NI D C t (fun y => W y ∨ (ShC L.1 (L.2.2.2.1 k) (Ub mi b) y ∧ sm y = t)) mi9 ∧ FS mi mi9 ∧ mr = mr9) := by
  refine Ct_of (by decide +kernel) (by intro v hv; simp at hv; rcases hv with rfl | rfl | rfl | rfl <;> rfl) (Nat.le_of_ble_eq_true rfl) ?_
  intro p e s mX args below meth c9 X hr hname
  show WW _ _ _ _ _ _ _ _ _ _ _ _ _ _ _ _ _ _ _ [some (.ref (n0 + 473)), some (.int (jI (b : Int))), some (.int (jI (k : Int))), some (.int (jI t)), none, none, none, none] _
  have hrc := hA.2.1
  have hsc := hA.1.1
  have hM1 := hM.1
  obtain ⟨r1, r2, r3, r4, r6, r7, rs, rg9⟩ := id (hA.1.2.1 k hk)
  obtain ⟨e1, e2, e3, e4, e5, e6, e7⟩ := ML_rule hM hk
  have hgd : (0 ≤ mi 479 k ∧ mi 479 k < 100000) ∧ ∀ j : Nat, mi 479 k / 10 ^ j % 10 = gol (L.2.2.2.1 k) j := by have q := gol_d hA hM hk h2_; exact ⟨⟨q.1, q.2.1⟩, q.2.2⟩
  have hRR := hA.1.2.1 k hk
  have hlkb : ∀ x : Nat, x < 5 → 0 ≤ lk0 (L.2.2.2.1 k) (Ub mi b) x ∧ lk0 (L.2.2.2.1 k) (Ub mi b) x ≤ 1000 := fun x hx => Ub_lk hb hx
  refine w_iconst X dX8_shared_0 ?_
  refine w_ist8_4 X dX8_shared_1 ?_
  refine w_iconst X dX8_shared_3 ?_
  refine w_ist8_5 X dX8_shared_4 ?_
  have outer : ∀ (n : Nat) (x : Nat) (t4 : Int) (x6 x7 : Option Value), ((x : Int) ≤ L.1) → (t4 = 1 + als (L.2.2.2.1 k) (Ub mi b) x ∧ 0 ≤ t4 ∧ t4 ≤ 1 + 1000 * (x : Int)) → (glb L.1 (L.2.2.2.1 k) (Ub mi b) x) → n = 5 - x → WSv p l e s mX args below meth c9 4 (fun mi9 mr9 => NI D C t (fun y => W y ∨ (ShC L.1 (L.2.2.2.1 k) (Ub mi b) y ∧ sm y = t)) mi9 ∧ FS mi mi9 ∧ mr = mr9) G n0 8 mi mr 6 [some (.ref (n0 + 473)), some (.int (jI (b : Int))), some (.int (jI (k : Int))), some (.int (jI t)), some (.int (jI t4)), some (.int (jI (x : Int))), x6, x7] [] := by
    intro n
    induction n using Nat.strongRecOn with
    | ind n ih_outer =>
      intro x t4 x6 x7 hx ht4 hgl hn
      refine w_iload X dX8_shared_6 rfl ?_
      refine w_aload_n X dX8_shared_8 rfl ?_
      refine w_get X (by decide) (σ_473 G n0 _ _) rfl gW_X8 1 (by decide) gF_X8_7 rfl dX8_shared_9 ?_
      refine w_icmp_ge X 96 dX8_shared_12 (by decide) (fun c12_1 => ?_) (fun c12_1 => ?_)
      ·
        have hgl9 : gls L.1 (L.2.2.2.1 k) (Ub mi b) := fun y hy h0 => hgl y (by omega) h0
        have hall : t4 = 1 + als (L.2.2.2.1 k) (Ub mi b) L.1.toNat := by rw [show L.1.toNat = x by omega]; exact ht4.1
        have mid : ∀ (w5 : Int) (x4 x6 x7 : Option Value), (w5 = 0 ∧ t = als (L.2.2.2.1 k) (Ub mi b) L.1.toNat + 1 ∨ w5 = 1 ∧ t = als (L.2.2.2.1 k) (Ub mi b) L.1.toNat + 2 ∧ (L.2.2.2.1 k) 7 ≠ -9) → WSv p l e s mX args below meth c9 4 (fun mi9 mr9 => NI D C t (fun y => W y ∨ (ShC L.1 (L.2.2.2.1 k) (Ub mi b) y ∧ sm y = t)) mi9 ∧ FS mi mi9 ∧ mr = mr9) G n0 8 mi mr 134 [some (.ref (n0 + 473)), some (.int (jI (b : Int))), some (.int (jI (k : Int))), some (.int (jI t)), x4, some (.int (jI w5)), x6, x7] [] := by
          intro w5 x4 x6 x7 hmore
          refine w_iconst X dX8_shared_134 ?_
          refine w_ist8_6 X dX8_shared_135 ?_
          refine w_iload X dX8_shared_137 rfl ?_
          refine w_iconst X dX8_shared_139 ?_
          refine w_icmp_ge X 157 dX8_shared_140 (by decide) (fun h9 => absurd h9 (by decide)) (fun _ => ?_)
          refine w_aload_n X dX8_shared_143 rfl ?_
          refine w_get X (by decide) (σ_473 G n0 _ _) rfl gW_X8 21 (by decide) gF_X8_53 rfl dX8_shared_144 ?_
          refine w_iload X dX8_shared_147 rfl ?_
          refine w_iconst X dX8_shared_149 ?_
          refine s_iast X (0) (by decide) (fun _ => σ_m5 G n0 _ _ (by decide)) dX8_shared_150 ?_
          refine w_iinc8_6 X dX8_shared_151 ?_
          refine w_goto X 137 dX8_shared_154 (by decide) ?_
          refine w_iload X dX8_shared_137 rfl ?_
          refine w_iconst X dX8_shared_139 ?_
          refine w_icmp_ge X 157 dX8_shared_140 (by decide) (fun h9 => absurd h9 (by decide)) (fun _ => ?_)
          refine w_aload_n X dX8_shared_143 rfl ?_
          refine w_get X (by decide) (σ_473 G n0 _ _) rfl gW_X8 21 (by decide) gF_X8_53 rfl dX8_shared_144 ?_
          refine w_iload X dX8_shared_147 rfl ?_
          refine w_iconst X dX8_shared_149 ?_
          refine s_iast X (1) (by decide) (fun _ => σ_m5 G n0 _ _ (by decide)) dX8_shared_150 ?_
          refine w_iinc8_6 X dX8_shared_151 ?_
          refine w_goto X 137 dX8_shared_154 (by decide) ?_
          refine w_iload X dX8_shared_137 rfl ?_
          refine w_iconst X dX8_shared_139 ?_
          refine w_icmp_ge X 157 dX8_shared_140 (by decide) (fun h9 => absurd h9 (by decide)) (fun _ => ?_)
          refine w_aload_n X dX8_shared_143 rfl ?_
          refine w_get X (by decide) (σ_473 G n0 _ _) rfl gW_X8 21 (by decide) gF_X8_53 rfl dX8_shared_144 ?_
          refine w_iload X dX8_shared_147 rfl ?_
          refine w_iconst X dX8_shared_149 ?_
          refine s_iast X (2) (by decide) (fun _ => σ_m5 G n0 _ _ (by decide)) dX8_shared_150 ?_
          refine w_iinc8_6 X dX8_shared_151 ?_
          refine w_goto X 137 dX8_shared_154 (by decide) ?_
          refine w_iload X dX8_shared_137 rfl ?_
          refine w_iconst X dX8_shared_139 ?_
          refine w_icmp_ge X 157 dX8_shared_140 (by decide) (fun h9 => absurd h9 (by decide)) (fun _ => ?_)
          refine w_aload_n X dX8_shared_143 rfl ?_
          refine w_get X (by decide) (σ_473 G n0 _ _) rfl gW_X8 21 (by decide) gF_X8_53 rfl dX8_shared_144 ?_
          refine w_iload X dX8_shared_147 rfl ?_
          refine w_iconst X dX8_shared_149 ?_
          refine s_iast X (3) (by decide) (fun _ => σ_m5 G n0 _ _ (by decide)) dX8_shared_150 ?_
          refine w_iinc8_6 X dX8_shared_151 ?_
          refine w_goto X 137 dX8_shared_154 (by decide) ?_
          refine w_iload X dX8_shared_137 rfl ?_
          refine w_iconst X dX8_shared_139 ?_
          refine w_icmp_ge X 157 dX8_shared_140 (by decide) (fun h9 => absurd h9 (by decide)) (fun _ => ?_)
          refine w_aload_n X dX8_shared_143 rfl ?_
          refine w_get X (by decide) (σ_473 G n0 _ _) rfl gW_X8 21 (by decide) gF_X8_53 rfl dX8_shared_144 ?_
          refine w_iload X dX8_shared_147 rfl ?_
          refine w_iconst X dX8_shared_149 ?_
          refine s_iast X (4) (by decide) (fun _ => σ_m5 G n0 _ _ (by decide)) dX8_shared_150 ?_
          refine w_iinc8_6 X dX8_shared_151 ?_
          refine w_goto X 137 dX8_shared_154 (by decide) ?_
          refine w_iload X dX8_shared_137 rfl ?_
          refine w_iconst X dX8_shared_139 ?_
          refine w_icmp_ge X 157 dX8_shared_140 (by decide) (fun _ => ?_) (fun h9 => absurd (by decide) h9)
          have hz0 : ∀ j : Nat, j < 5 → up2 (up2 (up2 (up2 (up2 mi 486 0 0) 486 1 0) 486 2 0) 486 3 0) 486 4 0 486 j = 0 := fun j hj => by
            rcases (show j = 0 ∨ j = 1 ∨ j = 2 ∨ j = 3 ∨ j = 4 by omega) with rfl | rfl | rfl | rfl | rfl <;> simp [up2]
          have hk0 : ∀ a, a ≠ 486 → up2 (up2 (up2 (up2 (up2 mi 486 0 0) 486 1 0) 486 2 0) 486 3 0) 486 4 0 a = mi a := fun a ha => by rw [up2_k _ _ _ _ ha, up2_k _ _ _ _ ha, up2_k _ _ _ _ ha, up2_k _ _ _ _ ha, up2_k _ _ _ _ ha]
          generalize up2 (up2 (up2 (up2 (up2 mi 486 0 0) 486 1 0) 486 2 0) 486 3 0) 486 4 0 = m0 at *
          have hfs0 : FS mi m0 := ⟨fun a _ _ _ h => hk0 a h, fun j _ => by rw [hk0 473 (by decide)]⟩
          have hRS0 : RS L.1 (L.2.2.2.1 k) (lk0 (L.2.2.2.1 k) (Ub mi b)) (m0 486) := by
            have q := (RS_0 (ρ := (L.2.2.2.1 k)) (w := (lk0 (L.2.2.2.1 k) (Ub mi b))) hsc (fun j => (lk0_n _ _ j).1)).1
            refine ⟨fun j hj => by rw [hz0 j hj]; exact Int.le_refl _, fun j hj _ => hz0 j hj, fun i hi => ?_⟩
            rw [tl_z _ _ (fun a _ a2 => hz0 a (by omega))]
            exact (lk0_n _ _ _).1
          have hNI0 : NI D C t (fun y => W y ∨ (sm y = t ∧ HdL L.1 (L.2.2.2.1 k) (Ub mi b) (m0 486) y)) m0 := NI_e (NI_fr hNI (by rw [hk0 473 (by decide)]) (hk0 484 (by decide))) (fun y hy => by
            rcases hy with q | q
            · exact q
            · exact absurd q.2 (HdL_0 hsc (fun j => (lk0_n _ _ j).1) hz0 y))
          refine w_iconst X dX8_shared_157 ?_
          refine w_ist8_6 X dX8_shared_158 ?_
          have wloop : ∀ (n : Nat) (m : Nat → Nat → Int) (w6 : Int) (x7 : Option Value), (FS mi m) → ((w6 = 1 ∧ RS L.1 (L.2.2.2.1 k) (lk0 (L.2.2.2.1 k) (Ub mi b)) (m 486) ∧ NI D C t (fun y => W y ∨ (sm y = t ∧ HdL L.1 (L.2.2.2.1 k) (Ub mi b) (m 486) y)) m) ∨ (w6 = 0 ∧ NI D C t (fun y => W y ∨ (ShC L.1 (L.2.2.2.1 k) (Ub mi b) y ∧ sm y = t)) m)) → n = (if w6 = 0 then 0 else 1 + (1005010010005001 - cod (m 486)).toNat) → WSv p l e s mX args below meth c9 4 (fun mi9 mr9 => NI D C t (fun y => W y ∨ (ShC L.1 (L.2.2.2.1 k) (Ub mi b) y ∧ sm y = t)) mi9 ∧ FS mi mi9 ∧ mr = mr9) G n0 8 m mr 160 [some (.ref (n0 + 473)), some (.int (jI (b : Int))), some (.int (jI (k : Int))), some (.int (jI t)), x4, some (.int (jI w5)), some (.int (jI w6)), x7] [] := by
            intro n
            induction n using Nat.strongRecOn with
            | ind n ih_wloop =>
              intro m w6 x7 hfs hcase hn
              have hw6 : w6 = 0 ∨ w6 = 1 := by rcases hcase with ⟨q, -⟩ | ⟨q, -⟩ <;> omega
              have hnn : 0 ≤ m 473 18 ∧ m 473 18 ≤ 101 := by rcases hcase with ⟨-, -, q⟩ | ⟨-, q⟩ <;> exact q.1
              refine w_iload X dX8_shared_160 rfl ?_
              refine w_if_eq X 333 dX8_shared_162 (by decide) (fun c162_2 => ?_) (fun c162_2 => ?_)
              ·
                refine s_vret X hr dX8_shared_333 ?_
                rcases hcase with ⟨q, -, q2⟩ | ⟨-, q2⟩
                · first | (exfalso; omega) | exact ⟨NI_big q2 (by omega), hfs, rfl⟩
                · first | exact ⟨q2, hfs, rfl⟩ | exact ⟨NI_big q2 (by omega), hfs, rfl⟩
              ·
                refine w_aload_n X dX8_shared_165 rfl ?_
                refine w_get X (by decide) (σ_473 G n0 _ _) rfl gW_X8 18 (by decide) gF_X8_145 rfl dX8_shared_166 ?_
                refine w_bipush X dX8_shared_169 rfl ?_
                refine w_icmp_gt X 333 dX8_shared_171 (by decide) (fun c171_3 => ?_) (fun c171_3 => ?_)
                ·
                  refine s_vret X hr dX8_shared_333 ?_
                  rcases hcase with ⟨q, -, q2⟩ | ⟨-, q2⟩
                  · first | (exfalso; omega) | exact ⟨NI_big q2 (by omega), hfs, rfl⟩
                  · first | exact ⟨q2, hfs, rfl⟩ | exact ⟨NI_big q2 (by omega), hfs, rfl⟩
                ·
                  obtain ⟨hRS, hni⟩ : RS L.1 (L.2.2.2.1 k) (lk0 (L.2.2.2.1 k) (Ub mi b)) (m 486) ∧ NI D C t (fun y => W y ∨ (sm y = t ∧ HdL L.1 (L.2.2.2.1 k) (Ub mi b) (m 486) y)) m := by
                    rcases hcase with ⟨-, q⟩ | ⟨q, -⟩
                    · exact q
                    · omega
                  have hOnb := fun j (hj : j < 5) => On_b hsc hRR hRS hlkb (j := j) hj
                  have hSD := Sh_sum hRR h2_ hzu hgl9 (On_D hsc hRS)
                  have hSD2 : sm (ShD L.1 (L.2.2.2.1 k) (Ub mi b) (m 486)) = als (L.2.2.2.1 k) (Ub mi b) L.1.toNat + 1 + (if (L.2.2.2.1 k) 7 ≠ -9 ∧ (On L.1 (L.2.2.2.1 k) (lk0 (L.2.2.2.1 k) (Ub mi b)) (m 486)) ((L.2.2.2.1 k) 7).toNat ≤ 0 then 1 else 0) := hSD
                  have cont : ∀ (m5 : Nat → Nat → Int), FS mi m5 → m5 486 = m 486 → NI D C t (fun y => W y ∨ (sm y = t ∧ (HdL L.1 (L.2.2.2.1 k) (Ub mi b) (m 486) y ∨ y = (ShD L.1 (L.2.2.2.1 k) (Ub mi b) (m 486))))) m5 → ∀ (y7 : Option Value), WSv p l e s mX args below meth c9 4 (fun mi9 mr9 => NI D C t (fun y => W y ∨ (ShC L.1 (L.2.2.2.1 k) (Ub mi b) y ∧ sm y = t)) mi9 ∧ FS mi mi9 ∧ mr = mr9) G n0 8 m5 mr 322 [some (.ref (n0 + 473)), some (.int (jI (b : Int))), some (.int (jI (k : Int))), some (.int (jI t)), x4, some (.int (jI w5)), some (.int (jI w6)), y7] [] := by
                    intro m5 hfs5 h486 hni5 y7
                    refine w_aload_n X dX8_shared_322 rfl ?_
                    refine w_iload_n X dX8_shared_323 rfl ?_
                    refine w_iload_n X dX8_shared_324 rfl ?_
                    refine s_callVi X _ (c_X8_counted (l := l) (G := G) (n0 := n0) hA (FS_ML hM hfs5) hk h2_ (FS_RB hb hfs5).1 (by rw [(FS_RB hb hfs5).2, h486]; exact hRS)) gM_X8_162 gI_yX8_counted gS_yX8_counted gN_X8 gC_yX8_counted (by decide) (σ_473 G n0 _ _) rfl dX8_shared_325 hl_yX8_counted ⟨Nat.le_of_ble_eq_true rfl, Nat.le_of_ble_eq_true rfl⟩ (Nat.le_of_ble_eq_true rfl) rfl (fun r1 mi1 mr1 h1 => ?_)
                    obtain ⟨hcn, hfc, rfl⟩ := h1
                    rw [(FS_RB hb hfs5).2, h486] at hcn
                    have hcb := CntP_b hcn
                    refine w_ist8_6 X dX8_shared_328 ?_
                    refine w_goto X 160 dX8_shared_330 (by decide) ?_
                    rcases hcn with ⟨q, i, hci⟩ | ⟨q, hct⟩
                    · have hRS2 := (RS_nx hsc hRS hci).1
                      have hlt := cod_lt (RS_b hsc hRR hRS hlkb) (RS_b hsc hRR hRS2 hlkb) (Cnx_lx hsc hci)
                      exact ih_wloop _ (by rw [hn, if_neg (by omega), if_neg (by omega)]; omega) _ _ _ ⟨fun a h1 h2 h3 h4 => (hfc a h4).trans (hfs5.1 a h1 h2 h3 h4), fun j hj => by rw [hfc 473 (by decide)]; exact hfs5.2 j hj⟩ (Or.inl ⟨q, hRS2, NI_e (NI_fr hni5 (by rw [hfc 473 (by decide)]) (hfc 484 (by decide))) (fun y hy => by
                        rcases hy with z | ⟨z1, z2⟩
                        · exact Or.inl z
                        · exact Or.inr ⟨z1, Hd_nx hRR hsc hRS hci z2⟩)⟩) rfl
                    · exact ih_wloop _ (by rw [hn, if_pos q, if_neg (show ¬ w6 = 0 by omega)]; omega) _ _ _ ⟨fun a h1 h2 h3 h4 => (hfc a h4).trans (hfs5.1 a h1 h2 h3 h4), fun j hj => by rw [hfc 473 (by decide)]; exact hfs5.2 j hj⟩ (Or.inr ⟨q, NI_e (NI_fr hni5 (by rw [hfc 473 (by decide)]) (hfc 484 (by decide))) (fun y hy => by
                        rcases hy with z | ⟨z1, z2⟩
                        · exact Or.inl z
                        · exact Or.inr ⟨z2, Hd_tp hRR hsc hRS hct z1⟩)⟩) rfl
                  have goes : ∀ (m3 : Nat → Nat → Int), (∀ a, a ≠ 485 → m3 a = m a) → (∀ j : Nat, j < 5 → m3 485 j = (On L.1 (L.2.2.2.1 k) (lk0 (L.2.2.2.1 k) (Ub mi b)) (m 486)) j + (if (L.2.2.2.1 k) 7 ≠ -9 ∧ (On L.1 (L.2.2.2.1 k) (lk0 (L.2.2.2.1 k) (Ub mi b)) (m 486)) ((L.2.2.2.1 k) 7).toNat ≤ 0 then nd (L.2.2.2.1 k) j else 0)) → sm (ShD L.1 (L.2.2.2.1 k) (Ub mi b) (m 486)) = t → ∀ (y7 : Option Value), WSv p l e s mX args below meth c9 4 (fun mi9 mr9 => NI D C t (fun y => W y ∨ (ShC L.1 (L.2.2.2.1 k) (Ub mi b) y ∧ sm y = t)) mi9 ∧ FS mi mi9 ∧ mr = mr9) G n0 8 m3 mr 303 [some (.ref (n0 + 473)), some (.int (jI (b : Int))), some (.int (jI (k : Int))), some (.int (jI t)), x4, some (.int (jI w5)), some (.int (jI w6)), y7] [] := by
                    intro m3 hm3 hF3 hsmt y7
                    refine w_aload_n X dX8_shared_303 rfl ?_
                    refine w_get X (by decide) (σ_473 G n0 _ _) rfl gW_X8 20 (by decide) gF_X8_50 rfl dX8_shared_304 ?_
                    refine w_aload_n X dX8_shared_307 rfl ?_
                    refine w_get X (by decide) (σ_473 G n0 _ _) rfl gW_X8 5 (by decide) gF_X8_20 rfl dX8_shared_308 ?_
                    refine w_iload_n X dX8_shared_311 rfl ?_
                    refine s_iald X (k) (by decide) (fun _ => σ_m12 G n0 _ _ (by decide)) dX8_shared_312 ?_
                    rw [show m3 475 k = L.2.2.2.1 k 2 by rw [hm3 475 (by decide), hfs.1 475 (by decide) (by decide) (by decide) (by decide), e2]]
                    refine w_dup2 X dX8_shared_313 rfl rfl ?_
                    refine s_iald X _ (by decide) (fun _ => σ_m5 G n0 _ _ (by decide)) dX8_shared_314 ?_ (hj := rfl)
                    refine w_iconst X dX8_shared_315 ?_
                    refine w_iadd X dX8_shared_316 ?_
                    refine s_iast X _ (by decide) (fun _ => σ_m5 G n0 _ _ (by decide)) dX8_shared_317 ?_ (hj := rfl)
                    have hm4 : ∀ a, a ≠ 485 → up2 m3 485 (L.2.2.2.1 k 2).toNat (m3 485 (L.2.2.2.1 k 2).toNat + 1) a = m a := fun a ha => (up2_k _ _ _ _ ha).trans (hm3 a ha)
                    have hF4 : ∀ j : Nat, j < 5 → up2 m3 485 (L.2.2.2.1 k 2).toNat (m3 485 (L.2.2.2.1 k 2).toNat + 1) 485 j = Shc (L.2.2.2.1 k) (On L.1 (L.2.2.2.1 k) (lk0 (L.2.2.2.1 k) (Ub mi b)) (m 486)) j := fun j hj => by
                      rw [up2_add (by omega), hF3 j hj]
                      unfold Shc lv
                      rw [if_neg (show ¬ (j : Int) = L.2.2.2.1 k 4 by omega)]
                      have q1 : (if (j : Int) = (L.2.2.2.1 k) 2 then (1 : Int) else 0) = (if (L.2.2.2.1 k) 2 = (j : Int) then 1 else 0) := by split <;> split <;> omega
                      rw [q1]
                      omega
                    generalize up2 m3 485 (L.2.2.2.1 k 2).toNat (m3 485 (L.2.2.2.1 k 2).toNat + 1) = m4 at *
                    have hn18 : 0 ≤ m4 473 18 ∧ m4 473 18 ≤ 101 := by rw [hm4 473 (by decide)]; exact hnn
                    have hone9 : ∀ j : Nat, j < 5 → rg (m4 485 j) := fun j hj => by
                      have a := Sh_x (fun j hj => (hOnb j hj).1) hRR hj
                      have c := hOnb j hj
                      have d := lv_b (L.2.2.2.1 k) j
                      have d2 := nd_n (L.2.2.2.1 k) j
                      rw [hF4 j hj]
                      exact ⟨by omega, by omega⟩
                    have hnx : ∀ i : Nat, (i : Int) < m4 473 18 → ∀ j : Nat, j < 5 → rg (m4 484 (5 * i + j)) := fun i hi j hj => by rw [hm4 473 (by decide)] at hi; rw [hm4 484 (by decide)]; exact NI_rg hDn hni ht.2 i hi j hj
                    refine w_aload_n X dX8_shared_318 rfl ?_
                    refine s_callVv X _ (c_X8_take (l := l) (G := G) (n0 := n0) hn18 hone9 hnx) gM_X8_152 gI_yX8_take gS_yX8_take gN_X8 gC_yX8_take (by decide) (σ_473 G n0 _ _) rfl dX8_shared_319 hl_yX8_take ⟨Nat.le_of_ble_eq_true rfl, Nat.le_of_ble_eq_true rfl⟩ (Nat.le_of_ble_eq_true rfl) rfl (fun mi2 mr2 h2 => ?_)
                    obtain ⟨htk, rfl⟩ := h2
                    have hfs4 : FS mi m4 := ⟨fun a h1 h2 h3 h4 => (hm4 a h3).trans (hfs.1 a h1 h2 h3 h4), fun j hj => by rw [hm4 473 (by decide)]; exact hfs.2 j hj⟩
                    have hfk := FS_tk hfs4 htk
                    have hni6 := NI_take (g := (ShD L.1 (L.2.2.2.1 k) (Ub mi b) (m 486))) hG (NI_fr hni (by rw [hm4 473 (by decide)]) (hm4 484 (by decide))) htk (T5_c hF4) (hS _ (ShD_C hsc hgl9 hRS)) hsmt
                    refine cont _ hfk.1 (hfk.2.trans (hm4 486 (by decide))) (NI_e hni6 (fun y hy => ?_)) _
                    rcases hy with z | ⟨z1, z2 | z2⟩
                    · exact Or.inl (Or.inl z)
                    · exact Or.inl (Or.inr ⟨z1, z2⟩)
                    · exact Or.inr z2
                  refine w_iconst X dX8_shared_174 ?_
                  refine w_ist8_7 X dX8_shared_175 ?_
                  have oloop : ∀ (n : Nat) (m2 : Nat → Nat → Int) (i : Nat), (i ≤ 5) → (∀ a, a ≠ 485 → m2 a = m a) → (∀ j : Nat, j < i → m2 485 j = (On L.1 (L.2.2.2.1 k) (lk0 (L.2.2.2.1 k) (Ub mi b)) (m 486)) j) → n = 5 - i → WSv p l e s mX args below meth c9 4 (fun mi9 mr9 => NI D C t (fun y => W y ∨ (ShC L.1 (L.2.2.2.1 k) (Ub mi b) y ∧ sm y = t)) mi9 ∧ FS mi mi9 ∧ mr = mr9) G n0 8 m2 mr 177 [some (.ref (n0 + 473)), some (.int (jI (b : Int))), some (.int (jI (k : Int))), some (.int (jI t)), x4, some (.int (jI w5)), some (.int (jI w6)), some (.int (jI (i : Int)))] [] := by
                    intro n
                    induction n using Nat.strongRecOn with
                    | ind n ih_oloop =>
                      intro m2 i hi hm2 hF hn
                      have hfs2 : FS mi m2 := ⟨fun a h1 h2 h3 h4 => (hm2 a h3).trans (hfs.1 a h1 h2 h3 h4), fun j hj => by rw [hm2 473 (by decide)]; exact hfs.2 j hj⟩
                      have hM2 := FS_ML hM hfs2
                      have hb2 := FS_RB hb hfs2
                      have h4731 : m2 473 1 = L.1 := hM2.1
                      refine w_iload X dX8_shared_177 rfl ?_
                      refine w_iconst X dX8_shared_179 ?_
                      refine w_icmp_ge X 233 dX8_shared_180 (by decide) (fun c180_4 => ?_) (fun c180_4 => ?_)
                      ·
                        refine w_aload_n X dX8_shared_233 rfl ?_
                        refine w_get X (by decide) (σ_473 G n0 _ _) rfl gW_X8 10 (by decide) gF_X8_35 rfl dX8_shared_234 ?_
                        refine w_iload_n X dX8_shared_237 rfl ?_
                        refine s_iald X (k) (by decide) (fun _ => σ_m12 G n0 _ _ (by decide)) dX8_shared_238 ?_
                        rw [show m2 480 k = L.2.2.2.1 k 7 by rw [hfs2.1 480 (by decide) (by decide) (by decide) (by decide), e7]]
                        refine w_bipush X dX8_shared_239 rfl ?_
                        refine w_icmp_eq X 258 dX8_shared_241 (by decide) (fun c241_5 => ?_) (fun c241_5 => ?_)
                        ·
                          refine w_iconst X dX8_shared_258 ?_
                          refine w_goto X 263 dX8_shared_259 (by decide) ?_
                          refine w_ist8_7 X dX8_shared_263 ?_
                          refine w_iload X dX8_shared_265 rfl ?_
                          refine w_if_eq X 278 dX8_shared_267 (by decide) (fun c267_6 => ?_) (fun c267_6 => ?_)
                          ·
                            refine w_iload X dX8_shared_278 rfl ?_
                            refine w_if_eq X 322 dX8_shared_280 (by decide) (fun h9 => absurd h9 (by decide)) (fun _ => ?_)
                            refine w_iload X dX8_shared_283 rfl ?_
                            refine w_if_eq X 303 dX8_shared_285 (by decide) (fun _ => ?_) (fun h9 => absurd h9 (by first | exact c267_6 | exact fun q9 => absurd c267_6 q9))
                            refine goes _ hm2 (fun j hj => ?_) (by rw [hSD2, if_neg (fun w => by have w1 := w.1; have w2 := w.2; omega)]; omega) _
                            rw [hF j (by omega), if_neg (fun w => by have w1 := w.1; have w2 := w.2; omega), Int.add_zero]
                          ·
                            refine w_iload X dX8_shared_270 rfl ?_
                            refine w_if_ne X 322 dX8_shared_272 (by decide) (fun _ => ?_) (fun h9 => absurd h9 (by decide))
                            refine cont _ hfs2 (hm2 486 (by decide)) (NI_e (NI_fr hni (by rw [hm2 473 (by decide)]) (hm2 484 (by decide))) (fun y hy => ?_)) _
                            rcases hy with z | ⟨z1, z2 | z2⟩
                            · exact Or.inl z
                            · exact Or.inr ⟨z1, z2⟩
                            · exfalso
                              rw [z2, hSD2] at z1
                              rw [if_neg (fun w => by have w1 := w.1; have w2 := w.2; omega)] at z1
                              omega
                        ·
                          refine w_aload_n X dX8_shared_244 rfl ?_
                          refine w_get X (by decide) (σ_473 G n0 _ _) rfl gW_X8 20 (by decide) gF_X8_50 rfl dX8_shared_245 ?_
                          refine w_aload_n X dX8_shared_248 rfl ?_
                          refine w_get X (by decide) (σ_473 G n0 _ _) rfl gW_X8 10 (by decide) gF_X8_35 rfl dX8_shared_249 ?_
                          refine w_iload_n X dX8_shared_252 rfl ?_
                          refine s_iald X (k) (by decide) (fun _ => σ_m12 G n0 _ _ (by decide)) dX8_shared_253 ?_
                          rw [show m2 480 k = L.2.2.2.1 k 7 by rw [hfs2.1 480 (by decide) (by decide) (by decide) (by decide), e7]]
                          have hFn := hF (L.2.2.2.1 k 7).toNat (by omega)
                          have hOnn := hOnb (L.2.2.2.1 k 7).toNat (by omega)
                          refine s_iald X _ (by decide) (fun _ => σ_m5 G n0 _ _ (by decide)) dX8_shared_254 ?_ (hj := rfl)
                          refine w_if_le X 262 dX8_shared_255 (by decide) (fun c255_7 => ?_) (fun c255_7 => ?_)
                          ·
                            refine w_iconst X dX8_shared_262 ?_
                            refine w_ist8_7 X dX8_shared_263 ?_
                            refine w_iload X dX8_shared_265 rfl ?_
                            refine w_if_eq X 278 dX8_shared_267 (by decide) (fun c267_8 => ?_) (fun c267_8 => ?_)
                            ·
                              refine w_iload X dX8_shared_278 rfl ?_
                              refine w_if_eq X 322 dX8_shared_280 (by decide) (fun _ => ?_) (fun h9 => absurd (by decide) h9)
                              refine cont _ hfs2 (hm2 486 (by decide)) (NI_e (NI_fr hni (by rw [hm2 473 (by decide)]) (hm2 484 (by decide))) (fun y hy => ?_)) _
                              rcases hy with z | ⟨z1, z2 | z2⟩
                              · exact Or.inl z
                              · exact Or.inr ⟨z1, z2⟩
                              · exfalso
                                rw [z2, hSD2] at z1
                                rw [if_pos ⟨by omega, by omega⟩] at z1
                                omega
                            ·
                              refine w_iload X dX8_shared_270 rfl ?_
                              refine w_if_ne X 322 dX8_shared_272 (by decide) (fun h9 => absurd (by decide) h9) (fun _ => ?_)
                              refine w_goto X 283 dX8_shared_275 (by decide) ?_
                              refine w_iload X dX8_shared_283 rfl ?_
                              refine w_if_eq X 303 dX8_shared_285 (by decide) (fun h9 => absurd h9 (by first | exact c267_8 | exact fun q9 => q9 c267_8)) (fun _ => ?_)
                              refine w_aload_n X dX8_shared_288 rfl ?_
                              refine w_get X (by decide) (σ_473 G n0 _ _) rfl gW_X8 20 (by decide) gF_X8_50 rfl dX8_shared_289 ?_
                              refine w_aload_n X dX8_shared_292 rfl ?_
                              refine w_get X (by decide) (σ_473 G n0 _ _) rfl gW_X8 10 (by decide) gF_X8_35 rfl dX8_shared_293 ?_
                              refine w_iload_n X dX8_shared_296 rfl ?_
                              refine s_iald X (k) (by decide) (fun _ => σ_m12 G n0 _ _ (by decide)) dX8_shared_297 ?_
                              rw [show m2 480 k = L.2.2.2.1 k 7 by rw [hfs2.1 480 (by decide) (by decide) (by decide) (by decide), e7]]
                              refine w_dup2 X dX8_shared_298 rfl rfl ?_
                              refine s_iald X _ (by decide) (fun _ => σ_m5 G n0 _ _ (by decide)) dX8_shared_299 ?_ (hj := rfl)
                              refine w_iconst X dX8_shared_300 ?_
                              refine w_iadd X dX8_shared_301 ?_
                              refine s_iast X _ (by decide) (fun _ => σ_m5 G n0 _ _ (by decide)) dX8_shared_302 ?_ (hj := rfl)
                              refine goes _ (fun a ha => (up2_k _ _ _ _ ha).trans (hm2 a ha)) (fun j hj => ?_) (by rw [hSD2, if_pos ⟨by omega, by omega⟩]; omega) _
                              rw [up2_add (by omega), hF j (by omega), if_pos (show (L.2.2.2.1 k) 7 ≠ -9 ∧ (On L.1 (L.2.2.2.1 k) (lk0 (L.2.2.2.1 k) (Ub mi b)) (m 486)) ((L.2.2.2.1 k) 7).toNat ≤ 0 from ⟨by omega, by omega⟩)]
                              have q1 : nd (L.2.2.2.1 k) j = (if (L.2.2.2.1 k) 7 = (j : Int) then 1 else 0) := by unfold nd; split <;> split <;> omega
                              rw [q1]
                          ·
                            refine w_iconst X dX8_shared_258 ?_
                            refine w_goto X 263 dX8_shared_259 (by decide) ?_
                            refine w_ist8_7 X dX8_shared_263 ?_
                            refine w_iload X dX8_shared_265 rfl ?_
                            refine w_if_eq X 278 dX8_shared_267 (by decide) (fun c267_9 => ?_) (fun c267_9 => ?_)
                            ·
                              refine w_iload X dX8_shared_278 rfl ?_
                              refine w_if_eq X 322 dX8_shared_280 (by decide) (fun h9 => absurd h9 (by decide)) (fun _ => ?_)
                              refine w_iload X dX8_shared_283 rfl ?_
                              refine w_if_eq X 303 dX8_shared_285 (by decide) (fun _ => ?_) (fun h9 => absurd h9 (by first | exact c267_9 | exact fun q9 => absurd c267_9 q9))
                              refine goes _ hm2 (fun j hj => ?_) (by rw [hSD2, if_neg (fun w => by have w1 := w.1; have w2 := w.2; omega)]; omega) _
                              rw [hF j (by omega), if_neg (fun w => by have w1 := w.1; have w2 := w.2; omega), Int.add_zero]
                            ·
                              refine w_iload X dX8_shared_270 rfl ?_
                              refine w_if_ne X 322 dX8_shared_272 (by decide) (fun _ => ?_) (fun h9 => absurd h9 (by decide))
                              refine cont _ hfs2 (hm2 486 (by decide)) (NI_e (NI_fr hni (by rw [hm2 473 (by decide)]) (hm2 484 (by decide))) (fun y hy => ?_)) _
                              rcases hy with z | ⟨z1, z2 | z2⟩
                              · exact Or.inl z
                              · exact Or.inr ⟨z1, z2⟩
                              · exfalso
                                rw [z2, hSD2] at z1
                                rw [if_neg (fun w => by have w1 := w.1; have w2 := w.2; omega)] at z1
                                omega
                      ·
                        refine w_aload_n X dX8_shared_183 rfl ?_
                        refine w_get X (by decide) (σ_473 G n0 _ _) rfl gW_X8 20 (by decide) gF_X8_50 rfl dX8_shared_184 ?_
                        refine w_iload X dX8_shared_187 rfl ?_
                        refine w_iload X dX8_shared_189 rfl ?_
                        refine w_aload_n X dX8_shared_191 rfl ?_
                        refine w_get X (by decide) (σ_473 G n0 _ _) rfl gW_X8 1 (by decide) gF_X8_7 rfl dX8_shared_192 ?_
                        refine w_icmp_ge X 219 dX8_shared_195 (by decide) (fun c195_10 => ?_) (fun c195_10 => ?_)
                        ·
                          refine w_aload_n X dX8_shared_219 rfl ?_
                          refine w_get X (by decide) (σ_473 G n0 _ _) rfl gW_X8 21 (by decide) gF_X8_53 rfl dX8_shared_220 ?_
                          refine w_iload X dX8_shared_223 rfl ?_
                          refine s_iald X (i) (by decide) (fun _ => σ_m5 G n0 _ _ (by decide)) dX8_shared_225 ?_
                          refine s_iast X (i) (by decide) (fun _ => σ_m5 G n0 _ _ (by decide)) dX8_shared_226 ?_
                          refine w_iinc8_7 X dX8_shared_227 ?_
                          refine w_goto X 177 dX8_shared_230 (by decide) ?_
                          exact ih_oloop _ (by omega) _ (i + 1) (by omega) (fun a ha => (up2_k _ _ _ _ ha).trans (hm2 a ha)) (fun j hj => by
                            rcases (show j < i ∨ j = i by omega) with q | q
                            · rw [up2_j _ _ _ _ (by omega)]; exact hF j q
                            · subst q
                              rw [up2_s]
                              rw [hm2 486 (by decide)]
                              exact (On_f (fun w => by first | (have := w.1; omega) | exact flg_0 hla (by omega) w.2)).symm
                            ) rfl
                        ·
                          refine w_aload_n X dX8_shared_198 rfl ?_
                          refine w_iload_n X dX8_shared_199 rfl ?_
                          refine w_iload X dX8_shared_200 rfl ?_
                          refine s_callVi X _ (c_X8_isLast (l := l) (G := G) (n0 := n0) hA hM2 hk h2_ (by omega)) gM_X8_155 gI_yX8_isLast gS_yX8_isLast gN_X8 gC_yX8_isLast (by decide) (σ_473 G n0 _ _) rfl dX8_shared_202 hl_yX8_isLast ⟨Nat.le_of_ble_eq_true rfl, Nat.le_of_ble_eq_true rfl⟩ (Nat.le_of_ble_eq_true rfl) rfl (fun r3 mi3 mr3 h3 => ?_)
                          obtain ⟨rfl, rfl, h3⟩ := h3
                          have bl := flg_b h3
                          have hla := h3
                          refine w_if_eq X 219 dX8_shared_205 (by decide) (fun c205_11 => ?_) (fun c205_11 => ?_)
                          ·
                            refine w_aload_n X dX8_shared_219 rfl ?_
                            refine w_get X (by decide) (σ_473 G n0 _ _) rfl gW_X8 21 (by decide) gF_X8_53 rfl dX8_shared_220 ?_
                            refine w_iload X dX8_shared_223 rfl ?_
                            refine s_iald X (i) (by decide) (fun _ => σ_m5 G n0 _ _ (by decide)) dX8_shared_225 ?_
                            refine s_iast X (i) (by decide) (fun _ => σ_m5 G n0 _ _ (by decide)) dX8_shared_226 ?_
                            refine w_iinc8_7 X dX8_shared_227 ?_
                            refine w_goto X 177 dX8_shared_230 (by decide) ?_
                            exact ih_oloop _ (by omega) _ (i + 1) (by omega) (fun a ha => (up2_k _ _ _ _ ha).trans (hm2 a ha)) (fun j hj => by
                              rcases (show j < i ∨ j = i by omega) with q | q
                              · rw [up2_j _ _ _ _ (by omega)]; exact hF j q
                              · subst q
                                rw [up2_s]
                                rw [hm2 486 (by decide)]
                                exact (On_f (fun w => by first | (have := w.1; omega) | exact flg_0 hla (by omega) w.2)).symm
                              ) rfl
                          ·
                            refine w_aload_n X dX8_shared_208 rfl ?_
                            refine w_iload_n X dX8_shared_209 rfl ?_
                            refine w_iload_n X dX8_shared_210 rfl ?_
                            refine w_iload X dX8_shared_211 rfl ?_
                            refine s_callVi X _ (c_X8_left (l := l) (G := G) (n0 := n0) hA hM2 hk h2_ (by omega) hb2.1) gM_X8_159 gI_yX8_left gS_yX8_left gN_X8 gC_yX8_left (by decide) (σ_473 G n0 _ _) rfl dX8_shared_213 hl_yX8_left ⟨Nat.le_of_ble_eq_true rfl, Nat.le_of_ble_eq_true rfl⟩ (Nat.le_of_ble_eq_true rfl) rfl (fun r4 mi4 mr4 h4 => ?_)
                            obtain ⟨rfl, rfl, h4⟩ := h4
                            rw [hb2.2, show m2 486 = m 486 from hm2 486 (by decide)] at h4
                            have hlfe := h4
                            refine w_goto X 226 dX8_shared_216 (by decide) ?_
                            refine s_iast X (i) (by decide) (fun _ => σ_m5 G n0 _ _ (by decide)) dX8_shared_226 ?_
                            refine w_iinc8_7 X dX8_shared_227 ?_
                            refine w_goto X 177 dX8_shared_230 (by decide) ?_
                            exact ih_oloop _ (by omega) _ (i + 1) (by omega) (fun a ha => (up2_k _ _ _ _ ha).trans (hm2 a ha)) (fun j hj => by
                              rcases (show j < i ∨ j = i by omega) with q | q
                              · rw [up2_j _ _ _ _ (by omega)]; exact hF j q
                              · subst q
                                rw [up2_s]
                                rw [hlfe]
                                exact (On_t (by omega) (flg_1 hla (by omega))).symm
                              ) rfl
                  exact oloop _ m 0 (by omega) (fun _ _ => rfl) (fun j hj => absurd hj (by omega)) rfl
          exact wloop _ m0 1 _ hfs0 (Or.inl ⟨rfl, hRS0, hNI0⟩) rfl
        refine w_iload_n X dX8_shared_96 rfl ?_
        refine w_iload X dX8_shared_97 rfl ?_
        refine w_iconst X dX8_shared_99 ?_
        refine w_iadd X dX8_shared_100 ?_
        refine w_icmp_ne X 119 dX8_shared_101 (by decide) (fun c101_12 => ?_) (fun c101_12 => ?_)
        ·
          refine w_iconst X dX8_shared_119 ?_
          refine w_ist8_5 X dX8_shared_120 ?_
          refine w_iload_n X dX8_shared_122 rfl ?_
          refine w_iload X dX8_shared_123 rfl ?_
          refine w_icmp_eq X 134 dX8_shared_125 (by decide) (fun c125_13 => ?_) (fun c125_13 => ?_)
          ·
            exact mid _ _ _ _ (by omega)
          ·
            refine w_iload X dX8_shared_128 rfl ?_
            refine w_if_ne X 134 dX8_shared_130 (by decide) (fun h9 => absurd (by decide) h9) (fun _ => ?_)
            refine s_vret X hr dX8_shared_133 ?_
            refine ⟨NI_e hNI (fun y hy => ?_), ⟨fun a _ _ _ _ => rfl, fun _ _ => rfl⟩, rfl⟩
            rcases hy with z | ⟨⟨z1, d, z2, z3⟩, z4⟩
            · exact z
            · exfalso
              have q := Sh_sum hRR h2_ hzu z1 z2
              rw [z3, q] at z4
              split at z4
              · rename_i q8; have q9 := q8.1; omega
              · omega
        ·
          refine w_aload_n X dX8_shared_104 rfl ?_
          refine w_get X (by decide) (σ_473 G n0 _ _) rfl gW_X8 10 (by decide) gF_X8_35 rfl dX8_shared_105 ?_
          refine w_iload_n X dX8_shared_108 rfl ?_
          refine s_iald X (k) (by decide) (fun _ => σ_m12 G n0 _ _ (by decide)) dX8_shared_109 ?_
          rw [e7]
          refine w_bipush X dX8_shared_110 rfl ?_
          refine w_icmp_eq X 119 dX8_shared_112 (by decide) (fun c112_14 => ?_) (fun c112_14 => ?_)
          ·
            refine w_iconst X dX8_shared_119 ?_
            refine w_ist8_5 X dX8_shared_120 ?_
            refine w_iload_n X dX8_shared_122 rfl ?_
            refine w_iload X dX8_shared_123 rfl ?_
            refine w_icmp_eq X 134 dX8_shared_125 (by decide) (fun c125_15 => ?_) (fun c125_15 => ?_)
            ·
              exact mid _ _ _ _ (by omega)
            ·
              refine w_iload X dX8_shared_128 rfl ?_
              refine w_if_ne X 134 dX8_shared_130 (by decide) (fun h9 => absurd (by decide) h9) (fun _ => ?_)
              refine s_vret X hr dX8_shared_133 ?_
              refine ⟨NI_e hNI (fun y hy => ?_), ⟨fun a _ _ _ _ => rfl, fun _ _ => rfl⟩, rfl⟩
              rcases hy with z | ⟨⟨z1, d, z2, z3⟩, z4⟩
              · exact z
              · exfalso
                have q := Sh_sum hRR h2_ hzu z1 z2
                rw [z3, q] at z4
                split at z4
                · rename_i q8; have q9 := q8.1; omega
                · omega
          ·
            refine w_iconst X dX8_shared_115 ?_
            refine w_goto X 120 dX8_shared_116 (by decide) ?_
            refine w_ist8_5 X dX8_shared_120 ?_
            refine w_iload_n X dX8_shared_122 rfl ?_
            refine w_iload X dX8_shared_123 rfl ?_
            refine w_icmp_eq X 134 dX8_shared_125 (by decide) (fun c125_16 => ?_) (fun c125_16 => ?_)
            ·
              exact mid _ _ _ _ (by omega)
            ·
              refine w_iload X dX8_shared_128 rfl ?_
              refine w_if_ne X 134 dX8_shared_130 (by decide) (fun _ => ?_) (fun h9 => absurd h9 (by decide))
              exact mid _ _ _ _ (by omega)
      ·
        refine w_iload X dX8_shared_15 rfl ?_
        refine w_aload_n X dX8_shared_17 rfl ?_
        refine w_iload_n X dX8_shared_18 rfl ?_
        refine w_iload_n X dX8_shared_19 rfl ?_
        refine w_iload X dX8_shared_20 rfl ?_
        refine s_callVi X _ (c_X8_wanted (l := l) (G := G) (n0 := n0) hA hM hk (by omega) hb) gM_X8_148 gI_yX8_wanted gS_yX8_wanted gN_X8 gC_yX8_wanted (by decide) (σ_473 G n0 _ _) rfl dX8_shared_22 hl_yX8_wanted ⟨Nat.le_of_ble_eq_true rfl, Nat.le_of_ble_eq_true rfl⟩ (Nat.le_of_ble_eq_true rfl) rfl (fun r1 mi1 mr1 h1 => ?_)
        obtain ⟨rfl, rfl, h1⟩ := h1
        rw [h1]
        refine w_iadd X dX8_shared_25 ?_
        refine w_ist8_4 X dX8_shared_26 ?_
        refine w_iconst X dX8_shared_28 ?_
        refine w_ist8_6 X dX8_shared_29 ?_
        refine w_iconst X dX8_shared_31 ?_
        refine w_ist8_7 X dX8_shared_32 ?_
        have inner : ∀ (n : Nat) (i : Nat) (w6 : Int), ((i : Int) ≤ L.1) → (ELg w6 (fun j => gol (L.2.2.2.1 k) j = (x : Int)) i) → n = 5 - i → WSv p l e s mX args below meth c9 4 (fun mi9 mr9 => NI D C t (fun y => W y ∨ (ShC L.1 (L.2.2.2.1 k) (Ub mi b) y ∧ sm y = t)) mi9 ∧ FS mi mi9 ∧ mr = mr9) G n0 8 mi mr 34 [some (.ref (n0 + 473)), some (.int (jI (b : Int))), some (.int (jI (k : Int))), some (.int (jI t)), some (.int (jI (t4 + lk0 (L.2.2.2.1 k) (Ub mi b) x))), some (.int (jI (x : Int))), some (.int (jI w6)), some (.int (jI (i : Int)))] [] := by
          intro n
          induction n using Nat.strongRecOn with
          | ind n ih_inner =>
            intro i w6 hi hf hn
            have hw6 := EL_b hf
            refine w_iload X dX8_shared_34 rfl ?_
            refine w_aload_n X dX8_shared_36 rfl ?_
            refine w_get X (by decide) (σ_473 G n0 _ _) rfl gW_X8 1 (by decide) gF_X8_7 rfl dX8_shared_37 ?_
            refine w_icmp_ge X 73 dX8_shared_40 (by decide) (fun c40_17 => ?_) (fun c40_17 => ?_)
            ·
              refine w_iload X dX8_shared_73 rfl ?_
              refine w_if_ne X 90 dX8_shared_75 (by decide) (fun c75_18 => ?_) (fun c75_18 => ?_)
              ·
                refine w_iinc8_5 X dX8_shared_90 ?_
                refine w_goto X 6 dX8_shared_93 (by decide) ?_
                have hlx := Ub_lk hb (ρ := (L.2.2.2.1 k)) (x := x) (by omega)
                have hals : als (L.2.2.2.1 k) (Ub mi b) (x + 1) = als (L.2.2.2.1 k) (Ub mi b) x + lk0 (L.2.2.2.1 k) (Ub mi b) x := rfl
                exact ih_outer _ (by omega) (x + 1) _ _ _ (by omega) ⟨by omega, by omega, by omega⟩ (glb_s hgl (fun h0 => by first | (exfalso; omega) | (obtain ⟨i9, i91, i92⟩ := flg_1 hf (by omega); exact ⟨i9, by omega, i92⟩))) rfl
              ·
                refine w_aload_n X dX8_shared_78 rfl ?_
                refine w_iload_n X dX8_shared_79 rfl ?_
                refine w_iload_n X dX8_shared_80 rfl ?_
                refine w_iload X dX8_shared_81 rfl ?_
                refine s_callVi X _ (c_X8_wanted (l := l) (G := G) (n0 := n0) hA hM hk (by omega) hb) gM_X8_148 gI_yX8_wanted gS_yX8_wanted gN_X8 gC_yX8_wanted (by decide) (σ_473 G n0 _ _) rfl dX8_shared_83 hl_yX8_wanted ⟨Nat.le_of_ble_eq_true rfl, Nat.le_of_ble_eq_true rfl⟩ (Nat.le_of_ble_eq_true rfl) rfl (fun r2 mi2 mr2 h2 => ?_)
                obtain ⟨rfl, rfl, h2⟩ := h2
                have hlx2 := Ub_lk hb (ρ := (L.2.2.2.1 k)) (x := x) (by omega)
                refine w_if_le X 90 dX8_shared_86 (by decide) (fun c86_19 => ?_) (fun c86_19 => ?_)
                ·
                  refine w_iinc8_5 X dX8_shared_90 ?_
                  refine w_goto X 6 dX8_shared_93 (by decide) ?_
                  have hlx := Ub_lk hb (ρ := (L.2.2.2.1 k)) (x := x) (by omega)
                  have hals : als (L.2.2.2.1 k) (Ub mi b) (x + 1) = als (L.2.2.2.1 k) (Ub mi b) x + lk0 (L.2.2.2.1 k) (Ub mi b) x := rfl
                  exact ih_outer _ (by omega) (x + 1) _ _ _ (by omega) ⟨by omega, by omega, by omega⟩ (glb_s hgl (fun h0 => by first | (exfalso; omega) | (obtain ⟨i9, i91, i92⟩ := flg_1 hf (by omega); exact ⟨i9, by omega, i92⟩))) rfl
                ·
                  refine s_vret X hr dX8_shared_89 ?_
                  refine ⟨NI_e hNI (fun y hy => ?_), ⟨fun a _ _ _ _ => rfl, fun _ _ => rfl⟩, rfl⟩
                  rcases hy with z | ⟨z, -⟩
                  · exact z
                  · exfalso
                    obtain ⟨i9, i91, i92⟩ := z.1 x (by omega) (by omega)
                    exact flg_0 hf (by omega) ⟨i9, by omega, i92⟩
            ·
              refine w_iload X dX8_shared_43 rfl ?_
              refine w_if_ne X 60 dX8_shared_45 (by decide) (fun c45_20 => ?_) (fun c45_20 => ?_)
              ·
                refine w_iconst X dX8_shared_60 ?_
                refine w_goto X 65 dX8_shared_61 (by decide) ?_
                refine w_ist8_6 X dX8_shared_65 ?_
                refine w_iinc8_7 X dX8_shared_67 ?_
                refine w_goto X 34 dX8_shared_70 (by decide) ?_
                exact ih_inner _ (by omega) (i + 1) 1 (by omega) (by first | exact EL_k hf (by omega) | exact EL_t (by omega)) rfl
              ·
                have hgi := rg9 i (by omega)
                refine w_aload_n X dX8_shared_48 rfl ?_
                refine w_iload_n X dX8_shared_49 rfl ?_
                refine w_iload X dX8_shared_50 rfl ?_
                refine s_callVi X _ (c_X8_mapped (l := l) (G := G) (n0 := n0) (by omega) (by omega) hgd.1) gM_X8_110 gI_yX8_mapped gS_yX8_mapped gN_X8 gC_yX8_mapped (by decide) (σ_473 G n0 _ _) rfl dX8_shared_52 hl_yX8_mapped ⟨Nat.le_of_ble_eq_true rfl, Nat.le_of_ble_eq_true rfl⟩ (Nat.le_of_ble_eq_true rfl) rfl (fun r2 mi2 mr2 h2 => ?_)
                obtain ⟨rfl, rfl, h2⟩ := h2
                rw [hgd.2] at h2
                refine w_iload X dX8_shared_55 rfl ?_
                refine w_icmp_ne X 64 dX8_shared_57 (by decide) (fun c57_21 => ?_) (fun c57_21 => ?_)
                ·
                  refine w_iconst X dX8_shared_64 ?_
                  refine w_ist8_6 X dX8_shared_65 ?_
                  refine w_iinc8_7 X dX8_shared_67 ?_
                  refine w_goto X 34 dX8_shared_70 (by decide) ?_
                  exact ih_inner _ (by omega) (i + 1) 0 (by omega) (EL_f hf (by omega) (by omega)) rfl
                ·
                  refine w_iconst X dX8_shared_60 ?_
                  refine w_goto X 65 dX8_shared_61 (by decide) ?_
                  refine w_ist8_6 X dX8_shared_65 ?_
                  refine w_iinc8_7 X dX8_shared_67 ?_
                  refine w_goto X 34 dX8_shared_70 (by decide) ?_
                  exact ih_inner _ (by omega) (i + 1) 1 (by omega) (by first | exact EL_k hf (by omega) | exact EL_t (by omega)) rfl
        exact inner _ 0 0 (by omega) EL_0 rfl
  exact outer _ 0 1 none none (by omega) ⟨rfl, by omega, by omega⟩ (fun y hy => absurd hy (by omega)) rfl
