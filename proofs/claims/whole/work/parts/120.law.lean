def R_law : String := "SweetLineLaw"
def lw_P (b : Addr) (xs : List Int32) (args : Array Value) (s : State) : Prop := args = #[.ref b] ∧ s.IntsAt b xs ∧ xs.length ≤ 3072 ∧ (Jvm.Cond.and given_1 narrow_1).before args s = true
def lw_Q (_ : Array Value) (s : State) (o : Outcome) (t : State) : Prop := o = .returned (some (.int 1)) ∧ Framed s o t [] 600000 7302250
def lw_Z (below : List Frame) (a : Array Value) (s : State) : State → Prop := fun t => ∃ o, t.status = .running ∧ Ended t below o ∧ lw_Q a s o t
/-- the law's own end, with 1 on the stack, nothing written that was there before, its room as the claim has it -/
theorem lw_ret {p : Program} {l : Launch} {e : Env} {s : State} {m : MethodId} {below : List Frame} {meth : Method} {c : Code} {b : Nat} (hx : p.tables.exec = Jvm.exec) (hb : c.code = code) (hr : meth.sig.returnType = ret) (hlocks : meth.locks = false) {pc : Nat} {H : Heap} {ls : Array Slot} (hdg : decode code pc = .ok (.ireturn, 1)) : W p l e room_1 s m #[Value.ref b] below meth c H [] 600000 7302250 (lw_Z below #[Value.ref b] s) (F0 m pc ls [.int 1]) := by
  intro T hT X
  obtain ⟨fs, hret, hrun, hended, hW, hframe⟩ := X.leave (v := some (.int 1)) (hlocks := hlocks) (fun h => by rw [hr] at h; cases h)
  have hmeth' : T.vm.method? m = some meth := X.method'
  refine ⟨T.setFrames fs, ?_, .returned (some (.int 1)), hrun, hended, rfl, ⟨_, rfl⟩, hW, hframe⟩
  jvm_step X.here [X.here.top, hx, hb, hdg, hmeth', hr, ret, narrow_b1]
  (try refine ⟨rfl, ?_⟩); (try refine ⟨rfl, ?_⟩)
  first | (intro acts; rw [hret _ acts rfl rfl rfl]) | rw [hret _ _ rfl rfl rfl]
  exact Steps.refl _
/-- what holds at the law's entry: the machine, the code, the tables' words (any of lw_tbl by 'hts w (by decide +kernel)'), the script of L ints xs at the cell b, what the Statement gives of the start (any of its parts by flat_of_before) -/
def lw_At (p : Program) (s : State) (m : MethodId) (meth : Method) (c : Code) (b L : Nat) (xs : Nat → Int32) : Prop :=
  p.tables.exec = Jvm.exec ∧ c.code = code ∧ meth.sig.returnType = ret ∧ c.maxLocals = 4 ∧ s.vm.findClass R_law = some m.cls ∧ (∀ w ∈ lw_tbl, w.before #[Value.ref b] s = true) ∧ va_X b L xs s s.heap ∧ b < s.heap.size ∧ meth.locks = false ∧ (Jvm.Cond.and given_1 narrow_1).before #[Value.ref b] s = true
abbrev cL_law : ByteArray := code
def o_law : ox_K := fun _ st h => match st with
  | [.int v] => if v = 1 then some (some (.int v), h) else none
  | _ => none
theorem ox_lvL {d maxL : Nat} (hd : d ≤ 1000) (hm : maxL ≤ 41) : d + 1 ≤ room_1.frames ∧ 8 + (maxL + 11) + 60 * d ≤ room_1.locals := by
  show d + 1 ≤ 2048 ∧ 8 + (maxL + 11) + 60 * d ≤ 84000
  omega
section SLAW0
variable {p : Program} {l : Launch} {e : Env} {s : State} {m : MethodId} {b : Nat} {below : List Frame} {meth : Method} {c : Code} {g : ox_G} {c0 t0 pc : Nat}
theorem s_law (C : ox_C p s m #[Value.ref b] c g 4 code RL) (hr : meth.sig.returnType = ret) (hlk : meth.locks = false) (hB : g.1 = s.heap.size) (d : decode code pc = .ok (.ireturn, 1)) : ox_S p l e room_1 s m #[Value.ref b] below meth c g 4 c0 t0 (fun _ => lw_Z below #[Value.ref b] s) pc o_law := by
  intro lv st h r e
  unfold o_law at e
  split at e
  · next v =>
    split at e
    · next hv =>
      cases e
      subst hv
      refine ⟨ox_le.rf, fun H locs ls a1 a2 a3 a4 => ?_⟩
      obtain ⟨b1, b2, b3, b4⟩ := a4
      have z3 : ox_n h ≤ 600000 + c0 := b3
      have z4 : ox_t h ≤ 7302250 + t0 := b4
      refine va_forget (fun q hq => by
        have := a2.2.2 q hq
        unfold ox_A at this
        rw [hB] at this
        exact this) ?_
      refine W.widen (k := 600000) (n := 7302250) (by omega) (by omega) ?_
      exact lw_ret C.1 C.2.1 hr hlk d
    · cases e
  · cases e
end SLAW0
theorem dL_law_0 : decode cL_law 0 = .ok (.new 7, 3) := by decide +kernel
theorem dL_law_3 : decode cL_law 3 = .ok (.dup, 1) := by decide +kernel
theorem dL_law_4 : decode cL_law 4 = .ok (.invokespecial 9, 3) := by decide +kernel
theorem dL_law_7 : decode cL_law 7 = .ok (.astore_n 1, 1) := by decide +kernel
theorem dL_law_8 : decode cL_law 8 = .ok (.new 10, 3) := by decide +kernel
theorem dL_law_11 : decode cL_law 11 = .ok (.dup, 1) := by decide +kernel
theorem dL_law_12 : decode cL_law 12 = .ok (.invokespecial 12, 3) := by decide +kernel
theorem dL_law_15 : decode cL_law 15 = .ok (.astore_n 2, 1) := by decide +kernel
theorem dL_law_16 : decode cL_law 16 = .ok (.iconst 0, 1) := by decide +kernel
theorem dL_law_17 : decode cL_law 17 = .ok (.istore_n 3, 1) := by decide +kernel
theorem dL_law_18 : decode cL_law 18 = .ok (.iload_n 3, 1) := by decide +kernel
theorem dL_law_19 : decode cL_law 19 = .ok (.aload_n 0, 1) := by decide +kernel
theorem dL_law_20 : decode cL_law 20 = .ok (.arraylength, 1) := by decide +kernel
theorem dL_law_21 : decode cL_law 21 = .ok (.bipush 6, 2) := by decide +kernel
theorem dL_law_23 : decode cL_law 23 = .ok (.isub, 1) := by decide +kernel
theorem dL_law_24 : decode cL_law 24 = .ok (.if_icmp .gt 1120, 3) := by decide +kernel
theorem dL_law_27 : decode cL_law 27 = .ok (.aload_n 0, 1) := by decide +kernel
theorem dL_law_28 : decode cL_law 28 = .ok (.iload_n 3, 1) := by decide +kernel
theorem dL_law_29 : decode cL_law 29 = .ok (.iaload, 1) := by decide +kernel
theorem dL_law_30 : decode cL_law 30 = .ok (.bipush 31, 2) := by decide +kernel
theorem dL_law_32 : decode cL_law 32 = .ok (.iand, 1) := by decide +kernel
theorem dL_law_33 : decode cL_law 33 = .ok (.tableswitch 1105 0 29 #[135, 178, 221, 284, 307, 370, 383, 396, 449, 512, 535, 558, 591, 614, 647, 670, 703, 716, 749, 772, 795, 818, 841, 904, 957, 980, 1013, 1046, 1069, 1092], 135) := by decide +kernel
theorem dL_law_168 : decode cL_law 168 = .ok (.aload_n 1, 1) := by decide +kernel
theorem dL_law_169 : decode cL_law 169 = .ok (.aload_n 0, 1) := by decide +kernel
theorem dL_law_170 : decode cL_law 170 = .ok (.iload_n 3, 1) := by decide +kernel
theorem dL_law_171 : decode cL_law 171 = .ok (.iconst 1, 1) := by decide +kernel
theorem dL_law_172 : decode cL_law 172 = .ok (.iadd, 1) := by decide +kernel
theorem dL_law_173 : decode cL_law 173 = .ok (.iaload, 1) := by decide +kernel
theorem dL_law_174 : decode cL_law 174 = .ok (.aload_n 0, 1) := by decide +kernel
theorem dL_law_175 : decode cL_law 175 = .ok (.iload_n 3, 1) := by decide +kernel
theorem dL_law_176 : decode cL_law 176 = .ok (.iconst 2, 1) := by decide +kernel
theorem dL_law_177 : decode cL_law 177 = .ok (.iadd, 1) := by decide +kernel
theorem dL_law_178 : decode cL_law 178 = .ok (.iaload, 1) := by decide +kernel
theorem dL_law_179 : decode cL_law 179 = .ok (.aload_n 0, 1) := by decide +kernel
theorem dL_law_180 : decode cL_law 180 = .ok (.iload_n 3, 1) := by decide +kernel
theorem dL_law_181 : decode cL_law 181 = .ok (.iconst 3, 1) := by decide +kernel
theorem dL_law_182 : decode cL_law 182 = .ok (.iadd, 1) := by decide +kernel
theorem dL_law_183 : decode cL_law 183 = .ok (.iaload, 1) := by decide +kernel
theorem dL_law_184 : decode cL_law 184 = .ok (.invokevirtual 13, 3) := by decide +kernel
theorem dL_law_187 : decode cL_law 187 = .ok (.aload_n 2, 1) := by decide +kernel
theorem dL_law_188 : decode cL_law 188 = .ok (.aload_n 0, 1) := by decide +kernel
theorem dL_law_189 : decode cL_law 189 = .ok (.iload_n 3, 1) := by decide +kernel
theorem dL_law_190 : decode cL_law 190 = .ok (.iconst 1, 1) := by decide +kernel
theorem dL_law_191 : decode cL_law 191 = .ok (.iadd, 1) := by decide +kernel
theorem dL_law_192 : decode cL_law 192 = .ok (.iaload, 1) := by decide +kernel
theorem dL_law_193 : decode cL_law 193 = .ok (.aload_n 0, 1) := by decide +kernel
theorem dL_law_194 : decode cL_law 194 = .ok (.iload_n 3, 1) := by decide +kernel
theorem dL_law_195 : decode cL_law 195 = .ok (.iconst 2, 1) := by decide +kernel
theorem dL_law_196 : decode cL_law 196 = .ok (.iadd, 1) := by decide +kernel
theorem dL_law_197 : decode cL_law 197 = .ok (.iaload, 1) := by decide +kernel
theorem dL_law_198 : decode cL_law 198 = .ok (.aload_n 0, 1) := by decide +kernel
theorem dL_law_199 : decode cL_law 199 = .ok (.iload_n 3, 1) := by decide +kernel
theorem dL_law_200 : decode cL_law 200 = .ok (.iconst 3, 1) := by decide +kernel
theorem dL_law_201 : decode cL_law 201 = .ok (.iadd, 1) := by decide +kernel
theorem dL_law_202 : decode cL_law 202 = .ok (.iaload, 1) := by decide +kernel
theorem dL_law_203 : decode cL_law 203 = .ok (.invokevirtual 17, 3) := by decide +kernel
theorem dL_law_206 : decode cL_law 206 = .ok (.if_icmp .eq 932, 3) := by decide +kernel
theorem dL_law_209 : decode cL_law 209 = .ok (.iconst 0, 1) := by decide +kernel
theorem dL_law_210 : decode cL_law 210 = .ok (.ireturn, 1) := by decide +kernel
theorem dL_law_211 : decode cL_law 211 = .ok (.aload_n 1, 1) := by decide +kernel
theorem dL_law_212 : decode cL_law 212 = .ok (.aload_n 0, 1) := by decide +kernel
theorem dL_law_213 : decode cL_law 213 = .ok (.iload_n 3, 1) := by decide +kernel
theorem dL_law_214 : decode cL_law 214 = .ok (.iconst 1, 1) := by decide +kernel
theorem dL_law_215 : decode cL_law 215 = .ok (.iadd, 1) := by decide +kernel
theorem dL_law_216 : decode cL_law 216 = .ok (.iaload, 1) := by decide +kernel
theorem dL_law_217 : decode cL_law 217 = .ok (.aload_n 0, 1) := by decide +kernel
theorem dL_law_218 : decode cL_law 218 = .ok (.iload_n 3, 1) := by decide +kernel
theorem dL_law_219 : decode cL_law 219 = .ok (.iconst 2, 1) := by decide +kernel
theorem dL_law_220 : decode cL_law 220 = .ok (.iadd, 1) := by decide +kernel
theorem dL_law_221 : decode cL_law 221 = .ok (.iaload, 1) := by decide +kernel
theorem dL_law_222 : decode cL_law 222 = .ok (.aload_n 0, 1) := by decide +kernel
theorem dL_law_223 : decode cL_law 223 = .ok (.iload_n 3, 1) := by decide +kernel
theorem dL_law_224 : decode cL_law 224 = .ok (.iconst 3, 1) := by decide +kernel
theorem dL_law_225 : decode cL_law 225 = .ok (.iadd, 1) := by decide +kernel
theorem dL_law_226 : decode cL_law 226 = .ok (.iaload, 1) := by decide +kernel
theorem dL_law_227 : decode cL_law 227 = .ok (.invokevirtual 18, 3) := by decide +kernel
theorem dL_law_230 : decode cL_law 230 = .ok (.aload_n 2, 1) := by decide +kernel
theorem dL_law_231 : decode cL_law 231 = .ok (.aload_n 0, 1) := by decide +kernel
theorem dL_law_232 : decode cL_law 232 = .ok (.iload_n 3, 1) := by decide +kernel
theorem dL_law_233 : decode cL_law 233 = .ok (.iconst 1, 1) := by decide +kernel
theorem dL_law_234 : decode cL_law 234 = .ok (.iadd, 1) := by decide +kernel
theorem dL_law_235 : decode cL_law 235 = .ok (.iaload, 1) := by decide +kernel
theorem dL_law_236 : decode cL_law 236 = .ok (.aload_n 0, 1) := by decide +kernel
theorem dL_law_237 : decode cL_law 237 = .ok (.iload_n 3, 1) := by decide +kernel
theorem dL_law_238 : decode cL_law 238 = .ok (.iconst 2, 1) := by decide +kernel
theorem dL_law_239 : decode cL_law 239 = .ok (.iadd, 1) := by decide +kernel
theorem dL_law_240 : decode cL_law 240 = .ok (.iaload, 1) := by decide +kernel
theorem dL_law_241 : decode cL_law 241 = .ok (.aload_n 0, 1) := by decide +kernel
theorem dL_law_242 : decode cL_law 242 = .ok (.iload_n 3, 1) := by decide +kernel
theorem dL_law_243 : decode cL_law 243 = .ok (.iconst 3, 1) := by decide +kernel
theorem dL_law_244 : decode cL_law 244 = .ok (.iadd, 1) := by decide +kernel
theorem dL_law_245 : decode cL_law 245 = .ok (.iaload, 1) := by decide +kernel
theorem dL_law_246 : decode cL_law 246 = .ok (.invokevirtual 21, 3) := by decide +kernel
theorem dL_law_249 : decode cL_law 249 = .ok (.if_icmp .eq 889, 3) := by decide +kernel
theorem dL_law_252 : decode cL_law 252 = .ok (.iconst 0, 1) := by decide +kernel
theorem dL_law_253 : decode cL_law 253 = .ok (.ireturn, 1) := by decide +kernel
theorem dL_law_254 : decode cL_law 254 = .ok (.aload_n 1, 1) := by decide +kernel
theorem dL_law_255 : decode cL_law 255 = .ok (.aload_n 0, 1) := by decide +kernel
theorem dL_law_256 : decode cL_law 256 = .ok (.iload_n 3, 1) := by decide +kernel
theorem dL_law_257 : decode cL_law 257 = .ok (.iconst 1, 1) := by decide +kernel
theorem dL_law_258 : decode cL_law 258 = .ok (.iadd, 1) := by decide +kernel
theorem dL_law_259 : decode cL_law 259 = .ok (.iaload, 1) := by decide +kernel
theorem dL_law_260 : decode cL_law 260 = .ok (.aload_n 0, 1) := by decide +kernel
theorem dL_law_261 : decode cL_law 261 = .ok (.iload_n 3, 1) := by decide +kernel
theorem dL_law_262 : decode cL_law 262 = .ok (.iconst 2, 1) := by decide +kernel
theorem dL_law_263 : decode cL_law 263 = .ok (.iadd, 1) := by decide +kernel
theorem dL_law_264 : decode cL_law 264 = .ok (.iaload, 1) := by decide +kernel
theorem dL_law_265 : decode cL_law 265 = .ok (.aload_n 0, 1) := by decide +kernel
theorem dL_law_266 : decode cL_law 266 = .ok (.iload_n 3, 1) := by decide +kernel
theorem dL_law_267 : decode cL_law 267 = .ok (.iconst 3, 1) := by decide +kernel
theorem dL_law_268 : decode cL_law 268 = .ok (.iadd, 1) := by decide +kernel
theorem dL_law_269 : decode cL_law 269 = .ok (.iaload, 1) := by decide +kernel
theorem dL_law_270 : decode cL_law 270 = .ok (.aload_n 0, 1) := by decide +kernel
theorem dL_law_271 : decode cL_law 271 = .ok (.iload_n 3, 1) := by decide +kernel
theorem dL_law_272 : decode cL_law 272 = .ok (.iconst 4, 1) := by decide +kernel
theorem dL_law_273 : decode cL_law 273 = .ok (.iadd, 1) := by decide +kernel
theorem dL_law_274 : decode cL_law 274 = .ok (.iaload, 1) := by decide +kernel
theorem dL_law_275 : decode cL_law 275 = .ok (.aload_n 0, 1) := by decide +kernel
theorem dL_law_276 : decode cL_law 276 = .ok (.iload_n 3, 1) := by decide +kernel
theorem dL_law_277 : decode cL_law 277 = .ok (.iconst 5, 1) := by decide +kernel
theorem dL_law_278 : decode cL_law 278 = .ok (.iadd, 1) := by decide +kernel
theorem dL_law_279 : decode cL_law 279 = .ok (.iaload, 1) := by decide +kernel
theorem dL_law_280 : decode cL_law 280 = .ok (.invokevirtual 22, 3) := by decide +kernel
theorem dL_law_283 : decode cL_law 283 = .ok (.aload_n 2, 1) := by decide +kernel
theorem dL_law_284 : decode cL_law 284 = .ok (.aload_n 0, 1) := by decide +kernel
theorem dL_law_285 : decode cL_law 285 = .ok (.iload_n 3, 1) := by decide +kernel
theorem dL_law_286 : decode cL_law 286 = .ok (.iconst 1, 1) := by decide +kernel
theorem dL_law_287 : decode cL_law 287 = .ok (.iadd, 1) := by decide +kernel
theorem dL_law_288 : decode cL_law 288 = .ok (.iaload, 1) := by decide +kernel
theorem dL_law_289 : decode cL_law 289 = .ok (.aload_n 0, 1) := by decide +kernel
theorem dL_law_290 : decode cL_law 290 = .ok (.iload_n 3, 1) := by decide +kernel
theorem dL_law_291 : decode cL_law 291 = .ok (.iconst 2, 1) := by decide +kernel
theorem dL_law_292 : decode cL_law 292 = .ok (.iadd, 1) := by decide +kernel
theorem dL_law_293 : decode cL_law 293 = .ok (.iaload, 1) := by decide +kernel
theorem dL_law_294 : decode cL_law 294 = .ok (.aload_n 0, 1) := by decide +kernel
theorem dL_law_295 : decode cL_law 295 = .ok (.iload_n 3, 1) := by decide +kernel
theorem dL_law_296 : decode cL_law 296 = .ok (.iconst 3, 1) := by decide +kernel
theorem dL_law_297 : decode cL_law 297 = .ok (.iadd, 1) := by decide +kernel
theorem dL_law_298 : decode cL_law 298 = .ok (.iaload, 1) := by decide +kernel
theorem dL_law_299 : decode cL_law 299 = .ok (.aload_n 0, 1) := by decide +kernel
theorem dL_law_300 : decode cL_law 300 = .ok (.iload_n 3, 1) := by decide +kernel
theorem dL_law_301 : decode cL_law 301 = .ok (.iconst 4, 1) := by decide +kernel
theorem dL_law_302 : decode cL_law 302 = .ok (.iadd, 1) := by decide +kernel
theorem dL_law_303 : decode cL_law 303 = .ok (.iaload, 1) := by decide +kernel
theorem dL_law_304 : decode cL_law 304 = .ok (.aload_n 0, 1) := by decide +kernel
theorem dL_law_305 : decode cL_law 305 = .ok (.iload_n 3, 1) := by decide +kernel
theorem dL_law_306 : decode cL_law 306 = .ok (.iconst 5, 1) := by decide +kernel
theorem dL_law_307 : decode cL_law 307 = .ok (.iadd, 1) := by decide +kernel
theorem dL_law_308 : decode cL_law 308 = .ok (.iaload, 1) := by decide +kernel
theorem dL_law_309 : decode cL_law 309 = .ok (.invokevirtual 26, 3) := by decide +kernel
theorem dL_law_312 : decode cL_law 312 = .ok (.if_icmp .eq 826, 3) := by decide +kernel
theorem dL_law_315 : decode cL_law 315 = .ok (.iconst 0, 1) := by decide +kernel
theorem dL_law_316 : decode cL_law 316 = .ok (.ireturn, 1) := by decide +kernel
theorem dL_law_317 : decode cL_law 317 = .ok (.aload_n 1, 1) := by decide +kernel
theorem dL_law_318 : decode cL_law 318 = .ok (.aload_n 0, 1) := by decide +kernel
theorem dL_law_319 : decode cL_law 319 = .ok (.iload_n 3, 1) := by decide +kernel
theorem dL_law_320 : decode cL_law 320 = .ok (.iconst 1, 1) := by decide +kernel
theorem dL_law_321 : decode cL_law 321 = .ok (.iadd, 1) := by decide +kernel
theorem dL_law_322 : decode cL_law 322 = .ok (.iaload, 1) := by decide +kernel
theorem dL_law_323 : decode cL_law 323 = .ok (.invokevirtual 27, 3) := by decide +kernel
theorem dL_law_326 : decode cL_law 326 = .ok (.aload_n 2, 1) := by decide +kernel
theorem dL_law_327 : decode cL_law 327 = .ok (.aload_n 0, 1) := by decide +kernel
theorem dL_law_328 : decode cL_law 328 = .ok (.iload_n 3, 1) := by decide +kernel
theorem dL_law_329 : decode cL_law 329 = .ok (.iconst 1, 1) := by decide +kernel
theorem dL_law_330 : decode cL_law 330 = .ok (.iadd, 1) := by decide +kernel
theorem dL_law_331 : decode cL_law 331 = .ok (.iaload, 1) := by decide +kernel
theorem dL_law_332 : decode cL_law 332 = .ok (.invokevirtual 31, 3) := by decide +kernel
theorem dL_law_335 : decode cL_law 335 = .ok (.if_icmp .eq 803, 3) := by decide +kernel
theorem dL_law_338 : decode cL_law 338 = .ok (.iconst 0, 1) := by decide +kernel
theorem dL_law_339 : decode cL_law 339 = .ok (.ireturn, 1) := by decide +kernel
theorem dL_law_340 : decode cL_law 340 = .ok (.aload_n 1, 1) := by decide +kernel
theorem dL_law_341 : decode cL_law 341 = .ok (.aload_n 0, 1) := by decide +kernel
theorem dL_law_342 : decode cL_law 342 = .ok (.iload_n 3, 1) := by decide +kernel
theorem dL_law_343 : decode cL_law 343 = .ok (.iconst 1, 1) := by decide +kernel
theorem dL_law_344 : decode cL_law 344 = .ok (.iadd, 1) := by decide +kernel
theorem dL_law_345 : decode cL_law 345 = .ok (.iaload, 1) := by decide +kernel
theorem dL_law_346 : decode cL_law 346 = .ok (.i2l, 1) := by decide +kernel
theorem dL_law_347 : decode cL_law 347 = .ok (.bipush 32, 2) := by decide +kernel
theorem dL_law_349 : decode cL_law 349 = .ok (.lshl, 1) := by decide +kernel
theorem dL_law_350 : decode cL_law 350 = .ok (.aload_n 0, 1) := by decide +kernel
theorem dL_law_351 : decode cL_law 351 = .ok (.iload_n 3, 1) := by decide +kernel
theorem dL_law_352 : decode cL_law 352 = .ok (.iconst 2, 1) := by decide +kernel
theorem dL_law_353 : decode cL_law 353 = .ok (.iadd, 1) := by decide +kernel
theorem dL_law_354 : decode cL_law 354 = .ok (.iaload, 1) := by decide +kernel
theorem dL_law_355 : decode cL_law 355 = .ok (.i2l, 1) := by decide +kernel
theorem dL_law_356 : decode cL_law 356 = .ok (.ldc2_w 32, 3) := by decide +kernel
theorem dL_law_359 : decode cL_law 359 = .ok (.land, 1) := by decide +kernel
theorem dL_law_360 : decode cL_law 360 = .ok (.lor, 1) := by decide +kernel
theorem dL_law_361 : decode cL_law 361 = .ok (.aload_n 0, 1) := by decide +kernel
theorem dL_law_362 : decode cL_law 362 = .ok (.iload_n 3, 1) := by decide +kernel
theorem dL_law_363 : decode cL_law 363 = .ok (.iconst 3, 1) := by decide +kernel
theorem dL_law_364 : decode cL_law 364 = .ok (.iadd, 1) := by decide +kernel
theorem dL_law_365 : decode cL_law 365 = .ok (.iaload, 1) := by decide +kernel
theorem dL_law_366 : decode cL_law 366 = .ok (.invokevirtual 34, 3) := by decide +kernel
theorem dL_law_369 : decode cL_law 369 = .ok (.aload_n 2, 1) := by decide +kernel
theorem dL_law_370 : decode cL_law 370 = .ok (.aload_n 0, 1) := by decide +kernel
theorem dL_law_371 : decode cL_law 371 = .ok (.iload_n 3, 1) := by decide +kernel
theorem dL_law_372 : decode cL_law 372 = .ok (.iconst 1, 1) := by decide +kernel
theorem dL_law_373 : decode cL_law 373 = .ok (.iadd, 1) := by decide +kernel
theorem dL_law_374 : decode cL_law 374 = .ok (.iaload, 1) := by decide +kernel
theorem dL_law_375 : decode cL_law 375 = .ok (.i2l, 1) := by decide +kernel
theorem dL_law_376 : decode cL_law 376 = .ok (.bipush 32, 2) := by decide +kernel
theorem dL_law_378 : decode cL_law 378 = .ok (.lshl, 1) := by decide +kernel
theorem dL_law_379 : decode cL_law 379 = .ok (.aload_n 0, 1) := by decide +kernel
theorem dL_law_380 : decode cL_law 380 = .ok (.iload_n 3, 1) := by decide +kernel
theorem dL_law_381 : decode cL_law 381 = .ok (.iconst 2, 1) := by decide +kernel
theorem dL_law_382 : decode cL_law 382 = .ok (.iadd, 1) := by decide +kernel
theorem dL_law_383 : decode cL_law 383 = .ok (.iaload, 1) := by decide +kernel
theorem dL_law_384 : decode cL_law 384 = .ok (.i2l, 1) := by decide +kernel
theorem dL_law_385 : decode cL_law 385 = .ok (.ldc2_w 32, 3) := by decide +kernel
theorem dL_law_388 : decode cL_law 388 = .ok (.land, 1) := by decide +kernel
theorem dL_law_389 : decode cL_law 389 = .ok (.lor, 1) := by decide +kernel
theorem dL_law_390 : decode cL_law 390 = .ok (.aload_n 0, 1) := by decide +kernel
theorem dL_law_391 : decode cL_law 391 = .ok (.iload_n 3, 1) := by decide +kernel
theorem dL_law_392 : decode cL_law 392 = .ok (.iconst 3, 1) := by decide +kernel
theorem dL_law_393 : decode cL_law 393 = .ok (.iadd, 1) := by decide +kernel
theorem dL_law_394 : decode cL_law 394 = .ok (.iaload, 1) := by decide +kernel
theorem dL_law_395 : decode cL_law 395 = .ok (.invokevirtual 38, 3) := by decide +kernel
theorem dL_law_398 : decode cL_law 398 = .ok (.if_icmp .eq 740, 3) := by decide +kernel
theorem dL_law_401 : decode cL_law 401 = .ok (.iconst 0, 1) := by decide +kernel
theorem dL_law_402 : decode cL_law 402 = .ok (.ireturn, 1) := by decide +kernel
theorem dL_law_403 : decode cL_law 403 = .ok (.aload_n 1, 1) := by decide +kernel
theorem dL_law_404 : decode cL_law 404 = .ok (.invokevirtual 39, 3) := by decide +kernel
theorem dL_law_407 : decode cL_law 407 = .ok (.aload_n 2, 1) := by decide +kernel
theorem dL_law_408 : decode cL_law 408 = .ok (.invokevirtual 43, 3) := by decide +kernel
theorem dL_law_411 : decode cL_law 411 = .ok (.if_icmp .eq 727, 3) := by decide +kernel
theorem dL_law_414 : decode cL_law 414 = .ok (.iconst 0, 1) := by decide +kernel
theorem dL_law_415 : decode cL_law 415 = .ok (.ireturn, 1) := by decide +kernel
theorem dL_law_416 : decode cL_law 416 = .ok (.aload_n 1, 1) := by decide +kernel
theorem dL_law_417 : decode cL_law 417 = .ok (.invokevirtual 44, 3) := by decide +kernel
theorem dL_law_420 : decode cL_law 420 = .ok (.aload_n 2, 1) := by decide +kernel
theorem dL_law_421 : decode cL_law 421 = .ok (.invokevirtual 47, 3) := by decide +kernel
theorem dL_law_424 : decode cL_law 424 = .ok (.if_icmp .eq 714, 3) := by decide +kernel
theorem dL_law_427 : decode cL_law 427 = .ok (.iconst 0, 1) := by decide +kernel
theorem dL_law_428 : decode cL_law 428 = .ok (.ireturn, 1) := by decide +kernel
theorem dL_law_429 : decode cL_law 429 = .ok (.aload_n 1, 1) := by decide +kernel
theorem dL_law_430 : decode cL_law 430 = .ok (.aload_n 0, 1) := by decide +kernel
theorem dL_law_431 : decode cL_law 431 = .ok (.iload_n 3, 1) := by decide +kernel
theorem dL_law_432 : decode cL_law 432 = .ok (.iconst 1, 1) := by decide +kernel
theorem dL_law_433 : decode cL_law 433 = .ok (.iadd, 1) := by decide +kernel
theorem dL_law_434 : decode cL_law 434 = .ok (.iaload, 1) := by decide +kernel
theorem dL_law_435 : decode cL_law 435 = .ok (.aload_n 0, 1) := by decide +kernel
theorem dL_law_436 : decode cL_law 436 = .ok (.iload_n 3, 1) := by decide +kernel
theorem dL_law_437 : decode cL_law 437 = .ok (.iconst 2, 1) := by decide +kernel
theorem dL_law_438 : decode cL_law 438 = .ok (.iadd, 1) := by decide +kernel
theorem dL_law_439 : decode cL_law 439 = .ok (.iaload, 1) := by decide +kernel
theorem dL_law_440 : decode cL_law 440 = .ok (.aload_n 0, 1) := by decide +kernel
theorem dL_law_441 : decode cL_law 441 = .ok (.iload_n 3, 1) := by decide +kernel
theorem dL_law_442 : decode cL_law 442 = .ok (.iconst 3, 1) := by decide +kernel
theorem dL_law_443 : decode cL_law 443 = .ok (.iadd, 1) := by decide +kernel
theorem dL_law_444 : decode cL_law 444 = .ok (.iaload, 1) := by decide +kernel
theorem dL_law_445 : decode cL_law 445 = .ok (.aload_n 0, 1) := by decide +kernel
theorem dL_law_446 : decode cL_law 446 = .ok (.iload_n 3, 1) := by decide +kernel
theorem dL_law_447 : decode cL_law 447 = .ok (.iconst 4, 1) := by decide +kernel
theorem dL_law_448 : decode cL_law 448 = .ok (.iadd, 1) := by decide +kernel
theorem dL_law_449 : decode cL_law 449 = .ok (.iaload, 1) := by decide +kernel
theorem dL_law_450 : decode cL_law 450 = .ok (.invokevirtual 48, 3) := by decide +kernel
theorem dL_law_453 : decode cL_law 453 = .ok (.aload_n 2, 1) := by decide +kernel
theorem dL_law_454 : decode cL_law 454 = .ok (.aload_n 0, 1) := by decide +kernel
theorem dL_law_455 : decode cL_law 455 = .ok (.iload_n 3, 1) := by decide +kernel
theorem dL_law_456 : decode cL_law 456 = .ok (.iconst 1, 1) := by decide +kernel
theorem dL_law_457 : decode cL_law 457 = .ok (.iadd, 1) := by decide +kernel
theorem dL_law_458 : decode cL_law 458 = .ok (.iaload, 1) := by decide +kernel
theorem dL_law_459 : decode cL_law 459 = .ok (.aload_n 0, 1) := by decide +kernel
theorem dL_law_460 : decode cL_law 460 = .ok (.iload_n 3, 1) := by decide +kernel
theorem dL_law_461 : decode cL_law 461 = .ok (.iconst 2, 1) := by decide +kernel
theorem dL_law_462 : decode cL_law 462 = .ok (.iadd, 1) := by decide +kernel
theorem dL_law_463 : decode cL_law 463 = .ok (.iaload, 1) := by decide +kernel
theorem dL_law_464 : decode cL_law 464 = .ok (.aload_n 0, 1) := by decide +kernel
theorem dL_law_465 : decode cL_law 465 = .ok (.iload_n 3, 1) := by decide +kernel
theorem dL_law_466 : decode cL_law 466 = .ok (.iconst 3, 1) := by decide +kernel
theorem dL_law_467 : decode cL_law 467 = .ok (.iadd, 1) := by decide +kernel
theorem dL_law_468 : decode cL_law 468 = .ok (.iaload, 1) := by decide +kernel
theorem dL_law_469 : decode cL_law 469 = .ok (.aload_n 0, 1) := by decide +kernel
theorem dL_law_470 : decode cL_law 470 = .ok (.iload_n 3, 1) := by decide +kernel
theorem dL_law_471 : decode cL_law 471 = .ok (.iconst 4, 1) := by decide +kernel
theorem dL_law_472 : decode cL_law 472 = .ok (.iadd, 1) := by decide +kernel
theorem dL_law_473 : decode cL_law 473 = .ok (.iaload, 1) := by decide +kernel
theorem dL_law_474 : decode cL_law 474 = .ok (.invokevirtual 52, 3) := by decide +kernel
theorem dL_law_477 : decode cL_law 477 = .ok (.if_icmp .eq 661, 3) := by decide +kernel
theorem dL_law_480 : decode cL_law 480 = .ok (.iconst 0, 1) := by decide +kernel
theorem dL_law_481 : decode cL_law 481 = .ok (.ireturn, 1) := by decide +kernel
theorem dL_law_482 : decode cL_law 482 = .ok (.aload_n 1, 1) := by decide +kernel
theorem dL_law_483 : decode cL_law 483 = .ok (.aload_n 0, 1) := by decide +kernel
theorem dL_law_484 : decode cL_law 484 = .ok (.iload_n 3, 1) := by decide +kernel
theorem dL_law_485 : decode cL_law 485 = .ok (.iconst 1, 1) := by decide +kernel
theorem dL_law_486 : decode cL_law 486 = .ok (.iadd, 1) := by decide +kernel
theorem dL_law_487 : decode cL_law 487 = .ok (.iaload, 1) := by decide +kernel
theorem dL_law_488 : decode cL_law 488 = .ok (.aload_n 0, 1) := by decide +kernel
theorem dL_law_489 : decode cL_law 489 = .ok (.iload_n 3, 1) := by decide +kernel
theorem dL_law_490 : decode cL_law 490 = .ok (.iconst 2, 1) := by decide +kernel
theorem dL_law_491 : decode cL_law 491 = .ok (.iadd, 1) := by decide +kernel
theorem dL_law_492 : decode cL_law 492 = .ok (.iaload, 1) := by decide +kernel
theorem dL_law_493 : decode cL_law 493 = .ok (.aload_n 0, 1) := by decide +kernel
theorem dL_law_494 : decode cL_law 494 = .ok (.iload_n 3, 1) := by decide +kernel
theorem dL_law_495 : decode cL_law 495 = .ok (.iconst 3, 1) := by decide +kernel
theorem dL_law_496 : decode cL_law 496 = .ok (.iadd, 1) := by decide +kernel
theorem dL_law_497 : decode cL_law 497 = .ok (.iaload, 1) := by decide +kernel
theorem dL_law_498 : decode cL_law 498 = .ok (.aload_n 0, 1) := by decide +kernel
theorem dL_law_499 : decode cL_law 499 = .ok (.iload_n 3, 1) := by decide +kernel
theorem dL_law_500 : decode cL_law 500 = .ok (.iconst 4, 1) := by decide +kernel
theorem dL_law_501 : decode cL_law 501 = .ok (.iadd, 1) := by decide +kernel
theorem dL_law_502 : decode cL_law 502 = .ok (.iaload, 1) := by decide +kernel
theorem dL_law_503 : decode cL_law 503 = .ok (.aload_n 0, 1) := by decide +kernel
theorem dL_law_504 : decode cL_law 504 = .ok (.iload_n 3, 1) := by decide +kernel
theorem dL_law_505 : decode cL_law 505 = .ok (.iconst 5, 1) := by decide +kernel
theorem dL_law_506 : decode cL_law 506 = .ok (.iadd, 1) := by decide +kernel
theorem dL_law_507 : decode cL_law 507 = .ok (.iaload, 1) := by decide +kernel
theorem dL_law_508 : decode cL_law 508 = .ok (.invokevirtual 53, 3) := by decide +kernel
theorem dL_law_511 : decode cL_law 511 = .ok (.aload_n 2, 1) := by decide +kernel
theorem dL_law_512 : decode cL_law 512 = .ok (.aload_n 0, 1) := by decide +kernel
theorem dL_law_513 : decode cL_law 513 = .ok (.iload_n 3, 1) := by decide +kernel
theorem dL_law_514 : decode cL_law 514 = .ok (.iconst 1, 1) := by decide +kernel
theorem dL_law_515 : decode cL_law 515 = .ok (.iadd, 1) := by decide +kernel
theorem dL_law_516 : decode cL_law 516 = .ok (.iaload, 1) := by decide +kernel
theorem dL_law_517 : decode cL_law 517 = .ok (.aload_n 0, 1) := by decide +kernel
theorem dL_law_518 : decode cL_law 518 = .ok (.iload_n 3, 1) := by decide +kernel
theorem dL_law_519 : decode cL_law 519 = .ok (.iconst 2, 1) := by decide +kernel
theorem dL_law_520 : decode cL_law 520 = .ok (.iadd, 1) := by decide +kernel
theorem dL_law_521 : decode cL_law 521 = .ok (.iaload, 1) := by decide +kernel
theorem dL_law_522 : decode cL_law 522 = .ok (.aload_n 0, 1) := by decide +kernel
theorem dL_law_523 : decode cL_law 523 = .ok (.iload_n 3, 1) := by decide +kernel
theorem dL_law_524 : decode cL_law 524 = .ok (.iconst 3, 1) := by decide +kernel
theorem dL_law_525 : decode cL_law 525 = .ok (.iadd, 1) := by decide +kernel
theorem dL_law_526 : decode cL_law 526 = .ok (.iaload, 1) := by decide +kernel
theorem dL_law_527 : decode cL_law 527 = .ok (.aload_n 0, 1) := by decide +kernel
theorem dL_law_528 : decode cL_law 528 = .ok (.iload_n 3, 1) := by decide +kernel
theorem dL_law_529 : decode cL_law 529 = .ok (.iconst 4, 1) := by decide +kernel
theorem dL_law_530 : decode cL_law 530 = .ok (.iadd, 1) := by decide +kernel
theorem dL_law_531 : decode cL_law 531 = .ok (.iaload, 1) := by decide +kernel
theorem dL_law_532 : decode cL_law 532 = .ok (.aload_n 0, 1) := by decide +kernel
theorem dL_law_533 : decode cL_law 533 = .ok (.iload_n 3, 1) := by decide +kernel
theorem dL_law_534 : decode cL_law 534 = .ok (.iconst 5, 1) := by decide +kernel
theorem dL_law_535 : decode cL_law 535 = .ok (.iadd, 1) := by decide +kernel
theorem dL_law_536 : decode cL_law 536 = .ok (.iaload, 1) := by decide +kernel
theorem dL_law_537 : decode cL_law 537 = .ok (.invokevirtual 56, 3) := by decide +kernel
theorem dL_law_540 : decode cL_law 540 = .ok (.if_icmp .eq 598, 3) := by decide +kernel
theorem dL_law_543 : decode cL_law 543 = .ok (.iconst 0, 1) := by decide +kernel
theorem dL_law_544 : decode cL_law 544 = .ok (.ireturn, 1) := by decide +kernel
theorem dL_law_545 : decode cL_law 545 = .ok (.aload_n 1, 1) := by decide +kernel
theorem dL_law_546 : decode cL_law 546 = .ok (.aload_n 0, 1) := by decide +kernel
theorem dL_law_547 : decode cL_law 547 = .ok (.iload_n 3, 1) := by decide +kernel
theorem dL_law_548 : decode cL_law 548 = .ok (.iconst 1, 1) := by decide +kernel
theorem dL_law_549 : decode cL_law 549 = .ok (.iadd, 1) := by decide +kernel
theorem dL_law_550 : decode cL_law 550 = .ok (.iaload, 1) := by decide +kernel
theorem dL_law_551 : decode cL_law 551 = .ok (.invokevirtual 57, 3) := by decide +kernel
theorem dL_law_554 : decode cL_law 554 = .ok (.aload_n 2, 1) := by decide +kernel
theorem dL_law_555 : decode cL_law 555 = .ok (.aload_n 0, 1) := by decide +kernel
theorem dL_law_556 : decode cL_law 556 = .ok (.iload_n 3, 1) := by decide +kernel
theorem dL_law_557 : decode cL_law 557 = .ok (.iconst 1, 1) := by decide +kernel
theorem dL_law_558 : decode cL_law 558 = .ok (.iadd, 1) := by decide +kernel
theorem dL_law_559 : decode cL_law 559 = .ok (.iaload, 1) := by decide +kernel
theorem dL_law_560 : decode cL_law 560 = .ok (.invokevirtual 60, 3) := by decide +kernel
theorem dL_law_563 : decode cL_law 563 = .ok (.if_icmp .eq 575, 3) := by decide +kernel
theorem dL_law_566 : decode cL_law 566 = .ok (.iconst 0, 1) := by decide +kernel
theorem dL_law_567 : decode cL_law 567 = .ok (.ireturn, 1) := by decide +kernel
theorem dL_law_568 : decode cL_law 568 = .ok (.aload_n 1, 1) := by decide +kernel
theorem dL_law_569 : decode cL_law 569 = .ok (.aload_n 0, 1) := by decide +kernel
theorem dL_law_570 : decode cL_law 570 = .ok (.iload_n 3, 1) := by decide +kernel
theorem dL_law_571 : decode cL_law 571 = .ok (.iconst 1, 1) := by decide +kernel
theorem dL_law_572 : decode cL_law 572 = .ok (.iadd, 1) := by decide +kernel
theorem dL_law_573 : decode cL_law 573 = .ok (.iaload, 1) := by decide +kernel
theorem dL_law_574 : decode cL_law 574 = .ok (.invokevirtual 61, 3) := by decide +kernel
theorem dL_law_577 : decode cL_law 577 = .ok (.aload_n 2, 1) := by decide +kernel
theorem dL_law_578 : decode cL_law 578 = .ok (.aload_n 0, 1) := by decide +kernel
theorem dL_law_579 : decode cL_law 579 = .ok (.iload_n 3, 1) := by decide +kernel
theorem dL_law_580 : decode cL_law 580 = .ok (.iconst 1, 1) := by decide +kernel
theorem dL_law_581 : decode cL_law 581 = .ok (.iadd, 1) := by decide +kernel
theorem dL_law_582 : decode cL_law 582 = .ok (.iaload, 1) := by decide +kernel
theorem dL_law_583 : decode cL_law 583 = .ok (.invokevirtual 64, 3) := by decide +kernel
theorem dL_law_586 : decode cL_law 586 = .ok (.if_icmp .eq 552, 3) := by decide +kernel
theorem dL_law_589 : decode cL_law 589 = .ok (.iconst 0, 1) := by decide +kernel
theorem dL_law_590 : decode cL_law 590 = .ok (.ireturn, 1) := by decide +kernel
theorem dL_law_591 : decode cL_law 591 = .ok (.aload_n 1, 1) := by decide +kernel
theorem dL_law_592 : decode cL_law 592 = .ok (.aload_n 0, 1) := by decide +kernel
theorem dL_law_593 : decode cL_law 593 = .ok (.iload_n 3, 1) := by decide +kernel
theorem dL_law_594 : decode cL_law 594 = .ok (.iconst 1, 1) := by decide +kernel
theorem dL_law_595 : decode cL_law 595 = .ok (.iadd, 1) := by decide +kernel
theorem dL_law_596 : decode cL_law 596 = .ok (.iaload, 1) := by decide +kernel
theorem dL_law_597 : decode cL_law 597 = .ok (.aload_n 0, 1) := by decide +kernel
theorem dL_law_598 : decode cL_law 598 = .ok (.iload_n 3, 1) := by decide +kernel
theorem dL_law_599 : decode cL_law 599 = .ok (.iconst 2, 1) := by decide +kernel
theorem dL_law_600 : decode cL_law 600 = .ok (.iadd, 1) := by decide +kernel
theorem dL_law_601 : decode cL_law 601 = .ok (.iaload, 1) := by decide +kernel
theorem dL_law_602 : decode cL_law 602 = .ok (.invokevirtual 65, 3) := by decide +kernel
theorem dL_law_605 : decode cL_law 605 = .ok (.aload_n 2, 1) := by decide +kernel
theorem dL_law_606 : decode cL_law 606 = .ok (.aload_n 0, 1) := by decide +kernel
theorem dL_law_607 : decode cL_law 607 = .ok (.iload_n 3, 1) := by decide +kernel
theorem dL_law_608 : decode cL_law 608 = .ok (.iconst 1, 1) := by decide +kernel
theorem dL_law_609 : decode cL_law 609 = .ok (.iadd, 1) := by decide +kernel
theorem dL_law_610 : decode cL_law 610 = .ok (.iaload, 1) := by decide +kernel
theorem dL_law_611 : decode cL_law 611 = .ok (.aload_n 0, 1) := by decide +kernel
theorem dL_law_612 : decode cL_law 612 = .ok (.iload_n 3, 1) := by decide +kernel
theorem dL_law_613 : decode cL_law 613 = .ok (.iconst 2, 1) := by decide +kernel
theorem dL_law_614 : decode cL_law 614 = .ok (.iadd, 1) := by decide +kernel
theorem dL_law_615 : decode cL_law 615 = .ok (.iaload, 1) := by decide +kernel
theorem dL_law_616 : decode cL_law 616 = .ok (.invokevirtual 69, 3) := by decide +kernel
theorem dL_law_619 : decode cL_law 619 = .ok (.if_icmp .eq 519, 3) := by decide +kernel
theorem dL_law_622 : decode cL_law 622 = .ok (.iconst 0, 1) := by decide +kernel
theorem dL_law_623 : decode cL_law 623 = .ok (.ireturn, 1) := by decide +kernel
theorem dL_law_624 : decode cL_law 624 = .ok (.aload_n 1, 1) := by decide +kernel
theorem dL_law_625 : decode cL_law 625 = .ok (.aload_n 0, 1) := by decide +kernel
theorem dL_law_626 : decode cL_law 626 = .ok (.iload_n 3, 1) := by decide +kernel
theorem dL_law_627 : decode cL_law 627 = .ok (.iconst 1, 1) := by decide +kernel
theorem dL_law_628 : decode cL_law 628 = .ok (.iadd, 1) := by decide +kernel
theorem dL_law_629 : decode cL_law 629 = .ok (.iaload, 1) := by decide +kernel
theorem dL_law_630 : decode cL_law 630 = .ok (.invokevirtual 70, 3) := by decide +kernel
theorem dL_law_633 : decode cL_law 633 = .ok (.aload_n 2, 1) := by decide +kernel
theorem dL_law_634 : decode cL_law 634 = .ok (.aload_n 0, 1) := by decide +kernel
theorem dL_law_635 : decode cL_law 635 = .ok (.iload_n 3, 1) := by decide +kernel
theorem dL_law_636 : decode cL_law 636 = .ok (.iconst 1, 1) := by decide +kernel
theorem dL_law_637 : decode cL_law 637 = .ok (.iadd, 1) := by decide +kernel
theorem dL_law_638 : decode cL_law 638 = .ok (.iaload, 1) := by decide +kernel
theorem dL_law_639 : decode cL_law 639 = .ok (.invokevirtual 73, 3) := by decide +kernel
theorem dL_law_642 : decode cL_law 642 = .ok (.if_icmp .eq 496, 3) := by decide +kernel
theorem dL_law_645 : decode cL_law 645 = .ok (.iconst 0, 1) := by decide +kernel
theorem dL_law_646 : decode cL_law 646 = .ok (.ireturn, 1) := by decide +kernel
theorem dL_law_647 : decode cL_law 647 = .ok (.aload_n 1, 1) := by decide +kernel
theorem dL_law_648 : decode cL_law 648 = .ok (.aload_n 0, 1) := by decide +kernel
theorem dL_law_649 : decode cL_law 649 = .ok (.iload_n 3, 1) := by decide +kernel
theorem dL_law_650 : decode cL_law 650 = .ok (.iconst 1, 1) := by decide +kernel
theorem dL_law_651 : decode cL_law 651 = .ok (.iadd, 1) := by decide +kernel
theorem dL_law_652 : decode cL_law 652 = .ok (.iaload, 1) := by decide +kernel
theorem dL_law_653 : decode cL_law 653 = .ok (.aload_n 0, 1) := by decide +kernel
theorem dL_law_654 : decode cL_law 654 = .ok (.iload_n 3, 1) := by decide +kernel
theorem dL_law_655 : decode cL_law 655 = .ok (.iconst 2, 1) := by decide +kernel
theorem dL_law_656 : decode cL_law 656 = .ok (.iadd, 1) := by decide +kernel
theorem dL_law_657 : decode cL_law 657 = .ok (.iaload, 1) := by decide +kernel
theorem dL_law_658 : decode cL_law 658 = .ok (.invokevirtual 74, 3) := by decide +kernel
theorem dL_law_661 : decode cL_law 661 = .ok (.aload_n 2, 1) := by decide +kernel
theorem dL_law_662 : decode cL_law 662 = .ok (.aload_n 0, 1) := by decide +kernel
theorem dL_law_663 : decode cL_law 663 = .ok (.iload_n 3, 1) := by decide +kernel
theorem dL_law_664 : decode cL_law 664 = .ok (.iconst 1, 1) := by decide +kernel
theorem dL_law_665 : decode cL_law 665 = .ok (.iadd, 1) := by decide +kernel
theorem dL_law_666 : decode cL_law 666 = .ok (.iaload, 1) := by decide +kernel
theorem dL_law_667 : decode cL_law 667 = .ok (.aload_n 0, 1) := by decide +kernel
theorem dL_law_668 : decode cL_law 668 = .ok (.iload_n 3, 1) := by decide +kernel
theorem dL_law_669 : decode cL_law 669 = .ok (.iconst 2, 1) := by decide +kernel
theorem dL_law_670 : decode cL_law 670 = .ok (.iadd, 1) := by decide +kernel
theorem dL_law_671 : decode cL_law 671 = .ok (.iaload, 1) := by decide +kernel
theorem dL_law_672 : decode cL_law 672 = .ok (.invokevirtual 77, 3) := by decide +kernel
theorem dL_law_675 : decode cL_law 675 = .ok (.if_icmp .eq 463, 3) := by decide +kernel
theorem dL_law_678 : decode cL_law 678 = .ok (.iconst 0, 1) := by decide +kernel
theorem dL_law_679 : decode cL_law 679 = .ok (.ireturn, 1) := by decide +kernel
theorem dL_law_680 : decode cL_law 680 = .ok (.aload_n 1, 1) := by decide +kernel
theorem dL_law_681 : decode cL_law 681 = .ok (.aload_n 0, 1) := by decide +kernel
theorem dL_law_682 : decode cL_law 682 = .ok (.iload_n 3, 1) := by decide +kernel
theorem dL_law_683 : decode cL_law 683 = .ok (.iconst 1, 1) := by decide +kernel
theorem dL_law_684 : decode cL_law 684 = .ok (.iadd, 1) := by decide +kernel
theorem dL_law_685 : decode cL_law 685 = .ok (.iaload, 1) := by decide +kernel
theorem dL_law_686 : decode cL_law 686 = .ok (.invokevirtual 78, 3) := by decide +kernel
theorem dL_law_689 : decode cL_law 689 = .ok (.aload_n 2, 1) := by decide +kernel
theorem dL_law_690 : decode cL_law 690 = .ok (.aload_n 0, 1) := by decide +kernel
theorem dL_law_691 : decode cL_law 691 = .ok (.iload_n 3, 1) := by decide +kernel
theorem dL_law_692 : decode cL_law 692 = .ok (.iconst 1, 1) := by decide +kernel
theorem dL_law_693 : decode cL_law 693 = .ok (.iadd, 1) := by decide +kernel
theorem dL_law_694 : decode cL_law 694 = .ok (.iaload, 1) := by decide +kernel
theorem dL_law_695 : decode cL_law 695 = .ok (.invokevirtual 81, 3) := by decide +kernel
theorem dL_law_698 : decode cL_law 698 = .ok (.if_icmp .eq 440, 3) := by decide +kernel
theorem dL_law_701 : decode cL_law 701 = .ok (.iconst 0, 1) := by decide +kernel
theorem dL_law_702 : decode cL_law 702 = .ok (.ireturn, 1) := by decide +kernel
theorem dL_law_703 : decode cL_law 703 = .ok (.aload_n 1, 1) := by decide +kernel
theorem dL_law_704 : decode cL_law 704 = .ok (.aload_n 0, 1) := by decide +kernel
theorem dL_law_705 : decode cL_law 705 = .ok (.iload_n 3, 1) := by decide +kernel
theorem dL_law_706 : decode cL_law 706 = .ok (.iconst 1, 1) := by decide +kernel
theorem dL_law_707 : decode cL_law 707 = .ok (.iadd, 1) := by decide +kernel
theorem dL_law_708 : decode cL_law 708 = .ok (.iaload, 1) := by decide +kernel
theorem dL_law_709 : decode cL_law 709 = .ok (.aload_n 0, 1) := by decide +kernel
theorem dL_law_710 : decode cL_law 710 = .ok (.iload_n 3, 1) := by decide +kernel
theorem dL_law_711 : decode cL_law 711 = .ok (.iconst 2, 1) := by decide +kernel
theorem dL_law_712 : decode cL_law 712 = .ok (.iadd, 1) := by decide +kernel
theorem dL_law_713 : decode cL_law 713 = .ok (.iaload, 1) := by decide +kernel
theorem dL_law_714 : decode cL_law 714 = .ok (.invokevirtual 82, 3) := by decide +kernel
theorem dL_law_717 : decode cL_law 717 = .ok (.aload_n 2, 1) := by decide +kernel
theorem dL_law_718 : decode cL_law 718 = .ok (.aload_n 0, 1) := by decide +kernel
theorem dL_law_719 : decode cL_law 719 = .ok (.iload_n 3, 1) := by decide +kernel
theorem dL_law_720 : decode cL_law 720 = .ok (.iconst 1, 1) := by decide +kernel
theorem dL_law_721 : decode cL_law 721 = .ok (.iadd, 1) := by decide +kernel
theorem dL_law_722 : decode cL_law 722 = .ok (.iaload, 1) := by decide +kernel
theorem dL_law_723 : decode cL_law 723 = .ok (.aload_n 0, 1) := by decide +kernel
theorem dL_law_724 : decode cL_law 724 = .ok (.iload_n 3, 1) := by decide +kernel
theorem dL_law_725 : decode cL_law 725 = .ok (.iconst 2, 1) := by decide +kernel
theorem dL_law_726 : decode cL_law 726 = .ok (.iadd, 1) := by decide +kernel
theorem dL_law_727 : decode cL_law 727 = .ok (.iaload, 1) := by decide +kernel
theorem dL_law_728 : decode cL_law 728 = .ok (.invokevirtual 85, 3) := by decide +kernel
theorem dL_law_731 : decode cL_law 731 = .ok (.if_icmp .eq 407, 3) := by decide +kernel
theorem dL_law_734 : decode cL_law 734 = .ok (.iconst 0, 1) := by decide +kernel
theorem dL_law_735 : decode cL_law 735 = .ok (.ireturn, 1) := by decide +kernel
theorem dL_law_736 : decode cL_law 736 = .ok (.aload_n 1, 1) := by decide +kernel
theorem dL_law_737 : decode cL_law 737 = .ok (.invokevirtual 86, 3) := by decide +kernel
theorem dL_law_740 : decode cL_law 740 = .ok (.aload_n 2, 1) := by decide +kernel
theorem dL_law_741 : decode cL_law 741 = .ok (.invokevirtual 89, 3) := by decide +kernel
theorem dL_law_744 : decode cL_law 744 = .ok (.if_icmp .eq 394, 3) := by decide +kernel
theorem dL_law_747 : decode cL_law 747 = .ok (.iconst 0, 1) := by decide +kernel
theorem dL_law_748 : decode cL_law 748 = .ok (.ireturn, 1) := by decide +kernel
theorem dL_law_749 : decode cL_law 749 = .ok (.aload_n 1, 1) := by decide +kernel
theorem dL_law_750 : decode cL_law 750 = .ok (.aload_n 0, 1) := by decide +kernel
theorem dL_law_751 : decode cL_law 751 = .ok (.iload_n 3, 1) := by decide +kernel
theorem dL_law_752 : decode cL_law 752 = .ok (.iconst 1, 1) := by decide +kernel
theorem dL_law_753 : decode cL_law 753 = .ok (.iadd, 1) := by decide +kernel
theorem dL_law_754 : decode cL_law 754 = .ok (.iaload, 1) := by decide +kernel
theorem dL_law_755 : decode cL_law 755 = .ok (.aload_n 0, 1) := by decide +kernel
theorem dL_law_756 : decode cL_law 756 = .ok (.iload_n 3, 1) := by decide +kernel
theorem dL_law_757 : decode cL_law 757 = .ok (.iconst 2, 1) := by decide +kernel
theorem dL_law_758 : decode cL_law 758 = .ok (.iadd, 1) := by decide +kernel
theorem dL_law_759 : decode cL_law 759 = .ok (.iaload, 1) := by decide +kernel
theorem dL_law_760 : decode cL_law 760 = .ok (.invokevirtual 90, 3) := by decide +kernel
theorem dL_law_763 : decode cL_law 763 = .ok (.aload_n 2, 1) := by decide +kernel
theorem dL_law_764 : decode cL_law 764 = .ok (.aload_n 0, 1) := by decide +kernel
theorem dL_law_765 : decode cL_law 765 = .ok (.iload_n 3, 1) := by decide +kernel
theorem dL_law_766 : decode cL_law 766 = .ok (.iconst 1, 1) := by decide +kernel
theorem dL_law_767 : decode cL_law 767 = .ok (.iadd, 1) := by decide +kernel
theorem dL_law_768 : decode cL_law 768 = .ok (.iaload, 1) := by decide +kernel
theorem dL_law_769 : decode cL_law 769 = .ok (.aload_n 0, 1) := by decide +kernel
theorem dL_law_770 : decode cL_law 770 = .ok (.iload_n 3, 1) := by decide +kernel
theorem dL_law_771 : decode cL_law 771 = .ok (.iconst 2, 1) := by decide +kernel
theorem dL_law_772 : decode cL_law 772 = .ok (.iadd, 1) := by decide +kernel
theorem dL_law_773 : decode cL_law 773 = .ok (.iaload, 1) := by decide +kernel
theorem dL_law_774 : decode cL_law 774 = .ok (.invokevirtual 93, 3) := by decide +kernel
theorem dL_law_777 : decode cL_law 777 = .ok (.if_icmp .eq 361, 3) := by decide +kernel
theorem dL_law_780 : decode cL_law 780 = .ok (.iconst 0, 1) := by decide +kernel
theorem dL_law_781 : decode cL_law 781 = .ok (.ireturn, 1) := by decide +kernel
theorem dL_law_782 : decode cL_law 782 = .ok (.aload_n 1, 1) := by decide +kernel
theorem dL_law_783 : decode cL_law 783 = .ok (.aload_n 0, 1) := by decide +kernel
theorem dL_law_784 : decode cL_law 784 = .ok (.iload_n 3, 1) := by decide +kernel
theorem dL_law_785 : decode cL_law 785 = .ok (.iconst 1, 1) := by decide +kernel
theorem dL_law_786 : decode cL_law 786 = .ok (.iadd, 1) := by decide +kernel
theorem dL_law_787 : decode cL_law 787 = .ok (.iaload, 1) := by decide +kernel
theorem dL_law_788 : decode cL_law 788 = .ok (.invokevirtual 94, 3) := by decide +kernel
theorem dL_law_791 : decode cL_law 791 = .ok (.aload_n 2, 1) := by decide +kernel
theorem dL_law_792 : decode cL_law 792 = .ok (.aload_n 0, 1) := by decide +kernel
theorem dL_law_793 : decode cL_law 793 = .ok (.iload_n 3, 1) := by decide +kernel
theorem dL_law_794 : decode cL_law 794 = .ok (.iconst 1, 1) := by decide +kernel
theorem dL_law_795 : decode cL_law 795 = .ok (.iadd, 1) := by decide +kernel
theorem dL_law_796 : decode cL_law 796 = .ok (.iaload, 1) := by decide +kernel
theorem dL_law_797 : decode cL_law 797 = .ok (.invokevirtual 97, 3) := by decide +kernel
theorem dL_law_800 : decode cL_law 800 = .ok (.if_icmp .eq 338, 3) := by decide +kernel
theorem dL_law_803 : decode cL_law 803 = .ok (.iconst 0, 1) := by decide +kernel
theorem dL_law_804 : decode cL_law 804 = .ok (.ireturn, 1) := by decide +kernel
theorem dL_law_805 : decode cL_law 805 = .ok (.aload_n 1, 1) := by decide +kernel
theorem dL_law_806 : decode cL_law 806 = .ok (.aload_n 0, 1) := by decide +kernel
theorem dL_law_807 : decode cL_law 807 = .ok (.iload_n 3, 1) := by decide +kernel
theorem dL_law_808 : decode cL_law 808 = .ok (.iconst 1, 1) := by decide +kernel
theorem dL_law_809 : decode cL_law 809 = .ok (.iadd, 1) := by decide +kernel
theorem dL_law_810 : decode cL_law 810 = .ok (.iaload, 1) := by decide +kernel
theorem dL_law_811 : decode cL_law 811 = .ok (.invokevirtual 98, 3) := by decide +kernel
theorem dL_law_814 : decode cL_law 814 = .ok (.aload_n 2, 1) := by decide +kernel
theorem dL_law_815 : decode cL_law 815 = .ok (.aload_n 0, 1) := by decide +kernel
theorem dL_law_816 : decode cL_law 816 = .ok (.iload_n 3, 1) := by decide +kernel
theorem dL_law_817 : decode cL_law 817 = .ok (.iconst 1, 1) := by decide +kernel
theorem dL_law_818 : decode cL_law 818 = .ok (.iadd, 1) := by decide +kernel
theorem dL_law_819 : decode cL_law 819 = .ok (.iaload, 1) := by decide +kernel
theorem dL_law_820 : decode cL_law 820 = .ok (.invokevirtual 101, 3) := by decide +kernel
theorem dL_law_823 : decode cL_law 823 = .ok (.if_icmp .eq 315, 3) := by decide +kernel
theorem dL_law_826 : decode cL_law 826 = .ok (.iconst 0, 1) := by decide +kernel
theorem dL_law_827 : decode cL_law 827 = .ok (.ireturn, 1) := by decide +kernel
theorem dL_law_828 : decode cL_law 828 = .ok (.aload_n 1, 1) := by decide +kernel
theorem dL_law_829 : decode cL_law 829 = .ok (.aload_n 0, 1) := by decide +kernel
theorem dL_law_830 : decode cL_law 830 = .ok (.iload_n 3, 1) := by decide +kernel
theorem dL_law_831 : decode cL_law 831 = .ok (.iconst 1, 1) := by decide +kernel
theorem dL_law_832 : decode cL_law 832 = .ok (.iadd, 1) := by decide +kernel
theorem dL_law_833 : decode cL_law 833 = .ok (.iaload, 1) := by decide +kernel
theorem dL_law_834 : decode cL_law 834 = .ok (.invokevirtual 102, 3) := by decide +kernel
theorem dL_law_837 : decode cL_law 837 = .ok (.aload_n 2, 1) := by decide +kernel
theorem dL_law_838 : decode cL_law 838 = .ok (.aload_n 0, 1) := by decide +kernel
theorem dL_law_839 : decode cL_law 839 = .ok (.iload_n 3, 1) := by decide +kernel
theorem dL_law_840 : decode cL_law 840 = .ok (.iconst 1, 1) := by decide +kernel
theorem dL_law_841 : decode cL_law 841 = .ok (.iadd, 1) := by decide +kernel
theorem dL_law_842 : decode cL_law 842 = .ok (.iaload, 1) := by decide +kernel
theorem dL_law_843 : decode cL_law 843 = .ok (.invokevirtual 105, 3) := by decide +kernel
theorem dL_law_846 : decode cL_law 846 = .ok (.if_icmp .eq 292, 3) := by decide +kernel
theorem dL_law_849 : decode cL_law 849 = .ok (.iconst 0, 1) := by decide +kernel
theorem dL_law_850 : decode cL_law 850 = .ok (.ireturn, 1) := by decide +kernel
theorem dL_law_851 : decode cL_law 851 = .ok (.aload_n 1, 1) := by decide +kernel
theorem dL_law_852 : decode cL_law 852 = .ok (.aload_n 0, 1) := by decide +kernel
theorem dL_law_853 : decode cL_law 853 = .ok (.iload_n 3, 1) := by decide +kernel
theorem dL_law_854 : decode cL_law 854 = .ok (.iconst 1, 1) := by decide +kernel
theorem dL_law_855 : decode cL_law 855 = .ok (.iadd, 1) := by decide +kernel
theorem dL_law_856 : decode cL_law 856 = .ok (.iaload, 1) := by decide +kernel
theorem dL_law_857 : decode cL_law 857 = .ok (.invokevirtual 106, 3) := by decide +kernel
theorem dL_law_860 : decode cL_law 860 = .ok (.aload_n 2, 1) := by decide +kernel
theorem dL_law_861 : decode cL_law 861 = .ok (.aload_n 0, 1) := by decide +kernel
theorem dL_law_862 : decode cL_law 862 = .ok (.iload_n 3, 1) := by decide +kernel
theorem dL_law_863 : decode cL_law 863 = .ok (.iconst 1, 1) := by decide +kernel
theorem dL_law_864 : decode cL_law 864 = .ok (.iadd, 1) := by decide +kernel
theorem dL_law_865 : decode cL_law 865 = .ok (.iaload, 1) := by decide +kernel
theorem dL_law_866 : decode cL_law 866 = .ok (.invokevirtual 109, 3) := by decide +kernel
theorem dL_law_869 : decode cL_law 869 = .ok (.if_icmp .eq 269, 3) := by decide +kernel
theorem dL_law_872 : decode cL_law 872 = .ok (.iconst 0, 1) := by decide +kernel
theorem dL_law_873 : decode cL_law 873 = .ok (.ireturn, 1) := by decide +kernel
theorem dL_law_874 : decode cL_law 874 = .ok (.aload_n 1, 1) := by decide +kernel
theorem dL_law_875 : decode cL_law 875 = .ok (.aload_n 0, 1) := by decide +kernel
theorem dL_law_876 : decode cL_law 876 = .ok (.iload_n 3, 1) := by decide +kernel
theorem dL_law_877 : decode cL_law 877 = .ok (.iconst 1, 1) := by decide +kernel
theorem dL_law_878 : decode cL_law 878 = .ok (.iadd, 1) := by decide +kernel
theorem dL_law_879 : decode cL_law 879 = .ok (.iaload, 1) := by decide +kernel
theorem dL_law_880 : decode cL_law 880 = .ok (.aload_n 0, 1) := by decide +kernel
theorem dL_law_881 : decode cL_law 881 = .ok (.iload_n 3, 1) := by decide +kernel
theorem dL_law_882 : decode cL_law 882 = .ok (.iconst 2, 1) := by decide +kernel
theorem dL_law_883 : decode cL_law 883 = .ok (.iadd, 1) := by decide +kernel
theorem dL_law_884 : decode cL_law 884 = .ok (.iaload, 1) := by decide +kernel
theorem dL_law_885 : decode cL_law 885 = .ok (.aload_n 0, 1) := by decide +kernel
theorem dL_law_886 : decode cL_law 886 = .ok (.iload_n 3, 1) := by decide +kernel
theorem dL_law_887 : decode cL_law 887 = .ok (.iconst 3, 1) := by decide +kernel
theorem dL_law_888 : decode cL_law 888 = .ok (.iadd, 1) := by decide +kernel
theorem dL_law_889 : decode cL_law 889 = .ok (.iaload, 1) := by decide +kernel
theorem dL_law_890 : decode cL_law 890 = .ok (.aload_n 0, 1) := by decide +kernel
theorem dL_law_891 : decode cL_law 891 = .ok (.iload_n 3, 1) := by decide +kernel
theorem dL_law_892 : decode cL_law 892 = .ok (.iconst 4, 1) := by decide +kernel
theorem dL_law_893 : decode cL_law 893 = .ok (.iadd, 1) := by decide +kernel
theorem dL_law_894 : decode cL_law 894 = .ok (.iaload, 1) := by decide +kernel
theorem dL_law_895 : decode cL_law 895 = .ok (.aload_n 0, 1) := by decide +kernel
theorem dL_law_896 : decode cL_law 896 = .ok (.iload_n 3, 1) := by decide +kernel
theorem dL_law_897 : decode cL_law 897 = .ok (.iconst 5, 1) := by decide +kernel
theorem dL_law_898 : decode cL_law 898 = .ok (.iadd, 1) := by decide +kernel
theorem dL_law_899 : decode cL_law 899 = .ok (.iaload, 1) := by decide +kernel
theorem dL_law_900 : decode cL_law 900 = .ok (.invokevirtual 110, 3) := by decide +kernel
theorem dL_law_903 : decode cL_law 903 = .ok (.aload_n 2, 1) := by decide +kernel
theorem dL_law_904 : decode cL_law 904 = .ok (.aload_n 0, 1) := by decide +kernel
theorem dL_law_905 : decode cL_law 905 = .ok (.iload_n 3, 1) := by decide +kernel
theorem dL_law_906 : decode cL_law 906 = .ok (.iconst 1, 1) := by decide +kernel
theorem dL_law_907 : decode cL_law 907 = .ok (.iadd, 1) := by decide +kernel
theorem dL_law_908 : decode cL_law 908 = .ok (.iaload, 1) := by decide +kernel
theorem dL_law_909 : decode cL_law 909 = .ok (.aload_n 0, 1) := by decide +kernel
theorem dL_law_910 : decode cL_law 910 = .ok (.iload_n 3, 1) := by decide +kernel
theorem dL_law_911 : decode cL_law 911 = .ok (.iconst 2, 1) := by decide +kernel
theorem dL_law_912 : decode cL_law 912 = .ok (.iadd, 1) := by decide +kernel
theorem dL_law_913 : decode cL_law 913 = .ok (.iaload, 1) := by decide +kernel
theorem dL_law_914 : decode cL_law 914 = .ok (.aload_n 0, 1) := by decide +kernel
theorem dL_law_915 : decode cL_law 915 = .ok (.iload_n 3, 1) := by decide +kernel
theorem dL_law_916 : decode cL_law 916 = .ok (.iconst 3, 1) := by decide +kernel
theorem dL_law_917 : decode cL_law 917 = .ok (.iadd, 1) := by decide +kernel
theorem dL_law_918 : decode cL_law 918 = .ok (.iaload, 1) := by decide +kernel
theorem dL_law_919 : decode cL_law 919 = .ok (.aload_n 0, 1) := by decide +kernel
theorem dL_law_920 : decode cL_law 920 = .ok (.iload_n 3, 1) := by decide +kernel
theorem dL_law_921 : decode cL_law 921 = .ok (.iconst 4, 1) := by decide +kernel
theorem dL_law_922 : decode cL_law 922 = .ok (.iadd, 1) := by decide +kernel
theorem dL_law_923 : decode cL_law 923 = .ok (.iaload, 1) := by decide +kernel
theorem dL_law_924 : decode cL_law 924 = .ok (.aload_n 0, 1) := by decide +kernel
theorem dL_law_925 : decode cL_law 925 = .ok (.iload_n 3, 1) := by decide +kernel
theorem dL_law_926 : decode cL_law 926 = .ok (.iconst 5, 1) := by decide +kernel
theorem dL_law_927 : decode cL_law 927 = .ok (.iadd, 1) := by decide +kernel
theorem dL_law_928 : decode cL_law 928 = .ok (.iaload, 1) := by decide +kernel
theorem dL_law_929 : decode cL_law 929 = .ok (.invokevirtual 113, 3) := by decide +kernel
theorem dL_law_932 : decode cL_law 932 = .ok (.if_icmp .eq 206, 3) := by decide +kernel
theorem dL_law_935 : decode cL_law 935 = .ok (.iconst 0, 1) := by decide +kernel
theorem dL_law_936 : decode cL_law 936 = .ok (.ireturn, 1) := by decide +kernel
theorem dL_law_937 : decode cL_law 937 = .ok (.aload_n 1, 1) := by decide +kernel
theorem dL_law_938 : decode cL_law 938 = .ok (.aload_n 0, 1) := by decide +kernel
theorem dL_law_939 : decode cL_law 939 = .ok (.iload_n 3, 1) := by decide +kernel
theorem dL_law_940 : decode cL_law 940 = .ok (.iconst 1, 1) := by decide +kernel
theorem dL_law_941 : decode cL_law 941 = .ok (.iadd, 1) := by decide +kernel
theorem dL_law_942 : decode cL_law 942 = .ok (.iaload, 1) := by decide +kernel
theorem dL_law_943 : decode cL_law 943 = .ok (.aload_n 0, 1) := by decide +kernel
theorem dL_law_944 : decode cL_law 944 = .ok (.iload_n 3, 1) := by decide +kernel
theorem dL_law_945 : decode cL_law 945 = .ok (.iconst 2, 1) := by decide +kernel
theorem dL_law_946 : decode cL_law 946 = .ok (.iadd, 1) := by decide +kernel
theorem dL_law_947 : decode cL_law 947 = .ok (.iaload, 1) := by decide +kernel
theorem dL_law_948 : decode cL_law 948 = .ok (.aload_n 0, 1) := by decide +kernel
theorem dL_law_949 : decode cL_law 949 = .ok (.iload_n 3, 1) := by decide +kernel
theorem dL_law_950 : decode cL_law 950 = .ok (.iconst 3, 1) := by decide +kernel
theorem dL_law_951 : decode cL_law 951 = .ok (.iadd, 1) := by decide +kernel
theorem dL_law_952 : decode cL_law 952 = .ok (.iaload, 1) := by decide +kernel
theorem dL_law_953 : decode cL_law 953 = .ok (.aload_n 0, 1) := by decide +kernel
theorem dL_law_954 : decode cL_law 954 = .ok (.iload_n 3, 1) := by decide +kernel
theorem dL_law_955 : decode cL_law 955 = .ok (.iconst 4, 1) := by decide +kernel
theorem dL_law_956 : decode cL_law 956 = .ok (.iadd, 1) := by decide +kernel
theorem dL_law_957 : decode cL_law 957 = .ok (.iaload, 1) := by decide +kernel
theorem dL_law_958 : decode cL_law 958 = .ok (.invokevirtual 114, 3) := by decide +kernel
theorem dL_law_961 : decode cL_law 961 = .ok (.aload_n 2, 1) := by decide +kernel
theorem dL_law_962 : decode cL_law 962 = .ok (.aload_n 0, 1) := by decide +kernel
theorem dL_law_963 : decode cL_law 963 = .ok (.iload_n 3, 1) := by decide +kernel
theorem dL_law_964 : decode cL_law 964 = .ok (.iconst 1, 1) := by decide +kernel
theorem dL_law_965 : decode cL_law 965 = .ok (.iadd, 1) := by decide +kernel
theorem dL_law_966 : decode cL_law 966 = .ok (.iaload, 1) := by decide +kernel
theorem dL_law_967 : decode cL_law 967 = .ok (.aload_n 0, 1) := by decide +kernel
theorem dL_law_968 : decode cL_law 968 = .ok (.iload_n 3, 1) := by decide +kernel
theorem dL_law_969 : decode cL_law 969 = .ok (.iconst 2, 1) := by decide +kernel
theorem dL_law_970 : decode cL_law 970 = .ok (.iadd, 1) := by decide +kernel
theorem dL_law_971 : decode cL_law 971 = .ok (.iaload, 1) := by decide +kernel
theorem dL_law_972 : decode cL_law 972 = .ok (.aload_n 0, 1) := by decide +kernel
theorem dL_law_973 : decode cL_law 973 = .ok (.iload_n 3, 1) := by decide +kernel
theorem dL_law_974 : decode cL_law 974 = .ok (.iconst 3, 1) := by decide +kernel
theorem dL_law_975 : decode cL_law 975 = .ok (.iadd, 1) := by decide +kernel
theorem dL_law_976 : decode cL_law 976 = .ok (.iaload, 1) := by decide +kernel
theorem dL_law_977 : decode cL_law 977 = .ok (.aload_n 0, 1) := by decide +kernel
theorem dL_law_978 : decode cL_law 978 = .ok (.iload_n 3, 1) := by decide +kernel
theorem dL_law_979 : decode cL_law 979 = .ok (.iconst 4, 1) := by decide +kernel
theorem dL_law_980 : decode cL_law 980 = .ok (.iadd, 1) := by decide +kernel
theorem dL_law_981 : decode cL_law 981 = .ok (.iaload, 1) := by decide +kernel
theorem dL_law_982 : decode cL_law 982 = .ok (.invokevirtual 117, 3) := by decide +kernel
theorem dL_law_985 : decode cL_law 985 = .ok (.if_icmp .eq 153, 3) := by decide +kernel
theorem dL_law_988 : decode cL_law 988 = .ok (.iconst 0, 1) := by decide +kernel
theorem dL_law_989 : decode cL_law 989 = .ok (.ireturn, 1) := by decide +kernel
theorem dL_law_990 : decode cL_law 990 = .ok (.aload_n 1, 1) := by decide +kernel
theorem dL_law_991 : decode cL_law 991 = .ok (.aload_n 0, 1) := by decide +kernel
theorem dL_law_992 : decode cL_law 992 = .ok (.iload_n 3, 1) := by decide +kernel
theorem dL_law_993 : decode cL_law 993 = .ok (.iconst 1, 1) := by decide +kernel
theorem dL_law_994 : decode cL_law 994 = .ok (.iadd, 1) := by decide +kernel
theorem dL_law_995 : decode cL_law 995 = .ok (.iaload, 1) := by decide +kernel
theorem dL_law_996 : decode cL_law 996 = .ok (.invokevirtual 118, 3) := by decide +kernel
theorem dL_law_999 : decode cL_law 999 = .ok (.aload_n 2, 1) := by decide +kernel
theorem dL_law_1000 : decode cL_law 1000 = .ok (.aload_n 0, 1) := by decide +kernel
theorem dL_law_1001 : decode cL_law 1001 = .ok (.iload_n 3, 1) := by decide +kernel
theorem dL_law_1002 : decode cL_law 1002 = .ok (.iconst 1, 1) := by decide +kernel
theorem dL_law_1003 : decode cL_law 1003 = .ok (.iadd, 1) := by decide +kernel
theorem dL_law_1004 : decode cL_law 1004 = .ok (.iaload, 1) := by decide +kernel
theorem dL_law_1005 : decode cL_law 1005 = .ok (.invokevirtual 121, 3) := by decide +kernel
theorem dL_law_1008 : decode cL_law 1008 = .ok (.if_icmp .eq 130, 3) := by decide +kernel
theorem dL_law_1011 : decode cL_law 1011 = .ok (.iconst 0, 1) := by decide +kernel
theorem dL_law_1012 : decode cL_law 1012 = .ok (.ireturn, 1) := by decide +kernel
theorem dL_law_1013 : decode cL_law 1013 = .ok (.aload_n 1, 1) := by decide +kernel
theorem dL_law_1014 : decode cL_law 1014 = .ok (.aload_n 0, 1) := by decide +kernel
theorem dL_law_1015 : decode cL_law 1015 = .ok (.iload_n 3, 1) := by decide +kernel
theorem dL_law_1016 : decode cL_law 1016 = .ok (.iconst 1, 1) := by decide +kernel
theorem dL_law_1017 : decode cL_law 1017 = .ok (.iadd, 1) := by decide +kernel
theorem dL_law_1018 : decode cL_law 1018 = .ok (.iaload, 1) := by decide +kernel
theorem dL_law_1019 : decode cL_law 1019 = .ok (.aload_n 0, 1) := by decide +kernel
theorem dL_law_1020 : decode cL_law 1020 = .ok (.iload_n 3, 1) := by decide +kernel
theorem dL_law_1021 : decode cL_law 1021 = .ok (.iconst 2, 1) := by decide +kernel
theorem dL_law_1022 : decode cL_law 1022 = .ok (.iadd, 1) := by decide +kernel
theorem dL_law_1023 : decode cL_law 1023 = .ok (.iaload, 1) := by decide +kernel
theorem dL_law_1024 : decode cL_law 1024 = .ok (.invokevirtual 122, 3) := by decide +kernel
theorem dL_law_1027 : decode cL_law 1027 = .ok (.aload_n 2, 1) := by decide +kernel
theorem dL_law_1028 : decode cL_law 1028 = .ok (.aload_n 0, 1) := by decide +kernel
theorem dL_law_1029 : decode cL_law 1029 = .ok (.iload_n 3, 1) := by decide +kernel
theorem dL_law_1030 : decode cL_law 1030 = .ok (.iconst 1, 1) := by decide +kernel
theorem dL_law_1031 : decode cL_law 1031 = .ok (.iadd, 1) := by decide +kernel
theorem dL_law_1032 : decode cL_law 1032 = .ok (.iaload, 1) := by decide +kernel
theorem dL_law_1033 : decode cL_law 1033 = .ok (.aload_n 0, 1) := by decide +kernel
theorem dL_law_1034 : decode cL_law 1034 = .ok (.iload_n 3, 1) := by decide +kernel
theorem dL_law_1035 : decode cL_law 1035 = .ok (.iconst 2, 1) := by decide +kernel
theorem dL_law_1036 : decode cL_law 1036 = .ok (.iadd, 1) := by decide +kernel
theorem dL_law_1037 : decode cL_law 1037 = .ok (.iaload, 1) := by decide +kernel
theorem dL_law_1038 : decode cL_law 1038 = .ok (.invokevirtual 125, 3) := by decide +kernel
theorem dL_law_1041 : decode cL_law 1041 = .ok (.if_icmp .eq 97, 3) := by decide +kernel
theorem dL_law_1044 : decode cL_law 1044 = .ok (.iconst 0, 1) := by decide +kernel
theorem dL_law_1045 : decode cL_law 1045 = .ok (.ireturn, 1) := by decide +kernel
theorem dL_law_1046 : decode cL_law 1046 = .ok (.aload_n 1, 1) := by decide +kernel
theorem dL_law_1047 : decode cL_law 1047 = .ok (.aload_n 0, 1) := by decide +kernel
theorem dL_law_1048 : decode cL_law 1048 = .ok (.iload_n 3, 1) := by decide +kernel
theorem dL_law_1049 : decode cL_law 1049 = .ok (.iconst 1, 1) := by decide +kernel
theorem dL_law_1050 : decode cL_law 1050 = .ok (.iadd, 1) := by decide +kernel
theorem dL_law_1051 : decode cL_law 1051 = .ok (.iaload, 1) := by decide +kernel
theorem dL_law_1052 : decode cL_law 1052 = .ok (.aload_n 0, 1) := by decide +kernel
theorem dL_law_1053 : decode cL_law 1053 = .ok (.iload_n 3, 1) := by decide +kernel
theorem dL_law_1054 : decode cL_law 1054 = .ok (.iconst 2, 1) := by decide +kernel
theorem dL_law_1055 : decode cL_law 1055 = .ok (.iadd, 1) := by decide +kernel
theorem dL_law_1056 : decode cL_law 1056 = .ok (.iaload, 1) := by decide +kernel
theorem dL_law_1057 : decode cL_law 1057 = .ok (.invokevirtual 126, 3) := by decide +kernel
theorem dL_law_1060 : decode cL_law 1060 = .ok (.aload_n 2, 1) := by decide +kernel
theorem dL_law_1061 : decode cL_law 1061 = .ok (.aload_n 0, 1) := by decide +kernel
theorem dL_law_1062 : decode cL_law 1062 = .ok (.iload_n 3, 1) := by decide +kernel
theorem dL_law_1063 : decode cL_law 1063 = .ok (.iconst 1, 1) := by decide +kernel
theorem dL_law_1064 : decode cL_law 1064 = .ok (.iadd, 1) := by decide +kernel
theorem dL_law_1065 : decode cL_law 1065 = .ok (.iaload, 1) := by decide +kernel
theorem dL_law_1066 : decode cL_law 1066 = .ok (.aload_n 0, 1) := by decide +kernel
theorem dL_law_1067 : decode cL_law 1067 = .ok (.iload_n 3, 1) := by decide +kernel
theorem dL_law_1068 : decode cL_law 1068 = .ok (.iconst 2, 1) := by decide +kernel
theorem dL_law_1069 : decode cL_law 1069 = .ok (.iadd, 1) := by decide +kernel
theorem dL_law_1070 : decode cL_law 1070 = .ok (.iaload, 1) := by decide +kernel
theorem dL_law_1071 : decode cL_law 1071 = .ok (.invokevirtual 129, 3) := by decide +kernel
theorem dL_law_1074 : decode cL_law 1074 = .ok (.if_icmp .eq 64, 3) := by decide +kernel
theorem dL_law_1077 : decode cL_law 1077 = .ok (.iconst 0, 1) := by decide +kernel
theorem dL_law_1078 : decode cL_law 1078 = .ok (.ireturn, 1) := by decide +kernel
theorem dL_law_1079 : decode cL_law 1079 = .ok (.aload_n 1, 1) := by decide +kernel
theorem dL_law_1080 : decode cL_law 1080 = .ok (.aload_n 0, 1) := by decide +kernel
theorem dL_law_1081 : decode cL_law 1081 = .ok (.iload_n 3, 1) := by decide +kernel
theorem dL_law_1082 : decode cL_law 1082 = .ok (.iconst 1, 1) := by decide +kernel
theorem dL_law_1083 : decode cL_law 1083 = .ok (.iadd, 1) := by decide +kernel
theorem dL_law_1084 : decode cL_law 1084 = .ok (.iaload, 1) := by decide +kernel
theorem dL_law_1085 : decode cL_law 1085 = .ok (.invokevirtual 130, 3) := by decide +kernel
theorem dL_law_1088 : decode cL_law 1088 = .ok (.aload_n 2, 1) := by decide +kernel
theorem dL_law_1089 : decode cL_law 1089 = .ok (.aload_n 0, 1) := by decide +kernel
theorem dL_law_1090 : decode cL_law 1090 = .ok (.iload_n 3, 1) := by decide +kernel
theorem dL_law_1091 : decode cL_law 1091 = .ok (.iconst 1, 1) := by decide +kernel
theorem dL_law_1092 : decode cL_law 1092 = .ok (.iadd, 1) := by decide +kernel
theorem dL_law_1093 : decode cL_law 1093 = .ok (.iaload, 1) := by decide +kernel
theorem dL_law_1094 : decode cL_law 1094 = .ok (.invokevirtual 133, 3) := by decide +kernel
theorem dL_law_1097 : decode cL_law 1097 = .ok (.if_icmp .eq 41, 3) := by decide +kernel
theorem dL_law_1100 : decode cL_law 1100 = .ok (.iconst 0, 1) := by decide +kernel
theorem dL_law_1101 : decode cL_law 1101 = .ok (.ireturn, 1) := by decide +kernel
theorem dL_law_1102 : decode cL_law 1102 = .ok (.aload_n 1, 1) := by decide +kernel
theorem dL_law_1103 : decode cL_law 1103 = .ok (.aload_n 0, 1) := by decide +kernel
theorem dL_law_1104 : decode cL_law 1104 = .ok (.iload_n 3, 1) := by decide +kernel
theorem dL_law_1105 : decode cL_law 1105 = .ok (.iconst 1, 1) := by decide +kernel
theorem dL_law_1106 : decode cL_law 1106 = .ok (.iadd, 1) := by decide +kernel
theorem dL_law_1107 : decode cL_law 1107 = .ok (.iaload, 1) := by decide +kernel
theorem dL_law_1108 : decode cL_law 1108 = .ok (.invokevirtual 134, 3) := by decide +kernel
theorem dL_law_1111 : decode cL_law 1111 = .ok (.aload_n 2, 1) := by decide +kernel
theorem dL_law_1112 : decode cL_law 1112 = .ok (.aload_n 0, 1) := by decide +kernel
theorem dL_law_1113 : decode cL_law 1113 = .ok (.iload_n 3, 1) := by decide +kernel
theorem dL_law_1114 : decode cL_law 1114 = .ok (.iconst 1, 1) := by decide +kernel
theorem dL_law_1115 : decode cL_law 1115 = .ok (.iadd, 1) := by decide +kernel
theorem dL_law_1116 : decode cL_law 1116 = .ok (.iaload, 1) := by decide +kernel
theorem dL_law_1117 : decode cL_law 1117 = .ok (.invokevirtual 137, 3) := by decide +kernel
theorem dL_law_1120 : decode cL_law 1120 = .ok (.if_icmp .eq 18, 3) := by decide +kernel
theorem dL_law_1123 : decode cL_law 1123 = .ok (.iconst 0, 1) := by decide +kernel
theorem dL_law_1124 : decode cL_law 1124 = .ok (.ireturn, 1) := by decide +kernel
theorem dL_law_1125 : decode cL_law 1125 = .ok (.aload_n 1, 1) := by decide +kernel
theorem dL_law_1126 : decode cL_law 1126 = .ok (.invokevirtual 138, 3) := by decide +kernel
theorem dL_law_1129 : decode cL_law 1129 = .ok (.aload_n 2, 1) := by decide +kernel
theorem dL_law_1130 : decode cL_law 1130 = .ok (.invokevirtual 141, 3) := by decide +kernel
theorem dL_law_1133 : decode cL_law 1133 = .ok (.if_icmp .eq 5, 3) := by decide +kernel
theorem dL_law_1136 : decode cL_law 1136 = .ok (.iconst 0, 1) := by decide +kernel
theorem dL_law_1137 : decode cL_law 1137 = .ok (.ireturn, 1) := by decide +kernel
theorem dL_law_1138 : decode cL_law 1138 = .ok (.iinc 3 6, 3) := by decide +kernel
theorem dL_law_1141 : decode cL_law 1141 = .ok (.goto (-1123), 3) := by decide +kernel
theorem dL_law_1144 : decode cL_law 1144 = .ok (.iconst 1, 1) := by decide +kernel
theorem dL_law_1145 : decode cL_law 1145 = .ok (.ireturn, 1) := by decide +kernel
def bL_law_0 (f1 f2 f3 f4 f5 f6 f7 f8 f9 f10 f11 f12 f13 f14 f15 f16 f17 f18 f19 f20 f21 f22 f23 f24 f25 f26 f27 f28 f29 f30 f31 f32 f33 f34 f35 f36 f37 f38 f39 f40 f41 f42 f43 f44 f45 f46 f47 f48 f49 f50 f51 f52 f53 f54 f55 f56 f57 f58 f59 f60 f61 f62 : ox_F) (rc : Nat → ox_K) : ox_K := o_new 11 (o_dup (o_cn f1 0 (o_as 1 (o_new 12 (o_dup (o_cn f2 0 (o_as 2 (o_ic (0) (o_is 3 (rc 18))))))))))
def bL_law_18 (f1 f2 f3 f4 f5 f6 f7 f8 f9 f10 f11 f12 f13 f14 f15 f16 f17 f18 f19 f20 f21 f22 f23 f24 f25 f26 f27 f28 f29 f30 f31 f32 f33 f34 f35 f36 f37 f38 f39 f40 f41 f42 f43 f44 f45 f46 f47 f48 f49 f50 f51 f52 f53 f54 f55 f56 f57 f58 f59 f60 f61 f62 : ox_F) (rc : Nat → ox_K) : ox_K := o_keep [0, 1, 2, 3] (o_il 3 (o_al 0 (o_len (o_ic (6) (o_isub (o_icgt (rc 1144) (o_al 0 (o_il 3 (o_ia (o_ic (31) (o_iand (o_tsw 0 [rc 168, rc 211, rc 254, rc 317, rc 340, rc 403, rc 416, rc 429, rc 482, rc 545, rc 568, rc 591, rc 624, rc 647, rc 680, rc 703, rc 736, rc 749, rc 782, rc 805, rc 828, rc 851, rc 874, rc 937, rc 990, rc 1013, rc 1046, rc 1079, rc 1102, rc 1125] (rc 1138)))))))))))))
def bL_law_168 (f1 f2 f3 f4 f5 f6 f7 f8 f9 f10 f11 f12 f13 f14 f15 f16 f17 f18 f19 f20 f21 f22 f23 f24 f25 f26 f27 f28 f29 f30 f31 f32 f33 f34 f35 f36 f37 f38 f39 f40 f41 f42 f43 f44 f45 f46 f47 f48 f49 f50 f51 f52 f53 f54 f55 f56 f57 f58 f59 f60 f61 f62 : ox_F) (rc : Nat → ox_K) : ox_K := o_al 1 (o_al 0 (o_il 3 (o_ic (1) (o_iadd (o_ia (o_al 0 (o_il 3 (o_ic (2) (o_iadd (o_ia (o_al 0 (o_il 3 (o_ic (3) (o_iadd (o_ia (o_cv f3 11 3 (o_al 2 (o_al 0 (o_il 3 (o_ic (1) (o_iadd (o_ia (o_al 0 (o_il 3 (o_ic (2) (o_iadd (o_ia (o_al 0 (o_il 3 (o_ic (3) (o_iadd (o_ia (o_cv f4 12 3 (o_iceq (rc 1138) (o_ic (0) (o_law))))))))))))))))))))))))))))))))))))
def bL_law_211 (f1 f2 f3 f4 f5 f6 f7 f8 f9 f10 f11 f12 f13 f14 f15 f16 f17 f18 f19 f20 f21 f22 f23 f24 f25 f26 f27 f28 f29 f30 f31 f32 f33 f34 f35 f36 f37 f38 f39 f40 f41 f42 f43 f44 f45 f46 f47 f48 f49 f50 f51 f52 f53 f54 f55 f56 f57 f58 f59 f60 f61 f62 : ox_F) (rc : Nat → ox_K) : ox_K := o_al 1 (o_al 0 (o_il 3 (o_ic (1) (o_iadd (o_ia (o_al 0 (o_il 3 (o_ic (2) (o_iadd (o_ia (o_al 0 (o_il 3 (o_ic (3) (o_iadd (o_ia (o_cv f5 11 3 (o_al 2 (o_al 0 (o_il 3 (o_ic (1) (o_iadd (o_ia (o_al 0 (o_il 3 (o_ic (2) (o_iadd (o_ia (o_al 0 (o_il 3 (o_ic (3) (o_iadd (o_ia (o_cv f6 12 3 (o_iceq (rc 1138) (o_ic (0) (o_law))))))))))))))))))))))))))))))))))))
def bL_law_254 (f1 f2 f3 f4 f5 f6 f7 f8 f9 f10 f11 f12 f13 f14 f15 f16 f17 f18 f19 f20 f21 f22 f23 f24 f25 f26 f27 f28 f29 f30 f31 f32 f33 f34 f35 f36 f37 f38 f39 f40 f41 f42 f43 f44 f45 f46 f47 f48 f49 f50 f51 f52 f53 f54 f55 f56 f57 f58 f59 f60 f61 f62 : ox_F) (rc : Nat → ox_K) : ox_K := o_al 1 (o_al 0 (o_il 3 (o_ic (1) (o_iadd (o_ia (o_al 0 (o_il 3 (o_ic (2) (o_iadd (o_ia (o_al 0 (o_il 3 (o_ic (3) (o_iadd (o_ia (o_al 0 (o_il 3 (o_ic (4) (o_iadd (o_ia (o_al 0 (o_il 3 (o_ic (5) (o_iadd (o_ia (o_cv f7 11 5 (o_al 2 (o_al 0 (o_il 3 (o_ic (1) (o_iadd (o_ia (o_al 0 (o_il 3 (o_ic (2) (o_iadd (o_ia (o_al 0 (o_il 3 (o_ic (3) (o_iadd (o_ia (o_al 0 (o_il 3 (o_ic (4) (o_iadd (o_ia (o_al 0 (o_il 3 (o_ic (5) (o_iadd (o_ia (o_cv f8 12 5 (o_iceq (rc 1138) (o_ic (0) (o_law))))))))))))))))))))))))))))))))))))))))))))))))))))))))
def bL_law_317 (f1 f2 f3 f4 f5 f6 f7 f8 f9 f10 f11 f12 f13 f14 f15 f16 f17 f18 f19 f20 f21 f22 f23 f24 f25 f26 f27 f28 f29 f30 f31 f32 f33 f34 f35 f36 f37 f38 f39 f40 f41 f42 f43 f44 f45 f46 f47 f48 f49 f50 f51 f52 f53 f54 f55 f56 f57 f58 f59 f60 f61 f62 : ox_F) (rc : Nat → ox_K) : ox_K := o_al 1 (o_al 0 (o_il 3 (o_ic (1) (o_iadd (o_ia (o_cv f9 11 1 (o_al 2 (o_al 0 (o_il 3 (o_ic (1) (o_iadd (o_ia (o_cv f10 12 1 (o_iceq (rc 1138) (o_ic (0) (o_law))))))))))))))))
def bL_law_340 (f1 f2 f3 f4 f5 f6 f7 f8 f9 f10 f11 f12 f13 f14 f15 f16 f17 f18 f19 f20 f21 f22 f23 f24 f25 f26 f27 f28 f29 f30 f31 f32 f33 f34 f35 f36 f37 f38 f39 f40 f41 f42 f43 f44 f45 f46 f47 f48 f49 f50 f51 f52 f53 f54 f55 f56 f57 f58 f59 f60 f61 f62 : ox_F) (rc : Nat → ox_K) : ox_K := o_al 1 (o_al 0 (o_il 3 (o_ic (1) (o_iadd (o_ia (o_i2l (o_ic (32) (o_lshl (o_al 0 (o_il 3 (o_ic (2) (o_iadd (o_ia (o_i2l (o_lc (4294967295) (o_land (o_lor (o_al 0 (o_il 3 (o_ic (3) (o_iadd (o_ia (o_cv f11 11 2 (o_al 2 (o_al 0 (o_il 3 (o_ic (1) (o_iadd (o_ia (o_i2l (o_ic (32) (o_lshl (o_al 0 (o_il 3 (o_ic (2) (o_iadd (o_ia (o_i2l (o_lc (4294967295) (o_land (o_lor (o_al 0 (o_il 3 (o_ic (3) (o_iadd (o_ia (o_cv f12 12 2 (o_iceq (rc 1138) (o_ic (0) (o_law))))))))))))))))))))))))))))))))))))))))))))))))))
def bL_law_403 (f1 f2 f3 f4 f5 f6 f7 f8 f9 f10 f11 f12 f13 f14 f15 f16 f17 f18 f19 f20 f21 f22 f23 f24 f25 f26 f27 f28 f29 f30 f31 f32 f33 f34 f35 f36 f37 f38 f39 f40 f41 f42 f43 f44 f45 f46 f47 f48 f49 f50 f51 f52 f53 f54 f55 f56 f57 f58 f59 f60 f61 f62 : ox_F) (rc : Nat → ox_K) : ox_K := o_al 1 (o_cv f13 11 0 (o_al 2 (o_cv f14 12 0 (o_iceq (rc 1138) (o_ic (0) (o_law))))))
def bL_law_416 (f1 f2 f3 f4 f5 f6 f7 f8 f9 f10 f11 f12 f13 f14 f15 f16 f17 f18 f19 f20 f21 f22 f23 f24 f25 f26 f27 f28 f29 f30 f31 f32 f33 f34 f35 f36 f37 f38 f39 f40 f41 f42 f43 f44 f45 f46 f47 f48 f49 f50 f51 f52 f53 f54 f55 f56 f57 f58 f59 f60 f61 f62 : ox_F) (rc : Nat → ox_K) : ox_K := o_al 1 (o_cv f15 11 0 (o_al 2 (o_cv f16 12 0 (o_iceq (rc 1138) (o_ic (0) (o_law))))))
def bL_law_429 (f1 f2 f3 f4 f5 f6 f7 f8 f9 f10 f11 f12 f13 f14 f15 f16 f17 f18 f19 f20 f21 f22 f23 f24 f25 f26 f27 f28 f29 f30 f31 f32 f33 f34 f35 f36 f37 f38 f39 f40 f41 f42 f43 f44 f45 f46 f47 f48 f49 f50 f51 f52 f53 f54 f55 f56 f57 f58 f59 f60 f61 f62 : ox_F) (rc : Nat → ox_K) : ox_K := o_al 1 (o_al 0 (o_il 3 (o_ic (1) (o_iadd (o_ia (o_al 0 (o_il 3 (o_ic (2) (o_iadd (o_ia (o_al 0 (o_il 3 (o_ic (3) (o_iadd (o_ia (o_al 0 (o_il 3 (o_ic (4) (o_iadd (o_ia (o_cv f17 11 4 (o_al 2 (o_al 0 (o_il 3 (o_ic (1) (o_iadd (o_ia (o_al 0 (o_il 3 (o_ic (2) (o_iadd (o_ia (o_al 0 (o_il 3 (o_ic (3) (o_iadd (o_ia (o_al 0 (o_il 3 (o_ic (4) (o_iadd (o_ia (o_cv f18 12 4 (o_iceq (rc 1138) (o_ic (0) (o_law))))))))))))))))))))))))))))))))))))))))))))))
def bL_law_482 (f1 f2 f3 f4 f5 f6 f7 f8 f9 f10 f11 f12 f13 f14 f15 f16 f17 f18 f19 f20 f21 f22 f23 f24 f25 f26 f27 f28 f29 f30 f31 f32 f33 f34 f35 f36 f37 f38 f39 f40 f41 f42 f43 f44 f45 f46 f47 f48 f49 f50 f51 f52 f53 f54 f55 f56 f57 f58 f59 f60 f61 f62 : ox_F) (rc : Nat → ox_K) : ox_K := o_al 1 (o_al 0 (o_il 3 (o_ic (1) (o_iadd (o_ia (o_al 0 (o_il 3 (o_ic (2) (o_iadd (o_ia (o_al 0 (o_il 3 (o_ic (3) (o_iadd (o_ia (o_al 0 (o_il 3 (o_ic (4) (o_iadd (o_ia (o_al 0 (o_il 3 (o_ic (5) (o_iadd (o_ia (o_cv f19 11 5 (o_al 2 (o_al 0 (o_il 3 (o_ic (1) (o_iadd (o_ia (o_al 0 (o_il 3 (o_ic (2) (o_iadd (o_ia (o_al 0 (o_il 3 (o_ic (3) (o_iadd (o_ia (o_al 0 (o_il 3 (o_ic (4) (o_iadd (o_ia (o_al 0 (o_il 3 (o_ic (5) (o_iadd (o_ia (o_cv f20 12 5 (o_iceq (rc 1138) (o_ic (0) (o_law))))))))))))))))))))))))))))))))))))))))))))))))))))))))
def bL_law_545 (f1 f2 f3 f4 f5 f6 f7 f8 f9 f10 f11 f12 f13 f14 f15 f16 f17 f18 f19 f20 f21 f22 f23 f24 f25 f26 f27 f28 f29 f30 f31 f32 f33 f34 f35 f36 f37 f38 f39 f40 f41 f42 f43 f44 f45 f46 f47 f48 f49 f50 f51 f52 f53 f54 f55 f56 f57 f58 f59 f60 f61 f62 : ox_F) (rc : Nat → ox_K) : ox_K := o_al 1 (o_al 0 (o_il 3 (o_ic (1) (o_iadd (o_ia (o_cv f21 11 1 (o_al 2 (o_al 0 (o_il 3 (o_ic (1) (o_iadd (o_ia (o_cv f22 12 1 (o_iceq (rc 1138) (o_ic (0) (o_law))))))))))))))))
def bL_law_568 (f1 f2 f3 f4 f5 f6 f7 f8 f9 f10 f11 f12 f13 f14 f15 f16 f17 f18 f19 f20 f21 f22 f23 f24 f25 f26 f27 f28 f29 f30 f31 f32 f33 f34 f35 f36 f37 f38 f39 f40 f41 f42 f43 f44 f45 f46 f47 f48 f49 f50 f51 f52 f53 f54 f55 f56 f57 f58 f59 f60 f61 f62 : ox_F) (rc : Nat → ox_K) : ox_K := o_al 1 (o_al 0 (o_il 3 (o_ic (1) (o_iadd (o_ia (o_cv f23 11 1 (o_al 2 (o_al 0 (o_il 3 (o_ic (1) (o_iadd (o_ia (o_cv f24 12 1 (o_iceq (rc 1138) (o_ic (0) (o_law))))))))))))))))
def bL_law_591 (f1 f2 f3 f4 f5 f6 f7 f8 f9 f10 f11 f12 f13 f14 f15 f16 f17 f18 f19 f20 f21 f22 f23 f24 f25 f26 f27 f28 f29 f30 f31 f32 f33 f34 f35 f36 f37 f38 f39 f40 f41 f42 f43 f44 f45 f46 f47 f48 f49 f50 f51 f52 f53 f54 f55 f56 f57 f58 f59 f60 f61 f62 : ox_F) (rc : Nat → ox_K) : ox_K := o_al 1 (o_al 0 (o_il 3 (o_ic (1) (o_iadd (o_ia (o_al 0 (o_il 3 (o_ic (2) (o_iadd (o_ia (o_cv f25 11 2 (o_al 2 (o_al 0 (o_il 3 (o_ic (1) (o_iadd (o_ia (o_al 0 (o_il 3 (o_ic (2) (o_iadd (o_ia (o_cv f26 12 2 (o_iceq (rc 1138) (o_ic (0) (o_law))))))))))))))))))))))))))
def bL_law_624 (f1 f2 f3 f4 f5 f6 f7 f8 f9 f10 f11 f12 f13 f14 f15 f16 f17 f18 f19 f20 f21 f22 f23 f24 f25 f26 f27 f28 f29 f30 f31 f32 f33 f34 f35 f36 f37 f38 f39 f40 f41 f42 f43 f44 f45 f46 f47 f48 f49 f50 f51 f52 f53 f54 f55 f56 f57 f58 f59 f60 f61 f62 : ox_F) (rc : Nat → ox_K) : ox_K := o_al 1 (o_al 0 (o_il 3 (o_ic (1) (o_iadd (o_ia (o_cv f27 11 1 (o_al 2 (o_al 0 (o_il 3 (o_ic (1) (o_iadd (o_ia (o_cv f28 12 1 (o_iceq (rc 1138) (o_ic (0) (o_law))))))))))))))))
def bL_law_647 (f1 f2 f3 f4 f5 f6 f7 f8 f9 f10 f11 f12 f13 f14 f15 f16 f17 f18 f19 f20 f21 f22 f23 f24 f25 f26 f27 f28 f29 f30 f31 f32 f33 f34 f35 f36 f37 f38 f39 f40 f41 f42 f43 f44 f45 f46 f47 f48 f49 f50 f51 f52 f53 f54 f55 f56 f57 f58 f59 f60 f61 f62 : ox_F) (rc : Nat → ox_K) : ox_K := o_al 1 (o_al 0 (o_il 3 (o_ic (1) (o_iadd (o_ia (o_al 0 (o_il 3 (o_ic (2) (o_iadd (o_ia (o_cv f29 11 2 (o_al 2 (o_al 0 (o_il 3 (o_ic (1) (o_iadd (o_ia (o_al 0 (o_il 3 (o_ic (2) (o_iadd (o_ia (o_cv f30 12 2 (o_iceq (rc 1138) (o_ic (0) (o_law))))))))))))))))))))))))))
def bL_law_680 (f1 f2 f3 f4 f5 f6 f7 f8 f9 f10 f11 f12 f13 f14 f15 f16 f17 f18 f19 f20 f21 f22 f23 f24 f25 f26 f27 f28 f29 f30 f31 f32 f33 f34 f35 f36 f37 f38 f39 f40 f41 f42 f43 f44 f45 f46 f47 f48 f49 f50 f51 f52 f53 f54 f55 f56 f57 f58 f59 f60 f61 f62 : ox_F) (rc : Nat → ox_K) : ox_K := o_al 1 (o_al 0 (o_il 3 (o_ic (1) (o_iadd (o_ia (o_cv f31 11 1 (o_al 2 (o_al 0 (o_il 3 (o_ic (1) (o_iadd (o_ia (o_cv f32 12 1 (o_iceq (rc 1138) (o_ic (0) (o_law))))))))))))))))
def bL_law_703 (f1 f2 f3 f4 f5 f6 f7 f8 f9 f10 f11 f12 f13 f14 f15 f16 f17 f18 f19 f20 f21 f22 f23 f24 f25 f26 f27 f28 f29 f30 f31 f32 f33 f34 f35 f36 f37 f38 f39 f40 f41 f42 f43 f44 f45 f46 f47 f48 f49 f50 f51 f52 f53 f54 f55 f56 f57 f58 f59 f60 f61 f62 : ox_F) (rc : Nat → ox_K) : ox_K := o_al 1 (o_al 0 (o_il 3 (o_ic (1) (o_iadd (o_ia (o_al 0 (o_il 3 (o_ic (2) (o_iadd (o_ia (o_cv f33 11 2 (o_al 2 (o_al 0 (o_il 3 (o_ic (1) (o_iadd (o_ia (o_al 0 (o_il 3 (o_ic (2) (o_iadd (o_ia (o_cv f34 12 2 (o_iceq (rc 1138) (o_ic (0) (o_law))))))))))))))))))))))))))
def bL_law_736 (f1 f2 f3 f4 f5 f6 f7 f8 f9 f10 f11 f12 f13 f14 f15 f16 f17 f18 f19 f20 f21 f22 f23 f24 f25 f26 f27 f28 f29 f30 f31 f32 f33 f34 f35 f36 f37 f38 f39 f40 f41 f42 f43 f44 f45 f46 f47 f48 f49 f50 f51 f52 f53 f54 f55 f56 f57 f58 f59 f60 f61 f62 : ox_F) (rc : Nat → ox_K) : ox_K := o_al 1 (o_cv f35 11 0 (o_al 2 (o_cv f36 12 0 (o_iceq (rc 1138) (o_ic (0) (o_law))))))
def bL_law_749 (f1 f2 f3 f4 f5 f6 f7 f8 f9 f10 f11 f12 f13 f14 f15 f16 f17 f18 f19 f20 f21 f22 f23 f24 f25 f26 f27 f28 f29 f30 f31 f32 f33 f34 f35 f36 f37 f38 f39 f40 f41 f42 f43 f44 f45 f46 f47 f48 f49 f50 f51 f52 f53 f54 f55 f56 f57 f58 f59 f60 f61 f62 : ox_F) (rc : Nat → ox_K) : ox_K := o_al 1 (o_al 0 (o_il 3 (o_ic (1) (o_iadd (o_ia (o_al 0 (o_il 3 (o_ic (2) (o_iadd (o_ia (o_cv f37 11 2 (o_al 2 (o_al 0 (o_il 3 (o_ic (1) (o_iadd (o_ia (o_al 0 (o_il 3 (o_ic (2) (o_iadd (o_ia (o_cv f38 12 2 (o_iceq (rc 1138) (o_ic (0) (o_law))))))))))))))))))))))))))
def bL_law_782 (f1 f2 f3 f4 f5 f6 f7 f8 f9 f10 f11 f12 f13 f14 f15 f16 f17 f18 f19 f20 f21 f22 f23 f24 f25 f26 f27 f28 f29 f30 f31 f32 f33 f34 f35 f36 f37 f38 f39 f40 f41 f42 f43 f44 f45 f46 f47 f48 f49 f50 f51 f52 f53 f54 f55 f56 f57 f58 f59 f60 f61 f62 : ox_F) (rc : Nat → ox_K) : ox_K := o_al 1 (o_al 0 (o_il 3 (o_ic (1) (o_iadd (o_ia (o_cv f39 11 1 (o_al 2 (o_al 0 (o_il 3 (o_ic (1) (o_iadd (o_ia (o_cv f40 12 1 (o_iceq (rc 1138) (o_ic (0) (o_law))))))))))))))))
def bL_law_805 (f1 f2 f3 f4 f5 f6 f7 f8 f9 f10 f11 f12 f13 f14 f15 f16 f17 f18 f19 f20 f21 f22 f23 f24 f25 f26 f27 f28 f29 f30 f31 f32 f33 f34 f35 f36 f37 f38 f39 f40 f41 f42 f43 f44 f45 f46 f47 f48 f49 f50 f51 f52 f53 f54 f55 f56 f57 f58 f59 f60 f61 f62 : ox_F) (rc : Nat → ox_K) : ox_K := o_al 1 (o_al 0 (o_il 3 (o_ic (1) (o_iadd (o_ia (o_cv f41 11 1 (o_al 2 (o_al 0 (o_il 3 (o_ic (1) (o_iadd (o_ia (o_cv f42 12 1 (o_iceq (rc 1138) (o_ic (0) (o_law))))))))))))))))
def bL_law_828 (f1 f2 f3 f4 f5 f6 f7 f8 f9 f10 f11 f12 f13 f14 f15 f16 f17 f18 f19 f20 f21 f22 f23 f24 f25 f26 f27 f28 f29 f30 f31 f32 f33 f34 f35 f36 f37 f38 f39 f40 f41 f42 f43 f44 f45 f46 f47 f48 f49 f50 f51 f52 f53 f54 f55 f56 f57 f58 f59 f60 f61 f62 : ox_F) (rc : Nat → ox_K) : ox_K := o_al 1 (o_al 0 (o_il 3 (o_ic (1) (o_iadd (o_ia (o_cv f43 11 1 (o_al 2 (o_al 0 (o_il 3 (o_ic (1) (o_iadd (o_ia (o_cv f44 12 1 (o_iceq (rc 1138) (o_ic (0) (o_law))))))))))))))))
def bL_law_851 (f1 f2 f3 f4 f5 f6 f7 f8 f9 f10 f11 f12 f13 f14 f15 f16 f17 f18 f19 f20 f21 f22 f23 f24 f25 f26 f27 f28 f29 f30 f31 f32 f33 f34 f35 f36 f37 f38 f39 f40 f41 f42 f43 f44 f45 f46 f47 f48 f49 f50 f51 f52 f53 f54 f55 f56 f57 f58 f59 f60 f61 f62 : ox_F) (rc : Nat → ox_K) : ox_K := o_al 1 (o_al 0 (o_il 3 (o_ic (1) (o_iadd (o_ia (o_cv f45 11 1 (o_al 2 (o_al 0 (o_il 3 (o_ic (1) (o_iadd (o_ia (o_cv f46 12 1 (o_iceq (rc 1138) (o_ic (0) (o_law))))))))))))))))
def bL_law_874 (f1 f2 f3 f4 f5 f6 f7 f8 f9 f10 f11 f12 f13 f14 f15 f16 f17 f18 f19 f20 f21 f22 f23 f24 f25 f26 f27 f28 f29 f30 f31 f32 f33 f34 f35 f36 f37 f38 f39 f40 f41 f42 f43 f44 f45 f46 f47 f48 f49 f50 f51 f52 f53 f54 f55 f56 f57 f58 f59 f60 f61 f62 : ox_F) (rc : Nat → ox_K) : ox_K := o_al 1 (o_al 0 (o_il 3 (o_ic (1) (o_iadd (o_ia (o_al 0 (o_il 3 (o_ic (2) (o_iadd (o_ia (o_al 0 (o_il 3 (o_ic (3) (o_iadd (o_ia (o_al 0 (o_il 3 (o_ic (4) (o_iadd (o_ia (o_al 0 (o_il 3 (o_ic (5) (o_iadd (o_ia (o_cv f47 11 5 (o_al 2 (o_al 0 (o_il 3 (o_ic (1) (o_iadd (o_ia (o_al 0 (o_il 3 (o_ic (2) (o_iadd (o_ia (o_al 0 (o_il 3 (o_ic (3) (o_iadd (o_ia (o_al 0 (o_il 3 (o_ic (4) (o_iadd (o_ia (o_al 0 (o_il 3 (o_ic (5) (o_iadd (o_ia (o_cv f48 12 5 (o_iceq (rc 1138) (o_ic (0) (o_law))))))))))))))))))))))))))))))))))))))))))))))))))))))))
def bL_law_937 (f1 f2 f3 f4 f5 f6 f7 f8 f9 f10 f11 f12 f13 f14 f15 f16 f17 f18 f19 f20 f21 f22 f23 f24 f25 f26 f27 f28 f29 f30 f31 f32 f33 f34 f35 f36 f37 f38 f39 f40 f41 f42 f43 f44 f45 f46 f47 f48 f49 f50 f51 f52 f53 f54 f55 f56 f57 f58 f59 f60 f61 f62 : ox_F) (rc : Nat → ox_K) : ox_K := o_al 1 (o_al 0 (o_il 3 (o_ic (1) (o_iadd (o_ia (o_al 0 (o_il 3 (o_ic (2) (o_iadd (o_ia (o_al 0 (o_il 3 (o_ic (3) (o_iadd (o_ia (o_al 0 (o_il 3 (o_ic (4) (o_iadd (o_ia (o_cv f49 11 4 (o_al 2 (o_al 0 (o_il 3 (o_ic (1) (o_iadd (o_ia (o_al 0 (o_il 3 (o_ic (2) (o_iadd (o_ia (o_al 0 (o_il 3 (o_ic (3) (o_iadd (o_ia (o_al 0 (o_il 3 (o_ic (4) (o_iadd (o_ia (o_cv f50 12 4 (o_iceq (rc 1138) (o_ic (0) (o_law))))))))))))))))))))))))))))))))))))))))))))))
def bL_law_990 (f1 f2 f3 f4 f5 f6 f7 f8 f9 f10 f11 f12 f13 f14 f15 f16 f17 f18 f19 f20 f21 f22 f23 f24 f25 f26 f27 f28 f29 f30 f31 f32 f33 f34 f35 f36 f37 f38 f39 f40 f41 f42 f43 f44 f45 f46 f47 f48 f49 f50 f51 f52 f53 f54 f55 f56 f57 f58 f59 f60 f61 f62 : ox_F) (rc : Nat → ox_K) : ox_K := o_al 1 (o_al 0 (o_il 3 (o_ic (1) (o_iadd (o_ia (o_cv f51 11 1 (o_al 2 (o_al 0 (o_il 3 (o_ic (1) (o_iadd (o_ia (o_cv f52 12 1 (o_iceq (rc 1138) (o_ic (0) (o_law))))))))))))))))
def bL_law_1013 (f1 f2 f3 f4 f5 f6 f7 f8 f9 f10 f11 f12 f13 f14 f15 f16 f17 f18 f19 f20 f21 f22 f23 f24 f25 f26 f27 f28 f29 f30 f31 f32 f33 f34 f35 f36 f37 f38 f39 f40 f41 f42 f43 f44 f45 f46 f47 f48 f49 f50 f51 f52 f53 f54 f55 f56 f57 f58 f59 f60 f61 f62 : ox_F) (rc : Nat → ox_K) : ox_K := o_al 1 (o_al 0 (o_il 3 (o_ic (1) (o_iadd (o_ia (o_al 0 (o_il 3 (o_ic (2) (o_iadd (o_ia (o_cv f53 11 2 (o_al 2 (o_al 0 (o_il 3 (o_ic (1) (o_iadd (o_ia (o_al 0 (o_il 3 (o_ic (2) (o_iadd (o_ia (o_cv f54 12 2 (o_iceq (rc 1138) (o_ic (0) (o_law))))))))))))))))))))))))))
def bL_law_1046 (f1 f2 f3 f4 f5 f6 f7 f8 f9 f10 f11 f12 f13 f14 f15 f16 f17 f18 f19 f20 f21 f22 f23 f24 f25 f26 f27 f28 f29 f30 f31 f32 f33 f34 f35 f36 f37 f38 f39 f40 f41 f42 f43 f44 f45 f46 f47 f48 f49 f50 f51 f52 f53 f54 f55 f56 f57 f58 f59 f60 f61 f62 : ox_F) (rc : Nat → ox_K) : ox_K := o_al 1 (o_al 0 (o_il 3 (o_ic (1) (o_iadd (o_ia (o_al 0 (o_il 3 (o_ic (2) (o_iadd (o_ia (o_cv f55 11 2 (o_al 2 (o_al 0 (o_il 3 (o_ic (1) (o_iadd (o_ia (o_al 0 (o_il 3 (o_ic (2) (o_iadd (o_ia (o_cv f56 12 2 (o_iceq (rc 1138) (o_ic (0) (o_law))))))))))))))))))))))))))
def bL_law_1079 (f1 f2 f3 f4 f5 f6 f7 f8 f9 f10 f11 f12 f13 f14 f15 f16 f17 f18 f19 f20 f21 f22 f23 f24 f25 f26 f27 f28 f29 f30 f31 f32 f33 f34 f35 f36 f37 f38 f39 f40 f41 f42 f43 f44 f45 f46 f47 f48 f49 f50 f51 f52 f53 f54 f55 f56 f57 f58 f59 f60 f61 f62 : ox_F) (rc : Nat → ox_K) : ox_K := o_al 1 (o_al 0 (o_il 3 (o_ic (1) (o_iadd (o_ia (o_cv f57 11 1 (o_al 2 (o_al 0 (o_il 3 (o_ic (1) (o_iadd (o_ia (o_cv f58 12 1 (o_iceq (rc 1138) (o_ic (0) (o_law))))))))))))))))
def bL_law_1102 (f1 f2 f3 f4 f5 f6 f7 f8 f9 f10 f11 f12 f13 f14 f15 f16 f17 f18 f19 f20 f21 f22 f23 f24 f25 f26 f27 f28 f29 f30 f31 f32 f33 f34 f35 f36 f37 f38 f39 f40 f41 f42 f43 f44 f45 f46 f47 f48 f49 f50 f51 f52 f53 f54 f55 f56 f57 f58 f59 f60 f61 f62 : ox_F) (rc : Nat → ox_K) : ox_K := o_al 1 (o_al 0 (o_il 3 (o_ic (1) (o_iadd (o_ia (o_cv f59 11 1 (o_al 2 (o_al 0 (o_il 3 (o_ic (1) (o_iadd (o_ia (o_cv f60 12 1 (o_iceq (rc 1138) (o_ic (0) (o_law))))))))))))))))
def bL_law_1125 (f1 f2 f3 f4 f5 f6 f7 f8 f9 f10 f11 f12 f13 f14 f15 f16 f17 f18 f19 f20 f21 f22 f23 f24 f25 f26 f27 f28 f29 f30 f31 f32 f33 f34 f35 f36 f37 f38 f39 f40 f41 f42 f43 f44 f45 f46 f47 f48 f49 f50 f51 f52 f53 f54 f55 f56 f57 f58 f59 f60 f61 f62 : ox_F) (rc : Nat → ox_K) : ox_K := o_al 1 (o_cv f61 11 0 (o_al 2 (o_cv f62 12 0 (o_iceq (rc 1138) (o_ic (0) (o_law))))))
def bL_law_1138 (f1 f2 f3 f4 f5 f6 f7 f8 f9 f10 f11 f12 f13 f14 f15 f16 f17 f18 f19 f20 f21 f22 f23 f24 f25 f26 f27 f28 f29 f30 f31 f32 f33 f34 f35 f36 f37 f38 f39 f40 f41 f42 f43 f44 f45 f46 f47 f48 f49 f50 f51 f52 f53 f54 f55 f56 f57 f58 f59 f60 f61 f62 : ox_F) (rc : Nat → ox_K) : ox_K := o_inc 3 (6) (rc 18)
def bL_law_1144 (f1 f2 f3 f4 f5 f6 f7 f8 f9 f10 f11 f12 f13 f14 f15 f16 f17 f18 f19 f20 f21 f22 f23 f24 f25 f26 f27 f28 f29 f30 f31 f32 f33 f34 f35 f36 f37 f38 f39 f40 f41 f42 f43 f44 f45 f46 f47 f48 f49 f50 f51 f52 f53 f54 f55 f56 f57 f58 f59 f60 f61 f62 : ox_F) (rc : Nat → ox_K) : ox_K := o_ic (1) (o_law)
section SLAW
variable {p : Program} {l : Launch} {e : Env} {s : State} {m : MethodId} {b : Nat} {below : List Frame} {meth : Method} {c : Code} {g : ox_G} {c0 t0 d1 d2 d3 d4 d5 d6 d7 d8 d9 d10 d11 d12 d13 d14 d15 d16 d17 d18 d19 d20 d21 d22 d23 d24 d25 d26 d27 d28 d29 d30 d31 d32 d33 d34 d35 d36 d37 d38 d39 d40 d41 d42 d43 d44 d45 d46 d47 d48 d49 d50 d51 d52 d53 d54 d55 d56 d57 d58 d59 d60 d61 d62 : Nat} {rc : Nat → ox_K} {f1 f2 f3 f4 f5 f6 f7 f8 f9 f10 f11 f12 f13 f14 f15 f16 f17 f18 f19 f20 f21 f22 f23 f24 f25 f26 f27 f28 f29 f30 f31 f32 f33 f34 f35 f36 f37 f38 f39 f40 f41 f42 f43 f44 f45 f46 f47 f48 f49 f50 f51 f52 f53 f54 f55 f56 f57 f58 f59 f60 f61 f62 : ox_F}
set_option maxRecDepth 100000 in
theorem kL_law_0 (C : ox_C p s m #[Value.ref b] c g 4 code RL) (hr : meth.sig.returnType = ret) (hlk : meth.locks = false) (hB : g.1 = s.heap.size) (h1 : ox_Sem yX11_init cX11_init 2 none d1 f1) (e1 : d1 ≤ 1000) (h2 : ox_Sem yX12_init cX12_init 1 none d2 f2) (e2 : d2 ≤ 1000) (hrc : ∀ i9, ox_S p l e room_1 s m #[Value.ref b] below meth c g 4 c0 t0 (fun _ => lw_Z below #[Value.ref b] s) i9 (rc i9)) : ox_S p l e room_1 s m #[Value.ref b] below meth c g 4 c0 t0 (fun _ => lw_Z below #[Value.ref b] s) 0 (bL_law_0 f1 f2 f3 f4 f5 f6 f7 f8 f9 f10 f11 f12 f13 f14 f15 f16 f17 f18 f19 f20 f21 f22 f23 f24 f25 f26 f27 f28 f29 f30 f31 f32 f33 f34 f35 f36 f37 f38 f39 f40 f41 f42 f43 f44 f45 f46 f47 f48 f49 f50 f51 f52 f53 f54 f55 f56 f57 f58 f59 f60 f61 f62 rc) := by
  refine s_new (pc := 0) (q := (RX11, TX11, 13)) C rfl ox_nt11 wX_L_7 wY_X11 wN_X11 dL_law_0 ?_
  refine s_dup (pc := 3) C dL_law_3 ?_
  refine s_cn (pc := 4) C h1 wM_L_9 wI_X11_init wN_X11 wC_X11_init rfl (by decide +kernel) (ox_lvL e1 (by decide)) dL_law_4 ?_
  refine s_astore_n (pc := 7) C dL_law_7 rfl (by decide) ?_
  refine s_new (pc := 8) (q := (RX12, TX12, 59)) C rfl ox_nt12 wX_L_10 wY_X12 wN_X12 dL_law_8 ?_
  refine s_dup (pc := 11) C dL_law_11 ?_
  refine s_cn (pc := 12) C h2 wM_L_12 wI_X12_init wN_X12 wC_X12_init rfl (by decide +kernel) (ox_lvL e2 (by decide)) dL_law_12 ?_
  refine s_astore_n (pc := 15) C dL_law_15 rfl (by decide) ?_
  refine s_iconst (pc := 16) C dL_law_16 (by decide) ?_
  refine s_istore_n (pc := 17) C dL_law_17 rfl (by decide) ?_
  exact hrc 18
set_option maxRecDepth 100000 in
theorem kL_law_18 (C : ox_C p s m #[Value.ref b] c g 4 code RL) (hr : meth.sig.returnType = ret) (hlk : meth.locks = false) (hB : g.1 = s.heap.size) (hrc : ∀ i9, ox_S p l e room_1 s m #[Value.ref b] below meth c g 4 c0 t0 (fun _ => lw_Z below #[Value.ref b] s) i9 (rc i9)) : ox_S p l e room_1 s m #[Value.ref b] below meth c g 4 c0 t0 (fun _ => lw_Z below #[Value.ref b] s) 18 (bL_law_18 f1 f2 f3 f4 f5 f6 f7 f8 f9 f10 f11 f12 f13 f14 f15 f16 f17 f18 f19 f20 f21 f22 f23 f24 f25 f26 f27 f28 f29 f30 f31 f32 f33 f34 f35 f36 f37 f38 f39 f40 f41 f42 f43 f44 f45 f46 f47 f48 f49 f50 f51 f52 f53 f54 f55 f56 f57 f58 f59 f60 f61 f62 rc) := by
  refine s_keep ?_
  refine s_iload_n (pc := 18) C dL_law_18 rfl ?_
  refine s_aload_n (pc := 19) C dL_law_19 rfl ?_
  refine s_len (pc := 20) C dL_law_20 ?_
  refine s_bipush (pc := 21) C dL_law_21 (by decide) ?_
  refine s_isub (pc := 23) C dL_law_23 ?_
  refine s_icmpgt (pc := 24) 1144 C dL_law_24 (by decide) (hrc 1144) ?_
  refine s_aload_n (pc := 27) C dL_law_27 rfl ?_
  refine s_iload_n (pc := 28) C dL_law_28 rfl ?_
  refine s_ia (pc := 29) C dL_law_29 ?_
  refine s_bipush (pc := 30) C dL_law_30 (by decide) ?_
  refine s_iand (pc := 32) C dL_law_32 ?_
  exact s_tsw (pc := 33) 1138 [168, 211, 254, 317, 340, 403, 416, 429, 482, 545, 568, 591, 624, 647, 680, 703, 736, 749, 782, 805, 828, 851, 874, 937, 990, 1013, 1046, 1079, 1102, 1125] C dL_law_33 (by decide) rfl (by decide +kernel) (hrc 1138) (ox_ts hrc [168, 211, 254, 317, 340, 403, 416, 429, 482, 545, 568, 591, 624, 647, 680, 703, 736, 749, 782, 805, 828, 851, 874, 937, 990, 1013, 1046, 1079, 1102, 1125]) rfl
set_option maxRecDepth 100000 in
theorem kL_law_168 (C : ox_C p s m #[Value.ref b] c g 4 code RL) (hr : meth.sig.returnType = ret) (hlk : meth.locks = false) (hB : g.1 = s.heap.size) (h3 : ox_Sem yX11_sheet cX11_sheet 4 (some .int) d3 f3) (e3 : d3 ≤ 1000) (h4 : ox_Sem yX12_sheet cX12_sheet 5 (some .int) d4 f4) (e4 : d4 ≤ 1000) (hrc : ∀ i9, ox_S p l e room_1 s m #[Value.ref b] below meth c g 4 c0 t0 (fun _ => lw_Z below #[Value.ref b] s) i9 (rc i9)) : ox_S p l e room_1 s m #[Value.ref b] below meth c g 4 c0 t0 (fun _ => lw_Z below #[Value.ref b] s) 168 (bL_law_168 f1 f2 f3 f4 f5 f6 f7 f8 f9 f10 f11 f12 f13 f14 f15 f16 f17 f18 f19 f20 f21 f22 f23 f24 f25 f26 f27 f28 f29 f30 f31 f32 f33 f34 f35 f36 f37 f38 f39 f40 f41 f42 f43 f44 f45 f46 f47 f48 f49 f50 f51 f52 f53 f54 f55 f56 f57 f58 f59 f60 f61 f62 rc) := by
  refine s_aload_n (pc := 168) C dL_law_168 rfl ?_
  refine s_aload_n (pc := 169) C dL_law_169 rfl ?_
  refine s_iload_n (pc := 170) C dL_law_170 rfl ?_
  refine s_iconst (pc := 171) C dL_law_171 (by decide) ?_
  refine s_iadd (pc := 172) C dL_law_172 ?_
  refine s_ia (pc := 173) C dL_law_173 ?_
  refine s_aload_n (pc := 174) C dL_law_174 rfl ?_
  refine s_iload_n (pc := 175) C dL_law_175 rfl ?_
  refine s_iconst (pc := 176) C dL_law_176 (by decide) ?_
  refine s_iadd (pc := 177) C dL_law_177 ?_
  refine s_ia (pc := 178) C dL_law_178 ?_
  refine s_aload_n (pc := 179) C dL_law_179 rfl ?_
  refine s_iload_n (pc := 180) C dL_law_180 rfl ?_
  refine s_iconst (pc := 181) C dL_law_181 (by decide) ?_
  refine s_iadd (pc := 182) C dL_law_182 ?_
  refine s_ia (pc := 183) C dL_law_183 ?_
  refine s_cv (pc := 184) (q := (RX11, TX11, 13)) C h3 rfl wM_L_13 wI_X11_sheet wS_X11_sheet wN_X11 wC_X11_sheet (by decide +kernel) (ox_lvL e3 (by decide)) dL_law_184 ?_
  refine s_aload_n (pc := 187) C dL_law_187 rfl ?_
  refine s_aload_n (pc := 188) C dL_law_188 rfl ?_
  refine s_iload_n (pc := 189) C dL_law_189 rfl ?_
  refine s_iconst (pc := 190) C dL_law_190 (by decide) ?_
  refine s_iadd (pc := 191) C dL_law_191 ?_
  refine s_ia (pc := 192) C dL_law_192 ?_
  refine s_aload_n (pc := 193) C dL_law_193 rfl ?_
  refine s_iload_n (pc := 194) C dL_law_194 rfl ?_
  refine s_iconst (pc := 195) C dL_law_195 (by decide) ?_
  refine s_iadd (pc := 196) C dL_law_196 ?_
  refine s_ia (pc := 197) C dL_law_197 ?_
  refine s_aload_n (pc := 198) C dL_law_198 rfl ?_
  refine s_iload_n (pc := 199) C dL_law_199 rfl ?_
  refine s_iconst (pc := 200) C dL_law_200 (by decide) ?_
  refine s_iadd (pc := 201) C dL_law_201 ?_
  refine s_ia (pc := 202) C dL_law_202 ?_
  refine s_cv (pc := 203) (q := (RX12, TX12, 59)) C h4 rfl wM_L_17 wI_X12_sheet wS_X12_sheet wN_X12 wC_X12_sheet (by decide +kernel) (ox_lvL e4 (by decide)) dL_law_203 ?_
  refine s_icmpeq (pc := 206) 1138 C dL_law_206 (by decide) (hrc 1138) ?_
  refine s_iconst (pc := 209) C dL_law_209 (by decide) ?_
  exact s_law (pc := 210) C hr hlk hB dL_law_210
set_option maxRecDepth 100000 in
theorem kL_law_211 (C : ox_C p s m #[Value.ref b] c g 4 code RL) (hr : meth.sig.returnType = ret) (hlk : meth.locks = false) (hB : g.1 = s.heap.size) (h5 : ox_Sem yX11_set cX11_set 6 (some .int) d5 f5) (e5 : d5 ≤ 1000) (h6 : ox_Sem yX12_set cX12_set 4 (some .int) d6 f6) (e6 : d6 ≤ 1000) (hrc : ∀ i9, ox_S p l e room_1 s m #[Value.ref b] below meth c g 4 c0 t0 (fun _ => lw_Z below #[Value.ref b] s) i9 (rc i9)) : ox_S p l e room_1 s m #[Value.ref b] below meth c g 4 c0 t0 (fun _ => lw_Z below #[Value.ref b] s) 211 (bL_law_211 f1 f2 f3 f4 f5 f6 f7 f8 f9 f10 f11 f12 f13 f14 f15 f16 f17 f18 f19 f20 f21 f22 f23 f24 f25 f26 f27 f28 f29 f30 f31 f32 f33 f34 f35 f36 f37 f38 f39 f40 f41 f42 f43 f44 f45 f46 f47 f48 f49 f50 f51 f52 f53 f54 f55 f56 f57 f58 f59 f60 f61 f62 rc) := by
  refine s_aload_n (pc := 211) C dL_law_211 rfl ?_
  refine s_aload_n (pc := 212) C dL_law_212 rfl ?_
  refine s_iload_n (pc := 213) C dL_law_213 rfl ?_
  refine s_iconst (pc := 214) C dL_law_214 (by decide) ?_
  refine s_iadd (pc := 215) C dL_law_215 ?_
  refine s_ia (pc := 216) C dL_law_216 ?_
  refine s_aload_n (pc := 217) C dL_law_217 rfl ?_
  refine s_iload_n (pc := 218) C dL_law_218 rfl ?_
  refine s_iconst (pc := 219) C dL_law_219 (by decide) ?_
  refine s_iadd (pc := 220) C dL_law_220 ?_
  refine s_ia (pc := 221) C dL_law_221 ?_
  refine s_aload_n (pc := 222) C dL_law_222 rfl ?_
  refine s_iload_n (pc := 223) C dL_law_223 rfl ?_
  refine s_iconst (pc := 224) C dL_law_224 (by decide) ?_
  refine s_iadd (pc := 225) C dL_law_225 ?_
  refine s_ia (pc := 226) C dL_law_226 ?_
  refine s_cv (pc := 227) (q := (RX11, TX11, 13)) C h5 rfl wM_L_18 wI_X11_set wS_X11_set wN_X11 wC_X11_set (by decide +kernel) (ox_lvL e5 (by decide)) dL_law_227 ?_
  refine s_aload_n (pc := 230) C dL_law_230 rfl ?_
  refine s_aload_n (pc := 231) C dL_law_231 rfl ?_
  refine s_iload_n (pc := 232) C dL_law_232 rfl ?_
  refine s_iconst (pc := 233) C dL_law_233 (by decide) ?_
  refine s_iadd (pc := 234) C dL_law_234 ?_
  refine s_ia (pc := 235) C dL_law_235 ?_
  refine s_aload_n (pc := 236) C dL_law_236 rfl ?_
  refine s_iload_n (pc := 237) C dL_law_237 rfl ?_
  refine s_iconst (pc := 238) C dL_law_238 (by decide) ?_
  refine s_iadd (pc := 239) C dL_law_239 ?_
  refine s_ia (pc := 240) C dL_law_240 ?_
  refine s_aload_n (pc := 241) C dL_law_241 rfl ?_
  refine s_iload_n (pc := 242) C dL_law_242 rfl ?_
  refine s_iconst (pc := 243) C dL_law_243 (by decide) ?_
  refine s_iadd (pc := 244) C dL_law_244 ?_
  refine s_ia (pc := 245) C dL_law_245 ?_
  refine s_cv (pc := 246) (q := (RX12, TX12, 59)) C h6 rfl wM_L_21 wI_X12_set wS_X12_set wN_X12 wC_X12_set (by decide +kernel) (ox_lvL e6 (by decide)) dL_law_246 ?_
  refine s_icmpeq (pc := 249) 1138 C dL_law_249 (by decide) (hrc 1138) ?_
  refine s_iconst (pc := 252) C dL_law_252 (by decide) ?_
  exact s_law (pc := 253) C hr hlk hB dL_law_253
set_option maxRecDepth 100000 in
theorem kL_law_254 (C : ox_C p s m #[Value.ref b] c g 4 code RL) (hr : meth.sig.returnType = ret) (hlk : meth.locks = false) (hB : g.1 = s.heap.size) (h7 : ox_Sem yX11_copy cX11_copy 8 (some .int) d7 f7) (e7 : d7 ≤ 1000) (h8 : ox_Sem yX12_copy cX12_copy 9 (some .int) d8 f8) (e8 : d8 ≤ 1000) (hrc : ∀ i9, ox_S p l e room_1 s m #[Value.ref b] below meth c g 4 c0 t0 (fun _ => lw_Z below #[Value.ref b] s) i9 (rc i9)) : ox_S p l e room_1 s m #[Value.ref b] below meth c g 4 c0 t0 (fun _ => lw_Z below #[Value.ref b] s) 254 (bL_law_254 f1 f2 f3 f4 f5 f6 f7 f8 f9 f10 f11 f12 f13 f14 f15 f16 f17 f18 f19 f20 f21 f22 f23 f24 f25 f26 f27 f28 f29 f30 f31 f32 f33 f34 f35 f36 f37 f38 f39 f40 f41 f42 f43 f44 f45 f46 f47 f48 f49 f50 f51 f52 f53 f54 f55 f56 f57 f58 f59 f60 f61 f62 rc) := by
  refine s_aload_n (pc := 254) C dL_law_254 rfl ?_
  refine s_aload_n (pc := 255) C dL_law_255 rfl ?_
  refine s_iload_n (pc := 256) C dL_law_256 rfl ?_
  refine s_iconst (pc := 257) C dL_law_257 (by decide) ?_
  refine s_iadd (pc := 258) C dL_law_258 ?_
  refine s_ia (pc := 259) C dL_law_259 ?_
  refine s_aload_n (pc := 260) C dL_law_260 rfl ?_
  refine s_iload_n (pc := 261) C dL_law_261 rfl ?_
  refine s_iconst (pc := 262) C dL_law_262 (by decide) ?_
  refine s_iadd (pc := 263) C dL_law_263 ?_
  refine s_ia (pc := 264) C dL_law_264 ?_
  refine s_aload_n (pc := 265) C dL_law_265 rfl ?_
  refine s_iload_n (pc := 266) C dL_law_266 rfl ?_
  refine s_iconst (pc := 267) C dL_law_267 (by decide) ?_
  refine s_iadd (pc := 268) C dL_law_268 ?_
  refine s_ia (pc := 269) C dL_law_269 ?_
  refine s_aload_n (pc := 270) C dL_law_270 rfl ?_
  refine s_iload_n (pc := 271) C dL_law_271 rfl ?_
  refine s_iconst (pc := 272) C dL_law_272 (by decide) ?_
  refine s_iadd (pc := 273) C dL_law_273 ?_
  refine s_ia (pc := 274) C dL_law_274 ?_
  refine s_aload_n (pc := 275) C dL_law_275 rfl ?_
  refine s_iload_n (pc := 276) C dL_law_276 rfl ?_
  refine s_iconst (pc := 277) C dL_law_277 (by decide) ?_
  refine s_iadd (pc := 278) C dL_law_278 ?_
  refine s_ia (pc := 279) C dL_law_279 ?_
  refine s_cv (pc := 280) (q := (RX11, TX11, 13)) C h7 rfl wM_L_22 wI_X11_copy wS_X11_copy wN_X11 wC_X11_copy (by decide +kernel) (ox_lvL e7 (by decide)) dL_law_280 ?_
  refine s_aload_n (pc := 283) C dL_law_283 rfl ?_
  refine s_aload_n (pc := 284) C dL_law_284 rfl ?_
  refine s_iload_n (pc := 285) C dL_law_285 rfl ?_
  refine s_iconst (pc := 286) C dL_law_286 (by decide) ?_
  refine s_iadd (pc := 287) C dL_law_287 ?_
  refine s_ia (pc := 288) C dL_law_288 ?_
  refine s_aload_n (pc := 289) C dL_law_289 rfl ?_
  refine s_iload_n (pc := 290) C dL_law_290 rfl ?_
  refine s_iconst (pc := 291) C dL_law_291 (by decide) ?_
  refine s_iadd (pc := 292) C dL_law_292 ?_
  refine s_ia (pc := 293) C dL_law_293 ?_
  refine s_aload_n (pc := 294) C dL_law_294 rfl ?_
  refine s_iload_n (pc := 295) C dL_law_295 rfl ?_
  refine s_iconst (pc := 296) C dL_law_296 (by decide) ?_
  refine s_iadd (pc := 297) C dL_law_297 ?_
  refine s_ia (pc := 298) C dL_law_298 ?_
  refine s_aload_n (pc := 299) C dL_law_299 rfl ?_
  refine s_iload_n (pc := 300) C dL_law_300 rfl ?_
  refine s_iconst (pc := 301) C dL_law_301 (by decide) ?_
  refine s_iadd (pc := 302) C dL_law_302 ?_
  refine s_ia (pc := 303) C dL_law_303 ?_
  refine s_aload_n (pc := 304) C dL_law_304 rfl ?_
  refine s_iload_n (pc := 305) C dL_law_305 rfl ?_
  refine s_iconst (pc := 306) C dL_law_306 (by decide) ?_
  refine s_iadd (pc := 307) C dL_law_307 ?_
  refine s_ia (pc := 308) C dL_law_308 ?_
  refine s_cv (pc := 309) (q := (RX12, TX12, 59)) C h8 rfl wM_L_26 wI_X12_copy wS_X12_copy wN_X12 wC_X12_copy (by decide +kernel) (ox_lvL e8 (by decide)) dL_law_309 ?_
  refine s_icmpeq (pc := 312) 1138 C dL_law_312 (by decide) (hrc 1138) ?_
  refine s_iconst (pc := 315) C dL_law_315 (by decide) ?_
  exact s_law (pc := 316) C hr hlk hB dL_law_316
set_option maxRecDepth 100000 in
theorem kL_law_317 (C : ox_C p s m #[Value.ref b] c g 4 code RL) (hr : meth.sig.returnType = ret) (hlk : meth.locks = false) (hB : g.1 = s.heap.size) (h9 : ox_Sem yX11_drop cX11_drop 3 (some .int) d9 f9) (e9 : d9 ≤ 1000) (h10 : ox_Sem yX12_drop cX12_drop 2 (some .int) d10 f10) (e10 : d10 ≤ 1000) (hrc : ∀ i9, ox_S p l e room_1 s m #[Value.ref b] below meth c g 4 c0 t0 (fun _ => lw_Z below #[Value.ref b] s) i9 (rc i9)) : ox_S p l e room_1 s m #[Value.ref b] below meth c g 4 c0 t0 (fun _ => lw_Z below #[Value.ref b] s) 317 (bL_law_317 f1 f2 f3 f4 f5 f6 f7 f8 f9 f10 f11 f12 f13 f14 f15 f16 f17 f18 f19 f20 f21 f22 f23 f24 f25 f26 f27 f28 f29 f30 f31 f32 f33 f34 f35 f36 f37 f38 f39 f40 f41 f42 f43 f44 f45 f46 f47 f48 f49 f50 f51 f52 f53 f54 f55 f56 f57 f58 f59 f60 f61 f62 rc) := by
  refine s_aload_n (pc := 317) C dL_law_317 rfl ?_
  refine s_aload_n (pc := 318) C dL_law_318 rfl ?_
  refine s_iload_n (pc := 319) C dL_law_319 rfl ?_
  refine s_iconst (pc := 320) C dL_law_320 (by decide) ?_
  refine s_iadd (pc := 321) C dL_law_321 ?_
  refine s_ia (pc := 322) C dL_law_322 ?_
  refine s_cv (pc := 323) (q := (RX11, TX11, 13)) C h9 rfl wM_L_27 wI_X11_drop wS_X11_drop wN_X11 wC_X11_drop (by decide +kernel) (ox_lvL e9 (by decide)) dL_law_323 ?_
  refine s_aload_n (pc := 326) C dL_law_326 rfl ?_
  refine s_aload_n (pc := 327) C dL_law_327 rfl ?_
  refine s_iload_n (pc := 328) C dL_law_328 rfl ?_
  refine s_iconst (pc := 329) C dL_law_329 (by decide) ?_
  refine s_iadd (pc := 330) C dL_law_330 ?_
  refine s_ia (pc := 331) C dL_law_331 ?_
  refine s_cv (pc := 332) (q := (RX12, TX12, 59)) C h10 rfl wM_L_31 wI_X12_drop wS_X12_drop wN_X12 wC_X12_drop (by decide +kernel) (ox_lvL e10 (by decide)) dL_law_332 ?_
  refine s_icmpeq (pc := 335) 1138 C dL_law_335 (by decide) (hrc 1138) ?_
  refine s_iconst (pc := 338) C dL_law_338 (by decide) ?_
  exact s_law (pc := 339) C hr hlk hB dL_law_339
set_option maxRecDepth 100000 in
theorem kL_law_340 (C : ox_C p s m #[Value.ref b] c g 4 code RL) (hr : meth.sig.returnType = ret) (hlk : meth.locks = false) (hB : g.1 = s.heap.size) (h11 : ox_Sem yX11_feed cX11_feed 5 (some .int) d11 f11) (e11 : d11 ≤ 1000) (h12 : ox_Sem yX12_feed cX12_feed 5 (some .int) d12 f12) (e12 : d12 ≤ 1000) (hrc : ∀ i9, ox_S p l e room_1 s m #[Value.ref b] below meth c g 4 c0 t0 (fun _ => lw_Z below #[Value.ref b] s) i9 (rc i9)) : ox_S p l e room_1 s m #[Value.ref b] below meth c g 4 c0 t0 (fun _ => lw_Z below #[Value.ref b] s) 340 (bL_law_340 f1 f2 f3 f4 f5 f6 f7 f8 f9 f10 f11 f12 f13 f14 f15 f16 f17 f18 f19 f20 f21 f22 f23 f24 f25 f26 f27 f28 f29 f30 f31 f32 f33 f34 f35 f36 f37 f38 f39 f40 f41 f42 f43 f44 f45 f46 f47 f48 f49 f50 f51 f52 f53 f54 f55 f56 f57 f58 f59 f60 f61 f62 rc) := by
  refine s_aload_n (pc := 340) C dL_law_340 rfl ?_
  refine s_aload_n (pc := 341) C dL_law_341 rfl ?_
  refine s_iload_n (pc := 342) C dL_law_342 rfl ?_
  refine s_iconst (pc := 343) C dL_law_343 (by decide) ?_
  refine s_iadd (pc := 344) C dL_law_344 ?_
  refine s_ia (pc := 345) C dL_law_345 ?_
  refine s_i2l (pc := 346) C dL_law_346 ?_
  refine s_bipush (pc := 347) C dL_law_347 (by decide) ?_
  refine s_lshl (pc := 349) C dL_law_349 ?_
  refine s_aload_n (pc := 350) C dL_law_350 rfl ?_
  refine s_iload_n (pc := 351) C dL_law_351 rfl ?_
  refine s_iconst (pc := 352) C dL_law_352 (by decide) ?_
  refine s_iadd (pc := 353) C dL_law_353 ?_
  refine s_ia (pc := 354) C dL_law_354 ?_
  refine s_i2l (pc := 355) C dL_law_355 ?_
  refine s_ldc2 (pc := 356) C wL_L_32 dL_law_356 ?_
  refine s_land (pc := 359) C dL_law_359 ?_
  refine s_lor (pc := 360) C dL_law_360 ?_
  refine s_aload_n (pc := 361) C dL_law_361 rfl ?_
  refine s_iload_n (pc := 362) C dL_law_362 rfl ?_
  refine s_iconst (pc := 363) C dL_law_363 (by decide) ?_
  refine s_iadd (pc := 364) C dL_law_364 ?_
  refine s_ia (pc := 365) C dL_law_365 ?_
  refine s_cv (pc := 366) (q := (RX11, TX11, 13)) C h11 rfl wM_L_34 wI_X11_feed wS_X11_feed wN_X11 wC_X11_feed (by decide +kernel) (ox_lvL e11 (by decide)) dL_law_366 ?_
  refine s_aload_n (pc := 369) C dL_law_369 rfl ?_
  refine s_aload_n (pc := 370) C dL_law_370 rfl ?_
  refine s_iload_n (pc := 371) C dL_law_371 rfl ?_
  refine s_iconst (pc := 372) C dL_law_372 (by decide) ?_
  refine s_iadd (pc := 373) C dL_law_373 ?_
  refine s_ia (pc := 374) C dL_law_374 ?_
  refine s_i2l (pc := 375) C dL_law_375 ?_
  refine s_bipush (pc := 376) C dL_law_376 (by decide) ?_
  refine s_lshl (pc := 378) C dL_law_378 ?_
  refine s_aload_n (pc := 379) C dL_law_379 rfl ?_
  refine s_iload_n (pc := 380) C dL_law_380 rfl ?_
  refine s_iconst (pc := 381) C dL_law_381 (by decide) ?_
  refine s_iadd (pc := 382) C dL_law_382 ?_
  refine s_ia (pc := 383) C dL_law_383 ?_
  refine s_i2l (pc := 384) C dL_law_384 ?_
  refine s_ldc2 (pc := 385) C wL_L_32 dL_law_385 ?_
  refine s_land (pc := 388) C dL_law_388 ?_
  refine s_lor (pc := 389) C dL_law_389 ?_
  refine s_aload_n (pc := 390) C dL_law_390 rfl ?_
  refine s_iload_n (pc := 391) C dL_law_391 rfl ?_
  refine s_iconst (pc := 392) C dL_law_392 (by decide) ?_
  refine s_iadd (pc := 393) C dL_law_393 ?_
  refine s_ia (pc := 394) C dL_law_394 ?_
  refine s_cv (pc := 395) (q := (RX12, TX12, 59)) C h12 rfl wM_L_38 wI_X12_feed wS_X12_feed wN_X12 wC_X12_feed (by decide +kernel) (ox_lvL e12 (by decide)) dL_law_395 ?_
  refine s_icmpeq (pc := 398) 1138 C dL_law_398 (by decide) (hrc 1138) ?_
  refine s_iconst (pc := 401) C dL_law_401 (by decide) ?_
  exact s_law (pc := 402) C hr hlk hB dL_law_402
set_option maxRecDepth 100000 in
theorem kL_law_403 (C : ox_C p s m #[Value.ref b] c g 4 code RL) (hr : meth.sig.returnType = ret) (hlk : meth.locks = false) (hB : g.1 = s.heap.size) (h13 : ox_Sem yX11_recipes cX11_recipes 2 (some .int) d13 f13) (e13 : d13 ≤ 1000) (h14 : ox_Sem yX12_recipes cX12_recipes 1 (some .int) d14 f14) (e14 : d14 ≤ 1000) (hrc : ∀ i9, ox_S p l e room_1 s m #[Value.ref b] below meth c g 4 c0 t0 (fun _ => lw_Z below #[Value.ref b] s) i9 (rc i9)) : ox_S p l e room_1 s m #[Value.ref b] below meth c g 4 c0 t0 (fun _ => lw_Z below #[Value.ref b] s) 403 (bL_law_403 f1 f2 f3 f4 f5 f6 f7 f8 f9 f10 f11 f12 f13 f14 f15 f16 f17 f18 f19 f20 f21 f22 f23 f24 f25 f26 f27 f28 f29 f30 f31 f32 f33 f34 f35 f36 f37 f38 f39 f40 f41 f42 f43 f44 f45 f46 f47 f48 f49 f50 f51 f52 f53 f54 f55 f56 f57 f58 f59 f60 f61 f62 rc) := by
  refine s_aload_n (pc := 403) C dL_law_403 rfl ?_
  refine s_cv (pc := 404) (q := (RX11, TX11, 13)) C h13 rfl wM_L_39 wI_X11_recipes wS_X11_recipes wN_X11 wC_X11_recipes (by decide +kernel) (ox_lvL e13 (by decide)) dL_law_404 ?_
  refine s_aload_n (pc := 407) C dL_law_407 rfl ?_
  refine s_cv (pc := 408) (q := (RX12, TX12, 59)) C h14 rfl wM_L_43 wI_X12_recipes wS_X12_recipes wN_X12 wC_X12_recipes (by decide +kernel) (ox_lvL e14 (by decide)) dL_law_408 ?_
  refine s_icmpeq (pc := 411) 1138 C dL_law_411 (by decide) (hrc 1138) ?_
  refine s_iconst (pc := 414) C dL_law_414 (by decide) ?_
  exact s_law (pc := 415) C hr hlk hB dL_law_415
set_option maxRecDepth 100000 in
theorem kL_law_416 (C : ox_C p s m #[Value.ref b] c g 4 code RL) (hr : meth.sig.returnType = ret) (hlk : meth.locks = false) (hB : g.1 = s.heap.size) (h15 : ox_Sem yX11_fault cX11_fault 1 (some .int) d15 f15) (e15 : d15 ≤ 1000) (h16 : ox_Sem yX12_fault cX12_fault 1 (some .int) d16 f16) (e16 : d16 ≤ 1000) (hrc : ∀ i9, ox_S p l e room_1 s m #[Value.ref b] below meth c g 4 c0 t0 (fun _ => lw_Z below #[Value.ref b] s) i9 (rc i9)) : ox_S p l e room_1 s m #[Value.ref b] below meth c g 4 c0 t0 (fun _ => lw_Z below #[Value.ref b] s) 416 (bL_law_416 f1 f2 f3 f4 f5 f6 f7 f8 f9 f10 f11 f12 f13 f14 f15 f16 f17 f18 f19 f20 f21 f22 f23 f24 f25 f26 f27 f28 f29 f30 f31 f32 f33 f34 f35 f36 f37 f38 f39 f40 f41 f42 f43 f44 f45 f46 f47 f48 f49 f50 f51 f52 f53 f54 f55 f56 f57 f58 f59 f60 f61 f62 rc) := by
  refine s_aload_n (pc := 416) C dL_law_416 rfl ?_
  refine s_cv (pc := 417) (q := (RX11, TX11, 13)) C h15 rfl wM_L_44 wI_X11_fault wS_X11_fault wN_X11 wC_X11_fault (by decide +kernel) (ox_lvL e15 (by decide)) dL_law_417 ?_
  refine s_aload_n (pc := 420) C dL_law_420 rfl ?_
  refine s_cv (pc := 421) (q := (RX12, TX12, 59)) C h16 rfl wM_L_47 wI_X12_fault wS_X12_fault wN_X12 wC_X12_fault (by decide +kernel) (ox_lvL e16 (by decide)) dL_law_421 ?_
  refine s_icmpeq (pc := 424) 1138 C dL_law_424 (by decide) (hrc 1138) ?_
  refine s_iconst (pc := 427) C dL_law_427 (by decide) ?_
  exact s_law (pc := 428) C hr hlk hB dL_law_428
set_option maxRecDepth 100000 in
theorem kL_law_429 (C : ox_C p s m #[Value.ref b] c g 4 code RL) (hr : meth.sig.returnType = ret) (hlk : meth.locks = false) (hB : g.1 = s.heap.size) (h17 : ox_Sem yX11_temper cX11_temper 5 (some .int) d17 f17) (e17 : d17 ≤ 1000) (h18 : ox_Sem yX12_temper cX12_temper 5 (some .int) d18 f18) (e18 : d18 ≤ 1000) (hrc : ∀ i9, ox_S p l e room_1 s m #[Value.ref b] below meth c g 4 c0 t0 (fun _ => lw_Z below #[Value.ref b] s) i9 (rc i9)) : ox_S p l e room_1 s m #[Value.ref b] below meth c g 4 c0 t0 (fun _ => lw_Z below #[Value.ref b] s) 429 (bL_law_429 f1 f2 f3 f4 f5 f6 f7 f8 f9 f10 f11 f12 f13 f14 f15 f16 f17 f18 f19 f20 f21 f22 f23 f24 f25 f26 f27 f28 f29 f30 f31 f32 f33 f34 f35 f36 f37 f38 f39 f40 f41 f42 f43 f44 f45 f46 f47 f48 f49 f50 f51 f52 f53 f54 f55 f56 f57 f58 f59 f60 f61 f62 rc) := by
  refine s_aload_n (pc := 429) C dL_law_429 rfl ?_
  refine s_aload_n (pc := 430) C dL_law_430 rfl ?_
  refine s_iload_n (pc := 431) C dL_law_431 rfl ?_
  refine s_iconst (pc := 432) C dL_law_432 (by decide) ?_
  refine s_iadd (pc := 433) C dL_law_433 ?_
  refine s_ia (pc := 434) C dL_law_434 ?_
  refine s_aload_n (pc := 435) C dL_law_435 rfl ?_
  refine s_iload_n (pc := 436) C dL_law_436 rfl ?_
  refine s_iconst (pc := 437) C dL_law_437 (by decide) ?_
  refine s_iadd (pc := 438) C dL_law_438 ?_
  refine s_ia (pc := 439) C dL_law_439 ?_
  refine s_aload_n (pc := 440) C dL_law_440 rfl ?_
  refine s_iload_n (pc := 441) C dL_law_441 rfl ?_
  refine s_iconst (pc := 442) C dL_law_442 (by decide) ?_
  refine s_iadd (pc := 443) C dL_law_443 ?_
  refine s_ia (pc := 444) C dL_law_444 ?_
  refine s_aload_n (pc := 445) C dL_law_445 rfl ?_
  refine s_iload_n (pc := 446) C dL_law_446 rfl ?_
  refine s_iconst (pc := 447) C dL_law_447 (by decide) ?_
  refine s_iadd (pc := 448) C dL_law_448 ?_
  refine s_ia (pc := 449) C dL_law_449 ?_
  refine s_cv (pc := 450) (q := (RX11, TX11, 13)) C h17 rfl wM_L_48 wI_X11_temper wS_X11_temper wN_X11 wC_X11_temper (by decide +kernel) (ox_lvL e17 (by decide)) dL_law_450 ?_
  refine s_aload_n (pc := 453) C dL_law_453 rfl ?_
  refine s_aload_n (pc := 454) C dL_law_454 rfl ?_
  refine s_iload_n (pc := 455) C dL_law_455 rfl ?_
  refine s_iconst (pc := 456) C dL_law_456 (by decide) ?_
  refine s_iadd (pc := 457) C dL_law_457 ?_
  refine s_ia (pc := 458) C dL_law_458 ?_
  refine s_aload_n (pc := 459) C dL_law_459 rfl ?_
  refine s_iload_n (pc := 460) C dL_law_460 rfl ?_
  refine s_iconst (pc := 461) C dL_law_461 (by decide) ?_
  refine s_iadd (pc := 462) C dL_law_462 ?_
  refine s_ia (pc := 463) C dL_law_463 ?_
  refine s_aload_n (pc := 464) C dL_law_464 rfl ?_
  refine s_iload_n (pc := 465) C dL_law_465 rfl ?_
  refine s_iconst (pc := 466) C dL_law_466 (by decide) ?_
  refine s_iadd (pc := 467) C dL_law_467 ?_
  refine s_ia (pc := 468) C dL_law_468 ?_
  refine s_aload_n (pc := 469) C dL_law_469 rfl ?_
  refine s_iload_n (pc := 470) C dL_law_470 rfl ?_
  refine s_iconst (pc := 471) C dL_law_471 (by decide) ?_
  refine s_iadd (pc := 472) C dL_law_472 ?_
  refine s_ia (pc := 473) C dL_law_473 ?_
  refine s_cv (pc := 474) (q := (RX12, TX12, 59)) C h18 rfl wM_L_52 wI_X12_temper wS_X12_temper wN_X12 wC_X12_temper (by decide +kernel) (ox_lvL e18 (by decide)) dL_law_474 ?_
  refine s_icmpeq (pc := 477) 1138 C dL_law_477 (by decide) (hrc 1138) ?_
  refine s_iconst (pc := 480) C dL_law_480 (by decide) ?_
  exact s_law (pc := 481) C hr hlk hB dL_law_481
set_option maxRecDepth 100000 in
theorem kL_law_482 (C : ox_C p s m #[Value.ref b] c g 4 code RL) (hr : meth.sig.returnType = ret) (hlk : meth.locks = false) (hB : g.1 = s.heap.size) (h19 : ox_Sem yX11_fill cX11_fill 10 (some .int) d19 f19) (e19 : d19 ≤ 1000) (h20 : ox_Sem yX12_fill cX12_fill 8 (some .int) d20 f20) (e20 : d20 ≤ 1000) (hrc : ∀ i9, ox_S p l e room_1 s m #[Value.ref b] below meth c g 4 c0 t0 (fun _ => lw_Z below #[Value.ref b] s) i9 (rc i9)) : ox_S p l e room_1 s m #[Value.ref b] below meth c g 4 c0 t0 (fun _ => lw_Z below #[Value.ref b] s) 482 (bL_law_482 f1 f2 f3 f4 f5 f6 f7 f8 f9 f10 f11 f12 f13 f14 f15 f16 f17 f18 f19 f20 f21 f22 f23 f24 f25 f26 f27 f28 f29 f30 f31 f32 f33 f34 f35 f36 f37 f38 f39 f40 f41 f42 f43 f44 f45 f46 f47 f48 f49 f50 f51 f52 f53 f54 f55 f56 f57 f58 f59 f60 f61 f62 rc) := by
  refine s_aload_n (pc := 482) C dL_law_482 rfl ?_
  refine s_aload_n (pc := 483) C dL_law_483 rfl ?_
  refine s_iload_n (pc := 484) C dL_law_484 rfl ?_
  refine s_iconst (pc := 485) C dL_law_485 (by decide) ?_
  refine s_iadd (pc := 486) C dL_law_486 ?_
  refine s_ia (pc := 487) C dL_law_487 ?_
  refine s_aload_n (pc := 488) C dL_law_488 rfl ?_
  refine s_iload_n (pc := 489) C dL_law_489 rfl ?_
  refine s_iconst (pc := 490) C dL_law_490 (by decide) ?_
  refine s_iadd (pc := 491) C dL_law_491 ?_
  refine s_ia (pc := 492) C dL_law_492 ?_
  refine s_aload_n (pc := 493) C dL_law_493 rfl ?_
  refine s_iload_n (pc := 494) C dL_law_494 rfl ?_
  refine s_iconst (pc := 495) C dL_law_495 (by decide) ?_
  refine s_iadd (pc := 496) C dL_law_496 ?_
  refine s_ia (pc := 497) C dL_law_497 ?_
  refine s_aload_n (pc := 498) C dL_law_498 rfl ?_
  refine s_iload_n (pc := 499) C dL_law_499 rfl ?_
  refine s_iconst (pc := 500) C dL_law_500 (by decide) ?_
  refine s_iadd (pc := 501) C dL_law_501 ?_
  refine s_ia (pc := 502) C dL_law_502 ?_
  refine s_aload_n (pc := 503) C dL_law_503 rfl ?_
  refine s_iload_n (pc := 504) C dL_law_504 rfl ?_
  refine s_iconst (pc := 505) C dL_law_505 (by decide) ?_
  refine s_iadd (pc := 506) C dL_law_506 ?_
  refine s_ia (pc := 507) C dL_law_507 ?_
  refine s_cv (pc := 508) (q := (RX11, TX11, 13)) C h19 rfl wM_L_53 wI_X11_fill wS_X11_fill wN_X11 wC_X11_fill (by decide +kernel) (ox_lvL e19 (by decide)) dL_law_508 ?_
  refine s_aload_n (pc := 511) C dL_law_511 rfl ?_
  refine s_aload_n (pc := 512) C dL_law_512 rfl ?_
  refine s_iload_n (pc := 513) C dL_law_513 rfl ?_
  refine s_iconst (pc := 514) C dL_law_514 (by decide) ?_
  refine s_iadd (pc := 515) C dL_law_515 ?_
  refine s_ia (pc := 516) C dL_law_516 ?_
  refine s_aload_n (pc := 517) C dL_law_517 rfl ?_
  refine s_iload_n (pc := 518) C dL_law_518 rfl ?_
  refine s_iconst (pc := 519) C dL_law_519 (by decide) ?_
  refine s_iadd (pc := 520) C dL_law_520 ?_
  refine s_ia (pc := 521) C dL_law_521 ?_
  refine s_aload_n (pc := 522) C dL_law_522 rfl ?_
  refine s_iload_n (pc := 523) C dL_law_523 rfl ?_
  refine s_iconst (pc := 524) C dL_law_524 (by decide) ?_
  refine s_iadd (pc := 525) C dL_law_525 ?_
  refine s_ia (pc := 526) C dL_law_526 ?_
  refine s_aload_n (pc := 527) C dL_law_527 rfl ?_
  refine s_iload_n (pc := 528) C dL_law_528 rfl ?_
  refine s_iconst (pc := 529) C dL_law_529 (by decide) ?_
  refine s_iadd (pc := 530) C dL_law_530 ?_
  refine s_ia (pc := 531) C dL_law_531 ?_
  refine s_aload_n (pc := 532) C dL_law_532 rfl ?_
  refine s_iload_n (pc := 533) C dL_law_533 rfl ?_
  refine s_iconst (pc := 534) C dL_law_534 (by decide) ?_
  refine s_iadd (pc := 535) C dL_law_535 ?_
  refine s_ia (pc := 536) C dL_law_536 ?_
  refine s_cv (pc := 537) (q := (RX12, TX12, 59)) C h20 rfl wM_L_56 wI_X12_fill wS_X12_fill wN_X12 wC_X12_fill (by decide +kernel) (ox_lvL e20 (by decide)) dL_law_537 ?_
  refine s_icmpeq (pc := 540) 1138 C dL_law_540 (by decide) (hrc 1138) ?_
  refine s_iconst (pc := 543) C dL_law_543 (by decide) ?_
  exact s_law (pc := 544) C hr hlk hB dL_law_544
set_option maxRecDepth 100000 in
theorem kL_law_545 (C : ox_C p s m #[Value.ref b] c g 4 code RL) (hr : meth.sig.returnType = ret) (hlk : meth.locks = false) (hB : g.1 = s.heap.size) (h21 : ox_Sem yX11_ready cX11_ready 3 (some .int) d21 f21) (e21 : d21 ≤ 1000) (h22 : ox_Sem yX12_ready cX12_ready 2 (some .int) d22 f22) (e22 : d22 ≤ 1000) (hrc : ∀ i9, ox_S p l e room_1 s m #[Value.ref b] below meth c g 4 c0 t0 (fun _ => lw_Z below #[Value.ref b] s) i9 (rc i9)) : ox_S p l e room_1 s m #[Value.ref b] below meth c g 4 c0 t0 (fun _ => lw_Z below #[Value.ref b] s) 545 (bL_law_545 f1 f2 f3 f4 f5 f6 f7 f8 f9 f10 f11 f12 f13 f14 f15 f16 f17 f18 f19 f20 f21 f22 f23 f24 f25 f26 f27 f28 f29 f30 f31 f32 f33 f34 f35 f36 f37 f38 f39 f40 f41 f42 f43 f44 f45 f46 f47 f48 f49 f50 f51 f52 f53 f54 f55 f56 f57 f58 f59 f60 f61 f62 rc) := by
  refine s_aload_n (pc := 545) C dL_law_545 rfl ?_
  refine s_aload_n (pc := 546) C dL_law_546 rfl ?_
  refine s_iload_n (pc := 547) C dL_law_547 rfl ?_
  refine s_iconst (pc := 548) C dL_law_548 (by decide) ?_
  refine s_iadd (pc := 549) C dL_law_549 ?_
  refine s_ia (pc := 550) C dL_law_550 ?_
  refine s_cv (pc := 551) (q := (RX11, TX11, 13)) C h21 rfl wM_L_57 wI_X11_ready wS_X11_ready wN_X11 wC_X11_ready (by decide +kernel) (ox_lvL e21 (by decide)) dL_law_551 ?_
  refine s_aload_n (pc := 554) C dL_law_554 rfl ?_
  refine s_aload_n (pc := 555) C dL_law_555 rfl ?_
  refine s_iload_n (pc := 556) C dL_law_556 rfl ?_
  refine s_iconst (pc := 557) C dL_law_557 (by decide) ?_
  refine s_iadd (pc := 558) C dL_law_558 ?_
  refine s_ia (pc := 559) C dL_law_559 ?_
  refine s_cv (pc := 560) (q := (RX12, TX12, 59)) C h22 rfl wM_L_60 wI_X12_ready wS_X12_ready wN_X12 wC_X12_ready (by decide +kernel) (ox_lvL e22 (by decide)) dL_law_560 ?_
  refine s_icmpeq (pc := 563) 1138 C dL_law_563 (by decide) (hrc 1138) ?_
  refine s_iconst (pc := 566) C dL_law_566 (by decide) ?_
  exact s_law (pc := 567) C hr hlk hB dL_law_567
set_option maxRecDepth 100000 in
theorem kL_law_568 (C : ox_C p s m #[Value.ref b] c g 4 code RL) (hr : meth.sig.returnType = ret) (hlk : meth.locks = false) (hB : g.1 = s.heap.size) (h23 : ox_Sem yX11_drain cX11_drain 3 (some .int) d23 f23) (e23 : d23 ≤ 1000) (h24 : ox_Sem yX12_drain cX12_drain 3 (some .int) d24 f24) (e24 : d24 ≤ 1000) (hrc : ∀ i9, ox_S p l e room_1 s m #[Value.ref b] below meth c g 4 c0 t0 (fun _ => lw_Z below #[Value.ref b] s) i9 (rc i9)) : ox_S p l e room_1 s m #[Value.ref b] below meth c g 4 c0 t0 (fun _ => lw_Z below #[Value.ref b] s) 568 (bL_law_568 f1 f2 f3 f4 f5 f6 f7 f8 f9 f10 f11 f12 f13 f14 f15 f16 f17 f18 f19 f20 f21 f22 f23 f24 f25 f26 f27 f28 f29 f30 f31 f32 f33 f34 f35 f36 f37 f38 f39 f40 f41 f42 f43 f44 f45 f46 f47 f48 f49 f50 f51 f52 f53 f54 f55 f56 f57 f58 f59 f60 f61 f62 rc) := by
  refine s_aload_n (pc := 568) C dL_law_568 rfl ?_
  refine s_aload_n (pc := 569) C dL_law_569 rfl ?_
  refine s_iload_n (pc := 570) C dL_law_570 rfl ?_
  refine s_iconst (pc := 571) C dL_law_571 (by decide) ?_
  refine s_iadd (pc := 572) C dL_law_572 ?_
  refine s_ia (pc := 573) C dL_law_573 ?_
  refine s_cv (pc := 574) (q := (RX11, TX11, 13)) C h23 rfl wM_L_61 wI_X11_drain wS_X11_drain wN_X11 wC_X11_drain (by decide +kernel) (ox_lvL e23 (by decide)) dL_law_574 ?_
  refine s_aload_n (pc := 577) C dL_law_577 rfl ?_
  refine s_aload_n (pc := 578) C dL_law_578 rfl ?_
  refine s_iload_n (pc := 579) C dL_law_579 rfl ?_
  refine s_iconst (pc := 580) C dL_law_580 (by decide) ?_
  refine s_iadd (pc := 581) C dL_law_581 ?_
  refine s_ia (pc := 582) C dL_law_582 ?_
  refine s_cv (pc := 583) (q := (RX12, TX12, 59)) C h24 rfl wM_L_64 wI_X12_drain wS_X12_drain wN_X12 wC_X12_drain (by decide +kernel) (ox_lvL e24 (by decide)) dL_law_583 ?_
  refine s_icmpeq (pc := 586) 1138 C dL_law_586 (by decide) (hrc 1138) ?_
  refine s_iconst (pc := 589) C dL_law_589 (by decide) ?_
  exact s_law (pc := 590) C hr hlk hB dL_law_590
set_option maxRecDepth 100000 in
theorem kL_law_591 (C : ox_C p s m #[Value.ref b] c g 4 code RL) (hr : meth.sig.returnType = ret) (hlk : meth.locks = false) (hB : g.1 = s.heap.size) (h25 : ox_Sem yX11_tank cX11_tank 5 (some .int) d25 f25) (e25 : d25 ≤ 1000) (h26 : ox_Sem yX12_tank cX12_tank 3 (some .int) d26 f26) (e26 : d26 ≤ 1000) (hrc : ∀ i9, ox_S p l e room_1 s m #[Value.ref b] below meth c g 4 c0 t0 (fun _ => lw_Z below #[Value.ref b] s) i9 (rc i9)) : ox_S p l e room_1 s m #[Value.ref b] below meth c g 4 c0 t0 (fun _ => lw_Z below #[Value.ref b] s) 591 (bL_law_591 f1 f2 f3 f4 f5 f6 f7 f8 f9 f10 f11 f12 f13 f14 f15 f16 f17 f18 f19 f20 f21 f22 f23 f24 f25 f26 f27 f28 f29 f30 f31 f32 f33 f34 f35 f36 f37 f38 f39 f40 f41 f42 f43 f44 f45 f46 f47 f48 f49 f50 f51 f52 f53 f54 f55 f56 f57 f58 f59 f60 f61 f62 rc) := by
  refine s_aload_n (pc := 591) C dL_law_591 rfl ?_
  refine s_aload_n (pc := 592) C dL_law_592 rfl ?_
  refine s_iload_n (pc := 593) C dL_law_593 rfl ?_
  refine s_iconst (pc := 594) C dL_law_594 (by decide) ?_
  refine s_iadd (pc := 595) C dL_law_595 ?_
  refine s_ia (pc := 596) C dL_law_596 ?_
  refine s_aload_n (pc := 597) C dL_law_597 rfl ?_
  refine s_iload_n (pc := 598) C dL_law_598 rfl ?_
  refine s_iconst (pc := 599) C dL_law_599 (by decide) ?_
  refine s_iadd (pc := 600) C dL_law_600 ?_
  refine s_ia (pc := 601) C dL_law_601 ?_
  refine s_cv (pc := 602) (q := (RX11, TX11, 13)) C h25 rfl wM_L_65 wI_X11_tank wS_X11_tank wN_X11 wC_X11_tank (by decide +kernel) (ox_lvL e25 (by decide)) dL_law_602 ?_
  refine s_aload_n (pc := 605) C dL_law_605 rfl ?_
  refine s_aload_n (pc := 606) C dL_law_606 rfl ?_
  refine s_iload_n (pc := 607) C dL_law_607 rfl ?_
  refine s_iconst (pc := 608) C dL_law_608 (by decide) ?_
  refine s_iadd (pc := 609) C dL_law_609 ?_
  refine s_ia (pc := 610) C dL_law_610 ?_
  refine s_aload_n (pc := 611) C dL_law_611 rfl ?_
  refine s_iload_n (pc := 612) C dL_law_612 rfl ?_
  refine s_iconst (pc := 613) C dL_law_613 (by decide) ?_
  refine s_iadd (pc := 614) C dL_law_614 ?_
  refine s_ia (pc := 615) C dL_law_615 ?_
  refine s_cv (pc := 616) (q := (RX12, TX12, 59)) C h26 rfl wM_L_69 wI_X12_tank wS_X12_tank wN_X12 wC_X12_tank (by decide +kernel) (ox_lvL e26 (by decide)) dL_law_616 ?_
  refine s_icmpeq (pc := 619) 1138 C dL_law_619 (by decide) (hrc 1138) ?_
  refine s_iconst (pc := 622) C dL_law_622 (by decide) ?_
  exact s_law (pc := 623) C hr hlk hB dL_law_623
set_option maxRecDepth 100000 in
theorem kL_law_624 (C : ox_C p s m #[Value.ref b] c g 4 code RL) (hr : meth.sig.returnType = ret) (hlk : meth.locks = false) (hB : g.1 = s.heap.size) (h27 : ox_Sem yX11_belt cX11_belt 3 (some .int) d27 f27) (e27 : d27 ≤ 1000) (h28 : ox_Sem yX12_belt cX12_belt 3 (some .int) d28 f28) (e28 : d28 ≤ 1000) (hrc : ∀ i9, ox_S p l e room_1 s m #[Value.ref b] below meth c g 4 c0 t0 (fun _ => lw_Z below #[Value.ref b] s) i9 (rc i9)) : ox_S p l e room_1 s m #[Value.ref b] below meth c g 4 c0 t0 (fun _ => lw_Z below #[Value.ref b] s) 624 (bL_law_624 f1 f2 f3 f4 f5 f6 f7 f8 f9 f10 f11 f12 f13 f14 f15 f16 f17 f18 f19 f20 f21 f22 f23 f24 f25 f26 f27 f28 f29 f30 f31 f32 f33 f34 f35 f36 f37 f38 f39 f40 f41 f42 f43 f44 f45 f46 f47 f48 f49 f50 f51 f52 f53 f54 f55 f56 f57 f58 f59 f60 f61 f62 rc) := by
  refine s_aload_n (pc := 624) C dL_law_624 rfl ?_
  refine s_aload_n (pc := 625) C dL_law_625 rfl ?_
  refine s_iload_n (pc := 626) C dL_law_626 rfl ?_
  refine s_iconst (pc := 627) C dL_law_627 (by decide) ?_
  refine s_iadd (pc := 628) C dL_law_628 ?_
  refine s_ia (pc := 629) C dL_law_629 ?_
  refine s_cv (pc := 630) (q := (RX11, TX11, 13)) C h27 rfl wM_L_70 wI_X11_belt wS_X11_belt wN_X11 wC_X11_belt (by decide +kernel) (ox_lvL e27 (by decide)) dL_law_630 ?_
  refine s_aload_n (pc := 633) C dL_law_633 rfl ?_
  refine s_aload_n (pc := 634) C dL_law_634 rfl ?_
  refine s_iload_n (pc := 635) C dL_law_635 rfl ?_
  refine s_iconst (pc := 636) C dL_law_636 (by decide) ?_
  refine s_iadd (pc := 637) C dL_law_637 ?_
  refine s_ia (pc := 638) C dL_law_638 ?_
  refine s_cv (pc := 639) (q := (RX12, TX12, 59)) C h28 rfl wM_L_73 wI_X12_belt wS_X12_belt wN_X12 wC_X12_belt (by decide +kernel) (ox_lvL e28 (by decide)) dL_law_639 ?_
  refine s_icmpeq (pc := 642) 1138 C dL_law_642 (by decide) (hrc 1138) ?_
  refine s_iconst (pc := 645) C dL_law_645 (by decide) ?_
  exact s_law (pc := 646) C hr hlk hB dL_law_646
set_option maxRecDepth 100000 in
theorem kL_law_647 (C : ox_C p s m #[Value.ref b] c g 4 code RL) (hr : meth.sig.returnType = ret) (hlk : meth.locks = false) (hB : g.1 = s.heap.size) (h29 : ox_Sem yX11_gear cX11_gear 4 (some .int) d29 f29) (e29 : d29 ≤ 1000) (h30 : ox_Sem yX12_gear cX12_gear 6 (some .int) d30 f30) (e30 : d30 ≤ 1000) (hrc : ∀ i9, ox_S p l e room_1 s m #[Value.ref b] below meth c g 4 c0 t0 (fun _ => lw_Z below #[Value.ref b] s) i9 (rc i9)) : ox_S p l e room_1 s m #[Value.ref b] below meth c g 4 c0 t0 (fun _ => lw_Z below #[Value.ref b] s) 647 (bL_law_647 f1 f2 f3 f4 f5 f6 f7 f8 f9 f10 f11 f12 f13 f14 f15 f16 f17 f18 f19 f20 f21 f22 f23 f24 f25 f26 f27 f28 f29 f30 f31 f32 f33 f34 f35 f36 f37 f38 f39 f40 f41 f42 f43 f44 f45 f46 f47 f48 f49 f50 f51 f52 f53 f54 f55 f56 f57 f58 f59 f60 f61 f62 rc) := by
  refine s_aload_n (pc := 647) C dL_law_647 rfl ?_
  refine s_aload_n (pc := 648) C dL_law_648 rfl ?_
  refine s_iload_n (pc := 649) C dL_law_649 rfl ?_
  refine s_iconst (pc := 650) C dL_law_650 (by decide) ?_
  refine s_iadd (pc := 651) C dL_law_651 ?_
  refine s_ia (pc := 652) C dL_law_652 ?_
  refine s_aload_n (pc := 653) C dL_law_653 rfl ?_
  refine s_iload_n (pc := 654) C dL_law_654 rfl ?_
  refine s_iconst (pc := 655) C dL_law_655 (by decide) ?_
  refine s_iadd (pc := 656) C dL_law_656 ?_
  refine s_ia (pc := 657) C dL_law_657 ?_
  refine s_cv (pc := 658) (q := (RX11, TX11, 13)) C h29 rfl wM_L_74 wI_X11_gear wS_X11_gear wN_X11 wC_X11_gear (by decide +kernel) (ox_lvL e29 (by decide)) dL_law_658 ?_
  refine s_aload_n (pc := 661) C dL_law_661 rfl ?_
  refine s_aload_n (pc := 662) C dL_law_662 rfl ?_
  refine s_iload_n (pc := 663) C dL_law_663 rfl ?_
  refine s_iconst (pc := 664) C dL_law_664 (by decide) ?_
  refine s_iadd (pc := 665) C dL_law_665 ?_
  refine s_ia (pc := 666) C dL_law_666 ?_
  refine s_aload_n (pc := 667) C dL_law_667 rfl ?_
  refine s_iload_n (pc := 668) C dL_law_668 rfl ?_
  refine s_iconst (pc := 669) C dL_law_669 (by decide) ?_
  refine s_iadd (pc := 670) C dL_law_670 ?_
  refine s_ia (pc := 671) C dL_law_671 ?_
  refine s_cv (pc := 672) (q := (RX12, TX12, 59)) C h30 rfl wM_L_77 wI_X12_gear wS_X12_gear wN_X12 wC_X12_gear (by decide +kernel) (ox_lvL e30 (by decide)) dL_law_672 ?_
  refine s_icmpeq (pc := 675) 1138 C dL_law_675 (by decide) (hrc 1138) ?_
  refine s_iconst (pc := 678) C dL_law_678 (by decide) ?_
  exact s_law (pc := 679) C hr hlk hB dL_law_679
set_option maxRecDepth 100000 in
theorem kL_law_680 (C : ox_C p s m #[Value.ref b] c g 4 code RL) (hr : meth.sig.returnType = ret) (hlk : meth.locks = false) (hB : g.1 = s.heap.size) (h31 : ox_Sem yX11_beat cX11_beat 4 (some .int) d31 f31) (e31 : d31 ≤ 1000) (h32 : ox_Sem yX12_beat cX12_beat 4 (some .int) d32 f32) (e32 : d32 ≤ 1000) (hrc : ∀ i9, ox_S p l e room_1 s m #[Value.ref b] below meth c g 4 c0 t0 (fun _ => lw_Z below #[Value.ref b] s) i9 (rc i9)) : ox_S p l e room_1 s m #[Value.ref b] below meth c g 4 c0 t0 (fun _ => lw_Z below #[Value.ref b] s) 680 (bL_law_680 f1 f2 f3 f4 f5 f6 f7 f8 f9 f10 f11 f12 f13 f14 f15 f16 f17 f18 f19 f20 f21 f22 f23 f24 f25 f26 f27 f28 f29 f30 f31 f32 f33 f34 f35 f36 f37 f38 f39 f40 f41 f42 f43 f44 f45 f46 f47 f48 f49 f50 f51 f52 f53 f54 f55 f56 f57 f58 f59 f60 f61 f62 rc) := by
  refine s_aload_n (pc := 680) C dL_law_680 rfl ?_
  refine s_aload_n (pc := 681) C dL_law_681 rfl ?_
  refine s_iload_n (pc := 682) C dL_law_682 rfl ?_
  refine s_iconst (pc := 683) C dL_law_683 (by decide) ?_
  refine s_iadd (pc := 684) C dL_law_684 ?_
  refine s_ia (pc := 685) C dL_law_685 ?_
  refine s_cv (pc := 686) (q := (RX11, TX11, 13)) C h31 rfl wM_L_78 wI_X11_beat wS_X11_beat wN_X11 wC_X11_beat (by decide +kernel) (ox_lvL e31 (by decide)) dL_law_686 ?_
  refine s_aload_n (pc := 689) C dL_law_689 rfl ?_
  refine s_aload_n (pc := 690) C dL_law_690 rfl ?_
  refine s_iload_n (pc := 691) C dL_law_691 rfl ?_
  refine s_iconst (pc := 692) C dL_law_692 (by decide) ?_
  refine s_iadd (pc := 693) C dL_law_693 ?_
  refine s_ia (pc := 694) C dL_law_694 ?_
  refine s_cv (pc := 695) (q := (RX12, TX12, 59)) C h32 rfl wM_L_81 wI_X12_beat wS_X12_beat wN_X12 wC_X12_beat (by decide +kernel) (ox_lvL e32 (by decide)) dL_law_695 ?_
  refine s_icmpeq (pc := 698) 1138 C dL_law_698 (by decide) (hrc 1138) ?_
  refine s_iconst (pc := 701) C dL_law_701 (by decide) ?_
  exact s_law (pc := 702) C hr hlk hB dL_law_702
set_option maxRecDepth 100000 in
theorem kL_law_703 (C : ox_C p s m #[Value.ref b] c g 4 code RL) (hr : meth.sig.returnType = ret) (hlk : meth.locks = false) (hB : g.1 = s.heap.size) (h33 : ox_Sem yX11_mould cX11_mould 4 (some .int) d33 f33) (e33 : d33 ≤ 1000) (h34 : ox_Sem yX12_mould cX12_mould 4 (some .int) d34 f34) (e34 : d34 ≤ 1000) (hrc : ∀ i9, ox_S p l e room_1 s m #[Value.ref b] below meth c g 4 c0 t0 (fun _ => lw_Z below #[Value.ref b] s) i9 (rc i9)) : ox_S p l e room_1 s m #[Value.ref b] below meth c g 4 c0 t0 (fun _ => lw_Z below #[Value.ref b] s) 703 (bL_law_703 f1 f2 f3 f4 f5 f6 f7 f8 f9 f10 f11 f12 f13 f14 f15 f16 f17 f18 f19 f20 f21 f22 f23 f24 f25 f26 f27 f28 f29 f30 f31 f32 f33 f34 f35 f36 f37 f38 f39 f40 f41 f42 f43 f44 f45 f46 f47 f48 f49 f50 f51 f52 f53 f54 f55 f56 f57 f58 f59 f60 f61 f62 rc) := by
  refine s_aload_n (pc := 703) C dL_law_703 rfl ?_
  refine s_aload_n (pc := 704) C dL_law_704 rfl ?_
  refine s_iload_n (pc := 705) C dL_law_705 rfl ?_
  refine s_iconst (pc := 706) C dL_law_706 (by decide) ?_
  refine s_iadd (pc := 707) C dL_law_707 ?_
  refine s_ia (pc := 708) C dL_law_708 ?_
  refine s_aload_n (pc := 709) C dL_law_709 rfl ?_
  refine s_iload_n (pc := 710) C dL_law_710 rfl ?_
  refine s_iconst (pc := 711) C dL_law_711 (by decide) ?_
  refine s_iadd (pc := 712) C dL_law_712 ?_
  refine s_ia (pc := 713) C dL_law_713 ?_
  refine s_cv (pc := 714) (q := (RX11, TX11, 13)) C h33 rfl wM_L_82 wI_X11_mould wS_X11_mould wN_X11 wC_X11_mould (by decide +kernel) (ox_lvL e33 (by decide)) dL_law_714 ?_
  refine s_aload_n (pc := 717) C dL_law_717 rfl ?_
  refine s_aload_n (pc := 718) C dL_law_718 rfl ?_
  refine s_iload_n (pc := 719) C dL_law_719 rfl ?_
  refine s_iconst (pc := 720) C dL_law_720 (by decide) ?_
  refine s_iadd (pc := 721) C dL_law_721 ?_
  refine s_ia (pc := 722) C dL_law_722 ?_
  refine s_aload_n (pc := 723) C dL_law_723 rfl ?_
  refine s_iload_n (pc := 724) C dL_law_724 rfl ?_
  refine s_iconst (pc := 725) C dL_law_725 (by decide) ?_
  refine s_iadd (pc := 726) C dL_law_726 ?_
  refine s_ia (pc := 727) C dL_law_727 ?_
  refine s_cv (pc := 728) (q := (RX12, TX12, 59)) C h34 rfl wM_L_85 wI_X12_mould wS_X12_mould wN_X12 wC_X12_mould (by decide +kernel) (ox_lvL e34 (by decide)) dL_law_728 ?_
  refine s_icmpeq (pc := 731) 1138 C dL_law_731 (by decide) (hrc 1138) ?_
  refine s_iconst (pc := 734) C dL_law_734 (by decide) ?_
  exact s_law (pc := 735) C hr hlk hB dL_law_735
set_option maxRecDepth 100000 in
theorem kL_law_736 (C : ox_C p s m #[Value.ref b] c g 4 code RL) (hr : meth.sig.returnType = ret) (hlk : meth.locks = false) (hB : g.1 = s.heap.size) (h35 : ox_Sem yX11_correct cX11_correct 3 (some .int) d35 f35) (e35 : d35 ≤ 1000) (h36 : ox_Sem yX12_correct cX12_correct 4 (some .int) d36 f36) (e36 : d36 ≤ 1000) (hrc : ∀ i9, ox_S p l e room_1 s m #[Value.ref b] below meth c g 4 c0 t0 (fun _ => lw_Z below #[Value.ref b] s) i9 (rc i9)) : ox_S p l e room_1 s m #[Value.ref b] below meth c g 4 c0 t0 (fun _ => lw_Z below #[Value.ref b] s) 736 (bL_law_736 f1 f2 f3 f4 f5 f6 f7 f8 f9 f10 f11 f12 f13 f14 f15 f16 f17 f18 f19 f20 f21 f22 f23 f24 f25 f26 f27 f28 f29 f30 f31 f32 f33 f34 f35 f36 f37 f38 f39 f40 f41 f42 f43 f44 f45 f46 f47 f48 f49 f50 f51 f52 f53 f54 f55 f56 f57 f58 f59 f60 f61 f62 rc) := by
  refine s_aload_n (pc := 736) C dL_law_736 rfl ?_
  refine s_cv (pc := 737) (q := (RX11, TX11, 13)) C h35 rfl wM_L_86 wI_X11_correct wS_X11_correct wN_X11 wC_X11_correct (by decide +kernel) (ox_lvL e35 (by decide)) dL_law_737 ?_
  refine s_aload_n (pc := 740) C dL_law_740 rfl ?_
  refine s_cv (pc := 741) (q := (RX12, TX12, 59)) C h36 rfl wM_L_89 wI_X12_correct wS_X12_correct wN_X12 wC_X12_correct (by decide +kernel) (ox_lvL e36 (by decide)) dL_law_741 ?_
  refine s_icmpeq (pc := 744) 1138 C dL_law_744 (by decide) (hrc 1138) ?_
  refine s_iconst (pc := 747) C dL_law_747 (by decide) ?_
  exact s_law (pc := 748) C hr hlk hB dL_law_748
set_option maxRecDepth 100000 in
theorem kL_law_749 (C : ox_C p s m #[Value.ref b] c g 4 code RL) (hr : meth.sig.returnType = ret) (hlk : meth.locks = false) (hB : g.1 = s.heap.size) (h37 : ox_Sem yX11_bar cX11_bar 4 (some .int) d37 f37) (e37 : d37 ≤ 1000) (h38 : ox_Sem yX12_bar cX12_bar 3 (some .int) d38 f38) (e38 : d38 ≤ 1000) (hrc : ∀ i9, ox_S p l e room_1 s m #[Value.ref b] below meth c g 4 c0 t0 (fun _ => lw_Z below #[Value.ref b] s) i9 (rc i9)) : ox_S p l e room_1 s m #[Value.ref b] below meth c g 4 c0 t0 (fun _ => lw_Z below #[Value.ref b] s) 749 (bL_law_749 f1 f2 f3 f4 f5 f6 f7 f8 f9 f10 f11 f12 f13 f14 f15 f16 f17 f18 f19 f20 f21 f22 f23 f24 f25 f26 f27 f28 f29 f30 f31 f32 f33 f34 f35 f36 f37 f38 f39 f40 f41 f42 f43 f44 f45 f46 f47 f48 f49 f50 f51 f52 f53 f54 f55 f56 f57 f58 f59 f60 f61 f62 rc) := by
  refine s_aload_n (pc := 749) C dL_law_749 rfl ?_
  refine s_aload_n (pc := 750) C dL_law_750 rfl ?_
  refine s_iload_n (pc := 751) C dL_law_751 rfl ?_
  refine s_iconst (pc := 752) C dL_law_752 (by decide) ?_
  refine s_iadd (pc := 753) C dL_law_753 ?_
  refine s_ia (pc := 754) C dL_law_754 ?_
  refine s_aload_n (pc := 755) C dL_law_755 rfl ?_
  refine s_iload_n (pc := 756) C dL_law_756 rfl ?_
  refine s_iconst (pc := 757) C dL_law_757 (by decide) ?_
  refine s_iadd (pc := 758) C dL_law_758 ?_
  refine s_ia (pc := 759) C dL_law_759 ?_
  refine s_cv (pc := 760) (q := (RX11, TX11, 13)) C h37 rfl wM_L_90 wI_X11_bar wS_X11_bar wN_X11 wC_X11_bar (by decide +kernel) (ox_lvL e37 (by decide)) dL_law_760 ?_
  refine s_aload_n (pc := 763) C dL_law_763 rfl ?_
  refine s_aload_n (pc := 764) C dL_law_764 rfl ?_
  refine s_iload_n (pc := 765) C dL_law_765 rfl ?_
  refine s_iconst (pc := 766) C dL_law_766 (by decide) ?_
  refine s_iadd (pc := 767) C dL_law_767 ?_
  refine s_ia (pc := 768) C dL_law_768 ?_
  refine s_aload_n (pc := 769) C dL_law_769 rfl ?_
  refine s_iload_n (pc := 770) C dL_law_770 rfl ?_
  refine s_iconst (pc := 771) C dL_law_771 (by decide) ?_
  refine s_iadd (pc := 772) C dL_law_772 ?_
  refine s_ia (pc := 773) C dL_law_773 ?_
  refine s_cv (pc := 774) (q := (RX12, TX12, 59)) C h38 rfl wM_L_93 wI_X12_bar wS_X12_bar wN_X12 wC_X12_bar (by decide +kernel) (ox_lvL e38 (by decide)) dL_law_774 ?_
  refine s_icmpeq (pc := 777) 1138 C dL_law_777 (by decide) (hrc 1138) ?_
  refine s_iconst (pc := 780) C dL_law_780 (by decide) ?_
  exact s_law (pc := 781) C hr hlk hB dL_law_781
set_option maxRecDepth 100000 in
theorem kL_law_782 (C : ox_C p s m #[Value.ref b] c g 4 code RL) (hr : meth.sig.returnType = ret) (hlk : meth.locks = false) (hB : g.1 = s.heap.size) (h39 : ox_Sem yX11_recall cX11_recall 2 (some .int) d39 f39) (e39 : d39 ≤ 1000) (h40 : ox_Sem yX12_recall cX12_recall 4 (some .int) d40 f40) (e40 : d40 ≤ 1000) (hrc : ∀ i9, ox_S p l e room_1 s m #[Value.ref b] below meth c g 4 c0 t0 (fun _ => lw_Z below #[Value.ref b] s) i9 (rc i9)) : ox_S p l e room_1 s m #[Value.ref b] below meth c g 4 c0 t0 (fun _ => lw_Z below #[Value.ref b] s) 782 (bL_law_782 f1 f2 f3 f4 f5 f6 f7 f8 f9 f10 f11 f12 f13 f14 f15 f16 f17 f18 f19 f20 f21 f22 f23 f24 f25 f26 f27 f28 f29 f30 f31 f32 f33 f34 f35 f36 f37 f38 f39 f40 f41 f42 f43 f44 f45 f46 f47 f48 f49 f50 f51 f52 f53 f54 f55 f56 f57 f58 f59 f60 f61 f62 rc) := by
  refine s_aload_n (pc := 782) C dL_law_782 rfl ?_
  refine s_aload_n (pc := 783) C dL_law_783 rfl ?_
  refine s_iload_n (pc := 784) C dL_law_784 rfl ?_
  refine s_iconst (pc := 785) C dL_law_785 (by decide) ?_
  refine s_iadd (pc := 786) C dL_law_786 ?_
  refine s_ia (pc := 787) C dL_law_787 ?_
  refine s_cv (pc := 788) (q := (RX11, TX11, 13)) C h39 rfl wM_L_94 wI_X11_recall wS_X11_recall wN_X11 wC_X11_recall (by decide +kernel) (ox_lvL e39 (by decide)) dL_law_788 ?_
  refine s_aload_n (pc := 791) C dL_law_791 rfl ?_
  refine s_aload_n (pc := 792) C dL_law_792 rfl ?_
  refine s_iload_n (pc := 793) C dL_law_793 rfl ?_
  refine s_iconst (pc := 794) C dL_law_794 (by decide) ?_
  refine s_iadd (pc := 795) C dL_law_795 ?_
  refine s_ia (pc := 796) C dL_law_796 ?_
  refine s_cv (pc := 797) (q := (RX12, TX12, 59)) C h40 rfl wM_L_97 wI_X12_recall wS_X12_recall wN_X12 wC_X12_recall (by decide +kernel) (ox_lvL e40 (by decide)) dL_law_797 ?_
  refine s_icmpeq (pc := 800) 1138 C dL_law_800 (by decide) (hrc 1138) ?_
  refine s_iconst (pc := 803) C dL_law_803 (by decide) ?_
  exact s_law (pc := 804) C hr hlk hB dL_law_804
set_option maxRecDepth 100000 in
theorem kL_law_805 (C : ox_C p s m #[Value.ref b] c g 4 code RL) (hr : meth.sig.returnType = ret) (hlk : meth.locks = false) (hB : g.1 = s.heap.size) (h41 : ox_Sem yX11_melt cX11_melt 5 (some .int) d41 f41) (e41 : d41 ≤ 1000) (h42 : ox_Sem yX12_melt cX12_melt 2 (some .int) d42 f42) (e42 : d42 ≤ 1000) (hrc : ∀ i9, ox_S p l e room_1 s m #[Value.ref b] below meth c g 4 c0 t0 (fun _ => lw_Z below #[Value.ref b] s) i9 (rc i9)) : ox_S p l e room_1 s m #[Value.ref b] below meth c g 4 c0 t0 (fun _ => lw_Z below #[Value.ref b] s) 805 (bL_law_805 f1 f2 f3 f4 f5 f6 f7 f8 f9 f10 f11 f12 f13 f14 f15 f16 f17 f18 f19 f20 f21 f22 f23 f24 f25 f26 f27 f28 f29 f30 f31 f32 f33 f34 f35 f36 f37 f38 f39 f40 f41 f42 f43 f44 f45 f46 f47 f48 f49 f50 f51 f52 f53 f54 f55 f56 f57 f58 f59 f60 f61 f62 rc) := by
  refine s_aload_n (pc := 805) C dL_law_805 rfl ?_
  refine s_aload_n (pc := 806) C dL_law_806 rfl ?_
  refine s_iload_n (pc := 807) C dL_law_807 rfl ?_
  refine s_iconst (pc := 808) C dL_law_808 (by decide) ?_
  refine s_iadd (pc := 809) C dL_law_809 ?_
  refine s_ia (pc := 810) C dL_law_810 ?_
  refine s_cv (pc := 811) (q := (RX11, TX11, 13)) C h41 rfl wM_L_98 wI_X11_melt wS_X11_melt wN_X11 wC_X11_melt (by decide +kernel) (ox_lvL e41 (by decide)) dL_law_811 ?_
  refine s_aload_n (pc := 814) C dL_law_814 rfl ?_
  refine s_aload_n (pc := 815) C dL_law_815 rfl ?_
  refine s_iload_n (pc := 816) C dL_law_816 rfl ?_
  refine s_iconst (pc := 817) C dL_law_817 (by decide) ?_
  refine s_iadd (pc := 818) C dL_law_818 ?_
  refine s_ia (pc := 819) C dL_law_819 ?_
  refine s_cv (pc := 820) (q := (RX12, TX12, 59)) C h42 rfl wM_L_101 wI_X12_melt wS_X12_melt wN_X12 wC_X12_melt (by decide +kernel) (ox_lvL e42 (by decide)) dL_law_820 ?_
  refine s_icmpeq (pc := 823) 1138 C dL_law_823 (by decide) (hrc 1138) ?_
  refine s_iconst (pc := 826) C dL_law_826 (by decide) ?_
  exact s_law (pc := 827) C hr hlk hB dL_law_827
set_option maxRecDepth 100000 in
theorem kL_law_828 (C : ox_C p s m #[Value.ref b] c g 4 code RL) (hr : meth.sig.returnType = ret) (hlk : meth.locks = false) (hB : g.1 = s.heap.size) (h43 : ox_Sem yX11_bin cX11_bin 2 (some .int) d43 f43) (e43 : d43 ≤ 1000) (h44 : ox_Sem yX12_bin cX12_bin 2 (some .int) d44 f44) (e44 : d44 ≤ 1000) (hrc : ∀ i9, ox_S p l e room_1 s m #[Value.ref b] below meth c g 4 c0 t0 (fun _ => lw_Z below #[Value.ref b] s) i9 (rc i9)) : ox_S p l e room_1 s m #[Value.ref b] below meth c g 4 c0 t0 (fun _ => lw_Z below #[Value.ref b] s) 828 (bL_law_828 f1 f2 f3 f4 f5 f6 f7 f8 f9 f10 f11 f12 f13 f14 f15 f16 f17 f18 f19 f20 f21 f22 f23 f24 f25 f26 f27 f28 f29 f30 f31 f32 f33 f34 f35 f36 f37 f38 f39 f40 f41 f42 f43 f44 f45 f46 f47 f48 f49 f50 f51 f52 f53 f54 f55 f56 f57 f58 f59 f60 f61 f62 rc) := by
  refine s_aload_n (pc := 828) C dL_law_828 rfl ?_
  refine s_aload_n (pc := 829) C dL_law_829 rfl ?_
  refine s_iload_n (pc := 830) C dL_law_830 rfl ?_
  refine s_iconst (pc := 831) C dL_law_831 (by decide) ?_
  refine s_iadd (pc := 832) C dL_law_832 ?_
  refine s_ia (pc := 833) C dL_law_833 ?_
  refine s_cv (pc := 834) (q := (RX11, TX11, 13)) C h43 rfl wM_L_102 wI_X11_bin wS_X11_bin wN_X11 wC_X11_bin (by decide +kernel) (ox_lvL e43 (by decide)) dL_law_834 ?_
  refine s_aload_n (pc := 837) C dL_law_837 rfl ?_
  refine s_aload_n (pc := 838) C dL_law_838 rfl ?_
  refine s_iload_n (pc := 839) C dL_law_839 rfl ?_
  refine s_iconst (pc := 840) C dL_law_840 (by decide) ?_
  refine s_iadd (pc := 841) C dL_law_841 ?_
  refine s_ia (pc := 842) C dL_law_842 ?_
  refine s_cv (pc := 843) (q := (RX12, TX12, 59)) C h44 rfl wM_L_105 wI_X12_bin wS_X12_bin wN_X12 wC_X12_bin (by decide +kernel) (ox_lvL e44 (by decide)) dL_law_843 ?_
  refine s_icmpeq (pc := 846) 1138 C dL_law_846 (by decide) (hrc 1138) ?_
  refine s_iconst (pc := 849) C dL_law_849 (by decide) ?_
  exact s_law (pc := 850) C hr hlk hB dL_law_850
set_option maxRecDepth 100000 in
theorem kL_law_851 (C : ox_C p s m #[Value.ref b] c g 4 code RL) (hr : meth.sig.returnType = ret) (hlk : meth.locks = false) (hB : g.1 = s.heap.size) (h45 : ox_Sem yX11_grams cX11_grams 2 (some .int) d45 f45) (e45 : d45 ≤ 1000) (h46 : ox_Sem yX12_grams cX12_grams 4 (some .int) d46 f46) (e46 : d46 ≤ 1000) (hrc : ∀ i9, ox_S p l e room_1 s m #[Value.ref b] below meth c g 4 c0 t0 (fun _ => lw_Z below #[Value.ref b] s) i9 (rc i9)) : ox_S p l e room_1 s m #[Value.ref b] below meth c g 4 c0 t0 (fun _ => lw_Z below #[Value.ref b] s) 851 (bL_law_851 f1 f2 f3 f4 f5 f6 f7 f8 f9 f10 f11 f12 f13 f14 f15 f16 f17 f18 f19 f20 f21 f22 f23 f24 f25 f26 f27 f28 f29 f30 f31 f32 f33 f34 f35 f36 f37 f38 f39 f40 f41 f42 f43 f44 f45 f46 f47 f48 f49 f50 f51 f52 f53 f54 f55 f56 f57 f58 f59 f60 f61 f62 rc) := by
  refine s_aload_n (pc := 851) C dL_law_851 rfl ?_
  refine s_aload_n (pc := 852) C dL_law_852 rfl ?_
  refine s_iload_n (pc := 853) C dL_law_853 rfl ?_
  refine s_iconst (pc := 854) C dL_law_854 (by decide) ?_
  refine s_iadd (pc := 855) C dL_law_855 ?_
  refine s_ia (pc := 856) C dL_law_856 ?_
  refine s_cv (pc := 857) (q := (RX11, TX11, 13)) C h45 rfl wM_L_106 wI_X11_grams wS_X11_grams wN_X11 wC_X11_grams (by decide +kernel) (ox_lvL e45 (by decide)) dL_law_857 ?_
  refine s_aload_n (pc := 860) C dL_law_860 rfl ?_
  refine s_aload_n (pc := 861) C dL_law_861 rfl ?_
  refine s_iload_n (pc := 862) C dL_law_862 rfl ?_
  refine s_iconst (pc := 863) C dL_law_863 (by decide) ?_
  refine s_iadd (pc := 864) C dL_law_864 ?_
  refine s_ia (pc := 865) C dL_law_865 ?_
  refine s_cv (pc := 866) (q := (RX12, TX12, 59)) C h46 rfl wM_L_109 wI_X12_grams wS_X12_grams wN_X12 wC_X12_grams (by decide +kernel) (ox_lvL e46 (by decide)) dL_law_866 ?_
  refine s_icmpeq (pc := 869) 1138 C dL_law_869 (by decide) (hrc 1138) ?_
  refine s_iconst (pc := 872) C dL_law_872 (by decide) ?_
  exact s_law (pc := 873) C hr hlk hB dL_law_873
set_option maxRecDepth 100000 in
theorem kL_law_874 (C : ox_C p s m #[Value.ref b] c g 4 code RL) (hr : meth.sig.returnType = ret) (hlk : meth.locks = false) (hB : g.1 = s.heap.size) (h47 : ox_Sem yX11_bloom cX11_bloom 12 (some .int) d47 f47) (e47 : d47 ≤ 1000) (h48 : ox_Sem yX12_bloom cX12_bloom 11 (some .int) d48 f48) (e48 : d48 ≤ 1000) (hrc : ∀ i9, ox_S p l e room_1 s m #[Value.ref b] below meth c g 4 c0 t0 (fun _ => lw_Z below #[Value.ref b] s) i9 (rc i9)) : ox_S p l e room_1 s m #[Value.ref b] below meth c g 4 c0 t0 (fun _ => lw_Z below #[Value.ref b] s) 874 (bL_law_874 f1 f2 f3 f4 f5 f6 f7 f8 f9 f10 f11 f12 f13 f14 f15 f16 f17 f18 f19 f20 f21 f22 f23 f24 f25 f26 f27 f28 f29 f30 f31 f32 f33 f34 f35 f36 f37 f38 f39 f40 f41 f42 f43 f44 f45 f46 f47 f48 f49 f50 f51 f52 f53 f54 f55 f56 f57 f58 f59 f60 f61 f62 rc) := by
  refine s_aload_n (pc := 874) C dL_law_874 rfl ?_
  refine s_aload_n (pc := 875) C dL_law_875 rfl ?_
  refine s_iload_n (pc := 876) C dL_law_876 rfl ?_
  refine s_iconst (pc := 877) C dL_law_877 (by decide) ?_
  refine s_iadd (pc := 878) C dL_law_878 ?_
  refine s_ia (pc := 879) C dL_law_879 ?_
  refine s_aload_n (pc := 880) C dL_law_880 rfl ?_
  refine s_iload_n (pc := 881) C dL_law_881 rfl ?_
  refine s_iconst (pc := 882) C dL_law_882 (by decide) ?_
  refine s_iadd (pc := 883) C dL_law_883 ?_
  refine s_ia (pc := 884) C dL_law_884 ?_
  refine s_aload_n (pc := 885) C dL_law_885 rfl ?_
  refine s_iload_n (pc := 886) C dL_law_886 rfl ?_
  refine s_iconst (pc := 887) C dL_law_887 (by decide) ?_
  refine s_iadd (pc := 888) C dL_law_888 ?_
  refine s_ia (pc := 889) C dL_law_889 ?_
  refine s_aload_n (pc := 890) C dL_law_890 rfl ?_
  refine s_iload_n (pc := 891) C dL_law_891 rfl ?_
  refine s_iconst (pc := 892) C dL_law_892 (by decide) ?_
  refine s_iadd (pc := 893) C dL_law_893 ?_
  refine s_ia (pc := 894) C dL_law_894 ?_
  refine s_aload_n (pc := 895) C dL_law_895 rfl ?_
  refine s_iload_n (pc := 896) C dL_law_896 rfl ?_
  refine s_iconst (pc := 897) C dL_law_897 (by decide) ?_
  refine s_iadd (pc := 898) C dL_law_898 ?_
  refine s_ia (pc := 899) C dL_law_899 ?_
  refine s_cv (pc := 900) (q := (RX11, TX11, 13)) C h47 rfl wM_L_110 wI_X11_bloom wS_X11_bloom wN_X11 wC_X11_bloom (by decide +kernel) (ox_lvL e47 (by decide)) dL_law_900 ?_
  refine s_aload_n (pc := 903) C dL_law_903 rfl ?_
  refine s_aload_n (pc := 904) C dL_law_904 rfl ?_
  refine s_iload_n (pc := 905) C dL_law_905 rfl ?_
  refine s_iconst (pc := 906) C dL_law_906 (by decide) ?_
  refine s_iadd (pc := 907) C dL_law_907 ?_
  refine s_ia (pc := 908) C dL_law_908 ?_
  refine s_aload_n (pc := 909) C dL_law_909 rfl ?_
  refine s_iload_n (pc := 910) C dL_law_910 rfl ?_
  refine s_iconst (pc := 911) C dL_law_911 (by decide) ?_
  refine s_iadd (pc := 912) C dL_law_912 ?_
  refine s_ia (pc := 913) C dL_law_913 ?_
  refine s_aload_n (pc := 914) C dL_law_914 rfl ?_
  refine s_iload_n (pc := 915) C dL_law_915 rfl ?_
  refine s_iconst (pc := 916) C dL_law_916 (by decide) ?_
  refine s_iadd (pc := 917) C dL_law_917 ?_
  refine s_ia (pc := 918) C dL_law_918 ?_
  refine s_aload_n (pc := 919) C dL_law_919 rfl ?_
  refine s_iload_n (pc := 920) C dL_law_920 rfl ?_
  refine s_iconst (pc := 921) C dL_law_921 (by decide) ?_
  refine s_iadd (pc := 922) C dL_law_922 ?_
  refine s_ia (pc := 923) C dL_law_923 ?_
  refine s_aload_n (pc := 924) C dL_law_924 rfl ?_
  refine s_iload_n (pc := 925) C dL_law_925 rfl ?_
  refine s_iconst (pc := 926) C dL_law_926 (by decide) ?_
  refine s_iadd (pc := 927) C dL_law_927 ?_
  refine s_ia (pc := 928) C dL_law_928 ?_
  refine s_cv (pc := 929) (q := (RX12, TX12, 59)) C h48 rfl wM_L_113 wI_X12_bloom wS_X12_bloom wN_X12 wC_X12_bloom (by decide +kernel) (ox_lvL e48 (by decide)) dL_law_929 ?_
  refine s_icmpeq (pc := 932) 1138 C dL_law_932 (by decide) (hrc 1138) ?_
  refine s_iconst (pc := 935) C dL_law_935 (by decide) ?_
  exact s_law (pc := 936) C hr hlk hB dL_law_936
set_option maxRecDepth 100000 in
theorem kL_law_937 (C : ox_C p s m #[Value.ref b] c g 4 code RL) (hr : meth.sig.returnType = ret) (hlk : meth.locks = false) (hB : g.1 = s.heap.size) (h49 : ox_Sem yX11_orders cX11_orders 7 (some .int) d49 f49) (e49 : d49 ≤ 1000) (h50 : ox_Sem yX12_orders cX12_orders 11 (some .int) d50 f50) (e50 : d50 ≤ 1000) (hrc : ∀ i9, ox_S p l e room_1 s m #[Value.ref b] below meth c g 4 c0 t0 (fun _ => lw_Z below #[Value.ref b] s) i9 (rc i9)) : ox_S p l e room_1 s m #[Value.ref b] below meth c g 4 c0 t0 (fun _ => lw_Z below #[Value.ref b] s) 937 (bL_law_937 f1 f2 f3 f4 f5 f6 f7 f8 f9 f10 f11 f12 f13 f14 f15 f16 f17 f18 f19 f20 f21 f22 f23 f24 f25 f26 f27 f28 f29 f30 f31 f32 f33 f34 f35 f36 f37 f38 f39 f40 f41 f42 f43 f44 f45 f46 f47 f48 f49 f50 f51 f52 f53 f54 f55 f56 f57 f58 f59 f60 f61 f62 rc) := by
  refine s_aload_n (pc := 937) C dL_law_937 rfl ?_
  refine s_aload_n (pc := 938) C dL_law_938 rfl ?_
  refine s_iload_n (pc := 939) C dL_law_939 rfl ?_
  refine s_iconst (pc := 940) C dL_law_940 (by decide) ?_
  refine s_iadd (pc := 941) C dL_law_941 ?_
  refine s_ia (pc := 942) C dL_law_942 ?_
  refine s_aload_n (pc := 943) C dL_law_943 rfl ?_
  refine s_iload_n (pc := 944) C dL_law_944 rfl ?_
  refine s_iconst (pc := 945) C dL_law_945 (by decide) ?_
  refine s_iadd (pc := 946) C dL_law_946 ?_
  refine s_ia (pc := 947) C dL_law_947 ?_
  refine s_aload_n (pc := 948) C dL_law_948 rfl ?_
  refine s_iload_n (pc := 949) C dL_law_949 rfl ?_
  refine s_iconst (pc := 950) C dL_law_950 (by decide) ?_
  refine s_iadd (pc := 951) C dL_law_951 ?_
  refine s_ia (pc := 952) C dL_law_952 ?_
  refine s_aload_n (pc := 953) C dL_law_953 rfl ?_
  refine s_iload_n (pc := 954) C dL_law_954 rfl ?_
  refine s_iconst (pc := 955) C dL_law_955 (by decide) ?_
  refine s_iadd (pc := 956) C dL_law_956 ?_
  refine s_ia (pc := 957) C dL_law_957 ?_
  refine s_cv (pc := 958) (q := (RX11, TX11, 13)) C h49 rfl wM_L_114 wI_X11_orders wS_X11_orders wN_X11 wC_X11_orders (by decide +kernel) (ox_lvL e49 (by decide)) dL_law_958 ?_
  refine s_aload_n (pc := 961) C dL_law_961 rfl ?_
  refine s_aload_n (pc := 962) C dL_law_962 rfl ?_
  refine s_iload_n (pc := 963) C dL_law_963 rfl ?_
  refine s_iconst (pc := 964) C dL_law_964 (by decide) ?_
  refine s_iadd (pc := 965) C dL_law_965 ?_
  refine s_ia (pc := 966) C dL_law_966 ?_
  refine s_aload_n (pc := 967) C dL_law_967 rfl ?_
  refine s_iload_n (pc := 968) C dL_law_968 rfl ?_
  refine s_iconst (pc := 969) C dL_law_969 (by decide) ?_
  refine s_iadd (pc := 970) C dL_law_970 ?_
  refine s_ia (pc := 971) C dL_law_971 ?_
  refine s_aload_n (pc := 972) C dL_law_972 rfl ?_
  refine s_iload_n (pc := 973) C dL_law_973 rfl ?_
  refine s_iconst (pc := 974) C dL_law_974 (by decide) ?_
  refine s_iadd (pc := 975) C dL_law_975 ?_
  refine s_ia (pc := 976) C dL_law_976 ?_
  refine s_aload_n (pc := 977) C dL_law_977 rfl ?_
  refine s_iload_n (pc := 978) C dL_law_978 rfl ?_
  refine s_iconst (pc := 979) C dL_law_979 (by decide) ?_
  refine s_iadd (pc := 980) C dL_law_980 ?_
  refine s_ia (pc := 981) C dL_law_981 ?_
  refine s_cv (pc := 982) (q := (RX12, TX12, 59)) C h50 rfl wM_L_117 wI_X12_orders wS_X12_orders wN_X12 wC_X12_orders (by decide +kernel) (ox_lvL e50 (by decide)) dL_law_982 ?_
  refine s_icmpeq (pc := 985) 1138 C dL_law_985 (by decide) (hrc 1138) ?_
  refine s_iconst (pc := 988) C dL_law_988 (by decide) ?_
  exact s_law (pc := 989) C hr hlk hB dL_law_989
set_option maxRecDepth 100000 in
theorem kL_law_990 (C : ox_C p s m #[Value.ref b] c g 4 code RL) (hr : meth.sig.returnType = ret) (hlk : meth.locks = false) (hB : g.1 = s.heap.size) (h51 : ox_Sem yX11_kind cX11_kind 2 (some .int) d51 f51) (e51 : d51 ≤ 1000) (h52 : ox_Sem yX12_kind cX12_kind 2 (some .int) d52 f52) (e52 : d52 ≤ 1000) (hrc : ∀ i9, ox_S p l e room_1 s m #[Value.ref b] below meth c g 4 c0 t0 (fun _ => lw_Z below #[Value.ref b] s) i9 (rc i9)) : ox_S p l e room_1 s m #[Value.ref b] below meth c g 4 c0 t0 (fun _ => lw_Z below #[Value.ref b] s) 990 (bL_law_990 f1 f2 f3 f4 f5 f6 f7 f8 f9 f10 f11 f12 f13 f14 f15 f16 f17 f18 f19 f20 f21 f22 f23 f24 f25 f26 f27 f28 f29 f30 f31 f32 f33 f34 f35 f36 f37 f38 f39 f40 f41 f42 f43 f44 f45 f46 f47 f48 f49 f50 f51 f52 f53 f54 f55 f56 f57 f58 f59 f60 f61 f62 rc) := by
  refine s_aload_n (pc := 990) C dL_law_990 rfl ?_
  refine s_aload_n (pc := 991) C dL_law_991 rfl ?_
  refine s_iload_n (pc := 992) C dL_law_992 rfl ?_
  refine s_iconst (pc := 993) C dL_law_993 (by decide) ?_
  refine s_iadd (pc := 994) C dL_law_994 ?_
  refine s_ia (pc := 995) C dL_law_995 ?_
  refine s_cv (pc := 996) (q := (RX11, TX11, 13)) C h51 rfl wM_L_118 wI_X11_kind wS_X11_kind wN_X11 wC_X11_kind (by decide +kernel) (ox_lvL e51 (by decide)) dL_law_996 ?_
  refine s_aload_n (pc := 999) C dL_law_999 rfl ?_
  refine s_aload_n (pc := 1000) C dL_law_1000 rfl ?_
  refine s_iload_n (pc := 1001) C dL_law_1001 rfl ?_
  refine s_iconst (pc := 1002) C dL_law_1002 (by decide) ?_
  refine s_iadd (pc := 1003) C dL_law_1003 ?_
  refine s_ia (pc := 1004) C dL_law_1004 ?_
  refine s_cv (pc := 1005) (q := (RX12, TX12, 59)) C h52 rfl wM_L_121 wI_X12_kind wS_X12_kind wN_X12 wC_X12_kind (by decide +kernel) (ox_lvL e52 (by decide)) dL_law_1005 ?_
  refine s_icmpeq (pc := 1008) 1138 C dL_law_1008 (by decide) (hrc 1138) ?_
  refine s_iconst (pc := 1011) C dL_law_1011 (by decide) ?_
  exact s_law (pc := 1012) C hr hlk hB dL_law_1012
set_option maxRecDepth 100000 in
theorem kL_law_1013 (C : ox_C p s m #[Value.ref b] c g 4 code RL) (hr : meth.sig.returnType = ret) (hlk : meth.locks = false) (hB : g.1 = s.heap.size) (h53 : ox_Sem yX11_as cX11_as 5 (some .int) d53 f53) (e53 : d53 ≤ 1000) (h54 : ox_Sem yX12_as cX12_as 3 (some .int) d54 f54) (e54 : d54 ≤ 1000) (hrc : ∀ i9, ox_S p l e room_1 s m #[Value.ref b] below meth c g 4 c0 t0 (fun _ => lw_Z below #[Value.ref b] s) i9 (rc i9)) : ox_S p l e room_1 s m #[Value.ref b] below meth c g 4 c0 t0 (fun _ => lw_Z below #[Value.ref b] s) 1013 (bL_law_1013 f1 f2 f3 f4 f5 f6 f7 f8 f9 f10 f11 f12 f13 f14 f15 f16 f17 f18 f19 f20 f21 f22 f23 f24 f25 f26 f27 f28 f29 f30 f31 f32 f33 f34 f35 f36 f37 f38 f39 f40 f41 f42 f43 f44 f45 f46 f47 f48 f49 f50 f51 f52 f53 f54 f55 f56 f57 f58 f59 f60 f61 f62 rc) := by
  refine s_aload_n (pc := 1013) C dL_law_1013 rfl ?_
  refine s_aload_n (pc := 1014) C dL_law_1014 rfl ?_
  refine s_iload_n (pc := 1015) C dL_law_1015 rfl ?_
  refine s_iconst (pc := 1016) C dL_law_1016 (by decide) ?_
  refine s_iadd (pc := 1017) C dL_law_1017 ?_
  refine s_ia (pc := 1018) C dL_law_1018 ?_
  refine s_aload_n (pc := 1019) C dL_law_1019 rfl ?_
  refine s_iload_n (pc := 1020) C dL_law_1020 rfl ?_
  refine s_iconst (pc := 1021) C dL_law_1021 (by decide) ?_
  refine s_iadd (pc := 1022) C dL_law_1022 ?_
  refine s_ia (pc := 1023) C dL_law_1023 ?_
  refine s_cv (pc := 1024) (q := (RX11, TX11, 13)) C h53 rfl wM_L_122 wI_X11_as wS_X11_as wN_X11 wC_X11_as (by decide +kernel) (ox_lvL e53 (by decide)) dL_law_1024 ?_
  refine s_aload_n (pc := 1027) C dL_law_1027 rfl ?_
  refine s_aload_n (pc := 1028) C dL_law_1028 rfl ?_
  refine s_iload_n (pc := 1029) C dL_law_1029 rfl ?_
  refine s_iconst (pc := 1030) C dL_law_1030 (by decide) ?_
  refine s_iadd (pc := 1031) C dL_law_1031 ?_
  refine s_ia (pc := 1032) C dL_law_1032 ?_
  refine s_aload_n (pc := 1033) C dL_law_1033 rfl ?_
  refine s_iload_n (pc := 1034) C dL_law_1034 rfl ?_
  refine s_iconst (pc := 1035) C dL_law_1035 (by decide) ?_
  refine s_iadd (pc := 1036) C dL_law_1036 ?_
  refine s_ia (pc := 1037) C dL_law_1037 ?_
  refine s_cv (pc := 1038) (q := (RX12, TX12, 59)) C h54 rfl wM_L_125 wI_X12_as wS_X12_as wN_X12 wC_X12_as (by decide +kernel) (ox_lvL e54 (by decide)) dL_law_1038 ?_
  refine s_icmpeq (pc := 1041) 1138 C dL_law_1041 (by decide) (hrc 1138) ?_
  refine s_iconst (pc := 1044) C dL_law_1044 (by decide) ?_
  exact s_law (pc := 1045) C hr hlk hB dL_law_1045
set_option maxRecDepth 100000 in
theorem kL_law_1046 (C : ox_C p s m #[Value.ref b] c g 4 code RL) (hr : meth.sig.returnType = ret) (hlk : meth.locks = false) (hB : g.1 = s.heap.size) (h55 : ox_Sem yX11_ask cX11_ask 5 (some .int) d55 f55) (e55 : d55 ≤ 1000) (h56 : ox_Sem yX12_ask cX12_ask 4 (some .int) d56 f56) (e56 : d56 ≤ 1000) (hrc : ∀ i9, ox_S p l e room_1 s m #[Value.ref b] below meth c g 4 c0 t0 (fun _ => lw_Z below #[Value.ref b] s) i9 (rc i9)) : ox_S p l e room_1 s m #[Value.ref b] below meth c g 4 c0 t0 (fun _ => lw_Z below #[Value.ref b] s) 1046 (bL_law_1046 f1 f2 f3 f4 f5 f6 f7 f8 f9 f10 f11 f12 f13 f14 f15 f16 f17 f18 f19 f20 f21 f22 f23 f24 f25 f26 f27 f28 f29 f30 f31 f32 f33 f34 f35 f36 f37 f38 f39 f40 f41 f42 f43 f44 f45 f46 f47 f48 f49 f50 f51 f52 f53 f54 f55 f56 f57 f58 f59 f60 f61 f62 rc) := by
  refine s_aload_n (pc := 1046) C dL_law_1046 rfl ?_
  refine s_aload_n (pc := 1047) C dL_law_1047 rfl ?_
  refine s_iload_n (pc := 1048) C dL_law_1048 rfl ?_
  refine s_iconst (pc := 1049) C dL_law_1049 (by decide) ?_
  refine s_iadd (pc := 1050) C dL_law_1050 ?_
  refine s_ia (pc := 1051) C dL_law_1051 ?_
  refine s_aload_n (pc := 1052) C dL_law_1052 rfl ?_
  refine s_iload_n (pc := 1053) C dL_law_1053 rfl ?_
  refine s_iconst (pc := 1054) C dL_law_1054 (by decide) ?_
  refine s_iadd (pc := 1055) C dL_law_1055 ?_
  refine s_ia (pc := 1056) C dL_law_1056 ?_
  refine s_cv (pc := 1057) (q := (RX11, TX11, 13)) C h55 rfl wM_L_126 wI_X11_ask wS_X11_ask wN_X11 wC_X11_ask (by decide +kernel) (ox_lvL e55 (by decide)) dL_law_1057 ?_
  refine s_aload_n (pc := 1060) C dL_law_1060 rfl ?_
  refine s_aload_n (pc := 1061) C dL_law_1061 rfl ?_
  refine s_iload_n (pc := 1062) C dL_law_1062 rfl ?_
  refine s_iconst (pc := 1063) C dL_law_1063 (by decide) ?_
  refine s_iadd (pc := 1064) C dL_law_1064 ?_
  refine s_ia (pc := 1065) C dL_law_1065 ?_
  refine s_aload_n (pc := 1066) C dL_law_1066 rfl ?_
  refine s_iload_n (pc := 1067) C dL_law_1067 rfl ?_
  refine s_iconst (pc := 1068) C dL_law_1068 (by decide) ?_
  refine s_iadd (pc := 1069) C dL_law_1069 ?_
  refine s_ia (pc := 1070) C dL_law_1070 ?_
  refine s_cv (pc := 1071) (q := (RX12, TX12, 59)) C h56 rfl wM_L_129 wI_X12_ask wS_X12_ask wN_X12 wC_X12_ask (by decide +kernel) (ox_lvL e56 (by decide)) dL_law_1071 ?_
  refine s_icmpeq (pc := 1074) 1138 C dL_law_1074 (by decide) (hrc 1138) ?_
  refine s_iconst (pc := 1077) C dL_law_1077 (by decide) ?_
  exact s_law (pc := 1078) C hr hlk hB dL_law_1078
set_option maxRecDepth 100000 in
theorem kL_law_1079 (C : ox_C p s m #[Value.ref b] c g 4 code RL) (hr : meth.sig.returnType = ret) (hlk : meth.locks = false) (hB : g.1 = s.heap.size) (h57 : ox_Sem yX11_trace cX11_trace 2 (some .int) d57 f57) (e57 : d57 ≤ 1000) (h58 : ox_Sem yX12_trace cX12_trace 2 (some .int) d58 f58) (e58 : d58 ≤ 1000) (hrc : ∀ i9, ox_S p l e room_1 s m #[Value.ref b] below meth c g 4 c0 t0 (fun _ => lw_Z below #[Value.ref b] s) i9 (rc i9)) : ox_S p l e room_1 s m #[Value.ref b] below meth c g 4 c0 t0 (fun _ => lw_Z below #[Value.ref b] s) 1079 (bL_law_1079 f1 f2 f3 f4 f5 f6 f7 f8 f9 f10 f11 f12 f13 f14 f15 f16 f17 f18 f19 f20 f21 f22 f23 f24 f25 f26 f27 f28 f29 f30 f31 f32 f33 f34 f35 f36 f37 f38 f39 f40 f41 f42 f43 f44 f45 f46 f47 f48 f49 f50 f51 f52 f53 f54 f55 f56 f57 f58 f59 f60 f61 f62 rc) := by
  refine s_aload_n (pc := 1079) C dL_law_1079 rfl ?_
  refine s_aload_n (pc := 1080) C dL_law_1080 rfl ?_
  refine s_iload_n (pc := 1081) C dL_law_1081 rfl ?_
  refine s_iconst (pc := 1082) C dL_law_1082 (by decide) ?_
  refine s_iadd (pc := 1083) C dL_law_1083 ?_
  refine s_ia (pc := 1084) C dL_law_1084 ?_
  refine s_cv (pc := 1085) (q := (RX11, TX11, 13)) C h57 rfl wM_L_130 wI_X11_trace wS_X11_trace wN_X11 wC_X11_trace (by decide +kernel) (ox_lvL e57 (by decide)) dL_law_1085 ?_
  refine s_aload_n (pc := 1088) C dL_law_1088 rfl ?_
  refine s_aload_n (pc := 1089) C dL_law_1089 rfl ?_
  refine s_iload_n (pc := 1090) C dL_law_1090 rfl ?_
  refine s_iconst (pc := 1091) C dL_law_1091 (by decide) ?_
  refine s_iadd (pc := 1092) C dL_law_1092 ?_
  refine s_ia (pc := 1093) C dL_law_1093 ?_
  refine s_cv (pc := 1094) (q := (RX12, TX12, 59)) C h58 rfl wM_L_133 wI_X12_trace wS_X12_trace wN_X12 wC_X12_trace (by decide +kernel) (ox_lvL e58 (by decide)) dL_law_1094 ?_
  refine s_icmpeq (pc := 1097) 1138 C dL_law_1097 (by decide) (hrc 1138) ?_
  refine s_iconst (pc := 1100) C dL_law_1100 (by decide) ?_
  exact s_law (pc := 1101) C hr hlk hB dL_law_1101
set_option maxRecDepth 100000 in
theorem kL_law_1102 (C : ox_C p s m #[Value.ref b] c g 4 code RL) (hr : meth.sig.returnType = ret) (hlk : meth.locks = false) (hB : g.1 = s.heap.size) (h59 : ox_Sem yX11_count cX11_count 2 (some .int) d59 f59) (e59 : d59 ≤ 1000) (h60 : ox_Sem yX12_count cX12_count 4 (some .int) d60 f60) (e60 : d60 ≤ 1000) (hrc : ∀ i9, ox_S p l e room_1 s m #[Value.ref b] below meth c g 4 c0 t0 (fun _ => lw_Z below #[Value.ref b] s) i9 (rc i9)) : ox_S p l e room_1 s m #[Value.ref b] below meth c g 4 c0 t0 (fun _ => lw_Z below #[Value.ref b] s) 1102 (bL_law_1102 f1 f2 f3 f4 f5 f6 f7 f8 f9 f10 f11 f12 f13 f14 f15 f16 f17 f18 f19 f20 f21 f22 f23 f24 f25 f26 f27 f28 f29 f30 f31 f32 f33 f34 f35 f36 f37 f38 f39 f40 f41 f42 f43 f44 f45 f46 f47 f48 f49 f50 f51 f52 f53 f54 f55 f56 f57 f58 f59 f60 f61 f62 rc) := by
  refine s_aload_n (pc := 1102) C dL_law_1102 rfl ?_
  refine s_aload_n (pc := 1103) C dL_law_1103 rfl ?_
  refine s_iload_n (pc := 1104) C dL_law_1104 rfl ?_
  refine s_iconst (pc := 1105) C dL_law_1105 (by decide) ?_
  refine s_iadd (pc := 1106) C dL_law_1106 ?_
  refine s_ia (pc := 1107) C dL_law_1107 ?_
  refine s_cv (pc := 1108) (q := (RX11, TX11, 13)) C h59 rfl wM_L_134 wI_X11_count wS_X11_count wN_X11 wC_X11_count (by decide +kernel) (ox_lvL e59 (by decide)) dL_law_1108 ?_
  refine s_aload_n (pc := 1111) C dL_law_1111 rfl ?_
  refine s_aload_n (pc := 1112) C dL_law_1112 rfl ?_
  refine s_iload_n (pc := 1113) C dL_law_1113 rfl ?_
  refine s_iconst (pc := 1114) C dL_law_1114 (by decide) ?_
  refine s_iadd (pc := 1115) C dL_law_1115 ?_
  refine s_ia (pc := 1116) C dL_law_1116 ?_
  refine s_cv (pc := 1117) (q := (RX12, TX12, 59)) C h60 rfl wM_L_137 wI_X12_count wS_X12_count wN_X12 wC_X12_count (by decide +kernel) (ox_lvL e60 (by decide)) dL_law_1117 ?_
  refine s_icmpeq (pc := 1120) 1138 C dL_law_1120 (by decide) (hrc 1138) ?_
  refine s_iconst (pc := 1123) C dL_law_1123 (by decide) ?_
  exact s_law (pc := 1124) C hr hlk hB dL_law_1124
set_option maxRecDepth 100000 in
theorem kL_law_1125 (C : ox_C p s m #[Value.ref b] c g 4 code RL) (hr : meth.sig.returnType = ret) (hlk : meth.locks = false) (hB : g.1 = s.heap.size) (h61 : ox_Sem yX11_status cX11_status 1 (some .int) d61 f61) (e61 : d61 ≤ 1000) (h62 : ox_Sem yX12_status cX12_status 1 (some .int) d62 f62) (e62 : d62 ≤ 1000) (hrc : ∀ i9, ox_S p l e room_1 s m #[Value.ref b] below meth c g 4 c0 t0 (fun _ => lw_Z below #[Value.ref b] s) i9 (rc i9)) : ox_S p l e room_1 s m #[Value.ref b] below meth c g 4 c0 t0 (fun _ => lw_Z below #[Value.ref b] s) 1125 (bL_law_1125 f1 f2 f3 f4 f5 f6 f7 f8 f9 f10 f11 f12 f13 f14 f15 f16 f17 f18 f19 f20 f21 f22 f23 f24 f25 f26 f27 f28 f29 f30 f31 f32 f33 f34 f35 f36 f37 f38 f39 f40 f41 f42 f43 f44 f45 f46 f47 f48 f49 f50 f51 f52 f53 f54 f55 f56 f57 f58 f59 f60 f61 f62 rc) := by
  refine s_aload_n (pc := 1125) C dL_law_1125 rfl ?_
  refine s_cv (pc := 1126) (q := (RX11, TX11, 13)) C h61 rfl wM_L_138 wI_X11_status wS_X11_status wN_X11 wC_X11_status (by decide +kernel) (ox_lvL e61 (by decide)) dL_law_1126 ?_
  refine s_aload_n (pc := 1129) C dL_law_1129 rfl ?_
  refine s_cv (pc := 1130) (q := (RX12, TX12, 59)) C h62 rfl wM_L_141 wI_X12_status wS_X12_status wN_X12 wC_X12_status (by decide +kernel) (ox_lvL e62 (by decide)) dL_law_1130 ?_
  refine s_icmpeq (pc := 1133) 1138 C dL_law_1133 (by decide) (hrc 1138) ?_
  refine s_iconst (pc := 1136) C dL_law_1136 (by decide) ?_
  exact s_law (pc := 1137) C hr hlk hB dL_law_1137
set_option maxRecDepth 100000 in
theorem kL_law_1138 (C : ox_C p s m #[Value.ref b] c g 4 code RL) (hr : meth.sig.returnType = ret) (hlk : meth.locks = false) (hB : g.1 = s.heap.size) (hrc : ∀ i9, ox_S p l e room_1 s m #[Value.ref b] below meth c g 4 c0 t0 (fun _ => lw_Z below #[Value.ref b] s) i9 (rc i9)) : ox_S p l e room_1 s m #[Value.ref b] below meth c g 4 c0 t0 (fun _ => lw_Z below #[Value.ref b] s) 1138 (bL_law_1138 f1 f2 f3 f4 f5 f6 f7 f8 f9 f10 f11 f12 f13 f14 f15 f16 f17 f18 f19 f20 f21 f22 f23 f24 f25 f26 f27 f28 f29 f30 f31 f32 f33 f34 f35 f36 f37 f38 f39 f40 f41 f42 f43 f44 f45 f46 f47 f48 f49 f50 f51 f52 f53 f54 f55 f56 f57 f58 f59 f60 f61 f62 rc) := by
  refine s_iinc (pc := 1138) C dL_law_1138 (by decide) (by decide) ?_
  exact s_goto (pc := 1141) 18 C dL_law_1141 (by decide) (hrc 18)
set_option maxRecDepth 100000 in
theorem kL_law_1144 (C : ox_C p s m #[Value.ref b] c g 4 code RL) (hr : meth.sig.returnType = ret) (hlk : meth.locks = false) (hB : g.1 = s.heap.size) (hrc : ∀ i9, ox_S p l e room_1 s m #[Value.ref b] below meth c g 4 c0 t0 (fun _ => lw_Z below #[Value.ref b] s) i9 (rc i9)) : ox_S p l e room_1 s m #[Value.ref b] below meth c g 4 c0 t0 (fun _ => lw_Z below #[Value.ref b] s) 1144 (bL_law_1144 f1 f2 f3 f4 f5 f6 f7 f8 f9 f10 f11 f12 f13 f14 f15 f16 f17 f18 f19 f20 f21 f22 f23 f24 f25 f26 f27 f28 f29 f30 f31 f32 f33 f34 f35 f36 f37 f38 f39 f40 f41 f42 f43 f44 f45 f46 f47 f48 f49 f50 f51 f52 f53 f54 f55 f56 f57 f58 f59 f60 f61 f62 rc) := by
  refine s_iconst (pc := 1144) C dL_law_1144 (by decide) ?_
  exact s_law (pc := 1145) C hr hlk hB dL_law_1145
def bsL_law (f1 f2 f3 f4 f5 f6 f7 f8 f9 f10 f11 f12 f13 f14 f15 f16 f17 f18 f19 f20 f21 f22 f23 f24 f25 f26 f27 f28 f29 f30 f31 f32 f33 f34 f35 f36 f37 f38 f39 f40 f41 f42 f43 f44 f45 f46 f47 f48 f49 f50 f51 f52 f53 f54 f55 f56 f57 f58 f59 f60 f61 f62 : ox_F) (b : Nat) (rc : Nat → ox_K) : ox_K := if b = 0 then bL_law_0 f1 f2 f3 f4 f5 f6 f7 f8 f9 f10 f11 f12 f13 f14 f15 f16 f17 f18 f19 f20 f21 f22 f23 f24 f25 f26 f27 f28 f29 f30 f31 f32 f33 f34 f35 f36 f37 f38 f39 f40 f41 f42 f43 f44 f45 f46 f47 f48 f49 f50 f51 f52 f53 f54 f55 f56 f57 f58 f59 f60 f61 f62 rc else if b = 18 then bL_law_18 f1 f2 f3 f4 f5 f6 f7 f8 f9 f10 f11 f12 f13 f14 f15 f16 f17 f18 f19 f20 f21 f22 f23 f24 f25 f26 f27 f28 f29 f30 f31 f32 f33 f34 f35 f36 f37 f38 f39 f40 f41 f42 f43 f44 f45 f46 f47 f48 f49 f50 f51 f52 f53 f54 f55 f56 f57 f58 f59 f60 f61 f62 rc else if b = 168 then bL_law_168 f1 f2 f3 f4 f5 f6 f7 f8 f9 f10 f11 f12 f13 f14 f15 f16 f17 f18 f19 f20 f21 f22 f23 f24 f25 f26 f27 f28 f29 f30 f31 f32 f33 f34 f35 f36 f37 f38 f39 f40 f41 f42 f43 f44 f45 f46 f47 f48 f49 f50 f51 f52 f53 f54 f55 f56 f57 f58 f59 f60 f61 f62 rc else if b = 211 then bL_law_211 f1 f2 f3 f4 f5 f6 f7 f8 f9 f10 f11 f12 f13 f14 f15 f16 f17 f18 f19 f20 f21 f22 f23 f24 f25 f26 f27 f28 f29 f30 f31 f32 f33 f34 f35 f36 f37 f38 f39 f40 f41 f42 f43 f44 f45 f46 f47 f48 f49 f50 f51 f52 f53 f54 f55 f56 f57 f58 f59 f60 f61 f62 rc else if b = 254 then bL_law_254 f1 f2 f3 f4 f5 f6 f7 f8 f9 f10 f11 f12 f13 f14 f15 f16 f17 f18 f19 f20 f21 f22 f23 f24 f25 f26 f27 f28 f29 f30 f31 f32 f33 f34 f35 f36 f37 f38 f39 f40 f41 f42 f43 f44 f45 f46 f47 f48 f49 f50 f51 f52 f53 f54 f55 f56 f57 f58 f59 f60 f61 f62 rc else if b = 317 then bL_law_317 f1 f2 f3 f4 f5 f6 f7 f8 f9 f10 f11 f12 f13 f14 f15 f16 f17 f18 f19 f20 f21 f22 f23 f24 f25 f26 f27 f28 f29 f30 f31 f32 f33 f34 f35 f36 f37 f38 f39 f40 f41 f42 f43 f44 f45 f46 f47 f48 f49 f50 f51 f52 f53 f54 f55 f56 f57 f58 f59 f60 f61 f62 rc else if b = 340 then bL_law_340 f1 f2 f3 f4 f5 f6 f7 f8 f9 f10 f11 f12 f13 f14 f15 f16 f17 f18 f19 f20 f21 f22 f23 f24 f25 f26 f27 f28 f29 f30 f31 f32 f33 f34 f35 f36 f37 f38 f39 f40 f41 f42 f43 f44 f45 f46 f47 f48 f49 f50 f51 f52 f53 f54 f55 f56 f57 f58 f59 f60 f61 f62 rc else if b = 403 then bL_law_403 f1 f2 f3 f4 f5 f6 f7 f8 f9 f10 f11 f12 f13 f14 f15 f16 f17 f18 f19 f20 f21 f22 f23 f24 f25 f26 f27 f28 f29 f30 f31 f32 f33 f34 f35 f36 f37 f38 f39 f40 f41 f42 f43 f44 f45 f46 f47 f48 f49 f50 f51 f52 f53 f54 f55 f56 f57 f58 f59 f60 f61 f62 rc else if b = 416 then bL_law_416 f1 f2 f3 f4 f5 f6 f7 f8 f9 f10 f11 f12 f13 f14 f15 f16 f17 f18 f19 f20 f21 f22 f23 f24 f25 f26 f27 f28 f29 f30 f31 f32 f33 f34 f35 f36 f37 f38 f39 f40 f41 f42 f43 f44 f45 f46 f47 f48 f49 f50 f51 f52 f53 f54 f55 f56 f57 f58 f59 f60 f61 f62 rc else if b = 429 then bL_law_429 f1 f2 f3 f4 f5 f6 f7 f8 f9 f10 f11 f12 f13 f14 f15 f16 f17 f18 f19 f20 f21 f22 f23 f24 f25 f26 f27 f28 f29 f30 f31 f32 f33 f34 f35 f36 f37 f38 f39 f40 f41 f42 f43 f44 f45 f46 f47 f48 f49 f50 f51 f52 f53 f54 f55 f56 f57 f58 f59 f60 f61 f62 rc else if b = 482 then bL_law_482 f1 f2 f3 f4 f5 f6 f7 f8 f9 f10 f11 f12 f13 f14 f15 f16 f17 f18 f19 f20 f21 f22 f23 f24 f25 f26 f27 f28 f29 f30 f31 f32 f33 f34 f35 f36 f37 f38 f39 f40 f41 f42 f43 f44 f45 f46 f47 f48 f49 f50 f51 f52 f53 f54 f55 f56 f57 f58 f59 f60 f61 f62 rc else if b = 545 then bL_law_545 f1 f2 f3 f4 f5 f6 f7 f8 f9 f10 f11 f12 f13 f14 f15 f16 f17 f18 f19 f20 f21 f22 f23 f24 f25 f26 f27 f28 f29 f30 f31 f32 f33 f34 f35 f36 f37 f38 f39 f40 f41 f42 f43 f44 f45 f46 f47 f48 f49 f50 f51 f52 f53 f54 f55 f56 f57 f58 f59 f60 f61 f62 rc else if b = 568 then bL_law_568 f1 f2 f3 f4 f5 f6 f7 f8 f9 f10 f11 f12 f13 f14 f15 f16 f17 f18 f19 f20 f21 f22 f23 f24 f25 f26 f27 f28 f29 f30 f31 f32 f33 f34 f35 f36 f37 f38 f39 f40 f41 f42 f43 f44 f45 f46 f47 f48 f49 f50 f51 f52 f53 f54 f55 f56 f57 f58 f59 f60 f61 f62 rc else if b = 591 then bL_law_591 f1 f2 f3 f4 f5 f6 f7 f8 f9 f10 f11 f12 f13 f14 f15 f16 f17 f18 f19 f20 f21 f22 f23 f24 f25 f26 f27 f28 f29 f30 f31 f32 f33 f34 f35 f36 f37 f38 f39 f40 f41 f42 f43 f44 f45 f46 f47 f48 f49 f50 f51 f52 f53 f54 f55 f56 f57 f58 f59 f60 f61 f62 rc else if b = 624 then bL_law_624 f1 f2 f3 f4 f5 f6 f7 f8 f9 f10 f11 f12 f13 f14 f15 f16 f17 f18 f19 f20 f21 f22 f23 f24 f25 f26 f27 f28 f29 f30 f31 f32 f33 f34 f35 f36 f37 f38 f39 f40 f41 f42 f43 f44 f45 f46 f47 f48 f49 f50 f51 f52 f53 f54 f55 f56 f57 f58 f59 f60 f61 f62 rc else if b = 647 then bL_law_647 f1 f2 f3 f4 f5 f6 f7 f8 f9 f10 f11 f12 f13 f14 f15 f16 f17 f18 f19 f20 f21 f22 f23 f24 f25 f26 f27 f28 f29 f30 f31 f32 f33 f34 f35 f36 f37 f38 f39 f40 f41 f42 f43 f44 f45 f46 f47 f48 f49 f50 f51 f52 f53 f54 f55 f56 f57 f58 f59 f60 f61 f62 rc else if b = 680 then bL_law_680 f1 f2 f3 f4 f5 f6 f7 f8 f9 f10 f11 f12 f13 f14 f15 f16 f17 f18 f19 f20 f21 f22 f23 f24 f25 f26 f27 f28 f29 f30 f31 f32 f33 f34 f35 f36 f37 f38 f39 f40 f41 f42 f43 f44 f45 f46 f47 f48 f49 f50 f51 f52 f53 f54 f55 f56 f57 f58 f59 f60 f61 f62 rc else if b = 703 then bL_law_703 f1 f2 f3 f4 f5 f6 f7 f8 f9 f10 f11 f12 f13 f14 f15 f16 f17 f18 f19 f20 f21 f22 f23 f24 f25 f26 f27 f28 f29 f30 f31 f32 f33 f34 f35 f36 f37 f38 f39 f40 f41 f42 f43 f44 f45 f46 f47 f48 f49 f50 f51 f52 f53 f54 f55 f56 f57 f58 f59 f60 f61 f62 rc else if b = 736 then bL_law_736 f1 f2 f3 f4 f5 f6 f7 f8 f9 f10 f11 f12 f13 f14 f15 f16 f17 f18 f19 f20 f21 f22 f23 f24 f25 f26 f27 f28 f29 f30 f31 f32 f33 f34 f35 f36 f37 f38 f39 f40 f41 f42 f43 f44 f45 f46 f47 f48 f49 f50 f51 f52 f53 f54 f55 f56 f57 f58 f59 f60 f61 f62 rc else if b = 749 then bL_law_749 f1 f2 f3 f4 f5 f6 f7 f8 f9 f10 f11 f12 f13 f14 f15 f16 f17 f18 f19 f20 f21 f22 f23 f24 f25 f26 f27 f28 f29 f30 f31 f32 f33 f34 f35 f36 f37 f38 f39 f40 f41 f42 f43 f44 f45 f46 f47 f48 f49 f50 f51 f52 f53 f54 f55 f56 f57 f58 f59 f60 f61 f62 rc else if b = 782 then bL_law_782 f1 f2 f3 f4 f5 f6 f7 f8 f9 f10 f11 f12 f13 f14 f15 f16 f17 f18 f19 f20 f21 f22 f23 f24 f25 f26 f27 f28 f29 f30 f31 f32 f33 f34 f35 f36 f37 f38 f39 f40 f41 f42 f43 f44 f45 f46 f47 f48 f49 f50 f51 f52 f53 f54 f55 f56 f57 f58 f59 f60 f61 f62 rc else if b = 805 then bL_law_805 f1 f2 f3 f4 f5 f6 f7 f8 f9 f10 f11 f12 f13 f14 f15 f16 f17 f18 f19 f20 f21 f22 f23 f24 f25 f26 f27 f28 f29 f30 f31 f32 f33 f34 f35 f36 f37 f38 f39 f40 f41 f42 f43 f44 f45 f46 f47 f48 f49 f50 f51 f52 f53 f54 f55 f56 f57 f58 f59 f60 f61 f62 rc else if b = 828 then bL_law_828 f1 f2 f3 f4 f5 f6 f7 f8 f9 f10 f11 f12 f13 f14 f15 f16 f17 f18 f19 f20 f21 f22 f23 f24 f25 f26 f27 f28 f29 f30 f31 f32 f33 f34 f35 f36 f37 f38 f39 f40 f41 f42 f43 f44 f45 f46 f47 f48 f49 f50 f51 f52 f53 f54 f55 f56 f57 f58 f59 f60 f61 f62 rc else if b = 851 then bL_law_851 f1 f2 f3 f4 f5 f6 f7 f8 f9 f10 f11 f12 f13 f14 f15 f16 f17 f18 f19 f20 f21 f22 f23 f24 f25 f26 f27 f28 f29 f30 f31 f32 f33 f34 f35 f36 f37 f38 f39 f40 f41 f42 f43 f44 f45 f46 f47 f48 f49 f50 f51 f52 f53 f54 f55 f56 f57 f58 f59 f60 f61 f62 rc else if b = 874 then bL_law_874 f1 f2 f3 f4 f5 f6 f7 f8 f9 f10 f11 f12 f13 f14 f15 f16 f17 f18 f19 f20 f21 f22 f23 f24 f25 f26 f27 f28 f29 f30 f31 f32 f33 f34 f35 f36 f37 f38 f39 f40 f41 f42 f43 f44 f45 f46 f47 f48 f49 f50 f51 f52 f53 f54 f55 f56 f57 f58 f59 f60 f61 f62 rc else if b = 937 then bL_law_937 f1 f2 f3 f4 f5 f6 f7 f8 f9 f10 f11 f12 f13 f14 f15 f16 f17 f18 f19 f20 f21 f22 f23 f24 f25 f26 f27 f28 f29 f30 f31 f32 f33 f34 f35 f36 f37 f38 f39 f40 f41 f42 f43 f44 f45 f46 f47 f48 f49 f50 f51 f52 f53 f54 f55 f56 f57 f58 f59 f60 f61 f62 rc else if b = 990 then bL_law_990 f1 f2 f3 f4 f5 f6 f7 f8 f9 f10 f11 f12 f13 f14 f15 f16 f17 f18 f19 f20 f21 f22 f23 f24 f25 f26 f27 f28 f29 f30 f31 f32 f33 f34 f35 f36 f37 f38 f39 f40 f41 f42 f43 f44 f45 f46 f47 f48 f49 f50 f51 f52 f53 f54 f55 f56 f57 f58 f59 f60 f61 f62 rc else if b = 1013 then bL_law_1013 f1 f2 f3 f4 f5 f6 f7 f8 f9 f10 f11 f12 f13 f14 f15 f16 f17 f18 f19 f20 f21 f22 f23 f24 f25 f26 f27 f28 f29 f30 f31 f32 f33 f34 f35 f36 f37 f38 f39 f40 f41 f42 f43 f44 f45 f46 f47 f48 f49 f50 f51 f52 f53 f54 f55 f56 f57 f58 f59 f60 f61 f62 rc else if b = 1046 then bL_law_1046 f1 f2 f3 f4 f5 f6 f7 f8 f9 f10 f11 f12 f13 f14 f15 f16 f17 f18 f19 f20 f21 f22 f23 f24 f25 f26 f27 f28 f29 f30 f31 f32 f33 f34 f35 f36 f37 f38 f39 f40 f41 f42 f43 f44 f45 f46 f47 f48 f49 f50 f51 f52 f53 f54 f55 f56 f57 f58 f59 f60 f61 f62 rc else if b = 1079 then bL_law_1079 f1 f2 f3 f4 f5 f6 f7 f8 f9 f10 f11 f12 f13 f14 f15 f16 f17 f18 f19 f20 f21 f22 f23 f24 f25 f26 f27 f28 f29 f30 f31 f32 f33 f34 f35 f36 f37 f38 f39 f40 f41 f42 f43 f44 f45 f46 f47 f48 f49 f50 f51 f52 f53 f54 f55 f56 f57 f58 f59 f60 f61 f62 rc else if b = 1102 then bL_law_1102 f1 f2 f3 f4 f5 f6 f7 f8 f9 f10 f11 f12 f13 f14 f15 f16 f17 f18 f19 f20 f21 f22 f23 f24 f25 f26 f27 f28 f29 f30 f31 f32 f33 f34 f35 f36 f37 f38 f39 f40 f41 f42 f43 f44 f45 f46 f47 f48 f49 f50 f51 f52 f53 f54 f55 f56 f57 f58 f59 f60 f61 f62 rc else if b = 1125 then bL_law_1125 f1 f2 f3 f4 f5 f6 f7 f8 f9 f10 f11 f12 f13 f14 f15 f16 f17 f18 f19 f20 f21 f22 f23 f24 f25 f26 f27 f28 f29 f30 f31 f32 f33 f34 f35 f36 f37 f38 f39 f40 f41 f42 f43 f44 f45 f46 f47 f48 f49 f50 f51 f52 f53 f54 f55 f56 f57 f58 f59 f60 f61 f62 rc else if b = 1138 then bL_law_1138 f1 f2 f3 f4 f5 f6 f7 f8 f9 f10 f11 f12 f13 f14 f15 f16 f17 f18 f19 f20 f21 f22 f23 f24 f25 f26 f27 f28 f29 f30 f31 f32 f33 f34 f35 f36 f37 f38 f39 f40 f41 f42 f43 f44 f45 f46 f47 f48 f49 f50 f51 f52 f53 f54 f55 f56 f57 f58 f59 f60 f61 f62 rc else if b = 1144 then bL_law_1144 f1 f2 f3 f4 f5 f6 f7 f8 f9 f10 f11 f12 f13 f14 f15 f16 f17 f18 f19 f20 f21 f22 f23 f24 f25 f26 f27 f28 f29 f30 f31 f32 f33 f34 f35 f36 f37 f38 f39 f40 f41 f42 f43 f44 f45 f46 f47 f48 f49 f50 f51 f52 f53 f54 f55 f56 f57 f58 f59 f60 f61 f62 rc else ox_no
theorem mL_law (C : ox_C p s m #[Value.ref b] c g 4 code RL) (hr : meth.sig.returnType = ret) (hlk : meth.locks = false) (hB : g.1 = s.heap.size) (h1 : ox_Sem yX11_init cX11_init 2 none d1 f1) (e1 : d1 ≤ 1000) (h2 : ox_Sem yX12_init cX12_init 1 none d2 f2) (e2 : d2 ≤ 1000) (h3 : ox_Sem yX11_sheet cX11_sheet 4 (some .int) d3 f3) (e3 : d3 ≤ 1000) (h4 : ox_Sem yX12_sheet cX12_sheet 5 (some .int) d4 f4) (e4 : d4 ≤ 1000) (h5 : ox_Sem yX11_set cX11_set 6 (some .int) d5 f5) (e5 : d5 ≤ 1000) (h6 : ox_Sem yX12_set cX12_set 4 (some .int) d6 f6) (e6 : d6 ≤ 1000) (h7 : ox_Sem yX11_copy cX11_copy 8 (some .int) d7 f7) (e7 : d7 ≤ 1000) (h8 : ox_Sem yX12_copy cX12_copy 9 (some .int) d8 f8) (e8 : d8 ≤ 1000) (h9 : ox_Sem yX11_drop cX11_drop 3 (some .int) d9 f9) (e9 : d9 ≤ 1000) (h10 : ox_Sem yX12_drop cX12_drop 2 (some .int) d10 f10) (e10 : d10 ≤ 1000) (h11 : ox_Sem yX11_feed cX11_feed 5 (some .int) d11 f11) (e11 : d11 ≤ 1000) (h12 : ox_Sem yX12_feed cX12_feed 5 (some .int) d12 f12) (e12 : d12 ≤ 1000) (h13 : ox_Sem yX11_recipes cX11_recipes 2 (some .int) d13 f13) (e13 : d13 ≤ 1000) (h14 : ox_Sem yX12_recipes cX12_recipes 1 (some .int) d14 f14) (e14 : d14 ≤ 1000) (h15 : ox_Sem yX11_fault cX11_fault 1 (some .int) d15 f15) (e15 : d15 ≤ 1000) (h16 : ox_Sem yX12_fault cX12_fault 1 (some .int) d16 f16) (e16 : d16 ≤ 1000) (h17 : ox_Sem yX11_temper cX11_temper 5 (some .int) d17 f17) (e17 : d17 ≤ 1000) (h18 : ox_Sem yX12_temper cX12_temper 5 (some .int) d18 f18) (e18 : d18 ≤ 1000) (h19 : ox_Sem yX11_fill cX11_fill 10 (some .int) d19 f19) (e19 : d19 ≤ 1000) (h20 : ox_Sem yX12_fill cX12_fill 8 (some .int) d20 f20) (e20 : d20 ≤ 1000) (h21 : ox_Sem yX11_ready cX11_ready 3 (some .int) d21 f21) (e21 : d21 ≤ 1000) (h22 : ox_Sem yX12_ready cX12_ready 2 (some .int) d22 f22) (e22 : d22 ≤ 1000) (h23 : ox_Sem yX11_drain cX11_drain 3 (some .int) d23 f23) (e23 : d23 ≤ 1000) (h24 : ox_Sem yX12_drain cX12_drain 3 (some .int) d24 f24) (e24 : d24 ≤ 1000) (h25 : ox_Sem yX11_tank cX11_tank 5 (some .int) d25 f25) (e25 : d25 ≤ 1000) (h26 : ox_Sem yX12_tank cX12_tank 3 (some .int) d26 f26) (e26 : d26 ≤ 1000) (h27 : ox_Sem yX11_belt cX11_belt 3 (some .int) d27 f27) (e27 : d27 ≤ 1000) (h28 : ox_Sem yX12_belt cX12_belt 3 (some .int) d28 f28) (e28 : d28 ≤ 1000) (h29 : ox_Sem yX11_gear cX11_gear 4 (some .int) d29 f29) (e29 : d29 ≤ 1000) (h30 : ox_Sem yX12_gear cX12_gear 6 (some .int) d30 f30) (e30 : d30 ≤ 1000) (h31 : ox_Sem yX11_beat cX11_beat 4 (some .int) d31 f31) (e31 : d31 ≤ 1000) (h32 : ox_Sem yX12_beat cX12_beat 4 (some .int) d32 f32) (e32 : d32 ≤ 1000) (h33 : ox_Sem yX11_mould cX11_mould 4 (some .int) d33 f33) (e33 : d33 ≤ 1000) (h34 : ox_Sem yX12_mould cX12_mould 4 (some .int) d34 f34) (e34 : d34 ≤ 1000) (h35 : ox_Sem yX11_correct cX11_correct 3 (some .int) d35 f35) (e35 : d35 ≤ 1000) (h36 : ox_Sem yX12_correct cX12_correct 4 (some .int) d36 f36) (e36 : d36 ≤ 1000) (h37 : ox_Sem yX11_bar cX11_bar 4 (some .int) d37 f37) (e37 : d37 ≤ 1000) (h38 : ox_Sem yX12_bar cX12_bar 3 (some .int) d38 f38) (e38 : d38 ≤ 1000) (h39 : ox_Sem yX11_recall cX11_recall 2 (some .int) d39 f39) (e39 : d39 ≤ 1000) (h40 : ox_Sem yX12_recall cX12_recall 4 (some .int) d40 f40) (e40 : d40 ≤ 1000) (h41 : ox_Sem yX11_melt cX11_melt 5 (some .int) d41 f41) (e41 : d41 ≤ 1000) (h42 : ox_Sem yX12_melt cX12_melt 2 (some .int) d42 f42) (e42 : d42 ≤ 1000) (h43 : ox_Sem yX11_bin cX11_bin 2 (some .int) d43 f43) (e43 : d43 ≤ 1000) (h44 : ox_Sem yX12_bin cX12_bin 2 (some .int) d44 f44) (e44 : d44 ≤ 1000) (h45 : ox_Sem yX11_grams cX11_grams 2 (some .int) d45 f45) (e45 : d45 ≤ 1000) (h46 : ox_Sem yX12_grams cX12_grams 4 (some .int) d46 f46) (e46 : d46 ≤ 1000) (h47 : ox_Sem yX11_bloom cX11_bloom 12 (some .int) d47 f47) (e47 : d47 ≤ 1000) (h48 : ox_Sem yX12_bloom cX12_bloom 11 (some .int) d48 f48) (e48 : d48 ≤ 1000) (h49 : ox_Sem yX11_orders cX11_orders 7 (some .int) d49 f49) (e49 : d49 ≤ 1000) (h50 : ox_Sem yX12_orders cX12_orders 11 (some .int) d50 f50) (e50 : d50 ≤ 1000) (h51 : ox_Sem yX11_kind cX11_kind 2 (some .int) d51 f51) (e51 : d51 ≤ 1000) (h52 : ox_Sem yX12_kind cX12_kind 2 (some .int) d52 f52) (e52 : d52 ≤ 1000) (h53 : ox_Sem yX11_as cX11_as 5 (some .int) d53 f53) (e53 : d53 ≤ 1000) (h54 : ox_Sem yX12_as cX12_as 3 (some .int) d54 f54) (e54 : d54 ≤ 1000) (h55 : ox_Sem yX11_ask cX11_ask 5 (some .int) d55 f55) (e55 : d55 ≤ 1000) (h56 : ox_Sem yX12_ask cX12_ask 4 (some .int) d56 f56) (e56 : d56 ≤ 1000) (h57 : ox_Sem yX11_trace cX11_trace 2 (some .int) d57 f57) (e57 : d57 ≤ 1000) (h58 : ox_Sem yX12_trace cX12_trace 2 (some .int) d58 f58) (e58 : d58 ≤ 1000) (h59 : ox_Sem yX11_count cX11_count 2 (some .int) d59 f59) (e59 : d59 ≤ 1000) (h60 : ox_Sem yX12_count cX12_count 4 (some .int) d60 f60) (e60 : d60 ≤ 1000) (h61 : ox_Sem yX11_status cX11_status 1 (some .int) d61 f61) (e61 : d61 ≤ 1000) (h62 : ox_Sem yX12_status cX12_status 1 (some .int) d62 f62) (e62 : d62 ≤ 1000) : ∀ n i, ox_S p l e room_1 s m #[Value.ref b] below meth c g 4 c0 t0 (fun _ => lw_Z below #[Value.ref b] s) i (ox_run (bsL_law f1 f2 f3 f4 f5 f6 f7 f8 f9 f10 f11 f12 f13 f14 f15 f16 f17 f18 f19 f20 f21 f22 f23 f24 f25 f26 f27 f28 f29 f30 f31 f32 f33 f34 f35 f36 f37 f38 f39 f40 f41 f42 f43 f44 f45 f46 f47 f48 f49 f50 f51 f52 f53 f54 f55 f56 f57 f58 f59 f60 f61 f62) n i) := by
  refine s_run ?_
  intro rc hrc i9
  unfold bsL_law
  refine ox_br (kL_law_0 C hr hlk hB h1 e1 h2 e2 hrc) ?_
  refine ox_br (kL_law_18 C hr hlk hB hrc) ?_
  refine ox_br (kL_law_168 C hr hlk hB h3 e3 h4 e4 hrc) ?_
  refine ox_br (kL_law_211 C hr hlk hB h5 e5 h6 e6 hrc) ?_
  refine ox_br (kL_law_254 C hr hlk hB h7 e7 h8 e8 hrc) ?_
  refine ox_br (kL_law_317 C hr hlk hB h9 e9 h10 e10 hrc) ?_
  refine ox_br (kL_law_340 C hr hlk hB h11 e11 h12 e12 hrc) ?_
  refine ox_br (kL_law_403 C hr hlk hB h13 e13 h14 e14 hrc) ?_
  refine ox_br (kL_law_416 C hr hlk hB h15 e15 h16 e16 hrc) ?_
  refine ox_br (kL_law_429 C hr hlk hB h17 e17 h18 e18 hrc) ?_
  refine ox_br (kL_law_482 C hr hlk hB h19 e19 h20 e20 hrc) ?_
  refine ox_br (kL_law_545 C hr hlk hB h21 e21 h22 e22 hrc) ?_
  refine ox_br (kL_law_568 C hr hlk hB h23 e23 h24 e24 hrc) ?_
  refine ox_br (kL_law_591 C hr hlk hB h25 e25 h26 e26 hrc) ?_
  refine ox_br (kL_law_624 C hr hlk hB h27 e27 h28 e28 hrc) ?_
  refine ox_br (kL_law_647 C hr hlk hB h29 e29 h30 e30 hrc) ?_
  refine ox_br (kL_law_680 C hr hlk hB h31 e31 h32 e32 hrc) ?_
  refine ox_br (kL_law_703 C hr hlk hB h33 e33 h34 e34 hrc) ?_
  refine ox_br (kL_law_736 C hr hlk hB h35 e35 h36 e36 hrc) ?_
  refine ox_br (kL_law_749 C hr hlk hB h37 e37 h38 e38 hrc) ?_
  refine ox_br (kL_law_782 C hr hlk hB h39 e39 h40 e40 hrc) ?_
  refine ox_br (kL_law_805 C hr hlk hB h41 e41 h42 e42 hrc) ?_
  refine ox_br (kL_law_828 C hr hlk hB h43 e43 h44 e44 hrc) ?_
  refine ox_br (kL_law_851 C hr hlk hB h45 e45 h46 e46 hrc) ?_
  refine ox_br (kL_law_874 C hr hlk hB h47 e47 h48 e48 hrc) ?_
  refine ox_br (kL_law_937 C hr hlk hB h49 e49 h50 e50 hrc) ?_
  refine ox_br (kL_law_990 C hr hlk hB h51 e51 h52 e52 hrc) ?_
  refine ox_br (kL_law_1013 C hr hlk hB h53 e53 h54 e54 hrc) ?_
  refine ox_br (kL_law_1046 C hr hlk hB h55 e55 h56 e56 hrc) ?_
  refine ox_br (kL_law_1079 C hr hlk hB h57 e57 h58 e58 hrc) ?_
  refine ox_br (kL_law_1102 C hr hlk hB h59 e59 h60 e60 hrc) ?_
  refine ox_br (kL_law_1125 C hr hlk hB h61 e61 h62 e62 hrc) ?_
  refine ox_br (kL_law_1138 C hr hlk hB hrc) ?_
  refine ox_br (kL_law_1144 C hr hlk hB hrc) ?_
  exact s_no
end SLAW
