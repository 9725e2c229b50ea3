/-! THE CLAIM OUT OF ONE WALK OF THE LAW'S BODY. Your part is whole_start (and what it stands on); all else here is the same for every law, but numbers. -/
def R_law : String := "StillInItLaw"
def lw_P (b : Addr) (xs : List Int32) (args : Array Value) (s : State) : Prop := args = #[.ref b] ∧ s.IntsAt b xs ∧ xs.length ≤ 3584 ∧ (Jvm.Cond.and given_1 narrow_1).before args s = true
def lw_Q (_ : Array Value) (s : State) (o : Outcome) (t : State) : Prop := o = .returned (some (.int 1)) ∧ Framed s o t [] 600000 7302250
def lw_Z (below : List Frame) (a : Array Value) (s : State) : State → Prop := fun t => ∃ o, t.status = .running ∧ Ended t below o ∧ lw_Q a s o t
/-- the law's own end, with 1 on the stack, nothing written that was there before, its room as the claim has it -/
theorem lw_ret {p : Program} {l : Launch} {e : Env} {s : State} {m : MethodId} {below : List Frame} {meth : Method} {c : Code} {b : Nat} (hx : p.tables.exec = Jvm.exec) (hb : c.code = code) (hr : meth.sig.returnType = ret) (hlocks : meth.locks = false) {pc : Nat} {H : Heap} {ls : Array Slot} (hdg : decode code pc = .ok (.ireturn, 1)) : W p l e room_1 s m #[Value.ref b] below meth c H [] 600000 7302250 (lw_Z below #[Value.ref b] s) (F0 m pc ls [.int 1]) := by
  intro T hT X
  obtain ⟨fs, hret, hrun, hended, hW, hframe⟩ := X.leave (v := some (.int 1)) (hlocks := hlocks) (fun h => by rw [hr] at h; cases h)
  have hmeth' : T.vm.method? m = some meth := X.method'
  refine ⟨T.setFrames fs, ?_, .returned (some (.int 1)), hrun, hended, rfl, ⟨_, rfl⟩, hW, hframe⟩
  jvm_step X.here [X.here.top, hx, hb, hdg, hmeth', hr, ret, narrow_b1]
  (try refine ⟨rfl, ?_⟩); (try refine ⟨rfl, ?_⟩)
  first | (intro acts; rw [hret _ acts rfl rfl rfl]) | rw [hret _ _ rfl rfl rfl]
  exact Steps.refl _
/-- what holds at the law's entry: the machine, the code, the tables' words (any of lw_tbl by 'hts w (by decide +kernel)'), the script of L ints xs at the cell b, what the Statement gives of the start (any of its parts by flat_of_before) -/
def lw_At (p : Program) (s : State) (m : MethodId) (meth : Method) (c : Code) (b L : Nat) (xs : Nat → Int32) : Prop :=
  p.tables.exec = Jvm.exec ∧ c.code = code ∧ meth.sig.returnType = ret ∧ c.maxLocals = 4 ∧ s.vm.findClass R_law = some m.cls ∧ (∀ w ∈ lw_tbl, w.before #[Value.ref b] s = true) ∧ va_X b L xs s s.heap ∧ b < s.heap.size ∧ meth.locks = false ∧ (Jvm.Cond.and given_1 narrow_1).before #[Value.ref b] s = true

def sL (xs : Nat → Int32) (sl : Nat) (i : Int32) : Option Int32 := if i < 0 ∨ sl ≤ i.toNatClampNeg then none else some (xs i.toNatClampNeg)
/-- what is fixed while the law runs: its script, its room, what it must answer -/
def LawX (X : Cx) (adr : Nat → Nat) (xs : Nat → Int32) (sl kc ns : Nat) (Qm : State → Prop) (r : Int32) : Prop := match X with
  | (_, _, _, s, _, args, below, meth, _, G) => (kc ≤ 600000 ∧ ns ≤ 7302250) ∧ va_X (adr 1030) sl xs s s.heap ∧ adr 1030 < s.heap.size ∧ ¬ Aq G (adr 1030) ∧ r = 1 ∧ G.2.2 = s.heap.size ∧ meth.sig.returnType = ret ∧ args = #[Value.ref (adr 1030)] ∧ Qm = lw_Z below args s
section AWL
variable {X : Cx} {nL : Nat} {Qm : State → Prop} {k n : Nat} {adr : Nat → Nat} {h : Hp} {pc : Nat} {L : List (Nat × Value)} {st : List Value} {xs : Nat → Int32} {sl : Nat} {r : Int32}
theorem LawX.kn (hz : LawX X adr xs sl k n Qm r) : k ≤ room_1.cells ∧ n ≤ room_1.slots := by
  obtain ⟨p, l, e, s, m, args, below, meth, c, G⟩ := X
  exact hz.1
theorem LawX.one (hz : LawX X adr xs sl k n Qm r) : r = 1 := by
  obtain ⟨p, l, e, s, m, args, below, meth, c, G⟩ := X
  exact hz.2.2.2.2.1
theorem aw_sld {i x : Int32} (hz : LawX X adr xs sl k n Qm r) (hd : decode cL_law pc = .ok (.iaload, 1)) (hx : sL xs sl i = some x) (K : AW X cL_law nL RL room_1 Qm k n adr h (pc + 1) L (.int x :: st)) : AW X cL_law nL RL room_1 Qm k n adr h pc L (.int i :: .ref 1030 :: st) := by
  obtain ⟨p, l, e, s, m, args, below, meth, c, G⟩ := X
  intro F hk ls H locs hl hR hS
  obtain ⟨-, hX, hbl, hbA, -⟩ := hz
  unfold sL at hx
  split at hx
  · cases hx
  · rename_i hc
    cases hx
    exact va_sld F.1 F.2.1 hX hbl hbA hS hc hd (K F hk ls H locs hl hR hS)
theorem aw_slen (hz : LawX X adr xs sl k n Qm r) (hd : decode cL_law pc = .ok (.arraylength, 1)) (K : AW X cL_law nL RL room_1 Qm k n adr h (pc + 1) L (.int (Int32.ofNat sl) :: st)) : AW X cL_law nL RL room_1 Qm k n adr h pc L (.ref 1030 :: st) := by
  obtain ⟨p, l, e, s, m, args, below, meth, c, G⟩ := X
  intro F hk ls H locs hl hR hS
  obtain ⟨-, hX, hbl, hbA, -⟩ := hz
  exact va_slen F.1 F.2.1 hX hbl hbA hS hd (K F hk ls H locs hl hR hS)
theorem aw_lret {x : Int32} (hz : LawX X adr xs sl k n Qm x) (hd : decode cL_law pc = .ok (.ireturn, 1)) : AW X cL_law nL RL room_1 Qm k n adr h pc L [.int x] := by
  obtain ⟨p, l, e, s, m, args, below, meth, c, G⟩ := X
  intro F hk ls H locs hl hR hS
  obtain ⟨⟨h1, h2⟩, hX, hbl, hbA, h3, hG, hret, h4, h5⟩ := hz
  subst h3
  subst h4
  subst h5
  refine va_forget (fun q hq => ?_) ?_
  · have := hS.2.2 q hq
    unfold Aq at this
    rw [hG] at this
    exact this
  · refine W.widen (k := 600000) (n := 7302250) h1 h2 ?_
    exact lw_ret F.1 F.2.1 hret F.2.2.2.2.2 hd
end AWL

theorem dL_law_0 : decode cL_law 0 = .ok (.new 7, 3) := by decide +kernel
theorem dL_law_3 : decode cL_law 3 = .ok (.dup, 1) := by decide +kernel
theorem dL_law_4 : decode cL_law 4 = .ok (.invokespecial 9, 3) := by decide +kernel
theorem dL_law_7 : decode cL_law 7 = .ok (.astore_n 1, 1) := by decide +kernel
theorem dL_law_8 : decode cL_law 8 = .ok (.new 10, 3) := by decide +kernel
theorem dL_law_11 : decode cL_law 11 = .ok (.dup, 1) := by decide +kernel
theorem dL_law_12 : decode cL_law 12 = .ok (.invokespecial 12, 3) := by decide +kernel
theorem dL_law_15 : decode cL_law 15 = .ok (.astore_n 2, 1) := by decide +kernel
theorem dL_law_16 : decode cL_law 16 = .ok (.iconst 0, 1) := by decide +kernel
theorem dL_law_17 : decode cL_law 17 = .ok (.istore_n 3, 1) := by decide +kernel
theorem dL_law_18 : decode cL_law 18 = .ok (.iload_n 3, 1) := by decide +kernel
theorem dL_law_19 : decode cL_law 19 = .ok (.aload_n 0, 1) := by decide +kernel
theorem dL_law_20 : decode cL_law 20 = .ok (.arraylength, 1) := by decide +kernel
theorem dL_law_21 : decode cL_law 21 = .ok (.bipush 7, 2) := by decide +kernel
theorem dL_law_23 : decode cL_law 23 = .ok (.isub, 1) := by decide +kernel
theorem dL_law_24 : decode cL_law 24 = .ok (.if_icmp .gt 1109, 3) := by decide +kernel
theorem dL_law_27 : decode cL_law 27 = .ok (.aload_n 0, 1) := by decide +kernel
theorem dL_law_28 : decode cL_law 28 = .ok (.iload_n 3, 1) := by decide +kernel
theorem dL_law_29 : decode cL_law 29 = .ok (.iaload, 1) := by decide +kernel
theorem dL_law_30 : decode cL_law 30 = .ok (.bipush 31, 2) := by decide +kernel
theorem dL_law_32 : decode cL_law 32 = .ok (.iand, 1) := by decide +kernel
theorem dL_law_33 : decode cL_law 33 = .ok (.tableswitch 1094 0 30 #[139, 214, 227, 240, 263, 296, 319, 352, 385, 418, 441, 464, 477, 510, 543, 566, 599, 632, 665, 688, 701, 724, 777, 810, 843, 856, 869, 892, 935, 978, 1041], 139) := by decide +kernel
theorem dL_law_172 : decode cL_law 172 = .ok (.aload_n 1, 1) := by decide +kernel
theorem dL_law_173 : decode cL_law 173 = .ok (.aload_n 0, 1) := by decide +kernel
theorem dL_law_174 : decode cL_law 174 = .ok (.iload_n 3, 1) := by decide +kernel
theorem dL_law_175 : decode cL_law 175 = .ok (.iconst 1, 1) := by decide +kernel
theorem dL_law_176 : decode cL_law 176 = .ok (.iadd, 1) := by decide +kernel
theorem dL_law_177 : decode cL_law 177 = .ok (.iaload, 1) := by decide +kernel
theorem dL_law_178 : decode cL_law 178 = .ok (.aload_n 0, 1) := by decide +kernel
theorem dL_law_179 : decode cL_law 179 = .ok (.iload_n 3, 1) := by decide +kernel
theorem dL_law_180 : decode cL_law 180 = .ok (.iconst 2, 1) := by decide +kernel
theorem dL_law_181 : decode cL_law 181 = .ok (.iadd, 1) := by decide +kernel
theorem dL_law_182 : decode cL_law 182 = .ok (.iaload, 1) := by decide +kernel
theorem dL_law_183 : decode cL_law 183 = .ok (.aload_n 0, 1) := by decide +kernel
theorem dL_law_184 : decode cL_law 184 = .ok (.iload_n 3, 1) := by decide +kernel
theorem dL_law_185 : decode cL_law 185 = .ok (.iconst 3, 1) := by decide +kernel
theorem dL_law_186 : decode cL_law 186 = .ok (.iadd, 1) := by decide +kernel
theorem dL_law_187 : decode cL_law 187 = .ok (.iaload, 1) := by decide +kernel
theorem dL_law_188 : decode cL_law 188 = .ok (.aload_n 0, 1) := by decide +kernel
theorem dL_law_189 : decode cL_law 189 = .ok (.iload_n 3, 1) := by decide +kernel
theorem dL_law_190 : decode cL_law 190 = .ok (.iconst 4, 1) := by decide +kernel
theorem dL_law_191 : decode cL_law 191 = .ok (.iadd, 1) := by decide +kernel
theorem dL_law_192 : decode cL_law 192 = .ok (.iaload, 1) := by decide +kernel
theorem dL_law_193 : decode cL_law 193 = .ok (.aload_n 0, 1) := by decide +kernel
theorem dL_law_194 : decode cL_law 194 = .ok (.iload_n 3, 1) := by decide +kernel
theorem dL_law_195 : decode cL_law 195 = .ok (.iconst 5, 1) := by decide +kernel
theorem dL_law_196 : decode cL_law 196 = .ok (.iadd, 1) := by decide +kernel
theorem dL_law_197 : decode cL_law 197 = .ok (.iaload, 1) := by decide +kernel
theorem dL_law_198 : decode cL_law 198 = .ok (.aload_n 0, 1) := by decide +kernel
theorem dL_law_199 : decode cL_law 199 = .ok (.iload_n 3, 1) := by decide +kernel
theorem dL_law_200 : decode cL_law 200 = .ok (.bipush 6, 2) := by decide +kernel
theorem dL_law_202 : decode cL_law 202 = .ok (.iadd, 1) := by decide +kernel
theorem dL_law_203 : decode cL_law 203 = .ok (.iaload, 1) := by decide +kernel
theorem dL_law_204 : decode cL_law 204 = .ok (.invokevirtual 13, 3) := by decide +kernel
theorem dL_law_207 : decode cL_law 207 = .ok (.pop, 1) := by decide +kernel
theorem dL_law_208 : decode cL_law 208 = .ok (.aload_n 2, 1) := by decide +kernel
theorem dL_law_209 : decode cL_law 209 = .ok (.aload_n 0, 1) := by decide +kernel
theorem dL_law_210 : decode cL_law 210 = .ok (.iload_n 3, 1) := by decide +kernel
theorem dL_law_211 : decode cL_law 211 = .ok (.iconst 1, 1) := by decide +kernel
theorem dL_law_212 : decode cL_law 212 = .ok (.iadd, 1) := by decide +kernel
theorem dL_law_213 : decode cL_law 213 = .ok (.iaload, 1) := by decide +kernel
theorem dL_law_214 : decode cL_law 214 = .ok (.aload_n 0, 1) := by decide +kernel
theorem dL_law_215 : decode cL_law 215 = .ok (.iload_n 3, 1) := by decide +kernel
theorem dL_law_216 : decode cL_law 216 = .ok (.iconst 2, 1) := by decide +kernel
theorem dL_law_217 : decode cL_law 217 = .ok (.iadd, 1) := by decide +kernel
theorem dL_law_218 : decode cL_law 218 = .ok (.iaload, 1) := by decide +kernel
theorem dL_law_219 : decode cL_law 219 = .ok (.aload_n 0, 1) := by decide +kernel
theorem dL_law_220 : decode cL_law 220 = .ok (.iload_n 3, 1) := by decide +kernel
theorem dL_law_221 : decode cL_law 221 = .ok (.iconst 3, 1) := by decide +kernel
theorem dL_law_222 : decode cL_law 222 = .ok (.iadd, 1) := by decide +kernel
theorem dL_law_223 : decode cL_law 223 = .ok (.iaload, 1) := by decide +kernel
theorem dL_law_224 : decode cL_law 224 = .ok (.aload_n 0, 1) := by decide +kernel
theorem dL_law_225 : decode cL_law 225 = .ok (.iload_n 3, 1) := by decide +kernel
theorem dL_law_226 : decode cL_law 226 = .ok (.iconst 4, 1) := by decide +kernel
theorem dL_law_227 : decode cL_law 227 = .ok (.iadd, 1) := by decide +kernel
theorem dL_law_228 : decode cL_law 228 = .ok (.iaload, 1) := by decide +kernel
theorem dL_law_229 : decode cL_law 229 = .ok (.aload_n 0, 1) := by decide +kernel
theorem dL_law_230 : decode cL_law 230 = .ok (.iload_n 3, 1) := by decide +kernel
theorem dL_law_231 : decode cL_law 231 = .ok (.iconst 5, 1) := by decide +kernel
theorem dL_law_232 : decode cL_law 232 = .ok (.iadd, 1) := by decide +kernel
theorem dL_law_233 : decode cL_law 233 = .ok (.iaload, 1) := by decide +kernel
theorem dL_law_234 : decode cL_law 234 = .ok (.aload_n 0, 1) := by decide +kernel
theorem dL_law_235 : decode cL_law 235 = .ok (.iload_n 3, 1) := by decide +kernel
theorem dL_law_236 : decode cL_law 236 = .ok (.bipush 6, 2) := by decide +kernel
theorem dL_law_238 : decode cL_law 238 = .ok (.iadd, 1) := by decide +kernel
theorem dL_law_239 : decode cL_law 239 = .ok (.iaload, 1) := by decide +kernel
theorem dL_law_240 : decode cL_law 240 = .ok (.invokevirtual 17, 3) := by decide +kernel
theorem dL_law_243 : decode cL_law 243 = .ok (.pop, 1) := by decide +kernel
theorem dL_law_244 : decode cL_law 244 = .ok (.goto 883, 3) := by decide +kernel
theorem dL_law_247 : decode cL_law 247 = .ok (.aload_n 1, 1) := by decide +kernel
theorem dL_law_248 : decode cL_law 248 = .ok (.invokevirtual 18, 3) := by decide +kernel
theorem dL_law_251 : decode cL_law 251 = .ok (.pop, 1) := by decide +kernel
theorem dL_law_252 : decode cL_law 252 = .ok (.aload_n 2, 1) := by decide +kernel
theorem dL_law_253 : decode cL_law 253 = .ok (.invokevirtual 22, 3) := by decide +kernel
theorem dL_law_256 : decode cL_law 256 = .ok (.pop, 1) := by decide +kernel
theorem dL_law_257 : decode cL_law 257 = .ok (.goto 870, 3) := by decide +kernel
theorem dL_law_260 : decode cL_law 260 = .ok (.aload_n 1, 1) := by decide +kernel
theorem dL_law_261 : decode cL_law 261 = .ok (.invokevirtual 23, 3) := by decide +kernel
theorem dL_law_264 : decode cL_law 264 = .ok (.pop, 1) := by decide +kernel
theorem dL_law_265 : decode cL_law 265 = .ok (.aload_n 2, 1) := by decide +kernel
theorem dL_law_266 : decode cL_law 266 = .ok (.invokevirtual 26, 3) := by decide +kernel
theorem dL_law_269 : decode cL_law 269 = .ok (.pop, 1) := by decide +kernel
theorem dL_law_270 : decode cL_law 270 = .ok (.goto 857, 3) := by decide +kernel
theorem dL_law_273 : decode cL_law 273 = .ok (.aload_n 1, 1) := by decide +kernel
theorem dL_law_274 : decode cL_law 274 = .ok (.aload_n 0, 1) := by decide +kernel
theorem dL_law_275 : decode cL_law 275 = .ok (.iload_n 3, 1) := by decide +kernel
theorem dL_law_276 : decode cL_law 276 = .ok (.iconst 1, 1) := by decide +kernel
theorem dL_law_277 : decode cL_law 277 = .ok (.iadd, 1) := by decide +kernel
theorem dL_law_278 : decode cL_law 278 = .ok (.iaload, 1) := by decide +kernel
theorem dL_law_279 : decode cL_law 279 = .ok (.invokevirtual 27, 3) := by decide +kernel
theorem dL_law_282 : decode cL_law 282 = .ok (.pop, 1) := by decide +kernel
theorem dL_law_283 : decode cL_law 283 = .ok (.aload_n 2, 1) := by decide +kernel
theorem dL_law_284 : decode cL_law 284 = .ok (.aload_n 0, 1) := by decide +kernel
theorem dL_law_285 : decode cL_law 285 = .ok (.iload_n 3, 1) := by decide +kernel
theorem dL_law_286 : decode cL_law 286 = .ok (.iconst 1, 1) := by decide +kernel
theorem dL_law_287 : decode cL_law 287 = .ok (.iadd, 1) := by decide +kernel
theorem dL_law_288 : decode cL_law 288 = .ok (.iaload, 1) := by decide +kernel
theorem dL_law_289 : decode cL_law 289 = .ok (.invokevirtual 31, 3) := by decide +kernel
theorem dL_law_292 : decode cL_law 292 = .ok (.pop, 1) := by decide +kernel
theorem dL_law_293 : decode cL_law 293 = .ok (.goto 834, 3) := by decide +kernel
theorem dL_law_296 : decode cL_law 296 = .ok (.aload_n 1, 1) := by decide +kernel
theorem dL_law_297 : decode cL_law 297 = .ok (.aload_n 0, 1) := by decide +kernel
theorem dL_law_298 : decode cL_law 298 = .ok (.iload_n 3, 1) := by decide +kernel
theorem dL_law_299 : decode cL_law 299 = .ok (.iconst 1, 1) := by decide +kernel
theorem dL_law_300 : decode cL_law 300 = .ok (.iadd, 1) := by decide +kernel
theorem dL_law_301 : decode cL_law 301 = .ok (.iaload, 1) := by decide +kernel
theorem dL_law_302 : decode cL_law 302 = .ok (.aload_n 0, 1) := by decide +kernel
theorem dL_law_303 : decode cL_law 303 = .ok (.iload_n 3, 1) := by decide +kernel
theorem dL_law_304 : decode cL_law 304 = .ok (.iconst 2, 1) := by decide +kernel
theorem dL_law_305 : decode cL_law 305 = .ok (.iadd, 1) := by decide +kernel
theorem dL_law_306 : decode cL_law 306 = .ok (.iaload, 1) := by decide +kernel
theorem dL_law_307 : decode cL_law 307 = .ok (.invokevirtual 32, 3) := by decide +kernel
theorem dL_law_310 : decode cL_law 310 = .ok (.pop, 1) := by decide +kernel
theorem dL_law_311 : decode cL_law 311 = .ok (.aload_n 2, 1) := by decide +kernel
theorem dL_law_312 : decode cL_law 312 = .ok (.aload_n 0, 1) := by decide +kernel
theorem dL_law_313 : decode cL_law 313 = .ok (.iload_n 3, 1) := by decide +kernel
theorem dL_law_314 : decode cL_law 314 = .ok (.iconst 1, 1) := by decide +kernel
theorem dL_law_315 : decode cL_law 315 = .ok (.iadd, 1) := by decide +kernel
theorem dL_law_316 : decode cL_law 316 = .ok (.iaload, 1) := by decide +kernel
theorem dL_law_317 : decode cL_law 317 = .ok (.aload_n 0, 1) := by decide +kernel
theorem dL_law_318 : decode cL_law 318 = .ok (.iload_n 3, 1) := by decide +kernel
theorem dL_law_319 : decode cL_law 319 = .ok (.iconst 2, 1) := by decide +kernel
theorem dL_law_320 : decode cL_law 320 = .ok (.iadd, 1) := by decide +kernel
theorem dL_law_321 : decode cL_law 321 = .ok (.iaload, 1) := by decide +kernel
theorem dL_law_322 : decode cL_law 322 = .ok (.invokevirtual 36, 3) := by decide +kernel
theorem dL_law_325 : decode cL_law 325 = .ok (.pop, 1) := by decide +kernel
theorem dL_law_326 : decode cL_law 326 = .ok (.goto 801, 3) := by decide +kernel
theorem dL_law_329 : decode cL_law 329 = .ok (.aload_n 1, 1) := by decide +kernel
theorem dL_law_330 : decode cL_law 330 = .ok (.aload_n 0, 1) := by decide +kernel
theorem dL_law_331 : decode cL_law 331 = .ok (.iload_n 3, 1) := by decide +kernel
theorem dL_law_332 : decode cL_law 332 = .ok (.iconst 1, 1) := by decide +kernel
theorem dL_law_333 : decode cL_law 333 = .ok (.iadd, 1) := by decide +kernel
theorem dL_law_334 : decode cL_law 334 = .ok (.iaload, 1) := by decide +kernel
theorem dL_law_335 : decode cL_law 335 = .ok (.invokevirtual 37, 3) := by decide +kernel
theorem dL_law_338 : decode cL_law 338 = .ok (.pop, 1) := by decide +kernel
theorem dL_law_339 : decode cL_law 339 = .ok (.aload_n 2, 1) := by decide +kernel
theorem dL_law_340 : decode cL_law 340 = .ok (.aload_n 0, 1) := by decide +kernel
theorem dL_law_341 : decode cL_law 341 = .ok (.iload_n 3, 1) := by decide +kernel
theorem dL_law_342 : decode cL_law 342 = .ok (.iconst 1, 1) := by decide +kernel
theorem dL_law_343 : decode cL_law 343 = .ok (.iadd, 1) := by decide +kernel
theorem dL_law_344 : decode cL_law 344 = .ok (.iaload, 1) := by decide +kernel
theorem dL_law_345 : decode cL_law 345 = .ok (.invokevirtual 40, 3) := by decide +kernel
theorem dL_law_348 : decode cL_law 348 = .ok (.pop, 1) := by decide +kernel
theorem dL_law_349 : decode cL_law 349 = .ok (.goto 778, 3) := by decide +kernel
theorem dL_law_352 : decode cL_law 352 = .ok (.aload_n 1, 1) := by decide +kernel
theorem dL_law_353 : decode cL_law 353 = .ok (.aload_n 0, 1) := by decide +kernel
theorem dL_law_354 : decode cL_law 354 = .ok (.iload_n 3, 1) := by decide +kernel
theorem dL_law_355 : decode cL_law 355 = .ok (.iconst 1, 1) := by decide +kernel
theorem dL_law_356 : decode cL_law 356 = .ok (.iadd, 1) := by decide +kernel
theorem dL_law_357 : decode cL_law 357 = .ok (.iaload, 1) := by decide +kernel
theorem dL_law_358 : decode cL_law 358 = .ok (.aload_n 0, 1) := by decide +kernel
theorem dL_law_359 : decode cL_law 359 = .ok (.iload_n 3, 1) := by decide +kernel
theorem dL_law_360 : decode cL_law 360 = .ok (.iconst 2, 1) := by decide +kernel
theorem dL_law_361 : decode cL_law 361 = .ok (.iadd, 1) := by decide +kernel
theorem dL_law_362 : decode cL_law 362 = .ok (.iaload, 1) := by decide +kernel
theorem dL_law_363 : decode cL_law 363 = .ok (.invokevirtual 41, 3) := by decide +kernel
theorem dL_law_366 : decode cL_law 366 = .ok (.pop, 1) := by decide +kernel
theorem dL_law_367 : decode cL_law 367 = .ok (.aload_n 2, 1) := by decide +kernel
theorem dL_law_368 : decode cL_law 368 = .ok (.aload_n 0, 1) := by decide +kernel
theorem dL_law_369 : decode cL_law 369 = .ok (.iload_n 3, 1) := by decide +kernel
theorem dL_law_370 : decode cL_law 370 = .ok (.iconst 1, 1) := by decide +kernel
theorem dL_law_371 : decode cL_law 371 = .ok (.iadd, 1) := by decide +kernel
theorem dL_law_372 : decode cL_law 372 = .ok (.iaload, 1) := by decide +kernel
theorem dL_law_373 : decode cL_law 373 = .ok (.aload_n 0, 1) := by decide +kernel
theorem dL_law_374 : decode cL_law 374 = .ok (.iload_n 3, 1) := by decide +kernel
theorem dL_law_375 : decode cL_law 375 = .ok (.iconst 2, 1) := by decide +kernel
theorem dL_law_376 : decode cL_law 376 = .ok (.iadd, 1) := by decide +kernel
theorem dL_law_377 : decode cL_law 377 = .ok (.iaload, 1) := by decide +kernel
theorem dL_law_378 : decode cL_law 378 = .ok (.invokevirtual 44, 3) := by decide +kernel
theorem dL_law_381 : decode cL_law 381 = .ok (.pop, 1) := by decide +kernel
theorem dL_law_382 : decode cL_law 382 = .ok (.goto 745, 3) := by decide +kernel
theorem dL_law_385 : decode cL_law 385 = .ok (.aload_n 1, 1) := by decide +kernel
theorem dL_law_386 : decode cL_law 386 = .ok (.aload_n 0, 1) := by decide +kernel
theorem dL_law_387 : decode cL_law 387 = .ok (.iload_n 3, 1) := by decide +kernel
theorem dL_law_388 : decode cL_law 388 = .ok (.iconst 1, 1) := by decide +kernel
theorem dL_law_389 : decode cL_law 389 = .ok (.iadd, 1) := by decide +kernel
theorem dL_law_390 : decode cL_law 390 = .ok (.iaload, 1) := by decide +kernel
theorem dL_law_391 : decode cL_law 391 = .ok (.aload_n 0, 1) := by decide +kernel
theorem dL_law_392 : decode cL_law 392 = .ok (.iload_n 3, 1) := by decide +kernel
theorem dL_law_393 : decode cL_law 393 = .ok (.iconst 2, 1) := by decide +kernel
theorem dL_law_394 : decode cL_law 394 = .ok (.iadd, 1) := by decide +kernel
theorem dL_law_395 : decode cL_law 395 = .ok (.iaload, 1) := by decide +kernel
theorem dL_law_396 : decode cL_law 396 = .ok (.invokevirtual 45, 3) := by decide +kernel
theorem dL_law_399 : decode cL_law 399 = .ok (.pop, 1) := by decide +kernel
theorem dL_law_400 : decode cL_law 400 = .ok (.aload_n 2, 1) := by decide +kernel
theorem dL_law_401 : decode cL_law 401 = .ok (.aload_n 0, 1) := by decide +kernel
theorem dL_law_402 : decode cL_law 402 = .ok (.iload_n 3, 1) := by decide +kernel
theorem dL_law_403 : decode cL_law 403 = .ok (.iconst 1, 1) := by decide +kernel
theorem dL_law_404 : decode cL_law 404 = .ok (.iadd, 1) := by decide +kernel
theorem dL_law_405 : decode cL_law 405 = .ok (.iaload, 1) := by decide +kernel
theorem dL_law_406 : decode cL_law 406 = .ok (.aload_n 0, 1) := by decide +kernel
theorem dL_law_407 : decode cL_law 407 = .ok (.iload_n 3, 1) := by decide +kernel
theorem dL_law_408 : decode cL_law 408 = .ok (.iconst 2, 1) := by decide +kernel
theorem dL_law_409 : decode cL_law 409 = .ok (.iadd, 1) := by decide +kernel
theorem dL_law_410 : decode cL_law 410 = .ok (.iaload, 1) := by decide +kernel
theorem dL_law_411 : decode cL_law 411 = .ok (.invokevirtual 48, 3) := by decide +kernel
theorem dL_law_414 : decode cL_law 414 = .ok (.pop, 1) := by decide +kernel
theorem dL_law_415 : decode cL_law 415 = .ok (.goto 712, 3) := by decide +kernel
theorem dL_law_418 : decode cL_law 418 = .ok (.aload_n 1, 1) := by decide +kernel
theorem dL_law_419 : decode cL_law 419 = .ok (.aload_n 0, 1) := by decide +kernel
theorem dL_law_420 : decode cL_law 420 = .ok (.iload_n 3, 1) := by decide +kernel
theorem dL_law_421 : decode cL_law 421 = .ok (.iconst 1, 1) := by decide +kernel
theorem dL_law_422 : decode cL_law 422 = .ok (.iadd, 1) := by decide +kernel
theorem dL_law_423 : decode cL_law 423 = .ok (.iaload, 1) := by decide +kernel
theorem dL_law_424 : decode cL_law 424 = .ok (.aload_n 0, 1) := by decide +kernel
theorem dL_law_425 : decode cL_law 425 = .ok (.iload_n 3, 1) := by decide +kernel
theorem dL_law_426 : decode cL_law 426 = .ok (.iconst 2, 1) := by decide +kernel
theorem dL_law_427 : decode cL_law 427 = .ok (.iadd, 1) := by decide +kernel
theorem dL_law_428 : decode cL_law 428 = .ok (.iaload, 1) := by decide +kernel
theorem dL_law_429 : decode cL_law 429 = .ok (.invokevirtual 49, 3) := by decide +kernel
theorem dL_law_432 : decode cL_law 432 = .ok (.pop, 1) := by decide +kernel
theorem dL_law_433 : decode cL_law 433 = .ok (.aload_n 2, 1) := by decide +kernel
theorem dL_law_434 : decode cL_law 434 = .ok (.aload_n 0, 1) := by decide +kernel
theorem dL_law_435 : decode cL_law 435 = .ok (.iload_n 3, 1) := by decide +kernel
theorem dL_law_436 : decode cL_law 436 = .ok (.iconst 1, 1) := by decide +kernel
theorem dL_law_437 : decode cL_law 437 = .ok (.iadd, 1) := by decide +kernel
theorem dL_law_438 : decode cL_law 438 = .ok (.iaload, 1) := by decide +kernel
theorem dL_law_439 : decode cL_law 439 = .ok (.aload_n 0, 1) := by decide +kernel
theorem dL_law_440 : decode cL_law 440 = .ok (.iload_n 3, 1) := by decide +kernel
theorem dL_law_441 : decode cL_law 441 = .ok (.iconst 2, 1) := by decide +kernel
theorem dL_law_442 : decode cL_law 442 = .ok (.iadd, 1) := by decide +kernel
theorem dL_law_443 : decode cL_law 443 = .ok (.iaload, 1) := by decide +kernel
theorem dL_law_444 : decode cL_law 444 = .ok (.invokevirtual 52, 3) := by decide +kernel
theorem dL_law_447 : decode cL_law 447 = .ok (.pop, 1) := by decide +kernel
theorem dL_law_448 : decode cL_law 448 = .ok (.goto 679, 3) := by decide +kernel
theorem dL_law_451 : decode cL_law 451 = .ok (.aload_n 1, 1) := by decide +kernel
theorem dL_law_452 : decode cL_law 452 = .ok (.aload_n 0, 1) := by decide +kernel
theorem dL_law_453 : decode cL_law 453 = .ok (.iload_n 3, 1) := by decide +kernel
theorem dL_law_454 : decode cL_law 454 = .ok (.iconst 1, 1) := by decide +kernel
theorem dL_law_455 : decode cL_law 455 = .ok (.iadd, 1) := by decide +kernel
theorem dL_law_456 : decode cL_law 456 = .ok (.iaload, 1) := by decide +kernel
theorem dL_law_457 : decode cL_law 457 = .ok (.invokevirtual 53, 3) := by decide +kernel
theorem dL_law_460 : decode cL_law 460 = .ok (.pop, 1) := by decide +kernel
theorem dL_law_461 : decode cL_law 461 = .ok (.aload_n 2, 1) := by decide +kernel
theorem dL_law_462 : decode cL_law 462 = .ok (.aload_n 0, 1) := by decide +kernel
theorem dL_law_463 : decode cL_law 463 = .ok (.iload_n 3, 1) := by decide +kernel
theorem dL_law_464 : decode cL_law 464 = .ok (.iconst 1, 1) := by decide +kernel
theorem dL_law_465 : decode cL_law 465 = .ok (.iadd, 1) := by decide +kernel
theorem dL_law_466 : decode cL_law 466 = .ok (.iaload, 1) := by decide +kernel
theorem dL_law_467 : decode cL_law 467 = .ok (.invokevirtual 56, 3) := by decide +kernel
theorem dL_law_470 : decode cL_law 470 = .ok (.pop, 1) := by decide +kernel
theorem dL_law_471 : decode cL_law 471 = .ok (.goto 656, 3) := by decide +kernel
theorem dL_law_474 : decode cL_law 474 = .ok (.aload_n 1, 1) := by decide +kernel
theorem dL_law_475 : decode cL_law 475 = .ok (.aload_n 0, 1) := by decide +kernel
theorem dL_law_476 : decode cL_law 476 = .ok (.iload_n 3, 1) := by decide +kernel
theorem dL_law_477 : decode cL_law 477 = .ok (.iconst 1, 1) := by decide +kernel
theorem dL_law_478 : decode cL_law 478 = .ok (.iadd, 1) := by decide +kernel
theorem dL_law_479 : decode cL_law 479 = .ok (.iaload, 1) := by decide +kernel
theorem dL_law_480 : decode cL_law 480 = .ok (.invokevirtual 57, 3) := by decide +kernel
theorem dL_law_483 : decode cL_law 483 = .ok (.pop, 1) := by decide +kernel
theorem dL_law_484 : decode cL_law 484 = .ok (.aload_n 2, 1) := by decide +kernel
theorem dL_law_485 : decode cL_law 485 = .ok (.aload_n 0, 1) := by decide +kernel
theorem dL_law_486 : decode cL_law 486 = .ok (.iload_n 3, 1) := by decide +kernel
theorem dL_law_487 : decode cL_law 487 = .ok (.iconst 1, 1) := by decide +kernel
theorem dL_law_488 : decode cL_law 488 = .ok (.iadd, 1) := by decide +kernel
theorem dL_law_489 : decode cL_law 489 = .ok (.iaload, 1) := by decide +kernel
theorem dL_law_490 : decode cL_law 490 = .ok (.invokevirtual 60, 3) := by decide +kernel
theorem dL_law_493 : decode cL_law 493 = .ok (.pop, 1) := by decide +kernel
theorem dL_law_494 : decode cL_law 494 = .ok (.goto 633, 3) := by decide +kernel
theorem dL_law_497 : decode cL_law 497 = .ok (.aload_n 1, 1) := by decide +kernel
theorem dL_law_498 : decode cL_law 498 = .ok (.invokevirtual 61, 3) := by decide +kernel
theorem dL_law_501 : decode cL_law 501 = .ok (.pop, 1) := by decide +kernel
theorem dL_law_502 : decode cL_law 502 = .ok (.aload_n 2, 1) := by decide +kernel
theorem dL_law_503 : decode cL_law 503 = .ok (.invokevirtual 64, 3) := by decide +kernel
theorem dL_law_506 : decode cL_law 506 = .ok (.pop, 1) := by decide +kernel
theorem dL_law_507 : decode cL_law 507 = .ok (.goto 620, 3) := by decide +kernel
theorem dL_law_510 : decode cL_law 510 = .ok (.aload_n 1, 1) := by decide +kernel
theorem dL_law_511 : decode cL_law 511 = .ok (.aload_n 0, 1) := by decide +kernel
theorem dL_law_512 : decode cL_law 512 = .ok (.iload_n 3, 1) := by decide +kernel
theorem dL_law_513 : decode cL_law 513 = .ok (.iconst 1, 1) := by decide +kernel
theorem dL_law_514 : decode cL_law 514 = .ok (.iadd, 1) := by decide +kernel
theorem dL_law_515 : decode cL_law 515 = .ok (.iaload, 1) := by decide +kernel
theorem dL_law_516 : decode cL_law 516 = .ok (.aload_n 0, 1) := by decide +kernel
theorem dL_law_517 : decode cL_law 517 = .ok (.iload_n 3, 1) := by decide +kernel
theorem dL_law_518 : decode cL_law 518 = .ok (.iconst 2, 1) := by decide +kernel
theorem dL_law_519 : decode cL_law 519 = .ok (.iadd, 1) := by decide +kernel
theorem dL_law_520 : decode cL_law 520 = .ok (.iaload, 1) := by decide +kernel
theorem dL_law_521 : decode cL_law 521 = .ok (.invokevirtual 65, 3) := by decide +kernel
theorem dL_law_524 : decode cL_law 524 = .ok (.pop, 1) := by decide +kernel
theorem dL_law_525 : decode cL_law 525 = .ok (.aload_n 2, 1) := by decide +kernel
theorem dL_law_526 : decode cL_law 526 = .ok (.aload_n 0, 1) := by decide +kernel
theorem dL_law_527 : decode cL_law 527 = .ok (.iload_n 3, 1) := by decide +kernel
theorem dL_law_528 : decode cL_law 528 = .ok (.iconst 1, 1) := by decide +kernel
theorem dL_law_529 : decode cL_law 529 = .ok (.iadd, 1) := by decide +kernel
theorem dL_law_530 : decode cL_law 530 = .ok (.iaload, 1) := by decide +kernel
theorem dL_law_531 : decode cL_law 531 = .ok (.aload_n 0, 1) := by decide +kernel
theorem dL_law_532 : decode cL_law 532 = .ok (.iload_n 3, 1) := by decide +kernel
theorem dL_law_533 : decode cL_law 533 = .ok (.iconst 2, 1) := by decide +kernel
theorem dL_law_534 : decode cL_law 534 = .ok (.iadd, 1) := by decide +kernel
theorem dL_law_535 : decode cL_law 535 = .ok (.iaload, 1) := by decide +kernel
theorem dL_law_536 : decode cL_law 536 = .ok (.invokevirtual 68, 3) := by decide +kernel
theorem dL_law_539 : decode cL_law 539 = .ok (.pop, 1) := by decide +kernel
theorem dL_law_540 : decode cL_law 540 = .ok (.goto 587, 3) := by decide +kernel
theorem dL_law_543 : decode cL_law 543 = .ok (.aload_n 1, 1) := by decide +kernel
theorem dL_law_544 : decode cL_law 544 = .ok (.aload_n 0, 1) := by decide +kernel
theorem dL_law_545 : decode cL_law 545 = .ok (.iload_n 3, 1) := by decide +kernel
theorem dL_law_546 : decode cL_law 546 = .ok (.iconst 1, 1) := by decide +kernel
theorem dL_law_547 : decode cL_law 547 = .ok (.iadd, 1) := by decide +kernel
theorem dL_law_548 : decode cL_law 548 = .ok (.iaload, 1) := by decide +kernel
theorem dL_law_549 : decode cL_law 549 = .ok (.aload_n 0, 1) := by decide +kernel
theorem dL_law_550 : decode cL_law 550 = .ok (.iload_n 3, 1) := by decide +kernel
theorem dL_law_551 : decode cL_law 551 = .ok (.iconst 2, 1) := by decide +kernel
theorem dL_law_552 : decode cL_law 552 = .ok (.iadd, 1) := by decide +kernel
theorem dL_law_553 : decode cL_law 553 = .ok (.iaload, 1) := by decide +kernel
theorem dL_law_554 : decode cL_law 554 = .ok (.invokevirtual 69, 3) := by decide +kernel
theorem dL_law_557 : decode cL_law 557 = .ok (.pop, 1) := by decide +kernel
theorem dL_law_558 : decode cL_law 558 = .ok (.aload_n 2, 1) := by decide +kernel
theorem dL_law_559 : decode cL_law 559 = .ok (.aload_n 0, 1) := by decide +kernel
theorem dL_law_560 : decode cL_law 560 = .ok (.iload_n 3, 1) := by decide +kernel
theorem dL_law_561 : decode cL_law 561 = .ok (.iconst 1, 1) := by decide +kernel
theorem dL_law_562 : decode cL_law 562 = .ok (.iadd, 1) := by decide +kernel
theorem dL_law_563 : decode cL_law 563 = .ok (.iaload, 1) := by decide +kernel
theorem dL_law_564 : decode cL_law 564 = .ok (.aload_n 0, 1) := by decide +kernel
theorem dL_law_565 : decode cL_law 565 = .ok (.iload_n 3, 1) := by decide +kernel
theorem dL_law_566 : decode cL_law 566 = .ok (.iconst 2, 1) := by decide +kernel
theorem dL_law_567 : decode cL_law 567 = .ok (.iadd, 1) := by decide +kernel
theorem dL_law_568 : decode cL_law 568 = .ok (.iaload, 1) := by decide +kernel
theorem dL_law_569 : decode cL_law 569 = .ok (.invokevirtual 72, 3) := by decide +kernel
theorem dL_law_572 : decode cL_law 572 = .ok (.pop, 1) := by decide +kernel
theorem dL_law_573 : decode cL_law 573 = .ok (.goto 554, 3) := by decide +kernel
theorem dL_law_576 : decode cL_law 576 = .ok (.aload_n 1, 1) := by decide +kernel
theorem dL_law_577 : decode cL_law 577 = .ok (.aload_n 0, 1) := by decide +kernel
theorem dL_law_578 : decode cL_law 578 = .ok (.iload_n 3, 1) := by decide +kernel
theorem dL_law_579 : decode cL_law 579 = .ok (.iconst 1, 1) := by decide +kernel
theorem dL_law_580 : decode cL_law 580 = .ok (.iadd, 1) := by decide +kernel
theorem dL_law_581 : decode cL_law 581 = .ok (.iaload, 1) := by decide +kernel
theorem dL_law_582 : decode cL_law 582 = .ok (.invokevirtual 73, 3) := by decide +kernel
theorem dL_law_585 : decode cL_law 585 = .ok (.pop, 1) := by decide +kernel
theorem dL_law_586 : decode cL_law 586 = .ok (.aload_n 2, 1) := by decide +kernel
theorem dL_law_587 : decode cL_law 587 = .ok (.aload_n 0, 1) := by decide +kernel
theorem dL_law_588 : decode cL_law 588 = .ok (.iload_n 3, 1) := by decide +kernel
theorem dL_law_589 : decode cL_law 589 = .ok (.iconst 1, 1) := by decide +kernel
theorem dL_law_590 : decode cL_law 590 = .ok (.iadd, 1) := by decide +kernel
theorem dL_law_591 : decode cL_law 591 = .ok (.iaload, 1) := by decide +kernel
theorem dL_law_592 : decode cL_law 592 = .ok (.invokevirtual 76, 3) := by decide +kernel
theorem dL_law_595 : decode cL_law 595 = .ok (.pop, 1) := by decide +kernel
theorem dL_law_596 : decode cL_law 596 = .ok (.goto 531, 3) := by decide +kernel
theorem dL_law_599 : decode cL_law 599 = .ok (.aload_n 1, 1) := by decide +kernel
theorem dL_law_600 : decode cL_law 600 = .ok (.aload_n 0, 1) := by decide +kernel
theorem dL_law_601 : decode cL_law 601 = .ok (.iload_n 3, 1) := by decide +kernel
theorem dL_law_602 : decode cL_law 602 = .ok (.iconst 1, 1) := by decide +kernel
theorem dL_law_603 : decode cL_law 603 = .ok (.iadd, 1) := by decide +kernel
theorem dL_law_604 : decode cL_law 604 = .ok (.iaload, 1) := by decide +kernel
theorem dL_law_605 : decode cL_law 605 = .ok (.aload_n 0, 1) := by decide +kernel
theorem dL_law_606 : decode cL_law 606 = .ok (.iload_n 3, 1) := by decide +kernel
theorem dL_law_607 : decode cL_law 607 = .ok (.iconst 2, 1) := by decide +kernel
theorem dL_law_608 : decode cL_law 608 = .ok (.iadd, 1) := by decide +kernel
theorem dL_law_609 : decode cL_law 609 = .ok (.iaload, 1) := by decide +kernel
theorem dL_law_610 : decode cL_law 610 = .ok (.invokevirtual 77, 3) := by decide +kernel
theorem dL_law_613 : decode cL_law 613 = .ok (.pop, 1) := by decide +kernel
theorem dL_law_614 : decode cL_law 614 = .ok (.aload_n 2, 1) := by decide +kernel
theorem dL_law_615 : decode cL_law 615 = .ok (.aload_n 0, 1) := by decide +kernel
theorem dL_law_616 : decode cL_law 616 = .ok (.iload_n 3, 1) := by decide +kernel
theorem dL_law_617 : decode cL_law 617 = .ok (.iconst 1, 1) := by decide +kernel
theorem dL_law_618 : decode cL_law 618 = .ok (.iadd, 1) := by decide +kernel
theorem dL_law_619 : decode cL_law 619 = .ok (.iaload, 1) := by decide +kernel
theorem dL_law_620 : decode cL_law 620 = .ok (.aload_n 0, 1) := by decide +kernel
theorem dL_law_621 : decode cL_law 621 = .ok (.iload_n 3, 1) := by decide +kernel
theorem dL_law_622 : decode cL_law 622 = .ok (.iconst 2, 1) := by decide +kernel
theorem dL_law_623 : decode cL_law 623 = .ok (.iadd, 1) := by decide +kernel
theorem dL_law_624 : decode cL_law 624 = .ok (.iaload, 1) := by decide +kernel
theorem dL_law_625 : decode cL_law 625 = .ok (.invokevirtual 80, 3) := by decide +kernel
theorem dL_law_628 : decode cL_law 628 = .ok (.pop, 1) := by decide +kernel
theorem dL_law_629 : decode cL_law 629 = .ok (.goto 498, 3) := by decide +kernel
theorem dL_law_632 : decode cL_law 632 = .ok (.aload_n 1, 1) := by decide +kernel
theorem dL_law_633 : decode cL_law 633 = .ok (.aload_n 0, 1) := by decide +kernel
theorem dL_law_634 : decode cL_law 634 = .ok (.iload_n 3, 1) := by decide +kernel
theorem dL_law_635 : decode cL_law 635 = .ok (.iconst 1, 1) := by decide +kernel
theorem dL_law_636 : decode cL_law 636 = .ok (.iadd, 1) := by decide +kernel
theorem dL_law_637 : decode cL_law 637 = .ok (.iaload, 1) := by decide +kernel
theorem dL_law_638 : decode cL_law 638 = .ok (.aload_n 0, 1) := by decide +kernel
theorem dL_law_639 : decode cL_law 639 = .ok (.iload_n 3, 1) := by decide +kernel
theorem dL_law_640 : decode cL_law 640 = .ok (.iconst 2, 1) := by decide +kernel
theorem dL_law_641 : decode cL_law 641 = .ok (.iadd, 1) := by decide +kernel
theorem dL_law_642 : decode cL_law 642 = .ok (.iaload, 1) := by decide +kernel
theorem dL_law_643 : decode cL_law 643 = .ok (.invokevirtual 81, 3) := by decide +kernel
theorem dL_law_646 : decode cL_law 646 = .ok (.pop, 1) := by decide +kernel
theorem dL_law_647 : decode cL_law 647 = .ok (.aload_n 2, 1) := by decide +kernel
theorem dL_law_648 : decode cL_law 648 = .ok (.aload_n 0, 1) := by decide +kernel
theorem dL_law_649 : decode cL_law 649 = .ok (.iload_n 3, 1) := by decide +kernel
theorem dL_law_650 : decode cL_law 650 = .ok (.iconst 1, 1) := by decide +kernel
theorem dL_law_651 : decode cL_law 651 = .ok (.iadd, 1) := by decide +kernel
theorem dL_law_652 : decode cL_law 652 = .ok (.iaload, 1) := by decide +kernel
theorem dL_law_653 : decode cL_law 653 = .ok (.aload_n 0, 1) := by decide +kernel
theorem dL_law_654 : decode cL_law 654 = .ok (.iload_n 3, 1) := by decide +kernel
theorem dL_law_655 : decode cL_law 655 = .ok (.iconst 2, 1) := by decide +kernel
theorem dL_law_656 : decode cL_law 656 = .ok (.iadd, 1) := by decide +kernel
theorem dL_law_657 : decode cL_law 657 = .ok (.iaload, 1) := by decide +kernel
theorem dL_law_658 : decode cL_law 658 = .ok (.invokevirtual 84, 3) := by decide +kernel
theorem dL_law_661 : decode cL_law 661 = .ok (.pop, 1) := by decide +kernel
theorem dL_law_662 : decode cL_law 662 = .ok (.goto 465, 3) := by decide +kernel
theorem dL_law_665 : decode cL_law 665 = .ok (.aload_n 1, 1) := by decide +kernel
theorem dL_law_666 : decode cL_law 666 = .ok (.aload_n 0, 1) := by decide +kernel
theorem dL_law_667 : decode cL_law 667 = .ok (.iload_n 3, 1) := by decide +kernel
theorem dL_law_668 : decode cL_law 668 = .ok (.iconst 1, 1) := by decide +kernel
theorem dL_law_669 : decode cL_law 669 = .ok (.iadd, 1) := by decide +kernel
theorem dL_law_670 : decode cL_law 670 = .ok (.iaload, 1) := by decide +kernel
theorem dL_law_671 : decode cL_law 671 = .ok (.aload_n 0, 1) := by decide +kernel
theorem dL_law_672 : decode cL_law 672 = .ok (.iload_n 3, 1) := by decide +kernel
theorem dL_law_673 : decode cL_law 673 = .ok (.iconst 2, 1) := by decide +kernel
theorem dL_law_674 : decode cL_law 674 = .ok (.iadd, 1) := by decide +kernel
theorem dL_law_675 : decode cL_law 675 = .ok (.iaload, 1) := by decide +kernel
theorem dL_law_676 : decode cL_law 676 = .ok (.invokevirtual 85, 3) := by decide +kernel
theorem dL_law_679 : decode cL_law 679 = .ok (.pop, 1) := by decide +kernel
theorem dL_law_680 : decode cL_law 680 = .ok (.aload_n 2, 1) := by decide +kernel
theorem dL_law_681 : decode cL_law 681 = .ok (.aload_n 0, 1) := by decide +kernel
theorem dL_law_682 : decode cL_law 682 = .ok (.iload_n 3, 1) := by decide +kernel
theorem dL_law_683 : decode cL_law 683 = .ok (.iconst 1, 1) := by decide +kernel
theorem dL_law_684 : decode cL_law 684 = .ok (.iadd, 1) := by decide +kernel
theorem dL_law_685 : decode cL_law 685 = .ok (.iaload, 1) := by decide +kernel
theorem dL_law_686 : decode cL_law 686 = .ok (.aload_n 0, 1) := by decide +kernel
theorem dL_law_687 : decode cL_law 687 = .ok (.iload_n 3, 1) := by decide +kernel
theorem dL_law_688 : decode cL_law 688 = .ok (.iconst 2, 1) := by decide +kernel
theorem dL_law_689 : decode cL_law 689 = .ok (.iadd, 1) := by decide +kernel
theorem dL_law_690 : decode cL_law 690 = .ok (.iaload, 1) := by decide +kernel
theorem dL_law_691 : decode cL_law 691 = .ok (.invokevirtual 88, 3) := by decide +kernel
theorem dL_law_694 : decode cL_law 694 = .ok (.pop, 1) := by decide +kernel
theorem dL_law_695 : decode cL_law 695 = .ok (.goto 432, 3) := by decide +kernel
theorem dL_law_698 : decode cL_law 698 = .ok (.aload_n 1, 1) := by decide +kernel
theorem dL_law_699 : decode cL_law 699 = .ok (.aload_n 0, 1) := by decide +kernel
theorem dL_law_700 : decode cL_law 700 = .ok (.iload_n 3, 1) := by decide +kernel
theorem dL_law_701 : decode cL_law 701 = .ok (.iconst 1, 1) := by decide +kernel
theorem dL_law_702 : decode cL_law 702 = .ok (.iadd, 1) := by decide +kernel
theorem dL_law_703 : decode cL_law 703 = .ok (.iaload, 1) := by decide +kernel
theorem dL_law_704 : decode cL_law 704 = .ok (.invokevirtual 89, 3) := by decide +kernel
theorem dL_law_707 : decode cL_law 707 = .ok (.pop, 1) := by decide +kernel
theorem dL_law_708 : decode cL_law 708 = .ok (.aload_n 2, 1) := by decide +kernel
theorem dL_law_709 : decode cL_law 709 = .ok (.aload_n 0, 1) := by decide +kernel
theorem dL_law_710 : decode cL_law 710 = .ok (.iload_n 3, 1) := by decide +kernel
theorem dL_law_711 : decode cL_law 711 = .ok (.iconst 1, 1) := by decide +kernel
theorem dL_law_712 : decode cL_law 712 = .ok (.iadd, 1) := by decide +kernel
theorem dL_law_713 : decode cL_law 713 = .ok (.iaload, 1) := by decide +kernel
theorem dL_law_714 : decode cL_law 714 = .ok (.invokevirtual 92, 3) := by decide +kernel
theorem dL_law_717 : decode cL_law 717 = .ok (.pop, 1) := by decide +kernel
theorem dL_law_718 : decode cL_law 718 = .ok (.goto 409, 3) := by decide +kernel
theorem dL_law_721 : decode cL_law 721 = .ok (.aload_n 1, 1) := by decide +kernel
theorem dL_law_722 : decode cL_law 722 = .ok (.invokevirtual 93, 3) := by decide +kernel
theorem dL_law_725 : decode cL_law 725 = .ok (.pop, 1) := by decide +kernel
theorem dL_law_726 : decode cL_law 726 = .ok (.aload_n 2, 1) := by decide +kernel
theorem dL_law_727 : decode cL_law 727 = .ok (.invokevirtual 96, 3) := by decide +kernel
theorem dL_law_730 : decode cL_law 730 = .ok (.pop, 1) := by decide +kernel
theorem dL_law_731 : decode cL_law 731 = .ok (.goto 396, 3) := by decide +kernel
theorem dL_law_734 : decode cL_law 734 = .ok (.aload_n 1, 1) := by decide +kernel
theorem dL_law_735 : decode cL_law 735 = .ok (.aload_n 0, 1) := by decide +kernel
theorem dL_law_736 : decode cL_law 736 = .ok (.iload_n 3, 1) := by decide +kernel
theorem dL_law_737 : decode cL_law 737 = .ok (.iconst 1, 1) := by decide +kernel
theorem dL_law_738 : decode cL_law 738 = .ok (.iadd, 1) := by decide +kernel
theorem dL_law_739 : decode cL_law 739 = .ok (.iaload, 1) := by decide +kernel
theorem dL_law_740 : decode cL_law 740 = .ok (.invokevirtual 97, 3) := by decide +kernel
theorem dL_law_743 : decode cL_law 743 = .ok (.pop, 1) := by decide +kernel
theorem dL_law_744 : decode cL_law 744 = .ok (.aload_n 2, 1) := by decide +kernel
theorem dL_law_745 : decode cL_law 745 = .ok (.aload_n 0, 1) := by decide +kernel
theorem dL_law_746 : decode cL_law 746 = .ok (.iload_n 3, 1) := by decide +kernel
theorem dL_law_747 : decode cL_law 747 = .ok (.iconst 1, 1) := by decide +kernel
theorem dL_law_748 : decode cL_law 748 = .ok (.iadd, 1) := by decide +kernel
theorem dL_law_749 : decode cL_law 749 = .ok (.iaload, 1) := by decide +kernel
theorem dL_law_750 : decode cL_law 750 = .ok (.invokevirtual 100, 3) := by decide +kernel
theorem dL_law_753 : decode cL_law 753 = .ok (.pop, 1) := by decide +kernel
theorem dL_law_754 : decode cL_law 754 = .ok (.goto 373, 3) := by decide +kernel
theorem dL_law_757 : decode cL_law 757 = .ok (.aload_n 1, 1) := by decide +kernel
theorem dL_law_758 : decode cL_law 758 = .ok (.aload_n 0, 1) := by decide +kernel
theorem dL_law_759 : decode cL_law 759 = .ok (.iload_n 3, 1) := by decide +kernel
theorem dL_law_760 : decode cL_law 760 = .ok (.iconst 1, 1) := by decide +kernel
theorem dL_law_761 : decode cL_law 761 = .ok (.iadd, 1) := by decide +kernel
theorem dL_law_762 : decode cL_law 762 = .ok (.iaload, 1) := by decide +kernel
theorem dL_law_763 : decode cL_law 763 = .ok (.aload_n 0, 1) := by decide +kernel
theorem dL_law_764 : decode cL_law 764 = .ok (.iload_n 3, 1) := by decide +kernel
theorem dL_law_765 : decode cL_law 765 = .ok (.iconst 2, 1) := by decide +kernel
theorem dL_law_766 : decode cL_law 766 = .ok (.iadd, 1) := by decide +kernel
theorem dL_law_767 : decode cL_law 767 = .ok (.iaload, 1) := by decide +kernel
theorem dL_law_768 : decode cL_law 768 = .ok (.aload_n 0, 1) := by decide +kernel
theorem dL_law_769 : decode cL_law 769 = .ok (.iload_n 3, 1) := by decide +kernel
theorem dL_law_770 : decode cL_law 770 = .ok (.iconst 3, 1) := by decide +kernel
theorem dL_law_771 : decode cL_law 771 = .ok (.iadd, 1) := by decide +kernel
theorem dL_law_772 : decode cL_law 772 = .ok (.iaload, 1) := by decide +kernel
theorem dL_law_773 : decode cL_law 773 = .ok (.aload_n 0, 1) := by decide +kernel
theorem dL_law_774 : decode cL_law 774 = .ok (.iload_n 3, 1) := by decide +kernel
theorem dL_law_775 : decode cL_law 775 = .ok (.iconst 4, 1) := by decide +kernel
theorem dL_law_776 : decode cL_law 776 = .ok (.iadd, 1) := by decide +kernel
theorem dL_law_777 : decode cL_law 777 = .ok (.iaload, 1) := by decide +kernel
theorem dL_law_778 : decode cL_law 778 = .ok (.invokevirtual 101, 3) := by decide +kernel
theorem dL_law_781 : decode cL_law 781 = .ok (.pop, 1) := by decide +kernel
theorem dL_law_782 : decode cL_law 782 = .ok (.aload_n 2, 1) := by decide +kernel
theorem dL_law_783 : decode cL_law 783 = .ok (.aload_n 0, 1) := by decide +kernel
theorem dL_law_784 : decode cL_law 784 = .ok (.iload_n 3, 1) := by decide +kernel
theorem dL_law_785 : decode cL_law 785 = .ok (.iconst 1, 1) := by decide +kernel
theorem dL_law_786 : decode cL_law 786 = .ok (.iadd, 1) := by decide +kernel
theorem dL_law_787 : decode cL_law 787 = .ok (.iaload, 1) := by decide +kernel
theorem dL_law_788 : decode cL_law 788 = .ok (.aload_n 0, 1) := by decide +kernel
theorem dL_law_789 : decode cL_law 789 = .ok (.iload_n 3, 1) := by decide +kernel
theorem dL_law_790 : decode cL_law 790 = .ok (.iconst 2, 1) := by decide +kernel
theorem dL_law_791 : decode cL_law 791 = .ok (.iadd, 1) := by decide +kernel
theorem dL_law_792 : decode cL_law 792 = .ok (.iaload, 1) := by decide +kernel
theorem dL_law_793 : decode cL_law 793 = .ok (.aload_n 0, 1) := by decide +kernel
theorem dL_law_794 : decode cL_law 794 = .ok (.iload_n 3, 1) := by decide +kernel
theorem dL_law_795 : decode cL_law 795 = .ok (.iconst 3, 1) := by decide +kernel
theorem dL_law_796 : decode cL_law 796 = .ok (.iadd, 1) := by decide +kernel
theorem dL_law_797 : decode cL_law 797 = .ok (.iaload, 1) := by decide +kernel
theorem dL_law_798 : decode cL_law 798 = .ok (.aload_n 0, 1) := by decide +kernel
theorem dL_law_799 : decode cL_law 799 = .ok (.iload_n 3, 1) := by decide +kernel
theorem dL_law_800 : decode cL_law 800 = .ok (.iconst 4, 1) := by decide +kernel
theorem dL_law_801 : decode cL_law 801 = .ok (.iadd, 1) := by decide +kernel
theorem dL_law_802 : decode cL_law 802 = .ok (.iaload, 1) := by decide +kernel
theorem dL_law_803 : decode cL_law 803 = .ok (.invokevirtual 105, 3) := by decide +kernel
theorem dL_law_806 : decode cL_law 806 = .ok (.pop, 1) := by decide +kernel
theorem dL_law_807 : decode cL_law 807 = .ok (.goto 320, 3) := by decide +kernel
theorem dL_law_810 : decode cL_law 810 = .ok (.aload_n 1, 1) := by decide +kernel
theorem dL_law_811 : decode cL_law 811 = .ok (.aload_n 0, 1) := by decide +kernel
theorem dL_law_812 : decode cL_law 812 = .ok (.iload_n 3, 1) := by decide +kernel
theorem dL_law_813 : decode cL_law 813 = .ok (.iconst 1, 1) := by decide +kernel
theorem dL_law_814 : decode cL_law 814 = .ok (.iadd, 1) := by decide +kernel
theorem dL_law_815 : decode cL_law 815 = .ok (.iaload, 1) := by decide +kernel
theorem dL_law_816 : decode cL_law 816 = .ok (.aload_n 0, 1) := by decide +kernel
theorem dL_law_817 : decode cL_law 817 = .ok (.iload_n 3, 1) := by decide +kernel
theorem dL_law_818 : decode cL_law 818 = .ok (.iconst 2, 1) := by decide +kernel
theorem dL_law_819 : decode cL_law 819 = .ok (.iadd, 1) := by decide +kernel
theorem dL_law_820 : decode cL_law 820 = .ok (.iaload, 1) := by decide +kernel
theorem dL_law_821 : decode cL_law 821 = .ok (.invokevirtual 106, 3) := by decide +kernel
theorem dL_law_824 : decode cL_law 824 = .ok (.pop, 1) := by decide +kernel
theorem dL_law_825 : decode cL_law 825 = .ok (.aload_n 2, 1) := by decide +kernel
theorem dL_law_826 : decode cL_law 826 = .ok (.aload_n 0, 1) := by decide +kernel
theorem dL_law_827 : decode cL_law 827 = .ok (.iload_n 3, 1) := by decide +kernel
theorem dL_law_828 : decode cL_law 828 = .ok (.iconst 1, 1) := by decide +kernel
theorem dL_law_829 : decode cL_law 829 = .ok (.iadd, 1) := by decide +kernel
theorem dL_law_830 : decode cL_law 830 = .ok (.iaload, 1) := by decide +kernel
theorem dL_law_831 : decode cL_law 831 = .ok (.aload_n 0, 1) := by decide +kernel
theorem dL_law_832 : decode cL_law 832 = .ok (.iload_n 3, 1) := by decide +kernel
theorem dL_law_833 : decode cL_law 833 = .ok (.iconst 2, 1) := by decide +kernel
theorem dL_law_834 : decode cL_law 834 = .ok (.iadd, 1) := by decide +kernel
theorem dL_law_835 : decode cL_law 835 = .ok (.iaload, 1) := by decide +kernel
theorem dL_law_836 : decode cL_law 836 = .ok (.invokevirtual 109, 3) := by decide +kernel
theorem dL_law_839 : decode cL_law 839 = .ok (.pop, 1) := by decide +kernel
theorem dL_law_840 : decode cL_law 840 = .ok (.goto 287, 3) := by decide +kernel
theorem dL_law_843 : decode cL_law 843 = .ok (.aload_n 1, 1) := by decide +kernel
theorem dL_law_844 : decode cL_law 844 = .ok (.aload_n 0, 1) := by decide +kernel
theorem dL_law_845 : decode cL_law 845 = .ok (.iload_n 3, 1) := by decide +kernel
theorem dL_law_846 : decode cL_law 846 = .ok (.iconst 1, 1) := by decide +kernel
theorem dL_law_847 : decode cL_law 847 = .ok (.iadd, 1) := by decide +kernel
theorem dL_law_848 : decode cL_law 848 = .ok (.iaload, 1) := by decide +kernel
theorem dL_law_849 : decode cL_law 849 = .ok (.aload_n 0, 1) := by decide +kernel
theorem dL_law_850 : decode cL_law 850 = .ok (.iload_n 3, 1) := by decide +kernel
theorem dL_law_851 : decode cL_law 851 = .ok (.iconst 2, 1) := by decide +kernel
theorem dL_law_852 : decode cL_law 852 = .ok (.iadd, 1) := by decide +kernel
theorem dL_law_853 : decode cL_law 853 = .ok (.iaload, 1) := by decide +kernel
theorem dL_law_854 : decode cL_law 854 = .ok (.invokevirtual 110, 3) := by decide +kernel
theorem dL_law_857 : decode cL_law 857 = .ok (.pop, 1) := by decide +kernel
theorem dL_law_858 : decode cL_law 858 = .ok (.aload_n 2, 1) := by decide +kernel
theorem dL_law_859 : decode cL_law 859 = .ok (.aload_n 0, 1) := by decide +kernel
theorem dL_law_860 : decode cL_law 860 = .ok (.iload_n 3, 1) := by decide +kernel
theorem dL_law_861 : decode cL_law 861 = .ok (.iconst 1, 1) := by decide +kernel
theorem dL_law_862 : decode cL_law 862 = .ok (.iadd, 1) := by decide +kernel
theorem dL_law_863 : decode cL_law 863 = .ok (.iaload, 1) := by decide +kernel
theorem dL_law_864 : decode cL_law 864 = .ok (.aload_n 0, 1) := by decide +kernel
theorem dL_law_865 : decode cL_law 865 = .ok (.iload_n 3, 1) := by decide +kernel
theorem dL_law_866 : decode cL_law 866 = .ok (.iconst 2, 1) := by decide +kernel
theorem dL_law_867 : decode cL_law 867 = .ok (.iadd, 1) := by decide +kernel
theorem dL_law_868 : decode cL_law 868 = .ok (.iaload, 1) := by decide +kernel
theorem dL_law_869 : decode cL_law 869 = .ok (.invokevirtual 113, 3) := by decide +kernel
theorem dL_law_872 : decode cL_law 872 = .ok (.pop, 1) := by decide +kernel
theorem dL_law_873 : decode cL_law 873 = .ok (.goto 254, 3) := by decide +kernel
theorem dL_law_876 : decode cL_law 876 = .ok (.aload_n 1, 1) := by decide +kernel
theorem dL_law_877 : decode cL_law 877 = .ok (.invokevirtual 114, 3) := by decide +kernel
theorem dL_law_880 : decode cL_law 880 = .ok (.pop, 1) := by decide +kernel
theorem dL_law_881 : decode cL_law 881 = .ok (.aload_n 2, 1) := by decide +kernel
theorem dL_law_882 : decode cL_law 882 = .ok (.invokevirtual 117, 3) := by decide +kernel
theorem dL_law_885 : decode cL_law 885 = .ok (.pop, 1) := by decide +kernel
theorem dL_law_886 : decode cL_law 886 = .ok (.goto 241, 3) := by decide +kernel
theorem dL_law_889 : decode cL_law 889 = .ok (.aload_n 1, 1) := by decide +kernel
theorem dL_law_890 : decode cL_law 890 = .ok (.invokevirtual 118, 3) := by decide +kernel
theorem dL_law_893 : decode cL_law 893 = .ok (.pop, 1) := by decide +kernel
theorem dL_law_894 : decode cL_law 894 = .ok (.aload_n 2, 1) := by decide +kernel
theorem dL_law_895 : decode cL_law 895 = .ok (.invokevirtual 121, 3) := by decide +kernel
theorem dL_law_898 : decode cL_law 898 = .ok (.pop, 1) := by decide +kernel
theorem dL_law_899 : decode cL_law 899 = .ok (.goto 228, 3) := by decide +kernel
theorem dL_law_902 : decode cL_law 902 = .ok (.aload_n 1, 1) := by decide +kernel
theorem dL_law_903 : decode cL_law 903 = .ok (.aload_n 0, 1) := by decide +kernel
theorem dL_law_904 : decode cL_law 904 = .ok (.iload_n 3, 1) := by decide +kernel
theorem dL_law_905 : decode cL_law 905 = .ok (.iconst 1, 1) := by decide +kernel
theorem dL_law_906 : decode cL_law 906 = .ok (.iadd, 1) := by decide +kernel
theorem dL_law_907 : decode cL_law 907 = .ok (.iaload, 1) := by decide +kernel
theorem dL_law_908 : decode cL_law 908 = .ok (.invokevirtual 122, 3) := by decide +kernel
theorem dL_law_911 : decode cL_law 911 = .ok (.pop, 1) := by decide +kernel
theorem dL_law_912 : decode cL_law 912 = .ok (.aload_n 2, 1) := by decide +kernel
theorem dL_law_913 : decode cL_law 913 = .ok (.aload_n 0, 1) := by decide +kernel
theorem dL_law_914 : decode cL_law 914 = .ok (.iload_n 3, 1) := by decide +kernel
theorem dL_law_915 : decode cL_law 915 = .ok (.iconst 1, 1) := by decide +kernel
theorem dL_law_916 : decode cL_law 916 = .ok (.iadd, 1) := by decide +kernel
theorem dL_law_917 : decode cL_law 917 = .ok (.iaload, 1) := by decide +kernel
theorem dL_law_918 : decode cL_law 918 = .ok (.invokevirtual 125, 3) := by decide +kernel
theorem dL_law_921 : decode cL_law 921 = .ok (.pop, 1) := by decide +kernel
theorem dL_law_922 : decode cL_law 922 = .ok (.goto 205, 3) := by decide +kernel
theorem dL_law_925 : decode cL_law 925 = .ok (.aload_n 1, 1) := by decide +kernel
theorem dL_law_926 : decode cL_law 926 = .ok (.aload_n 0, 1) := by decide +kernel
theorem dL_law_927 : decode cL_law 927 = .ok (.iload_n 3, 1) := by decide +kernel
theorem dL_law_928 : decode cL_law 928 = .ok (.iconst 1, 1) := by decide +kernel
theorem dL_law_929 : decode cL_law 929 = .ok (.iadd, 1) := by decide +kernel
theorem dL_law_930 : decode cL_law 930 = .ok (.iaload, 1) := by decide +kernel
theorem dL_law_931 : decode cL_law 931 = .ok (.aload_n 0, 1) := by decide +kernel
theorem dL_law_932 : decode cL_law 932 = .ok (.iload_n 3, 1) := by decide +kernel
theorem dL_law_933 : decode cL_law 933 = .ok (.iconst 2, 1) := by decide +kernel
theorem dL_law_934 : decode cL_law 934 = .ok (.iadd, 1) := by decide +kernel
theorem dL_law_935 : decode cL_law 935 = .ok (.iaload, 1) := by decide +kernel
theorem dL_law_936 : decode cL_law 936 = .ok (.aload_n 0, 1) := by decide +kernel
theorem dL_law_937 : decode cL_law 937 = .ok (.iload_n 3, 1) := by decide +kernel
theorem dL_law_938 : decode cL_law 938 = .ok (.iconst 3, 1) := by decide +kernel
theorem dL_law_939 : decode cL_law 939 = .ok (.iadd, 1) := by decide +kernel
theorem dL_law_940 : decode cL_law 940 = .ok (.iaload, 1) := by decide +kernel
theorem dL_law_941 : decode cL_law 941 = .ok (.invokevirtual 126, 3) := by decide +kernel
theorem dL_law_944 : decode cL_law 944 = .ok (.pop, 1) := by decide +kernel
theorem dL_law_945 : decode cL_law 945 = .ok (.aload_n 2, 1) := by decide +kernel
theorem dL_law_946 : decode cL_law 946 = .ok (.aload_n 0, 1) := by decide +kernel
theorem dL_law_947 : decode cL_law 947 = .ok (.iload_n 3, 1) := by decide +kernel
theorem dL_law_948 : decode cL_law 948 = .ok (.iconst 1, 1) := by decide +kernel
theorem dL_law_949 : decode cL_law 949 = .ok (.iadd, 1) := by decide +kernel
theorem dL_law_950 : decode cL_law 950 = .ok (.iaload, 1) := by decide +kernel
theorem dL_law_951 : decode cL_law 951 = .ok (.aload_n 0, 1) := by decide +kernel
theorem dL_law_952 : decode cL_law 952 = .ok (.iload_n 3, 1) := by decide +kernel
theorem dL_law_953 : decode cL_law 953 = .ok (.iconst 2, 1) := by decide +kernel
theorem dL_law_954 : decode cL_law 954 = .ok (.iadd, 1) := by decide +kernel
theorem dL_law_955 : decode cL_law 955 = .ok (.iaload, 1) := by decide +kernel
theorem dL_law_956 : decode cL_law 956 = .ok (.aload_n 0, 1) := by decide +kernel
theorem dL_law_957 : decode cL_law 957 = .ok (.iload_n 3, 1) := by decide +kernel
theorem dL_law_958 : decode cL_law 958 = .ok (.iconst 3, 1) := by decide +kernel
theorem dL_law_959 : decode cL_law 959 = .ok (.iadd, 1) := by decide +kernel
theorem dL_law_960 : decode cL_law 960 = .ok (.iaload, 1) := by decide +kernel
theorem dL_law_961 : decode cL_law 961 = .ok (.invokevirtual 130, 3) := by decide +kernel
theorem dL_law_964 : decode cL_law 964 = .ok (.pop, 1) := by decide +kernel
theorem dL_law_965 : decode cL_law 965 = .ok (.goto 162, 3) := by decide +kernel
theorem dL_law_968 : decode cL_law 968 = .ok (.aload_n 1, 1) := by decide +kernel
theorem dL_law_969 : decode cL_law 969 = .ok (.aload_n 0, 1) := by decide +kernel
theorem dL_law_970 : decode cL_law 970 = .ok (.iload_n 3, 1) := by decide +kernel
theorem dL_law_971 : decode cL_law 971 = .ok (.iconst 1, 1) := by decide +kernel
theorem dL_law_972 : decode cL_law 972 = .ok (.iadd, 1) := by decide +kernel
theorem dL_law_973 : decode cL_law 973 = .ok (.iaload, 1) := by decide +kernel
theorem dL_law_974 : decode cL_law 974 = .ok (.aload_n 0, 1) := by decide +kernel
theorem dL_law_975 : decode cL_law 975 = .ok (.iload_n 3, 1) := by decide +kernel
theorem dL_law_976 : decode cL_law 976 = .ok (.iconst 2, 1) := by decide +kernel
theorem dL_law_977 : decode cL_law 977 = .ok (.iadd, 1) := by decide +kernel
theorem dL_law_978 : decode cL_law 978 = .ok (.iaload, 1) := by decide +kernel
theorem dL_law_979 : decode cL_law 979 = .ok (.aload_n 0, 1) := by decide +kernel
theorem dL_law_980 : decode cL_law 980 = .ok (.iload_n 3, 1) := by decide +kernel
theorem dL_law_981 : decode cL_law 981 = .ok (.iconst 3, 1) := by decide +kernel
theorem dL_law_982 : decode cL_law 982 = .ok (.iadd, 1) := by decide +kernel
theorem dL_law_983 : decode cL_law 983 = .ok (.iaload, 1) := by decide +kernel
theorem dL_law_984 : decode cL_law 984 = .ok (.invokevirtual 131, 3) := by decide +kernel
theorem dL_law_987 : decode cL_law 987 = .ok (.pop, 1) := by decide +kernel
theorem dL_law_988 : decode cL_law 988 = .ok (.aload_n 2, 1) := by decide +kernel
theorem dL_law_989 : decode cL_law 989 = .ok (.aload_n 0, 1) := by decide +kernel
theorem dL_law_990 : decode cL_law 990 = .ok (.iload_n 3, 1) := by decide +kernel
theorem dL_law_991 : decode cL_law 991 = .ok (.iconst 1, 1) := by decide +kernel
theorem dL_law_992 : decode cL_law 992 = .ok (.iadd, 1) := by decide +kernel
theorem dL_law_993 : decode cL_law 993 = .ok (.iaload, 1) := by decide +kernel
theorem dL_law_994 : decode cL_law 994 = .ok (.aload_n 0, 1) := by decide +kernel
theorem dL_law_995 : decode cL_law 995 = .ok (.iload_n 3, 1) := by decide +kernel
theorem dL_law_996 : decode cL_law 996 = .ok (.iconst 2, 1) := by decide +kernel
theorem dL_law_997 : decode cL_law 997 = .ok (.iadd, 1) := by decide +kernel
theorem dL_law_998 : decode cL_law 998 = .ok (.iaload, 1) := by decide +kernel
theorem dL_law_999 : decode cL_law 999 = .ok (.aload_n 0, 1) := by decide +kernel
theorem dL_law_1000 : decode cL_law 1000 = .ok (.iload_n 3, 1) := by decide +kernel
theorem dL_law_1001 : decode cL_law 1001 = .ok (.iconst 3, 1) := by decide +kernel
theorem dL_law_1002 : decode cL_law 1002 = .ok (.iadd, 1) := by decide +kernel
theorem dL_law_1003 : decode cL_law 1003 = .ok (.iaload, 1) := by decide +kernel
theorem dL_law_1004 : decode cL_law 1004 = .ok (.invokevirtual 134, 3) := by decide +kernel
theorem dL_law_1007 : decode cL_law 1007 = .ok (.pop, 1) := by decide +kernel
theorem dL_law_1008 : decode cL_law 1008 = .ok (.goto 119, 3) := by decide +kernel
theorem dL_law_1011 : decode cL_law 1011 = .ok (.aload_n 1, 1) := by decide +kernel
theorem dL_law_1012 : decode cL_law 1012 = .ok (.aload_n 0, 1) := by decide +kernel
theorem dL_law_1013 : decode cL_law 1013 = .ok (.iload_n 3, 1) := by decide +kernel
theorem dL_law_1014 : decode cL_law 1014 = .ok (.iconst 1, 1) := by decide +kernel
theorem dL_law_1015 : decode cL_law 1015 = .ok (.iadd, 1) := by decide +kernel
theorem dL_law_1016 : decode cL_law 1016 = .ok (.iaload, 1) := by decide +kernel
theorem dL_law_1017 : decode cL_law 1017 = .ok (.aload_n 0, 1) := by decide +kernel
theorem dL_law_1018 : decode cL_law 1018 = .ok (.iload_n 3, 1) := by decide +kernel
theorem dL_law_1019 : decode cL_law 1019 = .ok (.iconst 2, 1) := by decide +kernel
theorem dL_law_1020 : decode cL_law 1020 = .ok (.iadd, 1) := by decide +kernel
theorem dL_law_1021 : decode cL_law 1021 = .ok (.iaload, 1) := by decide +kernel
theorem dL_law_1022 : decode cL_law 1022 = .ok (.aload_n 0, 1) := by decide +kernel
theorem dL_law_1023 : decode cL_law 1023 = .ok (.iload_n 3, 1) := by decide +kernel
theorem dL_law_1024 : decode cL_law 1024 = .ok (.iconst 3, 1) := by decide +kernel
theorem dL_law_1025 : decode cL_law 1025 = .ok (.iadd, 1) := by decide +kernel
theorem dL_law_1026 : decode cL_law 1026 = .ok (.iaload, 1) := by decide +kernel
theorem dL_law_1027 : decode cL_law 1027 = .ok (.aload_n 0, 1) := by decide +kernel
theorem dL_law_1028 : decode cL_law 1028 = .ok (.iload_n 3, 1) := by decide +kernel
theorem dL_law_1029 : decode cL_law 1029 = .ok (.iconst 4, 1) := by decide +kernel
theorem dL_law_1030 : decode cL_law 1030 = .ok (.iadd, 1) := by decide +kernel
theorem dL_law_1031 : decode cL_law 1031 = .ok (.iaload, 1) := by decide +kernel
theorem dL_law_1032 : decode cL_law 1032 = .ok (.aload_n 0, 1) := by decide +kernel
theorem dL_law_1033 : decode cL_law 1033 = .ok (.iload_n 3, 1) := by decide +kernel
theorem dL_law_1034 : decode cL_law 1034 = .ok (.iconst 5, 1) := by decide +kernel
theorem dL_law_1035 : decode cL_law 1035 = .ok (.iadd, 1) := by decide +kernel
theorem dL_law_1036 : decode cL_law 1036 = .ok (.iaload, 1) := by decide +kernel
theorem dL_law_1037 : decode cL_law 1037 = .ok (.invokevirtual 135, 3) := by decide +kernel
theorem dL_law_1040 : decode cL_law 1040 = .ok (.pop, 1) := by decide +kernel
theorem dL_law_1041 : decode cL_law 1041 = .ok (.aload_n 2, 1) := by decide +kernel
theorem dL_law_1042 : decode cL_law 1042 = .ok (.aload_n 0, 1) := by decide +kernel
theorem dL_law_1043 : decode cL_law 1043 = .ok (.iload_n 3, 1) := by decide +kernel
theorem dL_law_1044 : decode cL_law 1044 = .ok (.iconst 1, 1) := by decide +kernel
theorem dL_law_1045 : decode cL_law 1045 = .ok (.iadd, 1) := by decide +kernel
theorem dL_law_1046 : decode cL_law 1046 = .ok (.iaload, 1) := by decide +kernel
theorem dL_law_1047 : decode cL_law 1047 = .ok (.aload_n 0, 1) := by decide +kernel
theorem dL_law_1048 : decode cL_law 1048 = .ok (.iload_n 3, 1) := by decide +kernel
theorem dL_law_1049 : decode cL_law 1049 = .ok (.iconst 2, 1) := by decide +kernel
theorem dL_law_1050 : decode cL_law 1050 = .ok (.iadd, 1) := by decide +kernel
theorem dL_law_1051 : decode cL_law 1051 = .ok (.iaload, 1) := by decide +kernel
theorem dL_law_1052 : decode cL_law 1052 = .ok (.aload_n 0, 1) := by decide +kernel
theorem dL_law_1053 : decode cL_law 1053 = .ok (.iload_n 3, 1) := by decide +kernel
theorem dL_law_1054 : decode cL_law 1054 = .ok (.iconst 3, 1) := by decide +kernel
theorem dL_law_1055 : decode cL_law 1055 = .ok (.iadd, 1) := by decide +kernel
theorem dL_law_1056 : decode cL_law 1056 = .ok (.iaload, 1) := by decide +kernel
theorem dL_law_1057 : decode cL_law 1057 = .ok (.aload_n 0, 1) := by decide +kernel
theorem dL_law_1058 : decode cL_law 1058 = .ok (.iload_n 3, 1) := by decide +kernel
theorem dL_law_1059 : decode cL_law 1059 = .ok (.iconst 4, 1) := by decide +kernel
theorem dL_law_1060 : decode cL_law 1060 = .ok (.iadd, 1) := by decide +kernel
theorem dL_law_1061 : decode cL_law 1061 = .ok (.iaload, 1) := by decide +kernel
theorem dL_law_1062 : decode cL_law 1062 = .ok (.aload_n 0, 1) := by decide +kernel
theorem dL_law_1063 : decode cL_law 1063 = .ok (.iload_n 3, 1) := by decide +kernel
theorem dL_law_1064 : decode cL_law 1064 = .ok (.iconst 5, 1) := by decide +kernel
theorem dL_law_1065 : decode cL_law 1065 = .ok (.iadd, 1) := by decide +kernel
theorem dL_law_1066 : decode cL_law 1066 = .ok (.iaload, 1) := by decide +kernel
theorem dL_law_1067 : decode cL_law 1067 = .ok (.invokevirtual 139, 3) := by decide +kernel
theorem dL_law_1070 : decode cL_law 1070 = .ok (.pop, 1) := by decide +kernel
theorem dL_law_1071 : decode cL_law 1071 = .ok (.goto 56, 3) := by decide +kernel
theorem dL_law_1074 : decode cL_law 1074 = .ok (.aload_n 1, 1) := by decide +kernel
theorem dL_law_1075 : decode cL_law 1075 = .ok (.aload_n 0, 1) := by decide +kernel
theorem dL_law_1076 : decode cL_law 1076 = .ok (.iload_n 3, 1) := by decide +kernel
theorem dL_law_1077 : decode cL_law 1077 = .ok (.iconst 1, 1) := by decide +kernel
theorem dL_law_1078 : decode cL_law 1078 = .ok (.iadd, 1) := by decide +kernel
theorem dL_law_1079 : decode cL_law 1079 = .ok (.iaload, 1) := by decide +kernel
theorem dL_law_1080 : decode cL_law 1080 = .ok (.aload_n 0, 1) := by decide +kernel
theorem dL_law_1081 : decode cL_law 1081 = .ok (.iload_n 3, 1) := by decide +kernel
theorem dL_law_1082 : decode cL_law 1082 = .ok (.iconst 2, 1) := by decide +kernel
theorem dL_law_1083 : decode cL_law 1083 = .ok (.iadd, 1) := by decide +kernel
theorem dL_law_1084 : decode cL_law 1084 = .ok (.iaload, 1) := by decide +kernel
theorem dL_law_1085 : decode cL_law 1085 = .ok (.aload_n 0, 1) := by decide +kernel
theorem dL_law_1086 : decode cL_law 1086 = .ok (.iload_n 3, 1) := by decide +kernel
theorem dL_law_1087 : decode cL_law 1087 = .ok (.iconst 3, 1) := by decide +kernel
theorem dL_law_1088 : decode cL_law 1088 = .ok (.iadd, 1) := by decide +kernel
theorem dL_law_1089 : decode cL_law 1089 = .ok (.iaload, 1) := by decide +kernel
theorem dL_law_1090 : decode cL_law 1090 = .ok (.aload_n 0, 1) := by decide +kernel
theorem dL_law_1091 : decode cL_law 1091 = .ok (.iload_n 3, 1) := by decide +kernel
theorem dL_law_1092 : decode cL_law 1092 = .ok (.iconst 4, 1) := by decide +kernel
theorem dL_law_1093 : decode cL_law 1093 = .ok (.iadd, 1) := by decide +kernel
theorem dL_law_1094 : decode cL_law 1094 = .ok (.iaload, 1) := by decide +kernel
theorem dL_law_1095 : decode cL_law 1095 = .ok (.invokevirtual 140, 3) := by decide +kernel
theorem dL_law_1098 : decode cL_law 1098 = .ok (.aload_n 2, 1) := by decide +kernel
theorem dL_law_1099 : decode cL_law 1099 = .ok (.aload_n 0, 1) := by decide +kernel
theorem dL_law_1100 : decode cL_law 1100 = .ok (.iload_n 3, 1) := by decide +kernel
theorem dL_law_1101 : decode cL_law 1101 = .ok (.iconst 1, 1) := by decide +kernel
theorem dL_law_1102 : decode cL_law 1102 = .ok (.iadd, 1) := by decide +kernel
theorem dL_law_1103 : decode cL_law 1103 = .ok (.iaload, 1) := by decide +kernel
theorem dL_law_1104 : decode cL_law 1104 = .ok (.aload_n 0, 1) := by decide +kernel
theorem dL_law_1105 : decode cL_law 1105 = .ok (.iload_n 3, 1) := by decide +kernel
theorem dL_law_1106 : decode cL_law 1106 = .ok (.iconst 2, 1) := by decide +kernel
theorem dL_law_1107 : decode cL_law 1107 = .ok (.iadd, 1) := by decide +kernel
theorem dL_law_1108 : decode cL_law 1108 = .ok (.iaload, 1) := by decide +kernel
theorem dL_law_1109 : decode cL_law 1109 = .ok (.aload_n 0, 1) := by decide +kernel
theorem dL_law_1110 : decode cL_law 1110 = .ok (.iload_n 3, 1) := by decide +kernel
theorem dL_law_1111 : decode cL_law 1111 = .ok (.iconst 3, 1) := by decide +kernel
theorem dL_law_1112 : decode cL_law 1112 = .ok (.iadd, 1) := by decide +kernel
theorem dL_law_1113 : decode cL_law 1113 = .ok (.iaload, 1) := by decide +kernel
theorem dL_law_1114 : decode cL_law 1114 = .ok (.aload_n 0, 1) := by decide +kernel
theorem dL_law_1115 : decode cL_law 1115 = .ok (.iload_n 3, 1) := by decide +kernel
theorem dL_law_1116 : decode cL_law 1116 = .ok (.iconst 4, 1) := by decide +kernel
theorem dL_law_1117 : decode cL_law 1117 = .ok (.iadd, 1) := by decide +kernel
theorem dL_law_1118 : decode cL_law 1118 = .ok (.iaload, 1) := by decide +kernel
theorem dL_law_1119 : decode cL_law 1119 = .ok (.invokevirtual 143, 3) := by decide +kernel
theorem dL_law_1122 : decode cL_law 1122 = .ok (.if_icmp .eq 5, 3) := by decide +kernel
theorem dL_law_1125 : decode cL_law 1125 = .ok (.iconst 0, 1) := by decide +kernel
theorem dL_law_1126 : decode cL_law 1126 = .ok (.ireturn, 1) := by decide +kernel
theorem dL_law_1127 : decode cL_law 1127 = .ok (.iinc 3 7, 3) := by decide +kernel
theorem dL_law_1130 : decode cL_law 1130 = .ok (.goto (-1112), 3) := by decide +kernel
theorem dL_law_1133 : decode cL_law 1133 = .ok (.iconst 1, 1) := by decide +kernel
theorem dL_law_1134 : decode cL_law 1134 = .ok (.ireturn, 1) := by decide +kernel
def f_L_law_18 (xs : Nat → Int32) (sl : Nat) (k18 : Nat × Nat × Int32 → Hp → Option (Int32 × Hp)) (v : Nat × Nat × Int32) (h0 : Hp) : Option (Int32 × Hp) :=
  match v with
  | (l1, l2, l3) => if ((Int32.ofNat sl) - (7 : Int32)) < l3 then (some ((1 : Int32), h0)) else ((sL xs sl l3).bind fun x2 => (some (x2 &&& (31 : Int32))).bind fun x3 => if x3 = 0 then ((sL xs sl (l3 + (1 : Int32))).bind fun x5 => (sL xs sl (l3 + (2 : Int32))).bind fun x6 => (sL xs sl (l3 + (3 : Int32))).bind fun x7 => (sL xs sl (l3 + (4 : Int32))).bind fun x8 => (sL xs sl (l3 + (5 : Int32))).bind fun x9 => (sL xs sl (l3 + (6 : Int32))).bind fun x10 => (f_X6_feed l1 x5 x6 x7 x8 x9 x10 h0).bind fun q11 => (sL xs sl (l3 + (1 : Int32))).bind fun x12 => (sL xs sl (l3 + (2 : Int32))).bind fun x13 => (sL xs sl (l3 + (3 : Int32))).bind fun x14 => (sL xs sl (l3 + (4 : Int32))).bind fun x15 => (sL xs sl (l3 + (5 : Int32))).bind fun x16 => (sL xs sl (l3 + (6 : Int32))).bind fun x17 => (f_X7_feed l2 x12 x13 x14 x15 x16 x17 q11.2).bind fun q18 => (some (l3 + 7)).bind fun x19 => k18 (l1, l2, x19) q18.2) else if x3 = 1 then ((f_X6_text l1 h0).bind fun q21 => (f_X7_text l2 q21.2).bind fun q22 => (some (l3 + 7)).bind fun x23 => k18 (l1, l2, x23) q22.2) else if x3 = 2 then ((f_X6_named l1 h0).bind fun q25 => (f_X7_named l2 q25.2).bind fun q26 => (some (l3 + 7)).bind fun x27 => k18 (l1, l2, x27) q26.2) else if x3 = 3 then ((sL xs sl (l3 + (1 : Int32))).bind fun x29 => (f_X6_system l1 x29 h0).bind fun q30 => (sL xs sl (l3 + (1 : Int32))).bind fun x31 => (f_X7_system l2 x31 q30.2).bind fun q32 => (some (l3 + 7)).bind fun x33 => k18 (l1, l2, x33) q32.2) else if x3 = 4 then ((sL xs sl (l3 + (1 : Int32))).bind fun x35 => (sL xs sl (l3 + (2 : Int32))).bind fun x36 => (f_X6_play l1 x35 x36 h0).bind fun q37 => (sL xs sl (l3 + (1 : Int32))).bind fun x38 => (sL xs sl (l3 + (2 : Int32))).bind fun x39 => (f_X7_play l2 x38 x39 q37.2).bind fun q40 => (some (l3 + 7)).bind fun x41 => k18 (l1, l2, x41) q40.2) else if x3 = 5 then ((sL xs sl (l3 + (1 : Int32))).bind fun x43 => (f_X6_unplay l1 x43 h0).bind fun q44 => (sL xs sl (l3 + (1 : Int32))).bind fun x45 => (f_X7_unplay l2 x45 q44.2).bind fun q46 => (some (l3 + 7)).bind fun x47 => k18 (l1, l2, x47) q46.2) else if x3 = 6 then ((sL xs sl (l3 + (1 : Int32))).bind fun x49 => (sL xs sl (l3 + (2 : Int32))).bind fun x50 => (f_X6_told l1 x49 x50 h0).bind fun q51 => (sL xs sl (l3 + (1 : Int32))).bind fun x52 => (sL xs sl (l3 + (2 : Int32))).bind fun x53 => (f_X7_told l2 x52 x53 q51.2).bind fun q54 => (some (l3 + 7)).bind fun x55 => k18 (l1, l2, x55) q54.2) else if x3 = 7 then ((sL xs sl (l3 + (1 : Int32))).bind fun x57 => (sL xs sl (l3 + (2 : Int32))).bind fun x58 => (f_X6_game l1 x57 x58 h0).bind fun q59 => (sL xs sl (l3 + (1 : Int32))).bind fun x60 => (sL xs sl (l3 + (2 : Int32))).bind fun x61 => (f_X7_game l2 x60 x61 q59.2).bind fun q62 => (some (l3 + 7)).bind fun x63 => k18 (l1, l2, x63) q62.2) else if x3 = 8 then ((sL xs sl (l3 + (1 : Int32))).bind fun x65 => (sL xs sl (l3 + (2 : Int32))).bind fun x66 => (f_X6_between l1 x65 x66 h0).bind fun q67 => (sL xs sl (l3 + (1 : Int32))).bind fun x68 => (sL xs sl (l3 + (2 : Int32))).bind fun x69 => (f_X7_between l2 x68 x69 q67.2).bind fun q70 => (some (l3 + 7)).bind fun x71 => k18 (l1, l2, x71) q70.2) else if x3 = 9 then ((sL xs sl (l3 + (1 : Int32))).bind fun x73 => (f_X6_taken l1 x73 h0).bind fun q74 => (sL xs sl (l3 + (1 : Int32))).bind fun x75 => (f_X7_taken l2 x75 q74.2).bind fun q76 => (some (l3 + 7)).bind fun x77 => k18 (l1, l2, x77) q76.2) else if x3 = 10 then ((sL xs sl (l3 + (1 : Int32))).bind fun x79 => (f_X6_isIn l1 x79 h0).bind fun q80 => (sL xs sl (l3 + (1 : Int32))).bind fun x81 => (f_X7_isIn l2 x81 q80.2).bind fun q82 => (some (l3 + 7)).bind fun x83 => k18 (l1, l2, x83) q82.2) else if x3 = 11 then ((f_X6_all l1 h0).bind fun q85 => (f_X7_all l2 q85.2).bind fun q86 => (some (l3 + 7)).bind fun x87 => k18 (l1, l2, x87) q86.2) else if x3 = 12 then ((sL xs sl (l3 + (1 : Int32))).bind fun x89 => (sL xs sl (l3 + (2 : Int32))).bind fun x90 => (f_X6_set l1 x89 x90 h0).bind fun q91 => (sL xs sl (l3 + (1 : Int32))).bind fun x92 => (sL xs sl (l3 + (2 : Int32))).bind fun x93 => (f_X7_set l2 x92 x93 q91.2).bind fun q94 => (some (l3 + 7)).bind fun x95 => k18 (l1, l2, x95) q94.2) else if x3 = 13 then ((sL xs sl (l3 + (1 : Int32))).bind fun x97 => (sL xs sl (l3 + (2 : Int32))).bind fun x98 => (f_X6_run l1 x97 x98 h0).bind fun q99 => (sL xs sl (l3 + (1 : Int32))).bind fun x100 => (sL xs sl (l3 + (2 : Int32))).bind fun x101 => (f_X7_run l2 x100 x101 q99.2).bind fun q102 => (some (l3 + 7)).bind fun x103 => k18 (l1, l2, x103) q102.2) else if x3 = 14 then ((sL xs sl (l3 + (1 : Int32))).bind fun x105 => (f_X6_pattern l1 x105 h0).bind fun q106 => (sL xs sl (l3 + (1 : Int32))).bind fun x107 => (f_X7_pattern l2 x107 q106.2).bind fun q108 => (some (l3 + 7)).bind fun x109 => k18 (l1, l2, x109) q108.2) else if x3 = 15 then ((sL xs sl (l3 + (1 : Int32))).bind fun x111 => (sL xs sl (l3 + (2 : Int32))).bind fun x112 => (f_X6_needs l1 x111 x112 h0).bind fun q113 => (sL xs sl (l3 + (1 : Int32))).bind fun x114 => (sL xs sl (l3 + (2 : Int32))).bind fun x115 => (f_X7_needs l2 x114 x115 q113.2).bind fun q116 => (some (l3 + 7)).bind fun x117 => k18 (l1, l2, x117) q116.2) else if x3 = 16 then ((sL xs sl (l3 + (1 : Int32))).bind fun x119 => (sL xs sl (l3 + (2 : Int32))).bind fun x120 => (f_X6_since l1 x119 x120 h0).bind fun q121 => (sL xs sl (l3 + (1 : Int32))).bind fun x122 => (sL xs sl (l3 + (2 : Int32))).bind fun x123 => (f_X7_since l2 x122 x123 q121.2).bind fun q124 => (some (l3 + 7)).bind fun x125 => k18 (l1, l2, x125) q124.2) else if x3 = 17 then ((sL xs sl (l3 + (1 : Int32))).bind fun x127 => (sL xs sl (l3 + (2 : Int32))).bind fun x128 => (f_X6_help l1 x127 x128 h0).bind fun q129 => (sL xs sl (l3 + (1 : Int32))).bind fun x130 => (sL xs sl (l3 + (2 : Int32))).bind fun x131 => (f_X7_help l2 x130 x131 q129.2).bind fun q132 => (some (l3 + 7)).bind fun x133 => k18 (l1, l2, x133) q132.2) else if x3 = 18 then ((sL xs sl (l3 + (1 : Int32))).bind fun x135 => (f_X6_without l1 x135 h0).bind fun q136 => (sL xs sl (l3 + (1 : Int32))).bind fun x137 => (f_X7_without l2 x137 q136.2).bind fun q138 => (some (l3 + 7)).bind fun x139 => k18 (l1, l2, x139) q138.2) else if x3 = 19 then ((f_X6_tables l1 h0).bind fun q141 => (f_X7_tables l2 q141.2).bind fun q142 => (some (l3 + 7)).bind fun x143 => k18 (l1, l2, x143) q142.2) else if x3 = 20 then ((sL xs sl (l3 + (1 : Int32))).bind fun x145 => (f_X6_drawn l1 x145 h0).bind fun q146 => (sL xs sl (l3 + (1 : Int32))).bind fun x147 => (f_X7_drawn l2 x147 q146.2).bind fun q148 => (some (l3 + 7)).bind fun x149 => k18 (l1, l2, x149) q148.2) else if x3 = 21 then ((sL xs sl (l3 + (1 : Int32))).bind fun x151 => (sL xs sl (l3 + (2 : Int32))).bind fun x152 => (sL xs sl (l3 + (3 : Int32))).bind fun x153 => (sL xs sl (l3 + (4 : Int32))).bind fun x154 => (f_X6_chance l1 x151 x152 x153 x154 h0).bind fun q155 => (sL xs sl (l3 + (1 : Int32))).bind fun x156 => (sL xs sl (l3 + (2 : Int32))).bind fun x157 => (sL xs sl (l3 + (3 : Int32))).bind fun x158 => (sL xs sl (l3 + (4 : Int32))).bind fun x159 => (f_X7_chance l2 x156 x157 x158 x159 q155.2).bind fun q160 => (some (l3 + 7)).bind fun x161 => k18 (l1, l2, x161) q160.2) else if x3 = 22 then ((sL xs sl (l3 + (1 : Int32))).bind fun x163 => (sL xs sl (l3 + (2 : Int32))).bind fun x164 => (f_X6_tells l1 x163 x164 h0).bind fun q165 => (sL xs sl (l3 + (1 : Int32))).bind fun x166 => (sL xs sl (l3 + (2 : Int32))).bind fun x167 => (f_X7_tells l2 x166 x167 q165.2).bind fun q168 => (some (l3 + 7)).bind fun x169 => k18 (l1, l2, x169) q168.2) else if x3 = 23 then ((sL xs sl (l3 + (1 : Int32))).bind fun x171 => (sL xs sl (l3 + (2 : Int32))).bind fun x172 => (f_X6_film l1 x171 x172 h0).bind fun q173 => (sL xs sl (l3 + (1 : Int32))).bind fun x174 => (sL xs sl (l3 + (2 : Int32))).bind fun x175 => (f_X7_film l2 x174 x175 q173.2).bind fun q176 => (some (l3 + 7)).bind fun x177 => k18 (l1, l2, x177) q176.2) else if x3 = 24 then ((f_X6_image l1 h0).bind fun q179 => (f_X7_image l2 q179.2).bind fun q180 => (some (l3 + 7)).bind fun x181 => k18 (l1, l2, x181) q180.2) else if x3 = 25 then ((f_X6_back l1 h0).bind fun q183 => (f_X7_back l2 q183.2).bind fun q184 => (some (l3 + 7)).bind fun x185 => k18 (l1, l2, x185) q184.2) else if x3 = 26 then ((sL xs sl (l3 + (1 : Int32))).bind fun x187 => (f_X6_count l1 x187 h0).bind fun q188 => (sL xs sl (l3 + (1 : Int32))).bind fun x189 => (f_X7_count l2 x189 q188.2).bind fun q190 => (some (l3 + 7)).bind fun x191 => k18 (l1, l2, x191) q190.2) else if x3 = 27 then ((sL xs sl (l3 + (1 : Int32))).bind fun x193 => (sL xs sl (l3 + (2 : Int32))).bind fun x194 => (sL xs sl (l3 + (3 : Int32))).bind fun x195 => (f_X6_sheet l1 x193 x194 x195 h0).bind fun q196 => (sL xs sl (l3 + (1 : Int32))).bind fun x197 => (sL xs sl (l3 + (2 : Int32))).bind fun x198 => (sL xs sl (l3 + (3 : Int32))).bind fun x199 => (f_X7_sheet l2 x197 x198 x199 q196.2).bind fun q200 => (some (l3 + 7)).bind fun x201 => k18 (l1, l2, x201) q200.2) else if x3 = 28 then ((sL xs sl (l3 + (1 : Int32))).bind fun x203 => (sL xs sl (l3 + (2 : Int32))).bind fun x204 => (sL xs sl (l3 + (3 : Int32))).bind fun x205 => (f_X6_put l1 x203 x204 x205 h0).bind fun q206 => (sL xs sl (l3 + (1 : Int32))).bind fun x207 => (sL xs sl (l3 + (2 : Int32))).bind fun x208 => (sL xs sl (l3 + (3 : Int32))).bind fun x209 => (f_X7_put l2 x207 x208 x209 q206.2).bind fun q210 => (some (l3 + 7)).bind fun x211 => k18 (l1, l2, x211) q210.2) else if x3 = 29 then ((sL xs sl (l3 + (1 : Int32))).bind fun x213 => (sL xs sl (l3 + (2 : Int32))).bind fun x214 => (sL xs sl (l3 + (3 : Int32))).bind fun x215 => (sL xs sl (l3 + (4 : Int32))).bind fun x216 => (sL xs sl (l3 + (5 : Int32))).bind fun x217 => (f_X6_copy l1 x213 x214 x215 x216 x217 h0).bind fun q218 => (sL xs sl (l3 + (1 : Int32))).bind fun x219 => (sL xs sl (l3 + (2 : Int32))).bind fun x220 => (sL xs sl (l3 + (3 : Int32))).bind fun x221 => (sL xs sl (l3 + (4 : Int32))).bind fun x222 => (sL xs sl (l3 + (5 : Int32))).bind fun x223 => (f_X7_copy l2 x219 x220 x221 x222 x223 q218.2).bind fun q224 => (some (l3 + 7)).bind fun x225 => k18 (l1, l2, x225) q224.2) else if x3 = 30 then ((sL xs sl (l3 + (1 : Int32))).bind fun x227 => (sL xs sl (l3 + (2 : Int32))).bind fun x228 => (sL xs sl (l3 + (3 : Int32))).bind fun x229 => (sL xs sl (l3 + (4 : Int32))).bind fun x230 => (f_X6_load l1 x227 x228 x229 x230 h0).bind fun q231 => (sL xs sl (l3 + (1 : Int32))).bind fun x232 => (sL xs sl (l3 + (2 : Int32))).bind fun x233 => (sL xs sl (l3 + (3 : Int32))).bind fun x234 => (sL xs sl (l3 + (4 : Int32))).bind fun x235 => (f_X7_load l2 x232 x233 x234 x235 q231.2).bind fun q236 => if q231.1 = q236.1 then ((some (l3 + 7)).bind fun x238 => k18 (l1, l2, x238) q236.2) else (some ((0 : Int32), q236.2))) else ((some (l3 + 7)).bind fun x239 => k18 (l1, l2, x239) h0))
set_option maxRecDepth 100000 in
set_option maxHeartbeats 4000000 in
theorem c_L_law_18 {X : Cx} {adr : Nat → Nat} {kc ns : Nat} {Qm : State → Prop} {q : Int32 × Hp} {xs : Nat → Int32} {sl : Nat} (hz : LawX X adr xs sl kc ns Qm q.1) (n : Nat) : ∀ v h0, lp (f_L_law_18 xs sl) n v h0 = some q → AW X cL_law 4 RL room_1 Qm kc ns adr h0 18 [(0, .ref 1030), (1, .ref v.1), (2, .ref v.2.1), (3, .int v.2.2)] [] := by
  refine aw_lp (fun k18 hk18 v h0 hf => ?_) n
  obtain ⟨l1, l2, l3⟩ := v
  unfold f_L_law_18 at hf
  dsimp only at hf
  show AW X cL_law 4 RL room_1 Qm kc ns adr h0 18 [(0, .ref 1030), (1, .ref l1), (2, .ref l2), (3, .int l3)] []
  refine aw_iload_n 3 dL_law_18 rfl rfl ?_
  refine aw_aload_n 0 dL_law_19 rfl rfl ?_
  refine aw_slen hz dL_law_20 ?_
  refine aw_bipush (v := 7) dL_law_21 (by decide) ?_
  refine aw_isub dL_law_23 ?_
  refine aw_icmp_gt (tgt := 1133) dL_law_24 (by decide) (fun c1 => ?_) (fun c1 => ?_)
  · have hf := i_pos c1 hf
    refine aw_iconst (v := 1) dL_law_1133 (by decide) ?_
    have hq := Option.some.inj hf
    subst hq
    exact aw_lret hz dL_law_1134
  · have hf := i_neg c1 hf
    refine aw_aload_n 0 dL_law_27 rfl rfl ?_
    refine aw_iload_n 3 dL_law_28 rfl rfl ?_
    obtain ⟨x2, ex2, hf⟩ := b_some hf
    refine aw_sld hz dL_law_29 ex2 ?_
    refine aw_bipush (v := 31) dL_law_30 (by decide) ?_
    refine aw_iand dL_law_32 ?_
    obtain ⟨x3, ex3, hf⟩ := b_some hf
    refine aw_nm ex3 ?_
    by_cases c4 : x3 = 0
    · have hf := i_pos c4 hf
      refine aw_tabIn (tgt := 172) dL_law_33 (by rw [c4]; decide) (by rw [c4]; decide) (by rw [c4]; rfl) (by decide) ?_
      refine aw_aload_n 1 dL_law_172 rfl rfl ?_
      refine aw_aload_n 0 dL_law_173 rfl rfl ?_
      refine aw_iload_n 3 dL_law_174 rfl rfl ?_
      refine aw_iconst (v := 1) dL_law_175 (by decide) ?_
      refine aw_iadd dL_law_176 ?_
      obtain ⟨x5, ex5, hf⟩ := b_some hf
      refine aw_sld hz dL_law_177 ex5 ?_
      refine aw_aload_n 0 dL_law_178 rfl rfl ?_
      refine aw_iload_n 3 dL_law_179 rfl rfl ?_
      refine aw_iconst (v := 2) dL_law_180 (by decide) ?_
      refine aw_iadd dL_law_181 ?_
      obtain ⟨x6, ex6, hf⟩ := b_some hf
      refine aw_sld hz dL_law_182 ex6 ?_
      refine aw_aload_n 0 dL_law_183 rfl rfl ?_
      refine aw_iload_n 3 dL_law_184 rfl rfl ?_
      refine aw_iconst (v := 3) dL_law_185 (by decide) ?_
      refine aw_iadd dL_law_186 ?_
      obtain ⟨x7, ex7, hf⟩ := b_some hf
      refine aw_sld hz dL_law_187 ex7 ?_
      refine aw_aload_n 0 dL_law_188 rfl rfl ?_
      refine aw_iload_n 3 dL_law_189 rfl rfl ?_
      refine aw_iconst (v := 4) dL_law_190 (by decide) ?_
      refine aw_iadd dL_law_191 ?_
      obtain ⟨x8, ex8, hf⟩ := b_some hf
      refine aw_sld hz dL_law_192 ex8 ?_
      refine aw_aload_n 0 dL_law_193 rfl rfl ?_
      refine aw_iload_n 3 dL_law_194 rfl rfl ?_
      refine aw_iconst (v := 5) dL_law_195 (by decide) ?_
      refine aw_iadd dL_law_196 ?_
      obtain ⟨x9, ex9, hf⟩ := b_some hf
      refine aw_sld hz dL_law_197 ex9 ?_
      refine aw_aload_n 0 dL_law_198 rfl rfl ?_
      refine aw_iload_n 3 dL_law_199 rfl rfl ?_
      refine aw_bipush (v := 6) dL_law_200 (by decide) ?_
      refine aw_iadd dL_law_202 ?_
      obtain ⟨x10, ex10, hf⟩ := b_some hf
      refine aw_sld hz dL_law_203 ex10 ?_
      obtain ⟨q11, eq11, hf⟩ := b_some hf
      refine aw_cV (as := [.int x5, .int x6, .int x7, .int x8, .int x9, .int x10]) dL_law_204 moX6_feed voX6_feed mlL_13 (k_X6_feed eq11) rfl (by decide) (LawX.kn hz) (Nat.le_of_ble_eq_true rfl) rfl (c_X6_feed eq11) ?_
      refine aw_pop dL_law_207 rfl ?_
      refine aw_aload_n 2 dL_law_208 rfl rfl ?_
      refine aw_aload_n 0 dL_law_209 rfl rfl ?_
      refine aw_iload_n 3 dL_law_210 rfl rfl ?_
      refine aw_iconst (v := 1) dL_law_211 (by decide) ?_
      refine aw_iadd dL_law_212 ?_
      obtain ⟨x12, ex12, hf⟩ := b_some hf
      refine aw_sld hz dL_law_213 ex12 ?_
      refine aw_aload_n 0 dL_law_214 rfl rfl ?_
      refine aw_iload_n 3 dL_law_215 rfl rfl ?_
      refine aw_iconst (v := 2) dL_law_216 (by decide) ?_
      refine aw_iadd dL_law_217 ?_
      obtain ⟨x13, ex13, hf⟩ := b_some hf
      refine aw_sld hz dL_law_218 ex13 ?_
      refine aw_aload_n 0 dL_law_219 rfl rfl ?_
      refine aw_iload_n 3 dL_law_220 rfl rfl ?_
      refine aw_iconst (v := 3) dL_law_221 (by decide) ?_
      refine aw_iadd dL_law_222 ?_
      obtain ⟨x14, ex14, hf⟩ := b_some hf
      refine aw_sld hz dL_law_223 ex14 ?_
      refine aw_aload_n 0 dL_law_224 rfl rfl ?_
      refine aw_iload_n 3 dL_law_225 rfl rfl ?_
      refine aw_iconst (v := 4) dL_law_226 (by decide) ?_
      refine aw_iadd dL_law_227 ?_
      obtain ⟨x15, ex15, hf⟩ := b_some hf
      refine aw_sld hz dL_law_228 ex15 ?_
      refine aw_aload_n 0 dL_law_229 rfl rfl ?_
      refine aw_iload_n 3 dL_law_230 rfl rfl ?_
      refine aw_iconst (v := 5) dL_law_231 (by decide) ?_
      refine aw_iadd dL_law_232 ?_
      obtain ⟨x16, ex16, hf⟩ := b_some hf
      refine aw_sld hz dL_law_233 ex16 ?_
      refine aw_aload_n 0 dL_law_234 rfl rfl ?_
      refine aw_iload_n 3 dL_law_235 rfl rfl ?_
      refine aw_bipush (v := 6) dL_law_236 (by decide) ?_
      refine aw_iadd dL_law_238 ?_
      obtain ⟨x17, ex17, hf⟩ := b_some hf
      refine aw_sld hz dL_law_239 ex17 ?_
      obtain ⟨q18, eq18, hf⟩ := b_some hf
      refine aw_cV (as := [.int x12, .int x13, .int x14, .int x15, .int x16, .int x17]) dL_law_240 moX7_feed voX7_feed mlL_17 (k_X7_feed eq18) rfl (by decide) (LawX.kn hz) (Nat.le_of_ble_eq_true rfl) rfl (c_X7_feed eq18) ?_
      refine aw_pop dL_law_243 rfl ?_
      refine aw_goto (tgt := 1127) dL_law_244 (by decide) ?_
      obtain ⟨x19, ex19, hf⟩ := b_some hf
      refine aw_iinc (v := x19) (L' := [(3, .int x19), (0, .ref 1030), (1, .ref l1), (2, .ref l2)]) 3 dL_law_1127 rfl (Option.some.inj ex19) (by decide) rfl ?_
      refine aw_goto (tgt := 18) dL_law_1130 (by decide) ?_
      exact aw_sub [1, 2, 3, 0] rfl (hk18 _ _ hf)
    have hf := i_neg c4 hf
    by_cases c20 : x3 = 1
    · have hf := i_pos c20 hf
      refine aw_tabIn (tgt := 247) dL_law_33 (by rw [c20]; decide) (by rw [c20]; decide) (by rw [c20]; rfl) (by decide) ?_
      refine aw_aload_n 1 dL_law_247 rfl rfl ?_
      obtain ⟨q21, eq21, hf⟩ := b_some hf
      refine aw_cV (as := []) dL_law_248 moX6_text voX6_text mlL_18 (k_X6_text eq21) rfl (by decide) (LawX.kn hz) (Nat.le_of_ble_eq_true rfl) rfl (c_X6_text eq21) ?_
      refine aw_pop dL_law_251 rfl ?_
      refine aw_aload_n 2 dL_law_252 rfl rfl ?_
      obtain ⟨q22, eq22, hf⟩ := b_some hf
      refine aw_cV (as := []) dL_law_253 moX7_text voX7_text mlL_22 (k_X7_text eq22) rfl (by decide) (LawX.kn hz) (Nat.le_of_ble_eq_true rfl) rfl (c_X7_text eq22) ?_
      refine aw_pop dL_law_256 rfl ?_
      refine aw_goto (tgt := 1127) dL_law_257 (by decide) ?_
      obtain ⟨x23, ex23, hf⟩ := b_some hf
      refine aw_iinc (v := x23) (L' := [(3, .int x23), (0, .ref 1030), (1, .ref l1), (2, .ref l2)]) 3 dL_law_1127 rfl (Option.some.inj ex23) (by decide) rfl ?_
      refine aw_goto (tgt := 18) dL_law_1130 (by decide) ?_
      exact aw_sub [1, 2, 3, 0] rfl (hk18 _ _ hf)
    have hf := i_neg c20 hf
    by_cases c24 : x3 = 2
    · have hf := i_pos c24 hf
      refine aw_tabIn (tgt := 260) dL_law_33 (by rw [c24]; decide) (by rw [c24]; decide) (by rw [c24]; rfl) (by decide) ?_
      refine aw_aload_n 1 dL_law_260 rfl rfl ?_
      obtain ⟨q25, eq25, hf⟩ := b_some hf
      refine aw_cV (as := []) dL_law_261 moX6_named voX6_named mlL_23 (k_X6_named eq25) rfl (by decide) (LawX.kn hz) (Nat.le_of_ble_eq_true rfl) rfl (c_X6_named eq25) ?_
      refine aw_pop dL_law_264 rfl ?_
      refine aw_aload_n 2 dL_law_265 rfl rfl ?_
      obtain ⟨q26, eq26, hf⟩ := b_some hf
      refine aw_cV (as := []) dL_law_266 moX7_named voX7_named mlL_26 (k_X7_named eq26) rfl (by decide) (LawX.kn hz) (Nat.le_of_ble_eq_true rfl) rfl (c_X7_named eq26) ?_
      refine aw_pop dL_law_269 rfl ?_
      refine aw_goto (tgt := 1127) dL_law_270 (by decide) ?_
      obtain ⟨x27, ex27, hf⟩ := b_some hf
      refine aw_iinc (v := x27) (L' := [(3, .int x27), (0, .ref 1030), (1, .ref l1), (2, .ref l2)]) 3 dL_law_1127 rfl (Option.some.inj ex27) (by decide) rfl ?_
      refine aw_goto (tgt := 18) dL_law_1130 (by decide) ?_
      exact aw_sub [1, 2, 3, 0] rfl (hk18 _ _ hf)
    have hf := i_neg c24 hf
    by_cases c28 : x3 = 3
    · have hf := i_pos c28 hf
      refine aw_tabIn (tgt := 273) dL_law_33 (by rw [c28]; decide) (by rw [c28]; decide) (by rw [c28]; rfl) (by decide) ?_
      refine aw_aload_n 1 dL_law_273 rfl rfl ?_
      refine aw_aload_n 0 dL_law_274 rfl rfl ?_
      refine aw_iload_n 3 dL_law_275 rfl rfl ?_
      refine aw_iconst (v := 1) dL_law_276 (by decide) ?_
      refine aw_iadd dL_law_277 ?_
      obtain ⟨x29, ex29, hf⟩ := b_some hf
      refine aw_sld hz dL_law_278 ex29 ?_
      obtain ⟨q30, eq30, hf⟩ := b_some hf
      refine aw_cV (as := [.int x29]) dL_law_279 moX6_system voX6_system mlL_27 (k_X6_system eq30) rfl (by decide) (LawX.kn hz) (Nat.le_of_ble_eq_true rfl) rfl (c_X6_system eq30) ?_
      refine aw_pop dL_law_282 rfl ?_
      refine aw_aload_n 2 dL_law_283 rfl rfl ?_
      refine aw_aload_n 0 dL_law_284 rfl rfl ?_
      refine aw_iload_n 3 dL_law_285 rfl rfl ?_
      refine aw_iconst (v := 1) dL_law_286 (by decide) ?_
      refine aw_iadd dL_law_287 ?_
      obtain ⟨x31, ex31, hf⟩ := b_some hf
      refine aw_sld hz dL_law_288 ex31 ?_
      obtain ⟨q32, eq32, hf⟩ := b_some hf
      refine aw_cV (as := [.int x31]) dL_law_289 moX7_system voX7_system mlL_31 (k_X7_system eq32) rfl (by decide) (LawX.kn hz) (Nat.le_of_ble_eq_true rfl) rfl (c_X7_system eq32) ?_
      refine aw_pop dL_law_292 rfl ?_
      refine aw_goto (tgt := 1127) dL_law_293 (by decide) ?_
      obtain ⟨x33, ex33, hf⟩ := b_some hf
      refine aw_iinc (v := x33) (L' := [(3, .int x33), (0, .ref 1030), (1, .ref l1), (2, .ref l2)]) 3 dL_law_1127 rfl (Option.some.inj ex33) (by decide) rfl ?_
      refine aw_goto (tgt := 18) dL_law_1130 (by decide) ?_
      exact aw_sub [1, 2, 3, 0] rfl (hk18 _ _ hf)
    have hf := i_neg c28 hf
    by_cases c34 : x3 = 4
    · have hf := i_pos c34 hf
      refine aw_tabIn (tgt := 296) dL_law_33 (by rw [c34]; decide) (by rw [c34]; decide) (by rw [c34]; rfl) (by decide) ?_
      refine aw_aload_n 1 dL_law_296 rfl rfl ?_
      refine aw_aload_n 0 dL_law_297 rfl rfl ?_
      refine aw_iload_n 3 dL_law_298 rfl rfl ?_
      refine aw_iconst (v := 1) dL_law_299 (by decide) ?_
      refine aw_iadd dL_law_300 ?_
      obtain ⟨x35, ex35, hf⟩ := b_some hf
      refine aw_sld hz dL_law_301 ex35 ?_
      refine aw_aload_n 0 dL_law_302 rfl rfl ?_
      refine aw_iload_n 3 dL_law_303 rfl rfl ?_
      refine aw_iconst (v := 2) dL_law_304 (by decide) ?_
      refine aw_iadd dL_law_305 ?_
      obtain ⟨x36, ex36, hf⟩ := b_some hf
      refine aw_sld hz dL_law_306 ex36 ?_
      obtain ⟨q37, eq37, hf⟩ := b_some hf
      refine aw_cV (as := [.int x35, .int x36]) dL_law_307 moX6_play voX6_play mlL_32 (k_X6_play eq37) rfl (by decide) (LawX.kn hz) (Nat.le_of_ble_eq_true rfl) rfl (c_X6_play eq37) ?_
      refine aw_pop dL_law_310 rfl ?_
      refine aw_aload_n 2 dL_law_311 rfl rfl ?_
      refine aw_aload_n 0 dL_law_312 rfl rfl ?_
      refine aw_iload_n 3 dL_law_313 rfl rfl ?_
      refine aw_iconst (v := 1) dL_law_314 (by decide) ?_
      refine aw_iadd dL_law_315 ?_
      obtain ⟨x38, ex38, hf⟩ := b_some hf
      refine aw_sld hz dL_law_316 ex38 ?_
      refine aw_aload_n 0 dL_law_317 rfl rfl ?_
      refine aw_iload_n 3 dL_law_318 rfl rfl ?_
      refine aw_iconst (v := 2) dL_law_319 (by decide) ?_
      refine aw_iadd dL_law_320 ?_
      obtain ⟨x39, ex39, hf⟩ := b_some hf
      refine aw_sld hz dL_law_321 ex39 ?_
      obtain ⟨q40, eq40, hf⟩ := b_some hf
      refine aw_cV (as := [.int x38, .int x39]) dL_law_322 moX7_play voX7_play mlL_36 (k_X7_play eq40) rfl (by decide) (LawX.kn hz) (Nat.le_of_ble_eq_true rfl) rfl (c_X7_play eq40) ?_
      refine aw_pop dL_law_325 rfl ?_
      refine aw_goto (tgt := 1127) dL_law_326 (by decide) ?_
      obtain ⟨x41, ex41, hf⟩ := b_some hf
      refine aw_iinc (v := x41) (L' := [(3, .int x41), (0, .ref 1030), (1, .ref l1), (2, .ref l2)]) 3 dL_law_1127 rfl (Option.some.inj ex41) (by decide) rfl ?_
      refine aw_goto (tgt := 18) dL_law_1130 (by decide) ?_
      exact aw_sub [1, 2, 3, 0] rfl (hk18 _ _ hf)
    have hf := i_neg c34 hf
    by_cases c42 : x3 = 5
    · have hf := i_pos c42 hf
      refine aw_tabIn (tgt := 329) dL_law_33 (by rw [c42]; decide) (by rw [c42]; decide) (by rw [c42]; rfl) (by decide) ?_
      refine aw_aload_n 1 dL_law_329 rfl rfl ?_
      refine aw_aload_n 0 dL_law_330 rfl rfl ?_
      refine aw_iload_n 3 dL_law_331 rfl rfl ?_
      refine aw_iconst (v := 1) dL_law_332 (by decide) ?_
      refine aw_iadd dL_law_333 ?_
      obtain ⟨x43, ex43, hf⟩ := b_some hf
      refine aw_sld hz dL_law_334 ex43 ?_
      obtain ⟨q44, eq44, hf⟩ := b_some hf
      refine aw_cV (as := [.int x43]) dL_law_335 moX6_unplay voX6_unplay mlL_37 (k_X6_unplay eq44) rfl (by decide) (LawX.kn hz) (Nat.le_of_ble_eq_true rfl) rfl (c_X6_unplay eq44) ?_
      refine aw_pop dL_law_338 rfl ?_
      refine aw_aload_n 2 dL_law_339 rfl rfl ?_
      refine aw_aload_n 0 dL_law_340 rfl rfl ?_
      refine aw_iload_n 3 dL_law_341 rfl rfl ?_
      refine aw_iconst (v := 1) dL_law_342 (by decide) ?_
      refine aw_iadd dL_law_343 ?_
      obtain ⟨x45, ex45, hf⟩ := b_some hf
      refine aw_sld hz dL_law_344 ex45 ?_
      obtain ⟨q46, eq46, hf⟩ := b_some hf
      refine aw_cV (as := [.int x45]) dL_law_345 moX7_unplay voX7_unplay mlL_40 (k_X7_unplay eq46) rfl (by decide) (LawX.kn hz) (Nat.le_of_ble_eq_true rfl) rfl (c_X7_unplay eq46) ?_
      refine aw_pop dL_law_348 rfl ?_
      refine aw_goto (tgt := 1127) dL_law_349 (by decide) ?_
      obtain ⟨x47, ex47, hf⟩ := b_some hf
      refine aw_iinc (v := x47) (L' := [(3, .int x47), (0, .ref 1030), (1, .ref l1), (2, .ref l2)]) 3 dL_law_1127 rfl (Option.some.inj ex47) (by decide) rfl ?_
      refine aw_goto (tgt := 18) dL_law_1130 (by decide) ?_
      exact aw_sub [1, 2, 3, 0] rfl (hk18 _ _ hf)
    have hf := i_neg c42 hf
    by_cases c48 : x3 = 6
    · have hf := i_pos c48 hf
      refine aw_tabIn (tgt := 352) dL_law_33 (by rw [c48]; decide) (by rw [c48]; decide) (by rw [c48]; rfl) (by decide) ?_
      refine aw_aload_n 1 dL_law_352 rfl rfl ?_
      refine aw_aload_n 0 dL_law_353 rfl rfl ?_
      refine aw_iload_n 3 dL_law_354 rfl rfl ?_
      refine aw_iconst (v := 1) dL_law_355 (by decide) ?_
      refine aw_iadd dL_law_356 ?_
      obtain ⟨x49, ex49, hf⟩ := b_some hf
      refine aw_sld hz dL_law_357 ex49 ?_
      refine aw_aload_n 0 dL_law_358 rfl rfl ?_
      refine aw_iload_n 3 dL_law_359 rfl rfl ?_
      refine aw_iconst (v := 2) dL_law_360 (by decide) ?_
      refine aw_iadd dL_law_361 ?_
      obtain ⟨x50, ex50, hf⟩ := b_some hf
      refine aw_sld hz dL_law_362 ex50 ?_
      obtain ⟨q51, eq51, hf⟩ := b_some hf
      refine aw_cV (as := [.int x49, .int x50]) dL_law_363 moX6_told voX6_told mlL_41 (k_X6_told eq51) rfl (by decide) (LawX.kn hz) (Nat.le_of_ble_eq_true rfl) rfl (c_X6_told eq51) ?_
      refine aw_pop dL_law_366 rfl ?_
      refine aw_aload_n 2 dL_law_367 rfl rfl ?_
      refine aw_aload_n 0 dL_law_368 rfl rfl ?_
      refine aw_iload_n 3 dL_law_369 rfl rfl ?_
      refine aw_iconst (v := 1) dL_law_370 (by decide) ?_
      refine aw_iadd dL_law_371 ?_
      obtain ⟨x52, ex52, hf⟩ := b_some hf
      refine aw_sld hz dL_law_372 ex52 ?_
      refine aw_aload_n 0 dL_law_373 rfl rfl ?_
      refine aw_iload_n 3 dL_law_374 rfl rfl ?_
      refine aw_iconst (v := 2) dL_law_375 (by decide) ?_
      refine aw_iadd dL_law_376 ?_
      obtain ⟨x53, ex53, hf⟩ := b_some hf
      refine aw_sld hz dL_law_377 ex53 ?_
      obtain ⟨q54, eq54, hf⟩ := b_some hf
      refine aw_cV (as := [.int x52, .int x53]) dL_law_378 moX7_told voX7_told mlL_44 (k_X7_told eq54) rfl (by decide) (LawX.kn hz) (Nat.le_of_ble_eq_true rfl) rfl (c_X7_told eq54) ?_
      refine aw_pop dL_law_381 rfl ?_
      refine aw_goto (tgt := 1127) dL_law_382 (by decide) ?_
      obtain ⟨x55, ex55, hf⟩ := b_some hf
      refine aw_iinc (v := x55) (L' := [(3, .int x55), (0, .ref 1030), (1, .ref l1), (2, .ref l2)]) 3 dL_law_1127 rfl (Option.some.inj ex55) (by decide) rfl ?_
      refine aw_goto (tgt := 18) dL_law_1130 (by decide) ?_
      exact aw_sub [1, 2, 3, 0] rfl (hk18 _ _ hf)
    have hf := i_neg c48 hf
    by_cases c56 : x3 = 7
    · have hf := i_pos c56 hf
      refine aw_tabIn (tgt := 385) dL_law_33 (by rw [c56]; decide) (by rw [c56]; decide) (by rw [c56]; rfl) (by decide) ?_
      refine aw_aload_n 1 dL_law_385 rfl rfl ?_
      refine aw_aload_n 0 dL_law_386 rfl rfl ?_
      refine aw_iload_n 3 dL_law_387 rfl rfl ?_
      refine aw_iconst (v := 1) dL_law_388 (by decide) ?_
      refine aw_iadd dL_law_389 ?_
      obtain ⟨x57, ex57, hf⟩ := b_some hf
      refine aw_sld hz dL_law_390 ex57 ?_
      refine aw_aload_n 0 dL_law_391 rfl rfl ?_
      refine aw_iload_n 3 dL_law_392 rfl rfl ?_
      refine aw_iconst (v := 2) dL_law_393 (by decide) ?_
      refine aw_iadd dL_law_394 ?_
      obtain ⟨x58, ex58, hf⟩ := b_some hf
      refine aw_sld hz dL_law_395 ex58 ?_
      obtain ⟨q59, eq59, hf⟩ := b_some hf
      refine aw_cV (as := [.int x57, .int x58]) dL_law_396 moX6_game voX6_game mlL_45 (k_X6_game eq59) rfl (by decide) (LawX.kn hz) (Nat.le_of_ble_eq_true rfl) rfl (c_X6_game eq59) ?_
      refine aw_pop dL_law_399 rfl ?_
      refine aw_aload_n 2 dL_law_400 rfl rfl ?_
      refine aw_aload_n 0 dL_law_401 rfl rfl ?_
      refine aw_iload_n 3 dL_law_402 rfl rfl ?_
      refine aw_iconst (v := 1) dL_law_403 (by decide) ?_
      refine aw_iadd dL_law_404 ?_
      obtain ⟨x60, ex60, hf⟩ := b_some hf
      refine aw_sld hz dL_law_405 ex60 ?_
      refine aw_aload_n 0 dL_law_406 rfl rfl ?_
      refine aw_iload_n 3 dL_law_407 rfl rfl ?_
      refine aw_iconst (v := 2) dL_law_408 (by decide) ?_
      refine aw_iadd dL_law_409 ?_
      obtain ⟨x61, ex61, hf⟩ := b_some hf
      refine aw_sld hz dL_law_410 ex61 ?_
      obtain ⟨q62, eq62, hf⟩ := b_some hf
      refine aw_cV (as := [.int x60, .int x61]) dL_law_411 moX7_game voX7_game mlL_48 (k_X7_game eq62) rfl (by decide) (LawX.kn hz) (Nat.le_of_ble_eq_true rfl) rfl (c_X7_game eq62) ?_
      refine aw_pop dL_law_414 rfl ?_
      refine aw_goto (tgt := 1127) dL_law_415 (by decide) ?_
      obtain ⟨x63, ex63, hf⟩ := b_some hf
      refine aw_iinc (v := x63) (L' := [(3, .int x63), (0, .ref 1030), (1, .ref l1), (2, .ref l2)]) 3 dL_law_1127 rfl (Option.some.inj ex63) (by decide) rfl ?_
      refine aw_goto (tgt := 18) dL_law_1130 (by decide) ?_
      exact aw_sub [1, 2, 3, 0] rfl (hk18 _ _ hf)
    have hf := i_neg c56 hf
    by_cases c64 : x3 = 8
    · have hf := i_pos c64 hf
      refine aw_tabIn (tgt := 418) dL_law_33 (by rw [c64]; decide) (by rw [c64]; decide) (by rw [c64]; rfl) (by decide) ?_
      refine aw_aload_n 1 dL_law_418 rfl rfl ?_
      refine aw_aload_n 0 dL_law_419 rfl rfl ?_
      refine aw_iload_n 3 dL_law_420 rfl rfl ?_
      refine aw_iconst (v := 1) dL_law_421 (by decide) ?_
      refine aw_iadd dL_law_422 ?_
      obtain ⟨x65, ex65, hf⟩ := b_some hf
      refine aw_sld hz dL_law_423 ex65 ?_
      refine aw_aload_n 0 dL_law_424 rfl rfl ?_
      refine aw_iload_n 3 dL_law_425 rfl rfl ?_
      refine aw_iconst (v := 2) dL_law_426 (by decide) ?_
      refine aw_iadd dL_law_427 ?_
      obtain ⟨x66, ex66, hf⟩ := b_some hf
      refine aw_sld hz dL_law_428 ex66 ?_
      obtain ⟨q67, eq67, hf⟩ := b_some hf
      refine aw_cV (as := [.int x65, .int x66]) dL_law_429 moX6_between voX6_between mlL_49 (k_X6_between eq67) rfl (by decide) (LawX.kn hz) (Nat.le_of_ble_eq_true rfl) rfl (c_X6_between eq67) ?_
      refine aw_pop dL_law_432 rfl ?_
      refine aw_aload_n 2 dL_law_433 rfl rfl ?_
      refine aw_aload_n 0 dL_law_434 rfl rfl ?_
      refine aw_iload_n 3 dL_law_435 rfl rfl ?_
      refine aw_iconst (v := 1) dL_law_436 (by decide) ?_
      refine aw_iadd dL_law_437 ?_
      obtain ⟨x68, ex68, hf⟩ := b_some hf
      refine aw_sld hz dL_law_438 ex68 ?_
      refine aw_aload_n 0 dL_law_439 rfl rfl ?_
      refine aw_iload_n 3 dL_law_440 rfl rfl ?_
      refine aw_iconst (v := 2) dL_law_441 (by decide) ?_
      refine aw_iadd dL_law_442 ?_
      obtain ⟨x69, ex69, hf⟩ := b_some hf
      refine aw_sld hz dL_law_443 ex69 ?_
      obtain ⟨q70, eq70, hf⟩ := b_some hf
      refine aw_cV (as := [.int x68, .int x69]) dL_law_444 moX7_between voX7_between mlL_52 (k_X7_between eq70) rfl (by decide) (LawX.kn hz) (Nat.le_of_ble_eq_true rfl) rfl (c_X7_between eq70) ?_
      refine aw_pop dL_law_447 rfl ?_
      refine aw_goto (tgt := 1127) dL_law_448 (by decide) ?_
      obtain ⟨x71, ex71, hf⟩ := b_some hf
      refine aw_iinc (v := x71) (L' := [(3, .int x71), (0, .ref 1030), (1, .ref l1), (2, .ref l2)]) 3 dL_law_1127 rfl (Option.some.inj ex71) (by decide) rfl ?_
      refine aw_goto (tgt := 18) dL_law_1130 (by decide) ?_
      exact aw_sub [1, 2, 3, 0] rfl (hk18 _ _ hf)
    have hf := i_neg c64 hf
    by_cases c72 : x3 = 9
    · have hf := i_pos c72 hf
      refine aw_tabIn (tgt := 451) dL_law_33 (by rw [c72]; decide) (by rw [c72]; decide) (by rw [c72]; rfl) (by decide) ?_
      refine aw_aload_n 1 dL_law_451 rfl rfl ?_
      refine aw_aload_n 0 dL_law_452 rfl rfl ?_
      refine aw_iload_n 3 dL_law_453 rfl rfl ?_
      refine aw_iconst (v := 1) dL_law_454 (by decide) ?_
      refine aw_iadd dL_law_455 ?_
      obtain ⟨x73, ex73, hf⟩ := b_some hf
      refine aw_sld hz dL_law_456 ex73 ?_
      obtain ⟨q74, eq74, hf⟩ := b_some hf
      refine aw_cV (as := [.int x73]) dL_law_457 moX6_taken voX6_taken mlL_53 (k_X6_taken eq74) rfl (by decide) (LawX.kn hz) (Nat.le_of_ble_eq_true rfl) rfl (c_X6_taken eq74) ?_
      refine aw_pop dL_law_460 rfl ?_
      refine aw_aload_n 2 dL_law_461 rfl rfl ?_
      refine aw_aload_n 0 dL_law_462 rfl rfl ?_
      refine aw_iload_n 3 dL_law_463 rfl rfl ?_
      refine aw_iconst (v := 1) dL_law_464 (by decide) ?_
      refine aw_iadd dL_law_465 ?_
      obtain ⟨x75, ex75, hf⟩ := b_some hf
      refine aw_sld hz dL_law_466 ex75 ?_
      obtain ⟨q76, eq76, hf⟩ := b_some hf
      refine aw_cV (as := [.int x75]) dL_law_467 moX7_taken voX7_taken mlL_56 (k_X7_taken eq76) rfl (by decide) (LawX.kn hz) (Nat.le_of_ble_eq_true rfl) rfl (c_X7_taken eq76) ?_
      refine aw_pop dL_law_470 rfl ?_
      refine aw_goto (tgt := 1127) dL_law_471 (by decide) ?_
      obtain ⟨x77, ex77, hf⟩ := b_some hf
      refine aw_iinc (v := x77) (L' := [(3, .int x77), (0, .ref 1030), (1, .ref l1), (2, .ref l2)]) 3 dL_law_1127 rfl (Option.some.inj ex77) (by decide) rfl ?_
      refine aw_goto (tgt := 18) dL_law_1130 (by decide) ?_
      exact aw_sub [1, 2, 3, 0] rfl (hk18 _ _ hf)
    have hf := i_neg c72 hf
    by_cases c78 : x3 = 10
    · have hf := i_pos c78 hf
      refine aw_tabIn (tgt := 474) dL_law_33 (by rw [c78]; decide) (by rw [c78]; decide) (by rw [c78]; rfl) (by decide) ?_
      refine aw_aload_n 1 dL_law_474 rfl rfl ?_
      refine aw_aload_n 0 dL_law_475 rfl rfl ?_
      refine aw_iload_n 3 dL_law_476 rfl rfl ?_
      refine aw_iconst (v := 1) dL_law_477 (by decide) ?_
      refine aw_iadd dL_law_478 ?_
      obtain ⟨x79, ex79, hf⟩ := b_some hf
      refine aw_sld hz dL_law_479 ex79 ?_
      obtain ⟨q80, eq80, hf⟩ := b_some hf
      refine aw_cV (as := [.int x79]) dL_law_480 moX6_isIn voX6_isIn mlL_57 (k_X6_isIn eq80) rfl (by decide) (LawX.kn hz) (Nat.le_of_ble_eq_true rfl) rfl (c_X6_isIn eq80) ?_
      refine aw_pop dL_law_483 rfl ?_
      refine aw_aload_n 2 dL_law_484 rfl rfl ?_
      refine aw_aload_n 0 dL_law_485 rfl rfl ?_
      refine aw_iload_n 3 dL_law_486 rfl rfl ?_
      refine aw_iconst (v := 1) dL_law_487 (by decide) ?_
      refine aw_iadd dL_law_488 ?_
      obtain ⟨x81, ex81, hf⟩ := b_some hf
      refine aw_sld hz dL_law_489 ex81 ?_
      obtain ⟨q82, eq82, hf⟩ := b_some hf
      refine aw_cV (as := [.int x81]) dL_law_490 moX7_isIn voX7_isIn mlL_60 (k_X7_isIn eq82) rfl (by decide) (LawX.kn hz) (Nat.le_of_ble_eq_true rfl) rfl (c_X7_isIn eq82) ?_
      refine aw_pop dL_law_493 rfl ?_
      refine aw_goto (tgt := 1127) dL_law_494 (by decide) ?_
      obtain ⟨x83, ex83, hf⟩ := b_some hf
      refine aw_iinc (v := x83) (L' := [(3, .int x83), (0, .ref 1030), (1, .ref l1), (2, .ref l2)]) 3 dL_law_1127 rfl (Option.some.inj ex83) (by decide) rfl ?_
      refine aw_goto (tgt := 18) dL_law_1130 (by decide) ?_
      exact aw_sub [1, 2, 3, 0] rfl (hk18 _ _ hf)
    have hf := i_neg c78 hf
    by_cases c84 : x3 = 11
    · have hf := i_pos c84 hf
      refine aw_tabIn (tgt := 497) dL_law_33 (by rw [c84]; decide) (by rw [c84]; decide) (by rw [c84]; rfl) (by decide) ?_
      refine aw_aload_n 1 dL_law_497 rfl rfl ?_
      obtain ⟨q85, eq85, hf⟩ := b_some hf
      refine aw_cV (as := []) dL_law_498 moX6_all voX6_all mlL_61 (k_X6_all eq85) rfl (by decide) (LawX.kn hz) (Nat.le_of_ble_eq_true rfl) rfl (c_X6_all eq85) ?_
      refine aw_pop dL_law_501 rfl ?_
      refine aw_aload_n 2 dL_law_502 rfl rfl ?_
      obtain ⟨q86, eq86, hf⟩ := b_some hf
      refine aw_cV (as := []) dL_law_503 moX7_all voX7_all mlL_64 (k_X7_all eq86) rfl (by decide) (LawX.kn hz) (Nat.le_of_ble_eq_true rfl) rfl (c_X7_all eq86) ?_
      refine aw_pop dL_law_506 rfl ?_
      refine aw_goto (tgt := 1127) dL_law_507 (by decide) ?_
      obtain ⟨x87, ex87, hf⟩ := b_some hf
      refine aw_iinc (v := x87) (L' := [(3, .int x87), (0, .ref 1030), (1, .ref l1), (2, .ref l2)]) 3 dL_law_1127 rfl (Option.some.inj ex87) (by decide) rfl ?_
      refine aw_goto (tgt := 18) dL_law_1130 (by decide) ?_
      exact aw_sub [1, 2, 3, 0] rfl (hk18 _ _ hf)
    have hf := i_neg c84 hf
    by_cases c88 : x3 = 12
    · have hf := i_pos c88 hf
      refine aw_tabIn (tgt := 510) dL_law_33 (by rw [c88]; decide) (by rw [c88]; decide) (by rw [c88]; rfl) (by decide) ?_
      refine aw_aload_n 1 dL_law_510 rfl rfl ?_
      refine aw_aload_n 0 dL_law_511 rfl rfl ?_
      refine aw_iload_n 3 dL_law_512 rfl rfl ?_
      refine aw_iconst (v := 1) dL_law_513 (by decide) ?_
      refine aw_iadd dL_law_514 ?_
      obtain ⟨x89, ex89, hf⟩ := b_some hf
      refine aw_sld hz dL_law_515 ex89 ?_
      refine aw_aload_n 0 dL_law_516 rfl rfl ?_
      refine aw_iload_n 3 dL_law_517 rfl rfl ?_
      refine aw_iconst (v := 2) dL_law_518 (by decide) ?_
      refine aw_iadd dL_law_519 ?_
      obtain ⟨x90, ex90, hf⟩ := b_some hf
      refine aw_sld hz dL_law_520 ex90 ?_
      obtain ⟨q91, eq91, hf⟩ := b_some hf
      refine aw_cV (as := [.int x89, .int x90]) dL_law_521 moX6_set voX6_set mlL_65 (k_X6_set eq91) rfl (by decide) (LawX.kn hz) (Nat.le_of_ble_eq_true rfl) rfl (c_X6_set eq91) ?_
      refine aw_pop dL_law_524 rfl ?_
      refine aw_aload_n 2 dL_law_525 rfl rfl ?_
      refine aw_aload_n 0 dL_law_526 rfl rfl ?_
      refine aw_iload_n 3 dL_law_527 rfl rfl ?_
      refine aw_iconst (v := 1) dL_law_528 (by decide) ?_
      refine aw_iadd dL_law_529 ?_
      obtain ⟨x92, ex92, hf⟩ := b_some hf
      refine aw_sld hz dL_law_530 ex92 ?_
      refine aw_aload_n 0 dL_law_531 rfl rfl ?_
      refine aw_iload_n 3 dL_law_532 rfl rfl ?_
      refine aw_iconst (v := 2) dL_law_533 (by decide) ?_
      refine aw_iadd dL_law_534 ?_
      obtain ⟨x93, ex93, hf⟩ := b_some hf
      refine aw_sld hz dL_law_535 ex93 ?_
      obtain ⟨q94, eq94, hf⟩ := b_some hf
      refine aw_cV (as := [.int x92, .int x93]) dL_law_536 moX7_set voX7_set mlL_68 (k_X7_set eq94) rfl (by decide) (LawX.kn hz) (Nat.le_of_ble_eq_true rfl) rfl (c_X7_set eq94) ?_
      refine aw_pop dL_law_539 rfl ?_
      refine aw_goto (tgt := 1127) dL_law_540 (by decide) ?_
      obtain ⟨x95, ex95, hf⟩ := b_some hf
      refine aw_iinc (v := x95) (L' := [(3, .int x95), (0, .ref 1030), (1, .ref l1), (2, .ref l2)]) 3 dL_law_1127 rfl (Option.some.inj ex95) (by decide) rfl ?_
      refine aw_goto (tgt := 18) dL_law_1130 (by decide) ?_
      exact aw_sub [1, 2, 3, 0] rfl (hk18 _ _ hf)
    have hf := i_neg c88 hf
    by_cases c96 : x3 = 13
    · have hf := i_pos c96 hf
      refine aw_tabIn (tgt := 543) dL_law_33 (by rw [c96]; decide) (by rw [c96]; decide) (by rw [c96]; rfl) (by decide) ?_
      refine aw_aload_n 1 dL_law_543 rfl rfl ?_
      refine aw_aload_n 0 dL_law_544 rfl rfl ?_
      refine aw_iload_n 3 dL_law_545 rfl rfl ?_
      refine aw_iconst (v := 1) dL_law_546 (by decide) ?_
      refine aw_iadd dL_law_547 ?_
      obtain ⟨x97, ex97, hf⟩ := b_some hf
      refine aw_sld hz dL_law_548 ex97 ?_
      refine aw_aload_n 0 dL_law_549 rfl rfl ?_
      refine aw_iload_n 3 dL_law_550 rfl rfl ?_
      refine aw_iconst (v := 2) dL_law_551 (by decide) ?_
      refine aw_iadd dL_law_552 ?_
      obtain ⟨x98, ex98, hf⟩ := b_some hf
      refine aw_sld hz dL_law_553 ex98 ?_
      obtain ⟨q99, eq99, hf⟩ := b_some hf
      refine aw_cV (as := [.int x97, .int x98]) dL_law_554 moX6_run voX6_run mlL_69 (k_X6_run eq99) rfl (by decide) (LawX.kn hz) (Nat.le_of_ble_eq_true rfl) rfl (c_X6_run eq99) ?_
      refine aw_pop dL_law_557 rfl ?_
      refine aw_aload_n 2 dL_law_558 rfl rfl ?_
      refine aw_aload_n 0 dL_law_559 rfl rfl ?_
      refine aw_iload_n 3 dL_law_560 rfl rfl ?_
      refine aw_iconst (v := 1) dL_law_561 (by decide) ?_
      refine aw_iadd dL_law_562 ?_
      obtain ⟨x100, ex100, hf⟩ := b_some hf
      refine aw_sld hz dL_law_563 ex100 ?_
      refine aw_aload_n 0 dL_law_564 rfl rfl ?_
      refine aw_iload_n 3 dL_law_565 rfl rfl ?_
      refine aw_iconst (v := 2) dL_law_566 (by decide) ?_
      refine aw_iadd dL_law_567 ?_
      obtain ⟨x101, ex101, hf⟩ := b_some hf
      refine aw_sld hz dL_law_568 ex101 ?_
      obtain ⟨q102, eq102, hf⟩ := b_some hf
      refine aw_cV (as := [.int x100, .int x101]) dL_law_569 moX7_run voX7_run mlL_72 (k_X7_run eq102) rfl (by decide) (LawX.kn hz) (Nat.le_of_ble_eq_true rfl) rfl (c_X7_run eq102) ?_
      refine aw_pop dL_law_572 rfl ?_
      refine aw_goto (tgt := 1127) dL_law_573 (by decide) ?_
      obtain ⟨x103, ex103, hf⟩ := b_some hf
      refine aw_iinc (v := x103) (L' := [(3, .int x103), (0, .ref 1030), (1, .ref l1), (2, .ref l2)]) 3 dL_law_1127 rfl (Option.some.inj ex103) (by decide) rfl ?_
      refine aw_goto (tgt := 18) dL_law_1130 (by decide) ?_
      exact aw_sub [1, 2, 3, 0] rfl (hk18 _ _ hf)
    have hf := i_neg c96 hf
    by_cases c104 : x3 = 14
    · have hf := i_pos c104 hf
      refine aw_tabIn (tgt := 576) dL_law_33 (by rw [c104]; decide) (by rw [c104]; decide) (by rw [c104]; rfl) (by decide) ?_
      refine aw_aload_n 1 dL_law_576 rfl rfl ?_
      refine aw_aload_n 0 dL_law_577 rfl rfl ?_
      refine aw_iload_n 3 dL_law_578 rfl rfl ?_
      refine aw_iconst (v := 1) dL_law_579 (by decide) ?_
      refine aw_iadd dL_law_580 ?_
      obtain ⟨x105, ex105, hf⟩ := b_some hf
      refine aw_sld hz dL_law_581 ex105 ?_
      obtain ⟨q106, eq106, hf⟩ := b_some hf
      refine aw_cV (as := [.int x105]) dL_law_582 moX6_pattern voX6_pattern mlL_73 (k_X6_pattern eq106) rfl (by decide) (LawX.kn hz) (Nat.le_of_ble_eq_true rfl) rfl (c_X6_pattern eq106) ?_
      refine aw_pop dL_law_585 rfl ?_
      refine aw_aload_n 2 dL_law_586 rfl rfl ?_
      refine aw_aload_n 0 dL_law_587 rfl rfl ?_
      refine aw_iload_n 3 dL_law_588 rfl rfl ?_
      refine aw_iconst (v := 1) dL_law_589 (by decide) ?_
      refine aw_iadd dL_law_590 ?_
      obtain ⟨x107, ex107, hf⟩ := b_some hf
      refine aw_sld hz dL_law_591 ex107 ?_
      obtain ⟨q108, eq108, hf⟩ := b_some hf
      refine aw_cV (as := [.int x107]) dL_law_592 moX7_pattern voX7_pattern mlL_76 (k_X7_pattern eq108) rfl (by decide) (LawX.kn hz) (Nat.le_of_ble_eq_true rfl) rfl (c_X7_pattern eq108) ?_
      refine aw_pop dL_law_595 rfl ?_
      refine aw_goto (tgt := 1127) dL_law_596 (by decide) ?_
      obtain ⟨x109, ex109, hf⟩ := b_some hf
      refine aw_iinc (v := x109) (L' := [(3, .int x109), (0, .ref 1030), (1, .ref l1), (2, .ref l2)]) 3 dL_law_1127 rfl (Option.some.inj ex109) (by decide) rfl ?_
      refine aw_goto (tgt := 18) dL_law_1130 (by decide) ?_
      exact aw_sub [1, 2, 3, 0] rfl (hk18 _ _ hf)
    have hf := i_neg c104 hf
    by_cases c110 : x3 = 15
    · have hf := i_pos c110 hf
      refine aw_tabIn (tgt := 599) dL_law_33 (by rw [c110]; decide) (by rw [c110]; decide) (by rw [c110]; rfl) (by decide) ?_
      refine aw_aload_n 1 dL_law_599 rfl rfl ?_
      refine aw_aload_n 0 dL_law_600 rfl rfl ?_
      refine aw_iload_n 3 dL_law_601 rfl rfl ?_
      refine aw_iconst (v := 1) dL_law_602 (by decide) ?_
      refine aw_iadd dL_law_603 ?_
      obtain ⟨x111, ex111, hf⟩ := b_some hf
      refine aw_sld hz dL_law_604 ex111 ?_
      refine aw_aload_n 0 dL_law_605 rfl rfl ?_
      refine aw_iload_n 3 dL_law_606 rfl rfl ?_
      refine aw_iconst (v := 2) dL_law_607 (by decide) ?_
      refine aw_iadd dL_law_608 ?_
      obtain ⟨x112, ex112, hf⟩ := b_some hf
      refine aw_sld hz dL_law_609 ex112 ?_
      obtain ⟨q113, eq113, hf⟩ := b_some hf
      refine aw_cV (as := [.int x111, .int x112]) dL_law_610 moX6_needs voX6_needs mlL_77 (k_X6_needs eq113) rfl (by decide) (LawX.kn hz) (Nat.le_of_ble_eq_true rfl) rfl (c_X6_needs eq113) ?_
      refine aw_pop dL_law_613 rfl ?_
      refine aw_aload_n 2 dL_law_614 rfl rfl ?_
      refine aw_aload_n 0 dL_law_615 rfl rfl ?_
      refine aw_iload_n 3 dL_law_616 rfl rfl ?_
      refine aw_iconst (v := 1) dL_law_617 (by decide) ?_
      refine aw_iadd dL_law_618 ?_
      obtain ⟨x114, ex114, hf⟩ := b_some hf
      refine aw_sld hz dL_law_619 ex114 ?_
      refine aw_aload_n 0 dL_law_620 rfl rfl ?_
      refine aw_iload_n 3 dL_law_621 rfl rfl ?_
      refine aw_iconst (v := 2) dL_law_622 (by decide) ?_
      refine aw_iadd dL_law_623 ?_
      obtain ⟨x115, ex115, hf⟩ := b_some hf
      refine aw_sld hz dL_law_624 ex115 ?_
      obtain ⟨q116, eq116, hf⟩ := b_some hf
      refine aw_cV (as := [.int x114, .int x115]) dL_law_625 moX7_needs voX7_needs mlL_80 (k_X7_needs eq116) rfl (by decide) (LawX.kn hz) (Nat.le_of_ble_eq_true rfl) rfl (c_X7_needs eq116) ?_
      refine aw_pop dL_law_628 rfl ?_
      refine aw_goto (tgt := 1127) dL_law_629 (by decide) ?_
      obtain ⟨x117, ex117, hf⟩ := b_some hf
      refine aw_iinc (v := x117) (L' := [(3, .int x117), (0, .ref 1030), (1, .ref l1), (2, .ref l2)]) 3 dL_law_1127 rfl (Option.some.inj ex117) (by decide) rfl ?_
      refine aw_goto (tgt := 18) dL_law_1130 (by decide) ?_
      exact aw_sub [1, 2, 3, 0] rfl (hk18 _ _ hf)
    have hf := i_neg c110 hf
    by_cases c118 : x3 = 16
    · have hf := i_pos c118 hf
      refine aw_tabIn (tgt := 632) dL_law_33 (by rw [c118]; decide) (by rw [c118]; decide) (by rw [c118]; rfl) (by decide) ?_
      refine aw_aload_n 1 dL_law_632 rfl rfl ?_
      refine aw_aload_n 0 dL_law_633 rfl rfl ?_
      refine aw_iload_n 3 dL_law_634 rfl rfl ?_
      refine aw_iconst (v := 1) dL_law_635 (by decide) ?_
      refine aw_iadd dL_law_636 ?_
      obtain ⟨x119, ex119, hf⟩ := b_some hf
      refine aw_sld hz dL_law_637 ex119 ?_
      refine aw_aload_n 0 dL_law_638 rfl rfl ?_
      refine aw_iload_n 3 dL_law_639 rfl rfl ?_
      refine aw_iconst (v := 2) dL_law_640 (by decide) ?_
      refine aw_iadd dL_law_641 ?_
      obtain ⟨x120, ex120, hf⟩ := b_some hf
      refine aw_sld hz dL_law_642 ex120 ?_
      obtain ⟨q121, eq121, hf⟩ := b_some hf
      refine aw_cV (as := [.int x119, .int x120]) dL_law_643 moX6_since voX6_since mlL_81 (k_X6_since eq121) rfl (by decide) (LawX.kn hz) (Nat.le_of_ble_eq_true rfl) rfl (c_X6_since eq121) ?_
      refine aw_pop dL_law_646 rfl ?_
      refine aw_aload_n 2 dL_law_647 rfl rfl ?_
      refine aw_aload_n 0 dL_law_648 rfl rfl ?_
      refine aw_iload_n 3 dL_law_649 rfl rfl ?_
      refine aw_iconst (v := 1) dL_law_650 (by decide) ?_
      refine aw_iadd dL_law_651 ?_
      obtain ⟨x122, ex122, hf⟩ := b_some hf
      refine aw_sld hz dL_law_652 ex122 ?_
      refine aw_aload_n 0 dL_law_653 rfl rfl ?_
      refine aw_iload_n 3 dL_law_654 rfl rfl ?_
      refine aw_iconst (v := 2) dL_law_655 (by decide) ?_
      refine aw_iadd dL_law_656 ?_
      obtain ⟨x123, ex123, hf⟩ := b_some hf
      refine aw_sld hz dL_law_657 ex123 ?_
      obtain ⟨q124, eq124, hf⟩ := b_some hf
      refine aw_cV (as := [.int x122, .int x123]) dL_law_658 moX7_since voX7_since mlL_84 (k_X7_since eq124) rfl (by decide) (LawX.kn hz) (Nat.le_of_ble_eq_true rfl) rfl (c_X7_since eq124) ?_
      refine aw_pop dL_law_661 rfl ?_
      refine aw_goto (tgt := 1127) dL_law_662 (by decide) ?_
      obtain ⟨x125, ex125, hf⟩ := b_some hf
      refine aw_iinc (v := x125) (L' := [(3, .int x125), (0, .ref 1030), (1, .ref l1), (2, .ref l2)]) 3 dL_law_1127 rfl (Option.some.inj ex125) (by decide) rfl ?_
      refine aw_goto (tgt := 18) dL_law_1130 (by decide) ?_
      exact aw_sub [1, 2, 3, 0] rfl (hk18 _ _ hf)
    have hf := i_neg c118 hf
    by_cases c126 : x3 = 17
    · have hf := i_pos c126 hf
      refine aw_tabIn (tgt := 665) dL_law_33 (by rw [c126]; decide) (by rw [c126]; decide) (by rw [c126]; rfl) (by decide) ?_
      refine aw_aload_n 1 dL_law_665 rfl rfl ?_
      refine aw_aload_n 0 dL_law_666 rfl rfl ?_
      refine aw_iload_n 3 dL_law_667 rfl rfl ?_
      refine aw_iconst (v := 1) dL_law_668 (by decide) ?_
      refine aw_iadd dL_law_669 ?_
      obtain ⟨x127, ex127, hf⟩ := b_some hf
      refine aw_sld hz dL_law_670 ex127 ?_
      refine aw_aload_n 0 dL_law_671 rfl rfl ?_
      refine aw_iload_n 3 dL_law_672 rfl rfl ?_
      refine aw_iconst (v := 2) dL_law_673 (by decide) ?_
      refine aw_iadd dL_law_674 ?_
      obtain ⟨x128, ex128, hf⟩ := b_some hf
      refine aw_sld hz dL_law_675 ex128 ?_
      obtain ⟨q129, eq129, hf⟩ := b_some hf
      refine aw_cV (as := [.int x127, .int x128]) dL_law_676 moX6_help voX6_help mlL_85 (k_X6_help eq129) rfl (by decide) (LawX.kn hz) (Nat.le_of_ble_eq_true rfl) rfl (c_X6_help eq129) ?_
      refine aw_pop dL_law_679 rfl ?_
      refine aw_aload_n 2 dL_law_680 rfl rfl ?_
      refine aw_aload_n 0 dL_law_681 rfl rfl ?_
      refine aw_iload_n 3 dL_law_682 rfl rfl ?_
      refine aw_iconst (v := 1) dL_law_683 (by decide) ?_
      refine aw_iadd dL_law_684 ?_
      obtain ⟨x130, ex130, hf⟩ := b_some hf
      refine aw_sld hz dL_law_685 ex130 ?_
      refine aw_aload_n 0 dL_law_686 rfl rfl ?_
      refine aw_iload_n 3 dL_law_687 rfl rfl ?_
      refine aw_iconst (v := 2) dL_law_688 (by decide) ?_
      refine aw_iadd dL_law_689 ?_
      obtain ⟨x131, ex131, hf⟩ := b_some hf
      refine aw_sld hz dL_law_690 ex131 ?_
      obtain ⟨q132, eq132, hf⟩ := b_some hf
      refine aw_cV (as := [.int x130, .int x131]) dL_law_691 moX7_help voX7_help mlL_88 (k_X7_help eq132) rfl (by decide) (LawX.kn hz) (Nat.le_of_ble_eq_true rfl) rfl (c_X7_help eq132) ?_
      refine aw_pop dL_law_694 rfl ?_
      refine aw_goto (tgt := 1127) dL_law_695 (by decide) ?_
      obtain ⟨x133, ex133, hf⟩ := b_some hf
      refine aw_iinc (v := x133) (L' := [(3, .int x133), (0, .ref 1030), (1, .ref l1), (2, .ref l2)]) 3 dL_law_1127 rfl (Option.some.inj ex133) (by decide) rfl ?_
      refine aw_goto (tgt := 18) dL_law_1130 (by decide) ?_
      exact aw_sub [1, 2, 3, 0] rfl (hk18 _ _ hf)
    have hf := i_neg c126 hf
    by_cases c134 : x3 = 18
    · have hf := i_pos c134 hf
      refine aw_tabIn (tgt := 698) dL_law_33 (by rw [c134]; decide) (by rw [c134]; decide) (by rw [c134]; rfl) (by decide) ?_
      refine aw_aload_n 1 dL_law_698 rfl rfl ?_
      refine aw_aload_n 0 dL_law_699 rfl rfl ?_
      refine aw_iload_n 3 dL_law_700 rfl rfl ?_
      refine aw_iconst (v := 1) dL_law_701 (by decide) ?_
      refine aw_iadd dL_law_702 ?_
      obtain ⟨x135, ex135, hf⟩ := b_some hf
      refine aw_sld hz dL_law_703 ex135 ?_
      obtain ⟨q136, eq136, hf⟩ := b_some hf
      refine aw_cV (as := [.int x135]) dL_law_704 moX6_without voX6_without mlL_89 (k_X6_without eq136) rfl (by decide) (LawX.kn hz) (Nat.le_of_ble_eq_true rfl) rfl (c_X6_without eq136) ?_
      refine aw_pop dL_law_707 rfl ?_
      refine aw_aload_n 2 dL_law_708 rfl rfl ?_
      refine aw_aload_n 0 dL_law_709 rfl rfl ?_
      refine aw_iload_n 3 dL_law_710 rfl rfl ?_
      refine aw_iconst (v := 1) dL_law_711 (by decide) ?_
      refine aw_iadd dL_law_712 ?_
      obtain ⟨x137, ex137, hf⟩ := b_some hf
      refine aw_sld hz dL_law_713 ex137 ?_
      obtain ⟨q138, eq138, hf⟩ := b_some hf
      refine aw_cV (as := [.int x137]) dL_law_714 moX7_without voX7_without mlL_92 (k_X7_without eq138) rfl (by decide) (LawX.kn hz) (Nat.le_of_ble_eq_true rfl) rfl (c_X7_without eq138) ?_
      refine aw_pop dL_law_717 rfl ?_
      refine aw_goto (tgt := 1127) dL_law_718 (by decide) ?_
      obtain ⟨x139, ex139, hf⟩ := b_some hf
      refine aw_iinc (v := x139) (L' := [(3, .int x139), (0, .ref 1030), (1, .ref l1), (2, .ref l2)]) 3 dL_law_1127 rfl (Option.some.inj ex139) (by decide) rfl ?_
      refine aw_goto (tgt := 18) dL_law_1130 (by decide) ?_
      exact aw_sub [1, 2, 3, 0] rfl (hk18 _ _ hf)
    have hf := i_neg c134 hf
    by_cases c140 : x3 = 19
    · have hf := i_pos c140 hf
      refine aw_tabIn (tgt := 721) dL_law_33 (by rw [c140]; decide) (by rw [c140]; decide) (by rw [c140]; rfl) (by decide) ?_
      refine aw_aload_n 1 dL_law_721 rfl rfl ?_
      obtain ⟨q141, eq141, hf⟩ := b_some hf
      refine aw_cV (as := []) dL_law_722 moX6_tables voX6_tables mlL_93 (k_X6_tables eq141) rfl (by decide) (LawX.kn hz) (Nat.le_of_ble_eq_true rfl) rfl (c_X6_tables eq141) ?_
      refine aw_pop dL_law_725 rfl ?_
      refine aw_aload_n 2 dL_law_726 rfl rfl ?_
      obtain ⟨q142, eq142, hf⟩ := b_some hf
      refine aw_cV (as := []) dL_law_727 moX7_tables voX7_tables mlL_96 (k_X7_tables eq142) rfl (by decide) (LawX.kn hz) (Nat.le_of_ble_eq_true rfl) rfl (c_X7_tables eq142) ?_
      refine aw_pop dL_law_730 rfl ?_
      refine aw_goto (tgt := 1127) dL_law_731 (by decide) ?_
      obtain ⟨x143, ex143, hf⟩ := b_some hf
      refine aw_iinc (v := x143) (L' := [(3, .int x143), (0, .ref 1030), (1, .ref l1), (2, .ref l2)]) 3 dL_law_1127 rfl (Option.some.inj ex143) (by decide) rfl ?_
      refine aw_goto (tgt := 18) dL_law_1130 (by decide) ?_
      exact aw_sub [1, 2, 3, 0] rfl (hk18 _ _ hf)
    have hf := i_neg c140 hf
    by_cases c144 : x3 = 20
    · have hf := i_pos c144 hf
      refine aw_tabIn (tgt := 734) dL_law_33 (by rw [c144]; decide) (by rw [c144]; decide) (by rw [c144]; rfl) (by decide) ?_
      refine aw_aload_n 1 dL_law_734 rfl rfl ?_
      refine aw_aload_n 0 dL_law_735 rfl rfl ?_
      refine aw_iload_n 3 dL_law_736 rfl rfl ?_
      refine aw_iconst (v := 1) dL_law_737 (by decide) ?_
      refine aw_iadd dL_law_738 ?_
      obtain ⟨x145, ex145, hf⟩ := b_some hf
      refine aw_sld hz dL_law_739 ex145 ?_
      obtain ⟨q146, eq146, hf⟩ := b_some hf
      refine aw_cV (as := [.int x145]) dL_law_740 moX6_drawn voX6_drawn mlL_97 (k_X6_drawn eq146) rfl (by decide) (LawX.kn hz) (Nat.le_of_ble_eq_true rfl) rfl (c_X6_drawn eq146) ?_
      refine aw_pop dL_law_743 rfl ?_
      refine aw_aload_n 2 dL_law_744 rfl rfl ?_
      refine aw_aload_n 0 dL_law_745 rfl rfl ?_
      refine aw_iload_n 3 dL_law_746 rfl rfl ?_
      refine aw_iconst (v := 1) dL_law_747 (by decide) ?_
      refine aw_iadd dL_law_748 ?_
      obtain ⟨x147, ex147, hf⟩ := b_some hf
      refine aw_sld hz dL_law_749 ex147 ?_
      obtain ⟨q148, eq148, hf⟩ := b_some hf
      refine aw_cV (as := [.int x147]) dL_law_750 moX7_drawn voX7_drawn mlL_100 (k_X7_drawn eq148) rfl (by decide) (LawX.kn hz) (Nat.le_of_ble_eq_true rfl) rfl (c_X7_drawn eq148) ?_
      refine aw_pop dL_law_753 rfl ?_
      refine aw_goto (tgt := 1127) dL_law_754 (by decide) ?_
      obtain ⟨x149, ex149, hf⟩ := b_some hf
      refine aw_iinc (v := x149) (L' := [(3, .int x149), (0, .ref 1030), (1, .ref l1), (2, .ref l2)]) 3 dL_law_1127 rfl (Option.some.inj ex149) (by decide) rfl ?_
      refine aw_goto (tgt := 18) dL_law_1130 (by decide) ?_
      exact aw_sub [1, 2, 3, 0] rfl (hk18 _ _ hf)
    have hf := i_neg c144 hf
    by_cases c150 : x3 = 21
    · have hf := i_pos c150 hf
      refine aw_tabIn (tgt := 757) dL_law_33 (by rw [c150]; decide) (by rw [c150]; decide) (by rw [c150]; rfl) (by decide) ?_
      refine aw_aload_n 1 dL_law_757 rfl rfl ?_
      refine aw_aload_n 0 dL_law_758 rfl rfl ?_
      refine aw_iload_n 3 dL_law_759 rfl rfl ?_
      refine aw_iconst (v := 1) dL_law_760 (by decide) ?_
      refine aw_iadd dL_law_761 ?_
      obtain ⟨x151, ex151, hf⟩ := b_some hf
      refine aw_sld hz dL_law_762 ex151 ?_
      refine aw_aload_n 0 dL_law_763 rfl rfl ?_
      refine aw_iload_n 3 dL_law_764 rfl rfl ?_
      refine aw_iconst (v := 2) dL_law_765 (by decide) ?_
      refine aw_iadd dL_law_766 ?_
      obtain ⟨x152, ex152, hf⟩ := b_some hf
      refine aw_sld hz dL_law_767 ex152 ?_
      refine aw_aload_n 0 dL_law_768 rfl rfl ?_
      refine aw_iload_n 3 dL_law_769 rfl rfl ?_
      refine aw_iconst (v := 3) dL_law_770 (by decide) ?_
      refine aw_iadd dL_law_771 ?_
      obtain ⟨x153, ex153, hf⟩ := b_some hf
      refine aw_sld hz dL_law_772 ex153 ?_
      refine aw_aload_n 0 dL_law_773 rfl rfl ?_
      refine aw_iload_n 3 dL_law_774 rfl rfl ?_
      refine aw_iconst (v := 4) dL_law_775 (by decide) ?_
      refine aw_iadd dL_law_776 ?_
      obtain ⟨x154, ex154, hf⟩ := b_some hf
      refine aw_sld hz dL_law_777 ex154 ?_
      obtain ⟨q155, eq155, hf⟩ := b_some hf
      refine aw_cV (as := [.int x151, .int x152, .int x153, .int x154]) dL_law_778 moX6_chance voX6_chance mlL_101 (k_X6_chance eq155) rfl (by decide) (LawX.kn hz) (Nat.le_of_ble_eq_true rfl) rfl (c_X6_chance eq155) ?_
      refine aw_pop dL_law_781 rfl ?_
      refine aw_aload_n 2 dL_law_782 rfl rfl ?_
      refine aw_aload_n 0 dL_law_783 rfl rfl ?_
      refine aw_iload_n 3 dL_law_784 rfl rfl ?_
      refine aw_iconst (v := 1) dL_law_785 (by decide) ?_
      refine aw_iadd dL_law_786 ?_
      obtain ⟨x156, ex156, hf⟩ := b_some hf
      refine aw_sld hz dL_law_787 ex156 ?_
      refine aw_aload_n 0 dL_law_788 rfl rfl ?_
      refine aw_iload_n 3 dL_law_789 rfl rfl ?_
      refine aw_iconst (v := 2) dL_law_790 (by decide) ?_
      refine aw_iadd dL_law_791 ?_
      obtain ⟨x157, ex157, hf⟩ := b_some hf
      refine aw_sld hz dL_law_792 ex157 ?_
      refine aw_aload_n 0 dL_law_793 rfl rfl ?_
      refine aw_iload_n 3 dL_law_794 rfl rfl ?_
      refine aw_iconst (v := 3) dL_law_795 (by decide) ?_
      refine aw_iadd dL_law_796 ?_
      obtain ⟨x158, ex158, hf⟩ := b_some hf
      refine aw_sld hz dL_law_797 ex158 ?_
      refine aw_aload_n 0 dL_law_798 rfl rfl ?_
      refine aw_iload_n 3 dL_law_799 rfl rfl ?_
      refine aw_iconst (v := 4) dL_law_800 (by decide) ?_
      refine aw_iadd dL_law_801 ?_
      obtain ⟨x159, ex159, hf⟩ := b_some hf
      refine aw_sld hz dL_law_802 ex159 ?_
      obtain ⟨q160, eq160, hf⟩ := b_some hf
      refine aw_cV (as := [.int x156, .int x157, .int x158, .int x159]) dL_law_803 moX7_chance voX7_chance mlL_105 (k_X7_chance eq160) rfl (by decide) (LawX.kn hz) (Nat.le_of_ble_eq_true rfl) rfl (c_X7_chance eq160) ?_
      refine aw_pop dL_law_806 rfl ?_
      refine aw_goto (tgt := 1127) dL_law_807 (by decide) ?_
      obtain ⟨x161, ex161, hf⟩ := b_some hf
      refine aw_iinc (v := x161) (L' := [(3, .int x161), (0, .ref 1030), (1, .ref l1), (2, .ref l2)]) 3 dL_law_1127 rfl (Option.some.inj ex161) (by decide) rfl ?_
      refine aw_goto (tgt := 18) dL_law_1130 (by decide) ?_
      exact aw_sub [1, 2, 3, 0] rfl (hk18 _ _ hf)
    have hf := i_neg c150 hf
    by_cases c162 : x3 = 22
    · have hf := i_pos c162 hf
      refine aw_tabIn (tgt := 810) dL_law_33 (by rw [c162]; decide) (by rw [c162]; decide) (by rw [c162]; rfl) (by decide) ?_
      refine aw_aload_n 1 dL_law_810 rfl rfl ?_
      refine aw_aload_n 0 dL_law_811 rfl rfl ?_
      refine aw_iload_n 3 dL_law_812 rfl rfl ?_
      refine aw_iconst (v := 1) dL_law_813 (by decide) ?_
      refine aw_iadd dL_law_814 ?_
      obtain ⟨x163, ex163, hf⟩ := b_some hf
      refine aw_sld hz dL_law_815 ex163 ?_
      refine aw_aload_n 0 dL_law_816 rfl rfl ?_
      refine aw_iload_n 3 dL_law_817 rfl rfl ?_
      refine aw_iconst (v := 2) dL_law_818 (by decide) ?_
      refine aw_iadd dL_law_819 ?_
      obtain ⟨x164, ex164, hf⟩ := b_some hf
      refine aw_sld hz dL_law_820 ex164 ?_
      obtain ⟨q165, eq165, hf⟩ := b_some hf
      refine aw_cV (as := [.int x163, .int x164]) dL_law_821 moX6_tells voX6_tells mlL_106 (k_X6_tells eq165) rfl (by decide) (LawX.kn hz) (Nat.le_of_ble_eq_true rfl) rfl (c_X6_tells eq165) ?_
      refine aw_pop dL_law_824 rfl ?_
      refine aw_aload_n 2 dL_law_825 rfl rfl ?_
      refine aw_aload_n 0 dL_law_826 rfl rfl ?_
      refine aw_iload_n 3 dL_law_827 rfl rfl ?_
      refine aw_iconst (v := 1) dL_law_828 (by decide) ?_
      refine aw_iadd dL_law_829 ?_
      obtain ⟨x166, ex166, hf⟩ := b_some hf
      refine aw_sld hz dL_law_830 ex166 ?_
      refine aw_aload_n 0 dL_law_831 rfl rfl ?_
      refine aw_iload_n 3 dL_law_832 rfl rfl ?_
      refine aw_iconst (v := 2) dL_law_833 (by decide) ?_
      refine aw_iadd dL_law_834 ?_
      obtain ⟨x167, ex167, hf⟩ := b_some hf
      refine aw_sld hz dL_law_835 ex167 ?_
      obtain ⟨q168, eq168, hf⟩ := b_some hf
      refine aw_cV (as := [.int x166, .int x167]) dL_law_836 moX7_tells voX7_tells mlL_109 (k_X7_tells eq168) rfl (by decide) (LawX.kn hz) (Nat.le_of_ble_eq_true rfl) rfl (c_X7_tells eq168) ?_
      refine aw_pop dL_law_839 rfl ?_
      refine aw_goto (tgt := 1127) dL_law_840 (by decide) ?_
      obtain ⟨x169, ex169, hf⟩ := b_some hf
      refine aw_iinc (v := x169) (L' := [(3, .int x169), (0, .ref 1030), (1, .ref l1), (2, .ref l2)]) 3 dL_law_1127 rfl (Option.some.inj ex169) (by decide) rfl ?_
      refine aw_goto (tgt := 18) dL_law_1130 (by decide) ?_
      exact aw_sub [1, 2, 3, 0] rfl (hk18 _ _ hf)
    have hf := i_neg c162 hf
    by_cases c170 : x3 = 23
    · have hf := i_pos c170 hf
      refine aw_tabIn (tgt := 843) dL_law_33 (by rw [c170]; decide) (by rw [c170]; decide) (by rw [c170]; rfl) (by decide) ?_
      refine aw_aload_n 1 dL_law_843 rfl rfl ?_
      refine aw_aload_n 0 dL_law_844 rfl rfl ?_
      refine aw_iload_n 3 dL_law_845 rfl rfl ?_
      refine aw_iconst (v := 1) dL_law_846 (by decide) ?_
      refine aw_iadd dL_law_847 ?_
      obtain ⟨x171, ex171, hf⟩ := b_some hf
      refine aw_sld hz dL_law_848 ex171 ?_
      refine aw_aload_n 0 dL_law_849 rfl rfl ?_
      refine aw_iload_n 3 dL_law_850 rfl rfl ?_
      refine aw_iconst (v := 2) dL_law_851 (by decide) ?_
      refine aw_iadd dL_law_852 ?_
      obtain ⟨x172, ex172, hf⟩ := b_some hf
      refine aw_sld hz dL_law_853 ex172 ?_
      obtain ⟨q173, eq173, hf⟩ := b_some hf
      refine aw_cV (as := [.int x171, .int x172]) dL_law_854 moX6_film voX6_film mlL_110 (k_X6_film eq173) rfl (by decide) (LawX.kn hz) (Nat.le_of_ble_eq_true rfl) rfl (c_X6_film eq173) ?_
      refine aw_pop dL_law_857 rfl ?_
      refine aw_aload_n 2 dL_law_858 rfl rfl ?_
      refine aw_aload_n 0 dL_law_859 rfl rfl ?_
      refine aw_iload_n 3 dL_law_860 rfl rfl ?_
      refine aw_iconst (v := 1) dL_law_861 (by decide) ?_
      refine aw_iadd dL_law_862 ?_
      obtain ⟨x174, ex174, hf⟩ := b_some hf
      refine aw_sld hz dL_law_863 ex174 ?_
      refine aw_aload_n 0 dL_law_864 rfl rfl ?_
      refine aw_iload_n 3 dL_law_865 rfl rfl ?_
      refine aw_iconst (v := 2) dL_law_866 (by decide) ?_
      refine aw_iadd dL_law_867 ?_
      obtain ⟨x175, ex175, hf⟩ := b_some hf
      refine aw_sld hz dL_law_868 ex175 ?_
      obtain ⟨q176, eq176, hf⟩ := b_some hf
      refine aw_cV (as := [.int x174, .int x175]) dL_law_869 moX7_film voX7_film mlL_113 (k_X7_film eq176) rfl (by decide) (LawX.kn hz) (Nat.le_of_ble_eq_true rfl) rfl (c_X7_film eq176) ?_
      refine aw_pop dL_law_872 rfl ?_
      refine aw_goto (tgt := 1127) dL_law_873 (by decide) ?_
      obtain ⟨x177, ex177, hf⟩ := b_some hf
      refine aw_iinc (v := x177) (L' := [(3, .int x177), (0, .ref 1030), (1, .ref l1), (2, .ref l2)]) 3 dL_law_1127 rfl (Option.some.inj ex177) (by decide) rfl ?_
      refine aw_goto (tgt := 18) dL_law_1130 (by decide) ?_
      exact aw_sub [1, 2, 3, 0] rfl (hk18 _ _ hf)
    have hf := i_neg c170 hf
    by_cases c178 : x3 = 24
    · have hf := i_pos c178 hf
      refine aw_tabIn (tgt := 876) dL_law_33 (by rw [c178]; decide) (by rw [c178]; decide) (by rw [c178]; rfl) (by decide) ?_
      refine aw_aload_n 1 dL_law_876 rfl rfl ?_
      obtain ⟨q179, eq179, hf⟩ := b_some hf
      refine aw_cV (as := []) dL_law_877 moX6_image voX6_image mlL_114 (k_X6_image eq179) rfl (by decide) (LawX.kn hz) (Nat.le_of_ble_eq_true rfl) rfl (c_X6_image eq179) ?_
      refine aw_pop dL_law_880 rfl ?_
      refine aw_aload_n 2 dL_law_881 rfl rfl ?_
      obtain ⟨q180, eq180, hf⟩ := b_some hf
      refine aw_cV (as := []) dL_law_882 moX7_image voX7_image mlL_117 (k_X7_image eq180) rfl (by decide) (LawX.kn hz) (Nat.le_of_ble_eq_true rfl) rfl (c_X7_image eq180) ?_
      refine aw_pop dL_law_885 rfl ?_
      refine aw_goto (tgt := 1127) dL_law_886 (by decide) ?_
      obtain ⟨x181, ex181, hf⟩ := b_some hf
      refine aw_iinc (v := x181) (L' := [(3, .int x181), (0, .ref 1030), (1, .ref l1), (2, .ref l2)]) 3 dL_law_1127 rfl (Option.some.inj ex181) (by decide) rfl ?_
      refine aw_goto (tgt := 18) dL_law_1130 (by decide) ?_
      exact aw_sub [1, 2, 3, 0] rfl (hk18 _ _ hf)
    have hf := i_neg c178 hf
    by_cases c182 : x3 = 25
    · have hf := i_pos c182 hf
      refine aw_tabIn (tgt := 889) dL_law_33 (by rw [c182]; decide) (by rw [c182]; decide) (by rw [c182]; rfl) (by decide) ?_
      refine aw_aload_n 1 dL_law_889 rfl rfl ?_
      obtain ⟨q183, eq183, hf⟩ := b_some hf
      refine aw_cV (as := []) dL_law_890 moX6_back voX6_back mlL_118 (k_X6_back eq183) rfl (by decide) (LawX.kn hz) (Nat.le_of_ble_eq_true rfl) rfl (c_X6_back eq183) ?_
      refine aw_pop dL_law_893 rfl ?_
      refine aw_aload_n 2 dL_law_894 rfl rfl ?_
      obtain ⟨q184, eq184, hf⟩ := b_some hf
      refine aw_cV (as := []) dL_law_895 moX7_back voX7_back mlL_121 (k_X7_back eq184) rfl (by decide) (LawX.kn hz) (Nat.le_of_ble_eq_true rfl) rfl (c_X7_back eq184) ?_
      refine aw_pop dL_law_898 rfl ?_
      refine aw_goto (tgt := 1127) dL_law_899 (by decide) ?_
      obtain ⟨x185, ex185, hf⟩ := b_some hf
      refine aw_iinc (v := x185) (L' := [(3, .int x185), (0, .ref 1030), (1, .ref l1), (2, .ref l2)]) 3 dL_law_1127 rfl (Option.some.inj ex185) (by decide) rfl ?_
      refine aw_goto (tgt := 18) dL_law_1130 (by decide) ?_
      exact aw_sub [1, 2, 3, 0] rfl (hk18 _ _ hf)
    have hf := i_neg c182 hf
    by_cases c186 : x3 = 26
    · have hf := i_pos c186 hf
      refine aw_tabIn (tgt := 902) dL_law_33 (by rw [c186]; decide) (by rw [c186]; decide) (by rw [c186]; rfl) (by decide) ?_
      refine aw_aload_n 1 dL_law_902 rfl rfl ?_
      refine aw_aload_n 0 dL_law_903 rfl rfl ?_
      refine aw_iload_n 3 dL_law_904 rfl rfl ?_
      refine aw_iconst (v := 1) dL_law_905 (by decide) ?_
      refine aw_iadd dL_law_906 ?_
      obtain ⟨x187, ex187, hf⟩ := b_some hf
      refine aw_sld hz dL_law_907 ex187 ?_
      obtain ⟨q188, eq188, hf⟩ := b_some hf
      refine aw_cV (as := [.int x187]) dL_law_908 moX6_count voX6_count mlL_122 (k_X6_count eq188) rfl (by decide) (LawX.kn hz) (Nat.le_of_ble_eq_true rfl) rfl (c_X6_count eq188) ?_
      refine aw_pop dL_law_911 rfl ?_
      refine aw_aload_n 2 dL_law_912 rfl rfl ?_
      refine aw_aload_n 0 dL_law_913 rfl rfl ?_
      refine aw_iload_n 3 dL_law_914 rfl rfl ?_
      refine aw_iconst (v := 1) dL_law_915 (by decide) ?_
      refine aw_iadd dL_law_916 ?_
      obtain ⟨x189, ex189, hf⟩ := b_some hf
      refine aw_sld hz dL_law_917 ex189 ?_
      obtain ⟨q190, eq190, hf⟩ := b_some hf
      refine aw_cV (as := [.int x189]) dL_law_918 moX7_count voX7_count mlL_125 (k_X7_count eq190) rfl (by decide) (LawX.kn hz) (Nat.le_of_ble_eq_true rfl) rfl (c_X7_count eq190) ?_
      refine aw_pop dL_law_921 rfl ?_
      refine aw_goto (tgt := 1127) dL_law_922 (by decide) ?_
      obtain ⟨x191, ex191, hf⟩ := b_some hf
      refine aw_iinc (v := x191) (L' := [(3, .int x191), (0, .ref 1030), (1, .ref l1), (2, .ref l2)]) 3 dL_law_1127 rfl (Option.some.inj ex191) (by decide) rfl ?_
      refine aw_goto (tgt := 18) dL_law_1130 (by decide) ?_
      exact aw_sub [1, 2, 3, 0] rfl (hk18 _ _ hf)
    have hf := i_neg c186 hf
    by_cases c192 : x3 = 27
    · have hf := i_pos c192 hf
      refine aw_tabIn (tgt := 925) dL_law_33 (by rw [c192]; decide) (by rw [c192]; decide) (by rw [c192]; rfl) (by decide) ?_
      refine aw_aload_n 1 dL_law_925 rfl rfl ?_
      refine aw_aload_n 0 dL_law_926 rfl rfl ?_
      refine aw_iload_n 3 dL_law_927 rfl rfl ?_
      refine aw_iconst (v := 1) dL_law_928 (by decide) ?_
      refine aw_iadd dL_law_929 ?_
      obtain ⟨x193, ex193, hf⟩ := b_some hf
      refine aw_sld hz dL_law_930 ex193 ?_
      refine aw_aload_n 0 dL_law_931 rfl rfl ?_
      refine aw_iload_n 3 dL_law_932 rfl rfl ?_
      refine aw_iconst (v := 2) dL_law_933 (by decide) ?_
      refine aw_iadd dL_law_934 ?_
      obtain ⟨x194, ex194, hf⟩ := b_some hf
      refine aw_sld hz dL_law_935 ex194 ?_
      refine aw_aload_n 0 dL_law_936 rfl rfl ?_
      refine aw_iload_n 3 dL_law_937 rfl rfl ?_
      refine aw_iconst (v := 3) dL_law_938 (by decide) ?_
      refine aw_iadd dL_law_939 ?_
      obtain ⟨x195, ex195, hf⟩ := b_some hf
      refine aw_sld hz dL_law_940 ex195 ?_
      obtain ⟨q196, eq196, hf⟩ := b_some hf
      refine aw_cV (as := [.int x193, .int x194, .int x195]) dL_law_941 moX6_sheet voX6_sheet mlL_126 (k_X6_sheet eq196) rfl (by decide) (LawX.kn hz) (Nat.le_of_ble_eq_true rfl) rfl (c_X6_sheet eq196) ?_
      refine aw_pop dL_law_944 rfl ?_
      refine aw_aload_n 2 dL_law_945 rfl rfl ?_
      refine aw_aload_n 0 dL_law_946 rfl rfl ?_
      refine aw_iload_n 3 dL_law_947 rfl rfl ?_
      refine aw_iconst (v := 1) dL_law_948 (by decide) ?_
      refine aw_iadd dL_law_949 ?_
      obtain ⟨x197, ex197, hf⟩ := b_some hf
      refine aw_sld hz dL_law_950 ex197 ?_
      refine aw_aload_n 0 dL_law_951 rfl rfl ?_
      refine aw_iload_n 3 dL_law_952 rfl rfl ?_
      refine aw_iconst (v := 2) dL_law_953 (by decide) ?_
      refine aw_iadd dL_law_954 ?_
      obtain ⟨x198, ex198, hf⟩ := b_some hf
      refine aw_sld hz dL_law_955 ex198 ?_
      refine aw_aload_n 0 dL_law_956 rfl rfl ?_
      refine aw_iload_n 3 dL_law_957 rfl rfl ?_
      refine aw_iconst (v := 3) dL_law_958 (by decide) ?_
      refine aw_iadd dL_law_959 ?_
      obtain ⟨x199, ex199, hf⟩ := b_some hf
      refine aw_sld hz dL_law_960 ex199 ?_
      obtain ⟨q200, eq200, hf⟩ := b_some hf
      refine aw_cV (as := [.int x197, .int x198, .int x199]) dL_law_961 moX7_sheet voX7_sheet mlL_130 (k_X7_sheet eq200) rfl (by decide) (LawX.kn hz) (Nat.le_of_ble_eq_true rfl) rfl (c_X7_sheet eq200) ?_
      refine aw_pop dL_law_964 rfl ?_
      refine aw_goto (tgt := 1127) dL_law_965 (by decide) ?_
      obtain ⟨x201, ex201, hf⟩ := b_some hf
      refine aw_iinc (v := x201) (L' := [(3, .int x201), (0, .ref 1030), (1, .ref l1), (2, .ref l2)]) 3 dL_law_1127 rfl (Option.some.inj ex201) (by decide) rfl ?_
      refine aw_goto (tgt := 18) dL_law_1130 (by decide) ?_
      exact aw_sub [1, 2, 3, 0] rfl (hk18 _ _ hf)
    have hf := i_neg c192 hf
    by_cases c202 : x3 = 28
    · have hf := i_pos c202 hf
      refine aw_tabIn (tgt := 968) dL_law_33 (by rw [c202]; decide) (by rw [c202]; decide) (by rw [c202]; rfl) (by decide) ?_
      refine aw_aload_n 1 dL_law_968 rfl rfl ?_
      refine aw_aload_n 0 dL_law_969 rfl rfl ?_
      refine aw_iload_n 3 dL_law_970 rfl rfl ?_
      refine aw_iconst (v := 1) dL_law_971 (by decide) ?_
      refine aw_iadd dL_law_972 ?_
      obtain ⟨x203, ex203, hf⟩ := b_some hf
      refine aw_sld hz dL_law_973 ex203 ?_
      refine aw_aload_n 0 dL_law_974 rfl rfl ?_
      refine aw_iload_n 3 dL_law_975 rfl rfl ?_
      refine aw_iconst (v := 2) dL_law_976 (by decide) ?_
      refine aw_iadd dL_law_977 ?_
      obtain ⟨x204, ex204, hf⟩ := b_some hf
      refine aw_sld hz dL_law_978 ex204 ?_
      refine aw_aload_n 0 dL_law_979 rfl rfl ?_
      refine aw_iload_n 3 dL_law_980 rfl rfl ?_
      refine aw_iconst (v := 3) dL_law_981 (by decide) ?_
      refine aw_iadd dL_law_982 ?_
      obtain ⟨x205, ex205, hf⟩ := b_some hf
      refine aw_sld hz dL_law_983 ex205 ?_
      obtain ⟨q206, eq206, hf⟩ := b_some hf
      refine aw_cV (as := [.int x203, .int x204, .int x205]) dL_law_984 moX6_put voX6_put mlL_131 (k_X6_put eq206) rfl (by decide) (LawX.kn hz) (Nat.le_of_ble_eq_true rfl) rfl (c_X6_put eq206) ?_
      refine aw_pop dL_law_987 rfl ?_
      refine aw_aload_n 2 dL_law_988 rfl rfl ?_
      refine aw_aload_n 0 dL_law_989 rfl rfl ?_
      refine aw_iload_n 3 dL_law_990 rfl rfl ?_
      refine aw_iconst (v := 1) dL_law_991 (by decide) ?_
      refine aw_iadd dL_law_992 ?_
      obtain ⟨x207, ex207, hf⟩ := b_some hf
      refine aw_sld hz dL_law_993 ex207 ?_
      refine aw_aload_n 0 dL_law_994 rfl rfl ?_
      refine aw_iload_n 3 dL_law_995 rfl rfl ?_
      refine aw_iconst (v := 2) dL_law_996 (by decide) ?_
      refine aw_iadd dL_law_997 ?_
      obtain ⟨x208, ex208, hf⟩ := b_some hf
      refine aw_sld hz dL_law_998 ex208 ?_
      refine aw_aload_n 0 dL_law_999 rfl rfl ?_
      refine aw_iload_n 3 dL_law_1000 rfl rfl ?_
      refine aw_iconst (v := 3) dL_law_1001 (by decide) ?_
      refine aw_iadd dL_law_1002 ?_
      obtain ⟨x209, ex209, hf⟩ := b_some hf
      refine aw_sld hz dL_law_1003 ex209 ?_
      obtain ⟨q210, eq210, hf⟩ := b_some hf
      refine aw_cV (as := [.int x207, .int x208, .int x209]) dL_law_1004 moX7_put voX7_put mlL_134 (k_X7_put eq210) rfl (by decide) (LawX.kn hz) (Nat.le_of_ble_eq_true rfl) rfl (c_X7_put eq210) ?_
      refine aw_pop dL_law_1007 rfl ?_
      refine aw_goto (tgt := 1127) dL_law_1008 (by decide) ?_
      obtain ⟨x211, ex211, hf⟩ := b_some hf
      refine aw_iinc (v := x211) (L' := [(3, .int x211), (0, .ref 1030), (1, .ref l1), (2, .ref l2)]) 3 dL_law_1127 rfl (Option.some.inj ex211) (by decide) rfl ?_
      refine aw_goto (tgt := 18) dL_law_1130 (by decide) ?_
      exact aw_sub [1, 2, 3, 0] rfl (hk18 _ _ hf)
    have hf := i_neg c202 hf
    by_cases c212 : x3 = 29
    · have hf := i_pos c212 hf
      refine aw_tabIn (tgt := 1011) dL_law_33 (by rw [c212]; decide) (by rw [c212]; decide) (by rw [c212]; rfl) (by decide) ?_
      refine aw_aload_n 1 dL_law_1011 rfl rfl ?_
      refine aw_aload_n 0 dL_law_1012 rfl rfl ?_
      refine aw_iload_n 3 dL_law_1013 rfl rfl ?_
      refine aw_iconst (v := 1) dL_law_1014 (by decide) ?_
      refine aw_iadd dL_law_1015 ?_
      obtain ⟨x213, ex213, hf⟩ := b_some hf
      refine aw_sld hz dL_law_1016 ex213 ?_
      refine aw_aload_n 0 dL_law_1017 rfl rfl ?_
      refine aw_iload_n 3 dL_law_1018 rfl rfl ?_
      refine aw_iconst (v := 2) dL_law_1019 (by decide) ?_
      refine aw_iadd dL_law_1020 ?_
      obtain ⟨x214, ex214, hf⟩ := b_some hf
      refine aw_sld hz dL_law_1021 ex214 ?_
      refine aw_aload_n 0 dL_law_1022 rfl rfl ?_
      refine aw_iload_n 3 dL_law_1023 rfl rfl ?_
      refine aw_iconst (v := 3) dL_law_1024 (by decide) ?_
      refine aw_iadd dL_law_1025 ?_
      obtain ⟨x215, ex215, hf⟩ := b_some hf
      refine aw_sld hz dL_law_1026 ex215 ?_
      refine aw_aload_n 0 dL_law_1027 rfl rfl ?_
      refine aw_iload_n 3 dL_law_1028 rfl rfl ?_
      refine aw_iconst (v := 4) dL_law_1029 (by decide) ?_
      refine aw_iadd dL_law_1030 ?_
      obtain ⟨x216, ex216, hf⟩ := b_some hf
      refine aw_sld hz dL_law_1031 ex216 ?_
      refine aw_aload_n 0 dL_law_1032 rfl rfl ?_
      refine aw_iload_n 3 dL_law_1033 rfl rfl ?_
      refine aw_iconst (v := 5) dL_law_1034 (by decide) ?_
      refine aw_iadd dL_law_1035 ?_
      obtain ⟨x217, ex217, hf⟩ := b_some hf
      refine aw_sld hz dL_law_1036 ex217 ?_
      obtain ⟨q218, eq218, hf⟩ := b_some hf
      refine aw_cV (as := [.int x213, .int x214, .int x215, .int x216, .int x217]) dL_law_1037 moX6_copy voX6_copy mlL_135 (k_X6_copy eq218) rfl (by decide) (LawX.kn hz) (Nat.le_of_ble_eq_true rfl) rfl (c_X6_copy eq218) ?_
      refine aw_pop dL_law_1040 rfl ?_
      refine aw_aload_n 2 dL_law_1041 rfl rfl ?_
      refine aw_aload_n 0 dL_law_1042 rfl rfl ?_
      refine aw_iload_n 3 dL_law_1043 rfl rfl ?_
      refine aw_iconst (v := 1) dL_law_1044 (by decide) ?_
      refine aw_iadd dL_law_1045 ?_
      obtain ⟨x219, ex219, hf⟩ := b_some hf
      refine aw_sld hz dL_law_1046 ex219 ?_
      refine aw_aload_n 0 dL_law_1047 rfl rfl ?_
      refine aw_iload_n 3 dL_law_1048 rfl rfl ?_
      refine aw_iconst (v := 2) dL_law_1049 (by decide) ?_
      refine aw_iadd dL_law_1050 ?_
      obtain ⟨x220, ex220, hf⟩ := b_some hf
      refine aw_sld hz dL_law_1051 ex220 ?_
      refine aw_aload_n 0 dL_law_1052 rfl rfl ?_
      refine aw_iload_n 3 dL_law_1053 rfl rfl ?_
      refine aw_iconst (v := 3) dL_law_1054 (by decide) ?_
      refine aw_iadd dL_law_1055 ?_
      obtain ⟨x221, ex221, hf⟩ := b_some hf
      refine aw_sld hz dL_law_1056 ex221 ?_
      refine aw_aload_n 0 dL_law_1057 rfl rfl ?_
      refine aw_iload_n 3 dL_law_1058 rfl rfl ?_
      refine aw_iconst (v := 4) dL_law_1059 (by decide) ?_
      refine aw_iadd dL_law_1060 ?_
      obtain ⟨x222, ex222, hf⟩ := b_some hf
      refine aw_sld hz dL_law_1061 ex222 ?_
      refine aw_aload_n 0 dL_law_1062 rfl rfl ?_
      refine aw_iload_n 3 dL_law_1063 rfl rfl ?_
      refine aw_iconst (v := 5) dL_law_1064 (by decide) ?_
      refine aw_iadd dL_law_1065 ?_
      obtain ⟨x223, ex223, hf⟩ := b_some hf
      refine aw_sld hz dL_law_1066 ex223 ?_
      obtain ⟨q224, eq224, hf⟩ := b_some hf
      refine aw_cV (as := [.int x219, .int x220, .int x221, .int x222, .int x223]) dL_law_1067 moX7_copy voX7_copy mlL_139 (k_X7_copy eq224) rfl (by decide) (LawX.kn hz) (Nat.le_of_ble_eq_true rfl) rfl (c_X7_copy eq224) ?_
      refine aw_pop dL_law_1070 rfl ?_
      refine aw_goto (tgt := 1127) dL_law_1071 (by decide) ?_
      obtain ⟨x225, ex225, hf⟩ := b_some hf
      refine aw_iinc (v := x225) (L' := [(3, .int x225), (0, .ref 1030), (1, .ref l1), (2, .ref l2)]) 3 dL_law_1127 rfl (Option.some.inj ex225) (by decide) rfl ?_
      refine aw_goto (tgt := 18) dL_law_1130 (by decide) ?_
      exact aw_sub [1, 2, 3, 0] rfl (hk18 _ _ hf)
    have hf := i_neg c212 hf
    by_cases c226 : x3 = 30
    · have hf := i_pos c226 hf
      refine aw_tabIn (tgt := 1074) dL_law_33 (by rw [c226]; decide) (by rw [c226]; decide) (by rw [c226]; rfl) (by decide) ?_
      refine aw_aload_n 1 dL_law_1074 rfl rfl ?_
      refine aw_aload_n 0 dL_law_1075 rfl rfl ?_
      refine aw_iload_n 3 dL_law_1076 rfl rfl ?_
      refine aw_iconst (v := 1) dL_law_1077 (by decide) ?_
      refine aw_iadd dL_law_1078 ?_
      obtain ⟨x227, ex227, hf⟩ := b_some hf
      refine aw_sld hz dL_law_1079 ex227 ?_
      refine aw_aload_n 0 dL_law_1080 rfl rfl ?_
      refine aw_iload_n 3 dL_law_1081 rfl rfl ?_
      refine aw_iconst (v := 2) dL_law_1082 (by decide) ?_
      refine aw_iadd dL_law_1083 ?_
      obtain ⟨x228, ex228, hf⟩ := b_some hf
      refine aw_sld hz dL_law_1084 ex228 ?_
      refine aw_aload_n 0 dL_law_1085 rfl rfl ?_
      refine aw_iload_n 3 dL_law_1086 rfl rfl ?_
      refine aw_iconst (v := 3) dL_law_1087 (by decide) ?_
      refine aw_iadd dL_law_1088 ?_
      obtain ⟨x229, ex229, hf⟩ := b_some hf
      refine aw_sld hz dL_law_1089 ex229 ?_
      refine aw_aload_n 0 dL_law_1090 rfl rfl ?_
      refine aw_iload_n 3 dL_law_1091 rfl rfl ?_
      refine aw_iconst (v := 4) dL_law_1092 (by decide) ?_
      refine aw_iadd dL_law_1093 ?_
      obtain ⟨x230, ex230, hf⟩ := b_some hf
      refine aw_sld hz dL_law_1094 ex230 ?_
      obtain ⟨q231, eq231, hf⟩ := b_some hf
      refine aw_cV (as := [.int x227, .int x228, .int x229, .int x230]) dL_law_1095 moX6_load voX6_load mlL_140 (k_X6_load eq231) rfl (by decide) (LawX.kn hz) (Nat.le_of_ble_eq_true rfl) rfl (c_X6_load eq231) ?_
      refine aw_aload_n 2 dL_law_1098 rfl rfl ?_
      refine aw_aload_n 0 dL_law_1099 rfl rfl ?_
      refine aw_iload_n 3 dL_law_1100 rfl rfl ?_
      refine aw_iconst (v := 1) dL_law_1101 (by decide) ?_
      refine aw_iadd dL_law_1102 ?_
      obtain ⟨x232, ex232, hf⟩ := b_some hf
      refine aw_sld hz dL_law_1103 ex232 ?_
      refine aw_aload_n 0 dL_law_1104 rfl rfl ?_
      refine aw_iload_n 3 dL_law_1105 rfl rfl ?_
      refine aw_iconst (v := 2) dL_law_1106 (by decide) ?_
      refine aw_iadd dL_law_1107 ?_
      obtain ⟨x233, ex233, hf⟩ := b_some hf
      refine aw_sld hz dL_law_1108 ex233 ?_
      refine aw_aload_n 0 dL_law_1109 rfl rfl ?_
      refine aw_iload_n 3 dL_law_1110 rfl rfl ?_
      refine aw_iconst (v := 3) dL_law_1111 (by decide) ?_
      refine aw_iadd dL_law_1112 ?_
      obtain ⟨x234, ex234, hf⟩ := b_some hf
      refine aw_sld hz dL_law_1113 ex234 ?_
      refine aw_aload_n 0 dL_law_1114 rfl rfl ?_
      refine aw_iload_n 3 dL_law_1115 rfl rfl ?_
      refine aw_iconst (v := 4) dL_law_1116 (by decide) ?_
      refine aw_iadd dL_law_1117 ?_
      obtain ⟨x235, ex235, hf⟩ := b_some hf
      refine aw_sld hz dL_law_1118 ex235 ?_
      obtain ⟨q236, eq236, hf⟩ := b_some hf
      refine aw_cV (as := [.int x232, .int x233, .int x234, .int x235]) dL_law_1119 moX7_load voX7_load mlL_143 (k_X7_load eq236) rfl (by decide) (LawX.kn hz) (Nat.le_of_ble_eq_true rfl) rfl (c_X7_load eq236) ?_
      refine aw_icmp_eq (tgt := 1127) dL_law_1122 (by decide) (fun c237 => ?_) (fun c237 => ?_)
      · have hf := i_pos c237 hf
        obtain ⟨x238, ex238, hf⟩ := b_some hf
        refine aw_iinc (v := x238) (L' := [(3, .int x238), (0, .ref 1030), (1, .ref l1), (2, .ref l2)]) 3 dL_law_1127 rfl (Option.some.inj ex238) (by decide) rfl ?_
        refine aw_goto (tgt := 18) dL_law_1130 (by decide) ?_
        exact aw_sub [1, 2, 3, 0] rfl (hk18 _ _ hf)
      · have hf := i_neg c237 hf
        refine aw_iconst (v := 0) dL_law_1125 (by decide) ?_
        have hq := Option.some.inj hf
        subst hq
        exact aw_lret hz dL_law_1126
    have hf := i_neg c226 hf
    refine aw_tabOut (tgt := 1127) dL_law_33 (tab_out (N := 31) (by decide) (by decide) (fun j hj => ?_)) (by decide) ?_
    · match j, hj with
      | 0, _ => exact c4
      | 1, _ => exact c20
      | 2, _ => exact c24
      | 3, _ => exact c28
      | 4, _ => exact c34
      | 5, _ => exact c42
      | 6, _ => exact c48
      | 7, _ => exact c56
      | 8, _ => exact c64
      | 9, _ => exact c72
      | 10, _ => exact c78
      | 11, _ => exact c84
      | 12, _ => exact c88
      | 13, _ => exact c96
      | 14, _ => exact c104
      | 15, _ => exact c110
      | 16, _ => exact c118
      | 17, _ => exact c126
      | 18, _ => exact c134
      | 19, _ => exact c140
      | 20, _ => exact c144
      | 21, _ => exact c150
      | 22, _ => exact c162
      | 23, _ => exact c170
      | 24, _ => exact c178
      | 25, _ => exact c182
      | 26, _ => exact c186
      | 27, _ => exact c192
      | 28, _ => exact c202
      | 29, _ => exact c212
      | 30, _ => exact c226
      | j + 31, hj => exact absurd hj (by omega)
    obtain ⟨x239, ex239, hf⟩ := b_some hf
    refine aw_iinc (v := x239) (L' := [(3, .int x239), (0, .ref 1030), (1, .ref l1), (2, .ref l2)]) 3 dL_law_1127 rfl (Option.some.inj ex239) (by decide) rfl ?_
    refine aw_goto (tgt := 18) dL_law_1130 (by decide) ?_
    exact aw_sub [1, 2, 3, 0] rfl (hk18 _ _ hf)
set_option maxRecDepth 100000 in
set_option maxHeartbeats 4000000 in
/-- the law from its entry to its loop -/
theorem law_start {X : Cx} {adr : Nat → Nat} {Qm : State → Prop} {q : Int32 × Hp} {xs : Nat → Int32} {sl : Nat} (hz : LawX X adr xs sl 62 1629 Qm q.1) (hf : lp (f_L_law_18 xs sl) 600 (0, 50, 0) hi_25 = some q) : AW X cL_law 4 RL room_1 Qm 0 0 adr [] 0 [(0, .ref 1030)] [] := by
  refine aw_new (ci := 6) (fs := [.null, .null, .null, .null, .null, .null, .null, .null, .null, .int 0]) tyX6 dL_law_0 rfl inlX6 tyX6_ok wcL_7 wiX6 wnX6 (by decide +kernel) (by decide) ⟨Nat.le_of_ble_eq_true rfl, Nat.le_of_ble_eq_true rfl⟩ (N0 := 0) (by decide +kernel) (by decide) (by decide +kernel) (by decide +kernel) (fun a1 A1 => ?_)
  refine AW.heq (h1 := [.inr (6, [.null, .null, .null, .null, .null, .null, .null, .null, .null, .int 0])]) rfl ?_
  refine AW.keq (k1 := 1) (n1 := 10) rfl rfl ?_
  refine aw_dup dL_law_3 rfl ?_
  refine aw_ctor (as := []) dL_law_4 moX6_init ioX6_init rfl mlL_9 (by decide) ⟨Nat.le_of_ble_eq_true rfl, Nat.le_of_ble_eq_true rfl⟩ (by decide) rfl (N0 := 1) (by decide +kernel) k12_X6_init (fun a2 A2 => ?_)
  refine AW.heq (h1 := [.inr (6, [.ref 1, .ref 3, .ref 11, .ref 19, .ref 27, .ref 30, .ref 36, .ref 41, .ref 40, .int 0]), .inr (4, [.ref 2, .int 0, .int 0, .int 0, .int 0]), .inl (0, (40, .inl (fun _ => 0))), .inr (0, [.int 0, .int 0, .int 0, .ref 4, .ref 5, .ref 6, .ref 7, .ref 8, .ref 9, .ref 10]), .inl (0, (6, .inl (fun _ => 0))), .inl (0, (6, .inl (fun _ => 0))), .inl (0, (36, .inl (fun _ => 0))), .inl (0, (9, .inl (fun _ => 0))), .inl (0, (9, .inl (fun _ => 0))), .inl (0, (9, .inl (fun _ => 0))), .inl (0, (9, .inl (fun _ => 0))), .inr (0, [.int 0, .int 0, .int 0, .ref 12, .ref 13, .ref 14, .ref 15, .ref 16, .ref 17, .ref 18]), .inl (0, (6, .inl (fun _ => 0))), .inl (0, (6, .inl (fun _ => 0))), .inl (0, (36, .inl (fun _ => 0))), .inl (0, (9, .inl (fun _ => 0))), .inl (0, (9, .inl (fun _ => 0))), .inl (0, (9, .inl (fun _ => 0))), .inl (0, (9, .inl (fun _ => 0))), .inr (0, [.int 0, .int 0, .int 0, .ref 20, .ref 21, .ref 22, .ref 23, .ref 24, .ref 25, .ref 26]), .inl (0, (6, .inl (fun _ => 0))), .inl (0, (6, .inl (fun _ => 0))), .inl (0, (36, .inl (fun _ => 0))), .inl (0, (9, .inl (fun _ => 0))), .inl (0, (9, .inl (fun _ => 0))), .inl (0, (9, .inl (fun _ => 0))), .inl (0, (9, .inl (fun _ => 0))), .inr (3, [.ref 28, .ref 29, .int 0, .int 0, .int 0]), .inl (0, (6, .inl (fun _ => 0))), .inl (0, (9, .inl (fun _ => 0))), .inr (1, [.ref 31, .ref 32, .ref 33, .ref 34, .ref 35, .int 0, .int 0, .int 0, .int 0]), .inl (0, (6, .inl (fun _ => 0))), .inl (0, (9, .inl (fun _ => 0))), .inl (0, (9, .inl (fun _ => 0))), .inl (0, (9, .inl (fun _ => 0))), .inl (0, (9, .inl (fun _ => 0))), .inr (5, [.ref 37, .ref 38, .ref 39, .int 0, .int 0]), .inl (0, (6, .inl (fun _ => 0))), .inl (0, (9, .inl (fun _ => 0))), .inl (1, (81, .inr (.inl (fun _ => 0)))), .inl (0, (6, .inl (fun _ => 0))), .inl (2, (4, .inr (.inr (.inr (.inr (va_up (va_up (va_up (va_up (fun _ => none) 0 (some 42)) 1 (some 44)) 2 (some 46)) 3 (some 48))))))), .inr (2, [.ref 43, .int (-1), .int 0]), .inl (0, (40, .inl (fun _ => 0))), .inr (2, [.ref 45, .int (-1), .int 0]), .inl (0, (40, .inl (fun _ => 0))), .inr (2, [.ref 47, .int (-1), .int 0]), .inl (0, (40, .inl (fun _ => 0))), .inr (2, [.ref 49, .int (-1), .int 0]), .inl (0, (40, .inl (fun _ => 0)))]) rfl ?_
  refine AW.keq (k1 := 50) (n1 := 691) rfl rfl ?_
  refine aw_astore_n (L' := [(1, .ref 0), (0, .ref 1030)]) dL_law_7 rfl (by decide) rfl ?_
  refine aw_new (ci := 7) (fs := [.null, .null, .int 0, .null, .null, .int 0, .int 0, .null, .int 0, .int 0, .null, .int 0, .int 0, .int 0, .int 0, .null, .null, .int 0, .null, .null, .null]) tyX7 dL_law_8 rfl inlX7 tyX7_ok wcL_10 wiX7 wnX7 (by decide +kernel) (by decide) ⟨Nat.le_of_ble_eq_true rfl, Nat.le_of_ble_eq_true rfl⟩ (N0 := 50) (by decide +kernel) (by decide) (by decide +kernel) (by decide +kernel) (fun a3 A3 => ?_)
  refine AW.heq (h1 := [.inr (6, [.ref 1, .ref 3, .ref 11, .ref 19, .ref 27, .ref 30, .ref 36, .ref 41, .ref 40, .int 0]), .inr (4, [.ref 2, .int 0, .int 0, .int 0, .int 0]), .inl (0, (40, .inl (fun _ => 0))), .inr (0, [.int 0, .int 0, .int 0, .ref 4, .ref 5, .ref 6, .ref 7, .ref 8, .ref 9, .ref 10]), .inl (0, (6, .inl (fun _ => 0))), .inl (0, (6, .inl (fun _ => 0))), .inl (0, (36, .inl (fun _ => 0))), .inl (0, (9, .inl (fun _ => 0))), .inl (0, (9, .inl (fun _ => 0))), .inl (0, (9, .inl (fun _ => 0))), .inl (0, (9, .inl (fun _ => 0))), .inr (0, [.int 0, .int 0, .int 0, .ref 12, .ref 13, .ref 14, .ref 15, .ref 16, .ref 17, .ref 18]), .inl (0, (6, .inl (fun _ => 0))), .inl (0, (6, .inl (fun _ => 0))), .inl (0, (36, .inl (fun _ => 0))), .inl (0, (9, .inl (fun _ => 0))), .inl (0, (9, .inl (fun _ => 0))), .inl (0, (9, .inl (fun _ => 0))), .inl (0, (9, .inl (fun _ => 0))), .inr (0, [.int 0, .int 0, .int 0, .ref 20, .ref 21, .ref 22, .ref 23, .ref 24, .ref 25, .ref 26]), .inl (0, (6, .inl (fun _ => 0))), .inl (0, (6, .inl (fun _ => 0))), .inl (0, (36, .inl (fun _ => 0))), .inl (0, (9, .inl (fun _ => 0))), .inl (0, (9, .inl (fun _ => 0))), .inl (0, (9, .inl (fun _ => 0))), .inl (0, (9, .inl (fun _ => 0))), .inr (3, [.ref 28, .ref 29, .int 0, .int 0, .int 0]), .inl (0, (6, .inl (fun _ => 0))), .inl (0, (9, .inl (fun _ => 0))), .inr (1, [.ref 31, .ref 32, .ref 33, .ref 34, .ref 35, .int 0, .int 0, .int 0, .int 0]), .inl (0, (6, .inl (fun _ => 0))), .inl (0, (9, .inl (fun _ => 0))), .inl (0, (9, .inl (fun _ => 0))), .inl (0, (9, .inl (fun _ => 0))), .inl (0, (9, .inl (fun _ => 0))), .inr (5, [.ref 37, .ref 38, .ref 39, .int 0, .int 0]), .inl (0, (6, .inl (fun _ => 0))), .inl (0, (9, .inl (fun _ => 0))), .inl (1, (81, .inr (.inl (fun _ => 0)))), .inl (0, (6, .inl (fun _ => 0))), .inl (2, (4, .inr (.inr (.inr (.inr (va_up (va_up (va_up (va_up (fun _ => none) 0 (some 42)) 1 (some 44)) 2 (some 46)) 3 (some 48))))))), .inr (2, [.ref 43, .int (-1), .int 0]), .inl (0, (40, .inl (fun _ => 0))), .inr (2, [.ref 45, .int (-1), .int 0]), .inl (0, (40, .inl (fun _ => 0))), .inr (2, [.ref 47, .int (-1), .int 0]), .inl (0, (40, .inl (fun _ => 0))), .inr (2, [.ref 49, .int (-1), .int 0]), .inl (0, (40, .inl (fun _ => 0))), .inr (7, [.null, .null, .int 0, .null, .null, .int 0, .int 0, .null, .int 0, .int 0, .null, .int 0, .int 0, .int 0, .int 0, .null, .null, .int 0, .null, .null, .null])]) rfl ?_
  refine AW.keq (k1 := 51) (n1 := 712) rfl rfl ?_
  refine aw_dup dL_law_11 rfl ?_
  refine aw_ctor (as := []) dL_law_12 moX7_init ioX7_init rfl mlL_12 (by decide) ⟨Nat.le_of_ble_eq_true rfl, Nat.le_of_ble_eq_true rfl⟩ (by decide) rfl (N0 := 51) (by decide +kernel) k13_X7_init (fun a4 A4 => ?_)
  refine AW.heq (h1 := [.inr (6, [.ref 1, .ref 3, .ref 11, .ref 19, .ref 27, .ref 30, .ref 36, .ref 41, .ref 40, .int 0]), .inr (4, [.ref 2, .int 0, .int 0, .int 0, .int 0]), .inl (0, (40, .inl (fun _ => 0))), .inr (0, [.int 0, .int 0, .int 0, .ref 4, .ref 5, .ref 6, .ref 7, .ref 8, .ref 9, .ref 10]), .inl (0, (6, .inl (fun _ => 0))), .inl (0, (6, .inl (fun _ => 0))), .inl (0, (36, .inl (fun _ => 0))), .inl (0, (9, .inl (fun _ => 0))), .inl (0, (9, .inl (fun _ => 0))), .inl (0, (9, .inl (fun _ => 0))), .inl (0, (9, .inl (fun _ => 0))), .inr (0, [.int 0, .int 0, .int 0, .ref 12, .ref 13, .ref 14, .ref 15, .ref 16, .ref 17, .ref 18]), .inl (0, (6, .inl (fun _ => 0))), .inl (0, (6, .inl (fun _ => 0))), .inl (0, (36, .inl (fun _ => 0))), .inl (0, (9, .inl (fun _ => 0))), .inl (0, (9, .inl (fun _ => 0))), .inl (0, (9, .inl (fun _ => 0))), .inl (0, (9, .inl (fun _ => 0))), .inr (0, [.int 0, .int 0, .int 0, .ref 20, .ref 21, .ref 22, .ref 23, .ref 24, .ref 25, .ref 26]), .inl (0, (6, .inl (fun _ => 0))), .inl (0, (6, .inl (fun _ => 0))), .inl (0, (36, .inl (fun _ => 0))), .inl (0, (9, .inl (fun _ => 0))), .inl (0, (9, .inl (fun _ => 0))), .inl (0, (9, .inl (fun _ => 0))), .inl (0, (9, .inl (fun _ => 0))), .inr (3, [.ref 28, .ref 29, .int 0, .int 0, .int 0]), .inl (0, (6, .inl (fun _ => 0))), .inl (0, (9, .inl (fun _ => 0))), .inr (1, [.ref 31, .ref 32, .ref 33, .ref 34, .ref 35, .int 0, .int 0, .int 0, .int 0]), .inl (0, (6, .inl (fun _ => 0))), .inl (0, (9, .inl (fun _ => 0))), .inl (0, (9, .inl (fun _ => 0))), .inl (0, (9, .inl (fun _ => 0))), .inl (0, (9, .inl (fun _ => 0))), .inr (5, [.ref 37, .ref 38, .ref 39, .int 0, .int 0]), .inl (0, (6, .inl (fun _ => 0))), .inl (0, (9, .inl (fun _ => 0))), .inl (1, (81, .inr (.inl (fun _ => 0)))), .inl (0, (6, .inl (fun _ => 0))), .inl (2, (4, .inr (.inr (.inr (.inr (va_up (va_up (va_up (va_up (fun _ => none) 0 (some 42)) 1 (some 44)) 2 (some 46)) 3 (some 48))))))), .inr (2, [.ref 43, .int (-1), .int 0]), .inl (0, (40, .inl (fun _ => 0))), .inr (2, [.ref 45, .int (-1), .int 0]), .inl (0, (40, .inl (fun _ => 0))), .inr (2, [.ref 47, .int (-1), .int 0]), .inl (0, (40, .inl (fun _ => 0))), .inr (2, [.ref 49, .int (-1), .int 0]), .inl (0, (40, .inl (fun _ => 0))), .inr (7, [.ref 51, .ref 52, .int 0, .ref 53, .ref 54, .int 0, .int 0, .ref 55, .int 0, .int 0, .ref 56, .int 0, .int 0, .int 0, .int 0, .ref 57, .ref 58, .int 0, .ref 59, .ref 60, .ref 61]), .inl (0, (87, .inl (fun _ => 0))), .inl (0, (87, .inl (fun _ => 0))), .inl (0, (9, .inl (fun _ => 0))), .inl (0, (6, .inl (fun _ => 0))), .inl (0, (9, .inl (fun _ => 0))), .inl (0, (40, .inl (fun _ => 0))), .inl (0, (25, .inl (upd (upd (upd (upd (upd (upd (upd (upd (upd (upd (upd (upd (upd (upd (upd (upd (upd (upd (upd (upd (upd (upd (upd (upd (upd (fun _ => 0) 0 (116)) 1 (101)) 2 (97)) 3 (109)) 4 (32)) 5 (115)) 6 (116)) 7 (97)) 8 (114)) 9 (116)) 10 (103)) 11 (97)) 12 (109)) 13 (101)) 14 (32)) 15 (119)) 16 (111)) 17 (110)) 18 (32)) 19 (32)) 20 (100)) 21 (114)) 22 (101)) 23 (119)) 24 (32)))), .inl (0, (486, .inl (fun _ => 0))), .inl (0, (4, .inl (upd (upd (upd (upd (fun _ => 0) 0 (-1)) 1 (-1)) 2 (-1)) 3 (-1)))), .inl (0, (4, .inl (fun _ => 0))), .inl (0, (160, .inl (fun _ => 0)))]) rfl ?_
  refine AW.keq (k1 := 62) (n1 := 1629) rfl rfl ?_
  refine aw_astore_n (L' := [(2, .ref 50), (1, .ref 0), (0, .ref 1030)]) dL_law_15 rfl (by decide) rfl ?_
  refine aw_iconst (v := 0) dL_law_16 (by decide) ?_
  refine aw_istore_n (L' := [(3, .int 0), (2, .ref 50), (1, .ref 0), (0, .ref 1030)]) dL_law_17 rfl (by decide) rfl ?_
  have e4 : a4 1030 = adr 1030 := (Agr.tr (N := 0) (by decide) A4 (Agr.tr (by decide) A3 (Agr.tr (by decide) A2 (Agr.tr (by decide) A1 Agr.rf)))) 1030 (Or.inr (by decide))
  have hz4 : LawX X a4 xs sl 62 1629 Qm q.1 := by
    unfold LawX at hz ⊢
    rw [e4]
    exact hz
  exact aw_sub [3, 2, 1, 0] rfl (c_L_law_18 hz4 600 (0, 50, 0) _ hf)
