/-! THE CLAIM OUT OF ONE WALK OF THE LAW'S BODY. Your part is whole_start (and what it stands on); all else here is the same for every law, but numbers. -/
def R_law : String := "StillInItLaw"
def lw_P (b : Addr) (xs : List Int32) (args : Array Value) (s : State) : Prop := args = #[.ref b] ∧ s.IntsAt b xs ∧ xs.length ≤ 7 ∧ (Jvm.Cond.and given_1 narrow_1).before args s = true
def lw_Q (_ : Array Value) (s : State) (o : Outcome) (t : State) : Prop := o = .returned (some (.int 1)) ∧ Framed s o t [] 600000 7302250
def lw_Z (below : List Frame) (a : Array Value) (s : State) : State → Prop := fun t => ∃ o, t.status = .running ∧ Ended t below o ∧ lw_Q a s o t
/-- the law's own end, with 1 on the stack, nothing written that was there before, its room as the claim has it -/
theorem lw_ret {p : Program} {l : Launch} {e : Env} {s : State} {m : MethodId} {below : List Frame} {meth : Method} {c : Code} {b : Nat} (hx : p.tables.exec = Jvm.exec) (hb : c.code = code) (hr : meth.sig.returnType = ret) (hlocks : meth.locks = false) {pc : Nat} {H : Heap} {ls : Array Slot} (hdg : decode code pc = .ok (.ireturn, 1)) : W p l e room_1 s m #[Value.ref b] below meth c H [] 600000 7302250 (lw_Z below #[Value.ref b] s) (F0 m pc ls [.int 1]) := by
  intro T hT X
  obtain ⟨fs, hret, hrun, hended, hW, hframe⟩ := X.leave (v := some (.int 1)) (hlocks := hlocks) (fun h => by rw [hr] at h; cases h)
  have hmeth' : T.vm.method? m = some meth := X.method'
  refine ⟨T.setFrames fs, ?_, .returned (some (.int 1)), hrun, hended, rfl, ⟨_, rfl⟩, hW, hframe⟩
  jvm_step X.here [X.here.top, hx, hb, hdg, hmeth', hr, ret, narrow_b1]
  (try refine ⟨rfl, ?_⟩); (try refine ⟨rfl, ?_⟩)
  first | (intro acts; rw [hret _ acts rfl rfl rfl]) | rw [hret _ _ rfl rfl rfl]
  exact Steps.refl _
/-- what holds at the law's entry: the machine, the code, the tables' words (any of lw_tbl by 'hts w (by decide +kernel)'), the script of L ints xs at the cell b, what the Statement gives of the start (any of its parts by flat_of_before) -/
def lw_At (p : Program) (s : State) (m : MethodId) (meth : Method) (c : Code) (b L : Nat) (xs : Nat → Int32) : Prop :=
  p.tables.exec = Jvm.exec ∧ c.code = code ∧ meth.sig.returnType = ret ∧ c.maxLocals = 4 ∧ s.vm.findClass R_law = some m.cls ∧ (∀ w ∈ lw_tbl, w.before #[Value.ref b] s = true) ∧ va_X b L xs s s.heap ∧ b < s.heap.size ∧ meth.locks = false ∧ (Jvm.Cond.and given_1 narrow_1).before #[Value.ref b] s = true

def sL (xs : Nat → Int32) (sl : Nat) (i : Int32) : Option Int32 := if i < 0 ∨ sl ≤ i.toNatClampNeg then none else some (xs i.toNatClampNeg)
/-- what is fixed while the law runs: its script, its room, what it must answer -/
def LawX (X : Cx) (adr : Nat → Nat) (xs : Nat → Int32) (sl kc ns : Nat) (Qm : State → Prop) (r : Int32) : Prop := match X with
  | (_, _, _, s, _, args, below, meth, _, G) => (kc ≤ 600000 ∧ ns ≤ 7302250) ∧ va_X (adr 1030) sl xs s s.heap ∧ adr 1030 < s.heap.size ∧ ¬ Aq G (adr 1030) ∧ r = 1 ∧ G.2.2 = s.heap.size ∧ meth.sig.returnType = ret ∧ args = #[Value.ref (adr 1030)] ∧ Qm = lw_Z below args s
section AWL
variable {X : Cx} {nL : Nat} {Qm : State → Prop} {k n : Nat} {adr : Nat → Nat} {h : Hp} {pc : Nat} {L : List (Nat × Value)} {st : List Value} {xs : Nat → Int32} {sl : Nat} {r : Int32}
theorem LawX.kn (hz : LawX X adr xs sl k n Qm r) : k ≤ room_1.cells ∧ n ≤ room_1.slots := by
  obtain ⟨p, l, e, s, m, args, below, meth, c, G⟩ := X
  exact hz.1
theorem LawX.one (hz : LawX X adr xs sl k n Qm r) : r = 1 := by
  obtain ⟨p, l, e, s, m, args, below, meth, c, G⟩ := X
  exact hz.2.2.2.2.1
theorem aw_sld {i x : Int32} (hz : LawX X adr xs sl k n Qm r) (hd : decode cL_law pc = .ok (.iaload, 1)) (hx : sL xs sl i = some x) (K : AW X cL_law nL RL room_1 Qm k n adr h (pc + 1) L (.int x :: st)) : AW X cL_law nL RL room_1 Qm k n adr h pc L (.int i :: .ref 1030 :: st) := by
  obtain ⟨p, l, e, s, m, args, below, meth, c, G⟩ := X
  intro F hk ls H locs hl hR hS
  obtain ⟨-, hX, hbl, hbA, -⟩ := hz
  unfold sL at hx
  split at hx
  · cases hx
  · rename_i hc
    cases hx
    exact va_sld F.1 F.2.1 hX hbl hbA hS hc hd (K F hk ls H locs hl hR hS)
theorem aw_slen (hz : LawX X adr xs sl k n Qm r) (hd : decode cL_law pc = .ok (.arraylength, 1)) (K : AW X cL_law nL RL room_1 Qm k n adr h (pc + 1) L (.int (Int32.ofNat sl) :: st)) : AW X cL_law nL RL room_1 Qm k n adr h pc L (.ref 1030 :: st) := by
  obtain ⟨p, l, e, s, m, args, below, meth, c, G⟩ := X
  intro F hk ls H locs hl hR hS
  obtain ⟨-, hX, hbl, hbA, -⟩ := hz
  exact va_slen F.1 F.2.1 hX hbl hbA hS hd (K F hk ls H locs hl hR hS)
theorem aw_lret {x : Int32} (hz : LawX X adr xs sl k n Qm x) (hd : decode cL_law pc = .ok (.ireturn, 1)) : AW X cL_law nL RL room_1 Qm k n adr h pc L [.int x] := by
  obtain ⟨p, l, e, s, m, args, below, meth, c, G⟩ := X
  intro F hk ls H locs hl hR hS
  obtain ⟨⟨h1, h2⟩, hX, hbl, hbA, h3, hG, hret, h4, h5⟩ := hz
  subst h3
  subst h4
  subst h5
  refine va_forget (fun q hq => ?_) ?_
  · have := hS.2.2 q hq
    unfold Aq at this
    rw [hG] at this
    exact this
  · refine W.widen (k := 600000) (n := 7302250) h1 h2 ?_
    exact lw_ret F.1 F.2.1 hret F.2.2.2.2.2 hd
end AWL

theorem dL_law_0 : decode cL_law 0 = .ok (.new 7, 3) := by decide +kernel
theorem dL_law_3 : decode cL_law 3 = .ok (.dup, 1) := by decide +kernel
theorem dL_law_4 : decode cL_law 4 = .ok (.invokespecial 9, 3) := by decide +kernel
theorem dL_law_7 : decode cL_law 7 = .ok (.astore_n 1, 1) := by decide +kernel
theorem dL_law_8 : decode cL_law 8 = .ok (.new 10, 3) := by decide +kernel
theorem dL_law_11 : decode cL_law 11 = .ok (.dup, 1) := by decide +kernel
theorem dL_law_12 : decode cL_law 12 = .ok (.invokespecial 12, 3) := by decide +kernel
theorem dL_law_15 : decode cL_law 15 = .ok (.astore_n 2, 1) := by decide +kernel
theorem dL_law_16 : decode cL_law 16 = .ok (.iconst 0, 1) := by decide +kernel
theorem dL_law_17 : decode cL_law 17 = .ok (.istore_n 3, 1) := by decide +kernel
theorem dL_law_18 : decode cL_law 18 = .ok (.iload_n 3, 1) := by decide +kernel
theorem dL_law_19 : decode cL_law 19 = .ok (.aload_n 0, 1) := by decide +kernel
theorem dL_law_20 : decode cL_law 20 = .ok (.arraylength, 1) := by decide +kernel
theorem dL_law_21 : decode cL_law 21 = .ok (.bipush 7, 2) := by decide +kernel
theorem dL_law_23 : decode cL_law 23 = .ok (.isub, 1) := by decide +kernel
theorem dL_law_24 : decode cL_law 24 = .ok (.if_icmp .gt 1109, 3) := by decide +kernel
theorem dL_law_27 : decode cL_law 27 = .ok (.aload_n 0, 1) := by decide +kernel
theorem dL_law_28 : decode cL_law 28 = .ok (.iload_n 3, 1) := by decide +kernel
theorem dL_law_29 : decode cL_law 29 = .ok (.iaload, 1) := by decide +kernel
theorem dL_law_30 : decode cL_law 30 = .ok (.bipush 31, 2) := by decide +kernel
theorem dL_law_32 : decode cL_law 32 = .ok (.iand, 1) := by decide +kernel
theorem dL_law_33 : decode cL_law 33 = .ok (.tableswitch 1094 0 30 #[139, 214, 227, 240, 263, 296, 319, 352, 385, 418, 441, 464, 477, 510, 543, 566, 599, 632, 665, 688, 701, 724, 777, 810, 843, 856, 869, 892, 935, 978, 1041], 139) := by decide +kernel
theorem dL_law_172 : decode cL_law 172 = .ok (.aload_n 1, 1) := by decide +kernel
theorem dL_law_173 : decode cL_law 173 = .ok (.aload_n 0, 1) := by decide +kernel
theorem dL_law_174 : decode cL_law 174 = .ok (.iload_n 3, 1) := by decide +kernel
theorem dL_law_175 : decode cL_law 175 = .ok (.iconst 1, 1) := by decide +kernel
theorem dL_law_176 : decode cL_law 176 = .ok (.iadd, 1) := by decide +kernel
theorem dL_law_177 : decode cL_law 177 = .ok (.iaload, 1) := by decide +kernel
theorem dL_law_178 : decode cL_law 178 = .ok (.aload_n 0, 1) := by decide +kernel
theorem dL_law_179 : decode cL_law 179 = .ok (.iload_n 3, 1) := by decide +kernel
theorem dL_law_180 : decode cL_law 180 = .ok (.iconst 2, 1) := by decide +kernel
theorem dL_law_181 : decode cL_law 181 = .ok (.iadd, 1) := by decide +kernel
theorem dL_law_182 : decode cL_law 182 = .ok (.iaload, 1) := by decide +kernel
theorem dL_law_183 : decode cL_law 183 = .ok (.aload_n 0, 1) := by decide +kernel
theorem dL_law_184 : decode cL_law 184 = .ok (.iload_n 3, 1) := by decide +kernel
theorem dL_law_185 : decode cL_law 185 = .ok (.iconst 3, 1) := by decide +kernel
theorem dL_law_186 : decode cL_law 186 = .ok (.iadd, 1) := by decide +kernel
theorem dL_law_187 : decode cL_law 187 = .ok (.iaload, 1) := by decide +kernel
theorem dL_law_188 : decode cL_law 188 = .ok (.aload_n 0, 1) := by decide +kernel
theorem dL_law_189 : decode cL_law 189 = .ok (.iload_n 3, 1) := by decide +kernel
theorem dL_law_190 : decode cL_law 190 = .ok (.iconst 4, 1) := by decide +kernel
theorem dL_law_191 : decode cL_law 191 = .ok (.iadd, 1) := by decide +kernel
theorem dL_law_192 : decode cL_law 192 = .ok (.iaload, 1) := by decide +kernel
theorem dL_law_193 : decode cL_law 193 = .ok (.aload_n 0, 1) := by decide +kernel
theorem dL_law_194 : decode cL_law 194 = .ok (.iload_n 3, 1) := by decide +kernel
theorem dL_law_195 : decode cL_law 195 = .ok (.iconst 5, 1) := by decide +kernel
theorem dL_law_196 : decode cL_law 196 = .ok (.iadd, 1) := by decide +kernel
theorem dL_law_197 : decode cL_law 197 = .ok (.iaload, 1) := by decide +kernel
theorem dL_law_198 : decode cL_law 198 = .ok (.aload_n 0, 1) := by decide +kernel
theorem dL_law_199 : decode cL_law 199 = .ok (.iload_n 3, 1) := by decide +kernel
theorem dL_law_200 : decode cL_law 200 = .ok (.bipush 6, 2) := by decide +kernel
theorem dL_law_202 : decode cL_law 202 = .ok (.iadd, 1) := by decide +kernel
theorem dL_law_203 : decode cL_law 203 = .ok (.iaload, 1) := by decide +kernel
theorem dL_law_204 : decode cL_law 204 = .ok (.invokevirtual 13, 3) := by decide +kernel
theorem dL_law_207 : decode cL_law 207 = .ok (.aload_n 2, 1) := by decide +kernel
theorem dL_law_208 : decode cL_law 208 = .ok (.aload_n 0, 1) := by decide +kernel
theorem dL_law_209 : decode cL_law 209 = .ok (.iload_n 3, 1) := by decide +kernel
theorem dL_law_210 : decode cL_law 210 = .ok (.iconst 1, 1) := by decide +kernel
theorem dL_law_211 : decode cL_law 211 = .ok (.iadd, 1) := by decide +kernel
theorem dL_law_212 : decode cL_law 212 = .ok (.iaload, 1) := by decide +kernel
theorem dL_law_213 : decode cL_law 213 = .ok (.aload_n 0, 1) := by decide +kernel
theorem dL_law_214 : decode cL_law 214 = .ok (.iload_n 3, 1) := by decide +kernel
theorem dL_law_215 : decode cL_law 215 = .ok (.iconst 2, 1) := by decide +kernel
theorem dL_law_216 : decode cL_law 216 = .ok (.iadd, 1) := by decide +kernel
theorem dL_law_217 : decode cL_law 217 = .ok (.iaload, 1) := by decide +kernel
theorem dL_law_218 : decode cL_law 218 = .ok (.aload_n 0, 1) := by decide +kernel
theorem dL_law_219 : decode cL_law 219 = .ok (.iload_n 3, 1) := by decide +kernel
theorem dL_law_220 : decode cL_law 220 = .ok (.iconst 3, 1) := by decide +kernel
theorem dL_law_221 : decode cL_law 221 = .ok (.iadd, 1) := by decide +kernel
theorem dL_law_222 : decode cL_law 222 = .ok (.iaload, 1) := by decide +kernel
theorem dL_law_223 : decode cL_law 223 = .ok (.aload_n 0, 1) := by decide +kernel
theorem dL_law_224 : decode cL_law 224 = .ok (.iload_n 3, 1) := by decide +kernel
theorem dL_law_225 : decode cL_law 225 = .ok (.iconst 4, 1) := by decide +kernel
theorem dL_law_226 : decode cL_law 226 = .ok (.iadd, 1) := by decide +kernel
theorem dL_law_227 : decode cL_law 227 = .ok (.iaload, 1) := by decide +kernel
theorem dL_law_228 : decode cL_law 228 = .ok (.aload_n 0, 1) := by decide +kernel
theorem dL_law_229 : decode cL_law 229 = .ok (.iload_n 3, 1) := by decide +kernel
theorem dL_law_230 : decode cL_law 230 = .ok (.iconst 5, 1) := by decide +kernel
theorem dL_law_231 : decode cL_law 231 = .ok (.iadd, 1) := by decide +kernel
theorem dL_law_232 : decode cL_law 232 = .ok (.iaload, 1) := by decide +kernel
theorem dL_law_233 : decode cL_law 233 = .ok (.aload_n 0, 1) := by decide +kernel
theorem dL_law_234 : decode cL_law 234 = .ok (.iload_n 3, 1) := by decide +kernel
theorem dL_law_235 : decode cL_law 235 = .ok (.bipush 6, 2) := by decide +kernel
theorem dL_law_237 : decode cL_law 237 = .ok (.iadd, 1) := by decide +kernel
theorem dL_law_238 : decode cL_law 238 = .ok (.iaload, 1) := by decide +kernel
theorem dL_law_239 : decode cL_law 239 = .ok (.invokevirtual 17, 3) := by decide +kernel
theorem dL_law_242 : decode cL_law 242 = .ok (.if_icmp .eq 885, 3) := by decide +kernel
theorem dL_law_245 : decode cL_law 245 = .ok (.iconst 0, 1) := by decide +kernel
theorem dL_law_246 : decode cL_law 246 = .ok (.ireturn, 1) := by decide +kernel
theorem dL_law_247 : decode cL_law 247 = .ok (.aload_n 1, 1) := by decide +kernel
theorem dL_law_248 : decode cL_law 248 = .ok (.invokevirtual 18, 3) := by decide +kernel
theorem dL_law_251 : decode cL_law 251 = .ok (.aload_n 2, 1) := by decide +kernel
theorem dL_law_252 : decode cL_law 252 = .ok (.invokevirtual 22, 3) := by decide +kernel
theorem dL_law_255 : decode cL_law 255 = .ok (.if_icmp .eq 872, 3) := by decide +kernel
theorem dL_law_258 : decode cL_law 258 = .ok (.iconst 0, 1) := by decide +kernel
theorem dL_law_259 : decode cL_law 259 = .ok (.ireturn, 1) := by decide +kernel
theorem dL_law_260 : decode cL_law 260 = .ok (.aload_n 1, 1) := by decide +kernel
theorem dL_law_261 : decode cL_law 261 = .ok (.invokevirtual 23, 3) := by decide +kernel
theorem dL_law_264 : decode cL_law 264 = .ok (.aload_n 2, 1) := by decide +kernel
theorem dL_law_265 : decode cL_law 265 = .ok (.invokevirtual 26, 3) := by decide +kernel
theorem dL_law_268 : decode cL_law 268 = .ok (.if_icmp .eq 859, 3) := by decide +kernel
theorem dL_law_271 : decode cL_law 271 = .ok (.iconst 0, 1) := by decide +kernel
theorem dL_law_272 : decode cL_law 272 = .ok (.ireturn, 1) := by decide +kernel
theorem dL_law_273 : decode cL_law 273 = .ok (.aload_n 1, 1) := by decide +kernel
theorem dL_law_274 : decode cL_law 274 = .ok (.aload_n 0, 1) := by decide +kernel
theorem dL_law_275 : decode cL_law 275 = .ok (.iload_n 3, 1) := by decide +kernel
theorem dL_law_276 : decode cL_law 276 = .ok (.iconst 1, 1) := by decide +kernel
theorem dL_law_277 : decode cL_law 277 = .ok (.iadd, 1) := by decide +kernel
theorem dL_law_278 : decode cL_law 278 = .ok (.iaload, 1) := by decide +kernel
theorem dL_law_279 : decode cL_law 279 = .ok (.invokevirtual 27, 3) := by decide +kernel
theorem dL_law_282 : decode cL_law 282 = .ok (.aload_n 2, 1) := by decide +kernel
theorem dL_law_283 : decode cL_law 283 = .ok (.aload_n 0, 1) := by decide +kernel
theorem dL_law_284 : decode cL_law 284 = .ok (.iload_n 3, 1) := by decide +kernel
theorem dL_law_285 : decode cL_law 285 = .ok (.iconst 1, 1) := by decide +kernel
theorem dL_law_286 : decode cL_law 286 = .ok (.iadd, 1) := by decide +kernel
theorem dL_law_287 : decode cL_law 287 = .ok (.iaload, 1) := by decide +kernel
theorem dL_law_288 : decode cL_law 288 = .ok (.invokevirtual 31, 3) := by decide +kernel
theorem dL_law_291 : decode cL_law 291 = .ok (.if_icmp .eq 836, 3) := by decide +kernel
theorem dL_law_294 : decode cL_law 294 = .ok (.iconst 0, 1) := by decide +kernel
theorem dL_law_295 : decode cL_law 295 = .ok (.ireturn, 1) := by decide +kernel
theorem dL_law_296 : decode cL_law 296 = .ok (.aload_n 1, 1) := by decide +kernel
theorem dL_law_297 : decode cL_law 297 = .ok (.aload_n 0, 1) := by decide +kernel
theorem dL_law_298 : decode cL_law 298 = .ok (.iload_n 3, 1) := by decide +kernel
theorem dL_law_299 : decode cL_law 299 = .ok (.iconst 1, 1) := by decide +kernel
theorem dL_law_300 : decode cL_law 300 = .ok (.iadd, 1) := by decide +kernel
theorem dL_law_301 : decode cL_law 301 = .ok (.iaload, 1) := by decide +kernel
theorem dL_law_302 : decode cL_law 302 = .ok (.aload_n 0, 1) := by decide +kernel
theorem dL_law_303 : decode cL_law 303 = .ok (.iload_n 3, 1) := by decide +kernel
theorem dL_law_304 : decode cL_law 304 = .ok (.iconst 2, 1) := by decide +kernel
theorem dL_law_305 : decode cL_law 305 = .ok (.iadd, 1) := by decide +kernel
theorem dL_law_306 : decode cL_law 306 = .ok (.iaload, 1) := by decide +kernel
theorem dL_law_307 : decode cL_law 307 = .ok (.invokevirtual 32, 3) := by decide +kernel
theorem dL_law_310 : decode cL_law 310 = .ok (.aload_n 2, 1) := by decide +kernel
theorem dL_law_311 : decode cL_law 311 = .ok (.aload_n 0, 1) := by decide +kernel
theorem dL_law_312 : decode cL_law 312 = .ok (.iload_n 3, 1) := by decide +kernel
theorem dL_law_313 : decode cL_law 313 = .ok (.iconst 1, 1) := by decide +kernel
theorem dL_law_314 : decode cL_law 314 = .ok (.iadd, 1) := by decide +kernel
theorem dL_law_315 : decode cL_law 315 = .ok (.iaload, 1) := by decide +kernel
theorem dL_law_316 : decode cL_law 316 = .ok (.aload_n 0, 1) := by decide +kernel
theorem dL_law_317 : decode cL_law 317 = .ok (.iload_n 3, 1) := by decide +kernel
theorem dL_law_318 : decode cL_law 318 = .ok (.iconst 2, 1) := by decide +kernel
theorem dL_law_319 : decode cL_law 319 = .ok (.iadd, 1) := by decide +kernel
theorem dL_law_320 : decode cL_law 320 = .ok (.iaload, 1) := by decide +kernel
theorem dL_law_321 : decode cL_law 321 = .ok (.invokevirtual 36, 3) := by decide +kernel
theorem dL_law_324 : decode cL_law 324 = .ok (.if_icmp .eq 803, 3) := by decide +kernel
theorem dL_law_327 : decode cL_law 327 = .ok (.iconst 0, 1) := by decide +kernel
theorem dL_law_328 : decode cL_law 328 = .ok (.ireturn, 1) := by decide +kernel
theorem dL_law_329 : decode cL_law 329 = .ok (.aload_n 1, 1) := by decide +kernel
theorem dL_law_330 : decode cL_law 330 = .ok (.aload_n 0, 1) := by decide +kernel
theorem dL_law_331 : decode cL_law 331 = .ok (.iload_n 3, 1) := by decide +kernel
theorem dL_law_332 : decode cL_law 332 = .ok (.iconst 1, 1) := by decide +kernel
theorem dL_law_333 : decode cL_law 333 = .ok (.iadd, 1) := by decide +kernel
theorem dL_law_334 : decode cL_law 334 = .ok (.iaload, 1) := by decide +kernel
theorem dL_law_335 : decode cL_law 335 = .ok (.invokevirtual 37, 3) := by decide +kernel
theorem dL_law_338 : decode cL_law 338 = .ok (.aload_n 2, 1) := by decide +kernel
theorem dL_law_339 : decode cL_law 339 = .ok (.aload_n 0, 1) := by decide +kernel
theorem dL_law_340 : decode cL_law 340 = .ok (.iload_n 3, 1) := by decide +kernel
theorem dL_law_341 : decode cL_law 341 = .ok (.iconst 1, 1) := by decide +kernel
theorem dL_law_342 : decode cL_law 342 = .ok (.iadd, 1) := by decide +kernel
theorem dL_law_343 : decode cL_law 343 = .ok (.iaload, 1) := by decide +kernel
theorem dL_law_344 : decode cL_law 344 = .ok (.invokevirtual 40, 3) := by decide +kernel
theorem dL_law_347 : decode cL_law 347 = .ok (.if_icmp .eq 780, 3) := by decide +kernel
theorem dL_law_350 : decode cL_law 350 = .ok (.iconst 0, 1) := by decide +kernel
theorem dL_law_351 : decode cL_law 351 = .ok (.ireturn, 1) := by decide +kernel
theorem dL_law_352 : decode cL_law 352 = .ok (.aload_n 1, 1) := by decide +kernel
theorem dL_law_353 : decode cL_law 353 = .ok (.aload_n 0, 1) := by decide +kernel
theorem dL_law_354 : decode cL_law 354 = .ok (.iload_n 3, 1) := by decide +kernel
theorem dL_law_355 : decode cL_law 355 = .ok (.iconst 1, 1) := by decide +kernel
theorem dL_law_356 : decode cL_law 356 = .ok (.iadd, 1) := by decide +kernel
theorem dL_law_357 : decode cL_law 357 = .ok (.iaload, 1) := by decide +kernel
theorem dL_law_358 : decode cL_law 358 = .ok (.aload_n 0, 1) := by decide +kernel
theorem dL_law_359 : decode cL_law 359 = .ok (.iload_n 3, 1) := by decide +kernel
theorem dL_law_360 : decode cL_law 360 = .ok (.iconst 2, 1) := by decide +kernel
theorem dL_law_361 : decode cL_law 361 = .ok (.iadd, 1) := by decide +kernel
theorem dL_law_362 : decode cL_law 362 = .ok (.iaload, 1) := by decide +kernel
theorem dL_law_363 : decode cL_law 363 = .ok (.invokevirtual 41, 3) := by decide +kernel
theorem dL_law_366 : decode cL_law 366 = .ok (.aload_n 2, 1) := by decide +kernel
theorem dL_law_367 : decode cL_law 367 = .ok (.aload_n 0, 1) := by decide +kernel
theorem dL_law_368 : decode cL_law 368 = .ok (.iload_n 3, 1) := by decide +kernel
theorem dL_law_369 : decode cL_law 369 = .ok (.iconst 1, 1) := by decide +kernel
theorem dL_law_370 : decode cL_law 370 = .ok (.iadd, 1) := by decide +kernel
theorem dL_law_371 : decode cL_law 371 = .ok (.iaload, 1) := by decide +kernel
theorem dL_law_372 : decode cL_law 372 = .ok (.aload_n 0, 1) := by decide +kernel
theorem dL_law_373 : decode cL_law 373 = .ok (.iload_n 3, 1) := by decide +kernel
theorem dL_law_374 : decode cL_law 374 = .ok (.iconst 2, 1) := by decide +kernel
theorem dL_law_375 : decode cL_law 375 = .ok (.iadd, 1) := by decide +kernel
theorem dL_law_376 : decode cL_law 376 = .ok (.iaload, 1) := by decide +kernel
theorem dL_law_377 : decode cL_law 377 = .ok (.invokevirtual 44, 3) := by decide +kernel
theorem dL_law_380 : decode cL_law 380 = .ok (.if_icmp .eq 747, 3) := by decide +kernel
theorem dL_law_383 : decode cL_law 383 = .ok (.iconst 0, 1) := by decide +kernel
theorem dL_law_384 : decode cL_law 384 = .ok (.ireturn, 1) := by decide +kernel
theorem dL_law_385 : decode cL_law 385 = .ok (.aload_n 1, 1) := by decide +kernel
theorem dL_law_386 : decode cL_law 386 = .ok (.aload_n 0, 1) := by decide +kernel
theorem dL_law_387 : decode cL_law 387 = .ok (.iload_n 3, 1) := by decide +kernel
theorem dL_law_388 : decode cL_law 388 = .ok (.iconst 1, 1) := by decide +kernel
theorem dL_law_389 : decode cL_law 389 = .ok (.iadd, 1) := by decide +kernel
theorem dL_law_390 : decode cL_law 390 = .ok (.iaload, 1) := by decide +kernel
theorem dL_law_391 : decode cL_law 391 = .ok (.aload_n 0, 1) := by decide +kernel
theorem dL_law_392 : decode cL_law 392 = .ok (.iload_n 3, 1) := by decide +kernel
theorem dL_law_393 : decode cL_law 393 = .ok (.iconst 2, 1) := by decide +kernel
theorem dL_law_394 : decode cL_law 394 = .ok (.iadd, 1) := by decide +kernel
theorem dL_law_395 : decode cL_law 395 = .ok (.iaload, 1) := by decide +kernel
theorem dL_law_396 : decode cL_law 396 = .ok (.invokevirtual 45, 3) := by decide +kernel
theorem dL_law_399 : decode cL_law 399 = .ok (.aload_n 2, 1) := by decide +kernel
theorem dL_law_400 : decode cL_law 400 = .ok (.aload_n 0, 1) := by decide +kernel
theorem dL_law_401 : decode cL_law 401 = .ok (.iload_n 3, 1) := by decide +kernel
theorem dL_law_402 : decode cL_law 402 = .ok (.iconst 1, 1) := by decide +kernel
theorem dL_law_403 : decode cL_law 403 = .ok (.iadd, 1) := by decide +kernel
theorem dL_law_404 : decode cL_law 404 = .ok (.iaload, 1) := by decide +kernel
theorem dL_law_405 : decode cL_law 405 = .ok (.aload_n 0, 1) := by decide +kernel
theorem dL_law_406 : decode cL_law 406 = .ok (.iload_n 3, 1) := by decide +kernel
theorem dL_law_407 : decode cL_law 407 = .ok (.iconst 2, 1) := by decide +kernel
theorem dL_law_408 : decode cL_law 408 = .ok (.iadd, 1) := by decide +kernel
theorem dL_law_409 : decode cL_law 409 = .ok (.iaload, 1) := by decide +kernel
theorem dL_law_410 : decode cL_law 410 = .ok (.invokevirtual 48, 3) := by decide +kernel
theorem dL_law_413 : decode cL_law 413 = .ok (.if_icmp .eq 714, 3) := by decide +kernel
theorem dL_law_416 : decode cL_law 416 = .ok (.iconst 0, 1) := by decide +kernel
theorem dL_law_417 : decode cL_law 417 = .ok (.ireturn, 1) := by decide +kernel
theorem dL_law_418 : decode cL_law 418 = .ok (.aload_n 1, 1) := by decide +kernel
theorem dL_law_419 : decode cL_law 419 = .ok (.aload_n 0, 1) := by decide +kernel
theorem dL_law_420 : decode cL_law 420 = .ok (.iload_n 3, 1) := by decide +kernel
theorem dL_law_421 : decode cL_law 421 = .ok (.iconst 1, 1) := by decide +kernel
theorem dL_law_422 : decode cL_law 422 = .ok (.iadd, 1) := by decide +kernel
theorem dL_law_423 : decode cL_law 423 = .ok (.iaload, 1) := by decide +kernel
theorem dL_law_424 : decode cL_law 424 = .ok (.aload_n 0, 1) := by decide +kernel
theorem dL_law_425 : decode cL_law 425 = .ok (.iload_n 3, 1) := by decide +kernel
theorem dL_law_426 : decode cL_law 426 = .ok (.iconst 2, 1) := by decide +kernel
theorem dL_law_427 : decode cL_law 427 = .ok (.iadd, 1) := by decide +kernel
theorem dL_law_428 : decode cL_law 428 = .ok (.iaload, 1) := by decide +kernel
theorem dL_law_429 : decode cL_law 429 = .ok (.invokevirtual 49, 3) := by decide +kernel
theorem dL_law_432 : decode cL_law 432 = .ok (.aload_n 2, 1) := by decide +kernel
theorem dL_law_433 : decode cL_law 433 = .ok (.aload_n 0, 1) := by decide +kernel
theorem dL_law_434 : decode cL_law 434 = .ok (.iload_n 3, 1) := by decide +kernel
theorem dL_law_435 : decode cL_law 435 = .ok (.iconst 1, 1) := by decide +kernel
theorem dL_law_436 : decode cL_law 436 = .ok (.iadd, 1) := by decide +kernel
theorem dL_law_437 : decode cL_law 437 = .ok (.iaload, 1) := by decide +kernel
theorem dL_law_438 : decode cL_law 438 = .ok (.aload_n 0, 1) := by decide +kernel
theorem dL_law_439 : decode cL_law 439 = .ok (.iload_n 3, 1) := by decide +kernel
theorem dL_law_440 : decode cL_law 440 = .ok (.iconst 2, 1) := by decide +kernel
theorem dL_law_441 : decode cL_law 441 = .ok (.iadd, 1) := by decide +kernel
theorem dL_law_442 : decode cL_law 442 = .ok (.iaload, 1) := by decide +kernel
theorem dL_law_443 : decode cL_law 443 = .ok (.invokevirtual 52, 3) := by decide +kernel
theorem dL_law_446 : decode cL_law 446 = .ok (.if_icmp .eq 681, 3) := by decide +kernel
theorem dL_law_449 : decode cL_law 449 = .ok (.iconst 0, 1) := by decide +kernel
theorem dL_law_450 : decode cL_law 450 = .ok (.ireturn, 1) := by decide +kernel
theorem dL_law_451 : decode cL_law 451 = .ok (.aload_n 1, 1) := by decide +kernel
theorem dL_law_452 : decode cL_law 452 = .ok (.aload_n 0, 1) := by decide +kernel
theorem dL_law_453 : decode cL_law 453 = .ok (.iload_n 3, 1) := by decide +kernel
theorem dL_law_454 : decode cL_law 454 = .ok (.iconst 1, 1) := by decide +kernel
theorem dL_law_455 : decode cL_law 455 = .ok (.iadd, 1) := by decide +kernel
theorem dL_law_456 : decode cL_law 456 = .ok (.iaload, 1) := by decide +kernel
theorem dL_law_457 : decode cL_law 457 = .ok (.invokevirtual 53, 3) := by decide +kernel
theorem dL_law_460 : decode cL_law 460 = .ok (.aload_n 2, 1) := by decide +kernel
theorem dL_law_461 : decode cL_law 461 = .ok (.aload_n 0, 1) := by decide +kernel
theorem dL_law_462 : decode cL_law 462 = .ok (.iload_n 3, 1) := by decide +kernel
theorem dL_law_463 : decode cL_law 463 = .ok (.iconst 1, 1) := by decide +kernel
theorem dL_law_464 : decode cL_law 464 = .ok (.iadd, 1) := by decide +kernel
theorem dL_law_465 : decode cL_law 465 = .ok (.iaload, 1) := by decide +kernel
theorem dL_law_466 : decode cL_law 466 = .ok (.invokevirtual 56, 3) := by decide +kernel
theorem dL_law_469 : decode cL_law 469 = .ok (.if_icmp .eq 658, 3) := by decide +kernel
theorem dL_law_472 : decode cL_law 472 = .ok (.iconst 0, 1) := by decide +kernel
theorem dL_law_473 : decode cL_law 473 = .ok (.ireturn, 1) := by decide +kernel
theorem dL_law_474 : decode cL_law 474 = .ok (.aload_n 1, 1) := by decide +kernel
theorem dL_law_475 : decode cL_law 475 = .ok (.aload_n 0, 1) := by decide +kernel
theorem dL_law_476 : decode cL_law 476 = .ok (.iload_n 3, 1) := by decide +kernel
theorem dL_law_477 : decode cL_law 477 = .ok (.iconst 1, 1) := by decide +kernel
theorem dL_law_478 : decode cL_law 478 = .ok (.iadd, 1) := by decide +kernel
theorem dL_law_479 : decode cL_law 479 = .ok (.iaload, 1) := by decide +kernel
theorem dL_law_480 : decode cL_law 480 = .ok (.invokevirtual 57, 3) := by decide +kernel
theorem dL_law_483 : decode cL_law 483 = .ok (.aload_n 2, 1) := by decide +kernel
theorem dL_law_484 : decode cL_law 484 = .ok (.aload_n 0, 1) := by decide +kernel
theorem dL_law_485 : decode cL_law 485 = .ok (.iload_n 3, 1) := by decide +kernel
theorem dL_law_486 : decode cL_law 486 = .ok (.iconst 1, 1) := by decide +kernel
theorem dL_law_487 : decode cL_law 487 = .ok (.iadd, 1) := by decide +kernel
theorem dL_law_488 : decode cL_law 488 = .ok (.iaload, 1) := by decide +kernel
theorem dL_law_489 : decode cL_law 489 = .ok (.invokevirtual 60, 3) := by decide +kernel
theorem dL_law_492 : decode cL_law 492 = .ok (.if_icmp .eq 635, 3) := by decide +kernel
theorem dL_law_495 : decode cL_law 495 = .ok (.iconst 0, 1) := by decide +kernel
theorem dL_law_496 : decode cL_law 496 = .ok (.ireturn, 1) := by decide +kernel
theorem dL_law_497 : decode cL_law 497 = .ok (.aload_n 1, 1) := by decide +kernel
theorem dL_law_498 : decode cL_law 498 = .ok (.invokevirtual 61, 3) := by decide +kernel
theorem dL_law_501 : decode cL_law 501 = .ok (.aload_n 2, 1) := by decide +kernel
theorem dL_law_502 : decode cL_law 502 = .ok (.invokevirtual 64, 3) := by decide +kernel
theorem dL_law_505 : decode cL_law 505 = .ok (.if_icmp .eq 622, 3) := by decide +kernel
theorem dL_law_508 : decode cL_law 508 = .ok (.iconst 0, 1) := by decide +kernel
theorem dL_law_509 : decode cL_law 509 = .ok (.ireturn, 1) := by decide +kernel
theorem dL_law_510 : decode cL_law 510 = .ok (.aload_n 1, 1) := by decide +kernel
theorem dL_law_511 : decode cL_law 511 = .ok (.aload_n 0, 1) := by decide +kernel
theorem dL_law_512 : decode cL_law 512 = .ok (.iload_n 3, 1) := by decide +kernel
theorem dL_law_513 : decode cL_law 513 = .ok (.iconst 1, 1) := by decide +kernel
theorem dL_law_514 : decode cL_law 514 = .ok (.iadd, 1) := by decide +kernel
theorem dL_law_515 : decode cL_law 515 = .ok (.iaload, 1) := by decide +kernel
theorem dL_law_516 : decode cL_law 516 = .ok (.aload_n 0, 1) := by decide +kernel
theorem dL_law_517 : decode cL_law 517 = .ok (.iload_n 3, 1) := by decide +kernel
theorem dL_law_518 : decode cL_law 518 = .ok (.iconst 2, 1) := by decide +kernel
theorem dL_law_519 : decode cL_law 519 = .ok (.iadd, 1) := by decide +kernel
theorem dL_law_520 : decode cL_law 520 = .ok (.iaload, 1) := by decide +kernel
theorem dL_law_521 : decode cL_law 521 = .ok (.invokevirtual 65, 3) := by decide +kernel
theorem dL_law_524 : decode cL_law 524 = .ok (.aload_n 2, 1) := by decide +kernel
theorem dL_law_525 : decode cL_law 525 = .ok (.aload_n 0, 1) := by decide +kernel
theorem dL_law_526 : decode cL_law 526 = .ok (.iload_n 3, 1) := by decide +kernel
theorem dL_law_527 : decode cL_law 527 = .ok (.iconst 1, 1) := by decide +kernel
theorem dL_law_528 : decode cL_law 528 = .ok (.iadd, 1) := by decide +kernel
theorem dL_law_529 : decode cL_law 529 = .ok (.iaload, 1) := by decide +kernel
theorem dL_law_530 : decode cL_law 530 = .ok (.aload_n 0, 1) := by decide +kernel
theorem dL_law_531 : decode cL_law 531 = .ok (.iload_n 3, 1) := by decide +kernel
theorem dL_law_532 : decode cL_law 532 = .ok (.iconst 2, 1) := by decide +kernel
theorem dL_law_533 : decode cL_law 533 = .ok (.iadd, 1) := by decide +kernel
theorem dL_law_534 : decode cL_law 534 = .ok (.iaload, 1) := by decide +kernel
theorem dL_law_535 : decode cL_law 535 = .ok (.invokevirtual 68, 3) := by decide +kernel
theorem dL_law_538 : decode cL_law 538 = .ok (.if_icmp .eq 589, 3) := by decide +kernel
theorem dL_law_541 : decode cL_law 541 = .ok (.iconst 0, 1) := by decide +kernel
theorem dL_law_542 : decode cL_law 542 = .ok (.ireturn, 1) := by decide +kernel
theorem dL_law_543 : decode cL_law 543 = .ok (.aload_n 1, 1) := by decide +kernel
theorem dL_law_544 : decode cL_law 544 = .ok (.aload_n 0, 1) := by decide +kernel
theorem dL_law_545 : decode cL_law 545 = .ok (.iload_n 3, 1) := by decide +kernel
theorem dL_law_546 : decode cL_law 546 = .ok (.iconst 1, 1) := by decide +kernel
theorem dL_law_547 : decode cL_law 547 = .ok (.iadd, 1) := by decide +kernel
theorem dL_law_548 : decode cL_law 548 = .ok (.iaload, 1) := by decide +kernel
theorem dL_law_549 : decode cL_law 549 = .ok (.aload_n 0, 1) := by decide +kernel
theorem dL_law_550 : decode cL_law 550 = .ok (.iload_n 3, 1) := by decide +kernel
theorem dL_law_551 : decode cL_law 551 = .ok (.iconst 2, 1) := by decide +kernel
theorem dL_law_552 : decode cL_law 552 = .ok (.iadd, 1) := by decide +kernel
theorem dL_law_553 : decode cL_law 553 = .ok (.iaload, 1) := by decide +kernel
theorem dL_law_554 : decode cL_law 554 = .ok (.invokevirtual 69, 3) := by decide +kernel
theorem dL_law_557 : decode cL_law 557 = .ok (.aload_n 2, 1) := by decide +kernel
theorem dL_law_558 : decode cL_law 558 = .ok (.aload_n 0, 1) := by decide +kernel
theorem dL_law_559 : decode cL_law 559 = .ok (.iload_n 3, 1) := by decide +kernel
theorem dL_law_560 : decode cL_law 560 = .ok (.iconst 1, 1) := by decide +kernel
theorem dL_law_561 : decode cL_law 561 = .ok (.iadd, 1) := by decide +kernel
theorem dL_law_562 : decode cL_law 562 = .ok (.iaload, 1) := by decide +kernel
theorem dL_law_563 : decode cL_law 563 = .ok (.aload_n 0, 1) := by decide +kernel
theorem dL_law_564 : decode cL_law 564 = .ok (.iload_n 3, 1) := by decide +kernel
theorem dL_law_565 : decode cL_law 565 = .ok (.iconst 2, 1) := by decide +kernel
theorem dL_law_566 : decode cL_law 566 = .ok (.iadd, 1) := by decide +kernel
theorem dL_law_567 : decode cL_law 567 = .ok (.iaload, 1) := by decide +kernel
theorem dL_law_568 : decode cL_law 568 = .ok (.invokevirtual 72, 3) := by decide +kernel
theorem dL_law_571 : decode cL_law 571 = .ok (.if_icmp .eq 556, 3) := by decide +kernel
theorem dL_law_574 : decode cL_law 574 = .ok (.iconst 0, 1) := by decide +kernel
theorem dL_law_575 : decode cL_law 575 = .ok (.ireturn, 1) := by decide +kernel
theorem dL_law_576 : decode cL_law 576 = .ok (.aload_n 1, 1) := by decide +kernel
theorem dL_law_577 : decode cL_law 577 = .ok (.aload_n 0, 1) := by decide +kernel
theorem dL_law_578 : decode cL_law 578 = .ok (.iload_n 3, 1) := by decide +kernel
theorem dL_law_579 : decode cL_law 579 = .ok (.iconst 1, 1) := by decide +kernel
theorem dL_law_580 : decode cL_law 580 = .ok (.iadd, 1) := by decide +kernel
theorem dL_law_581 : decode cL_law 581 = .ok (.iaload, 1) := by decide +kernel
theorem dL_law_582 : decode cL_law 582 = .ok (.invokevirtual 73, 3) := by decide +kernel
theorem dL_law_585 : decode cL_law 585 = .ok (.aload_n 2, 1) := by decide +kernel
theorem dL_law_586 : decode cL_law 586 = .ok (.aload_n 0, 1) := by decide +kernel
theorem dL_law_587 : decode cL_law 587 = .ok (.iload_n 3, 1) := by decide +kernel
theorem dL_law_588 : decode cL_law 588 = .ok (.iconst 1, 1) := by decide +kernel
theorem dL_law_589 : decode cL_law 589 = .ok (.iadd, 1) := by decide +kernel
theorem dL_law_590 : decode cL_law 590 = .ok (.iaload, 1) := by decide +kernel
theorem dL_law_591 : decode cL_law 591 = .ok (.invokevirtual 76, 3) := by decide +kernel
theorem dL_law_594 : decode cL_law 594 = .ok (.if_icmp .eq 533, 3) := by decide +kernel
theorem dL_law_597 : decode cL_law 597 = .ok (.iconst 0, 1) := by decide +kernel
theorem dL_law_598 : decode cL_law 598 = .ok (.ireturn, 1) := by decide +kernel
theorem dL_law_599 : decode cL_law 599 = .ok (.aload_n 1, 1) := by decide +kernel
theorem dL_law_600 : decode cL_law 600 = .ok (.aload_n 0, 1) := by decide +kernel
theorem dL_law_601 : decode cL_law 601 = .ok (.iload_n 3, 1) := by decide +kernel
theorem dL_law_602 : decode cL_law 602 = .ok (.iconst 1, 1) := by decide +kernel
theorem dL_law_603 : decode cL_law 603 = .ok (.iadd, 1) := by decide +kernel
theorem dL_law_604 : decode cL_law 604 = .ok (.iaload, 1) := by decide +kernel
theorem dL_law_605 : decode cL_law 605 = .ok (.aload_n 0, 1) := by decide +kernel
theorem dL_law_606 : decode cL_law 606 = .ok (.iload_n 3, 1) := by decide +kernel
theorem dL_law_607 : decode cL_law 607 = .ok (.iconst 2, 1) := by decide +kernel
theorem dL_law_608 : decode cL_law 608 = .ok (.iadd, 1) := by decide +kernel
theorem dL_law_609 : decode cL_law 609 = .ok (.iaload, 1) := by decide +kernel
theorem dL_law_610 : decode cL_law 610 = .ok (.invokevirtual 77, 3) := by decide +kernel
theorem dL_law_613 : decode cL_law 613 = .ok (.aload_n 2, 1) := by decide +kernel
theorem dL_law_614 : decode cL_law 614 = .ok (.aload_n 0, 1) := by decide +kernel
theorem dL_law_615 : decode cL_law 615 = .ok (.iload_n 3, 1) := by decide +kernel
theorem dL_law_616 : decode cL_law 616 = .ok (.iconst 1, 1) := by decide +kernel
theorem dL_law_617 : decode cL_law 617 = .ok (.iadd, 1) := by decide +kernel
theorem dL_law_618 : decode cL_law 618 = .ok (.iaload, 1) := by decide +kernel
theorem dL_law_619 : decode cL_law 619 = .ok (.aload_n 0, 1) := by decide +kernel
theorem dL_law_620 : decode cL_law 620 = .ok (.iload_n 3, 1) := by decide +kernel
theorem dL_law_621 : decode cL_law 621 = .ok (.iconst 2, 1) := by decide +kernel
theorem dL_law_622 : decode cL_law 622 = .ok (.iadd, 1) := by decide +kernel
theorem dL_law_623 : decode cL_law 623 = .ok (.iaload, 1) := by decide +kernel
theorem dL_law_624 : decode cL_law 624 = .ok (.invokevirtual 80, 3) := by decide +kernel
theorem dL_law_627 : decode cL_law 627 = .ok (.if_icmp .eq 500, 3) := by decide +kernel
theorem dL_law_630 : decode cL_law 630 = .ok (.iconst 0, 1) := by decide +kernel
theorem dL_law_631 : decode cL_law 631 = .ok (.ireturn, 1) := by decide +kernel
theorem dL_law_632 : decode cL_law 632 = .ok (.aload_n 1, 1) := by decide +kernel
theorem dL_law_633 : decode cL_law 633 = .ok (.aload_n 0, 1) := by decide +kernel
theorem dL_law_634 : decode cL_law 634 = .ok (.iload_n 3, 1) := by decide +kernel
theorem dL_law_635 : decode cL_law 635 = .ok (.iconst 1, 1) := by decide +kernel
theorem dL_law_636 : decode cL_law 636 = .ok (.iadd, 1) := by decide +kernel
theorem dL_law_637 : decode cL_law 637 = .ok (.iaload, 1) := by decide +kernel
theorem dL_law_638 : decode cL_law 638 = .ok (.aload_n 0, 1) := by decide +kernel
theorem dL_law_639 : decode cL_law 639 = .ok (.iload_n 3, 1) := by decide +kernel
theorem dL_law_640 : decode cL_law 640 = .ok (.iconst 2, 1) := by decide +kernel
theorem dL_law_641 : decode cL_law 641 = .ok (.iadd, 1) := by decide +kernel
theorem dL_law_642 : decode cL_law 642 = .ok (.iaload, 1) := by decide +kernel
theorem dL_law_643 : decode cL_law 643 = .ok (.invokevirtual 81, 3) := by decide +kernel
theorem dL_law_646 : decode cL_law 646 = .ok (.aload_n 2, 1) := by decide +kernel
theorem dL_law_647 : decode cL_law 647 = .ok (.aload_n 0, 1) := by decide +kernel
theorem dL_law_648 : decode cL_law 648 = .ok (.iload_n 3, 1) := by decide +kernel
theorem dL_law_649 : decode cL_law 649 = .ok (.iconst 1, 1) := by decide +kernel
theorem dL_law_650 : decode cL_law 650 = .ok (.iadd, 1) := by decide +kernel
theorem dL_law_651 : decode cL_law 651 = .ok (.iaload, 1) := by decide +kernel
theorem dL_law_652 : decode cL_law 652 = .ok (.aload_n 0, 1) := by decide +kernel
theorem dL_law_653 : decode cL_law 653 = .ok (.iload_n 3, 1) := by decide +kernel
theorem dL_law_654 : decode cL_law 654 = .ok (.iconst 2, 1) := by decide +kernel
theorem dL_law_655 : decode cL_law 655 = .ok (.iadd, 1) := by decide +kernel
theorem dL_law_656 : decode cL_law 656 = .ok (.iaload, 1) := by decide +kernel
theorem dL_law_657 : decode cL_law 657 = .ok (.invokevirtual 84, 3) := by decide +kernel
theorem dL_law_660 : decode cL_law 660 = .ok (.if_icmp .eq 467, 3) := by decide +kernel
theorem dL_law_663 : decode cL_law 663 = .ok (.iconst 0, 1) := by decide +kernel
theorem dL_law_664 : decode cL_law 664 = .ok (.ireturn, 1) := by decide +kernel
theorem dL_law_665 : decode cL_law 665 = .ok (.aload_n 1, 1) := by decide +kernel
theorem dL_law_666 : decode cL_law 666 = .ok (.aload_n 0, 1) := by decide +kernel
theorem dL_law_667 : decode cL_law 667 = .ok (.iload_n 3, 1) := by decide +kernel
theorem dL_law_668 : decode cL_law 668 = .ok (.iconst 1, 1) := by decide +kernel
theorem dL_law_669 : decode cL_law 669 = .ok (.iadd, 1) := by decide +kernel
theorem dL_law_670 : decode cL_law 670 = .ok (.iaload, 1) := by decide +kernel
theorem dL_law_671 : decode cL_law 671 = .ok (.aload_n 0, 1) := by decide +kernel
theorem dL_law_672 : decode cL_law 672 = .ok (.iload_n 3, 1) := by decide +kernel
theorem dL_law_673 : decode cL_law 673 = .ok (.iconst 2, 1) := by decide +kernel
theorem dL_law_674 : decode cL_law 674 = .ok (.iadd, 1) := by decide +kernel
theorem dL_law_675 : decode cL_law 675 = .ok (.iaload, 1) := by decide +kernel
theorem dL_law_676 : decode cL_law 676 = .ok (.invokevirtual 85, 3) := by decide +kernel
theorem dL_law_679 : decode cL_law 679 = .ok (.aload_n 2, 1) := by decide +kernel
theorem dL_law_680 : decode cL_law 680 = .ok (.aload_n 0, 1) := by decide +kernel
theorem dL_law_681 : decode cL_law 681 = .ok (.iload_n 3, 1) := by decide +kernel
theorem dL_law_682 : decode cL_law 682 = .ok (.iconst 1, 1) := by decide +kernel
theorem dL_law_683 : decode cL_law 683 = .ok (.iadd, 1) := by decide +kernel
theorem dL_law_684 : decode cL_law 684 = .ok (.iaload, 1) := by decide +kernel
theorem dL_law_685 : decode cL_law 685 = .ok (.aload_n 0, 1) := by decide +kernel
theorem dL_law_686 : decode cL_law 686 = .ok (.iload_n 3, 1) := by decide +kernel
theorem dL_law_687 : decode cL_law 687 = .ok (.iconst 2, 1) := by decide +kernel
theorem dL_law_688 : decode cL_law 688 = .ok (.iadd, 1) := by decide +kernel
theorem dL_law_689 : decode cL_law 689 = .ok (.iaload, 1) := by decide +kernel
theorem dL_law_690 : decode cL_law 690 = .ok (.invokevirtual 88, 3) := by decide +kernel
theorem dL_law_693 : decode cL_law 693 = .ok (.if_icmp .eq 434, 3) := by decide +kernel
theorem dL_law_696 : decode cL_law 696 = .ok (.iconst 0, 1) := by decide +kernel
theorem dL_law_697 : decode cL_law 697 = .ok (.ireturn, 1) := by decide +kernel
theorem dL_law_698 : decode cL_law 698 = .ok (.aload_n 1, 1) := by decide +kernel
theorem dL_law_699 : decode cL_law 699 = .ok (.aload_n 0, 1) := by decide +kernel
theorem dL_law_700 : decode cL_law 700 = .ok (.iload_n 3, 1) := by decide +kernel
theorem dL_law_701 : decode cL_law 701 = .ok (.iconst 1, 1) := by decide +kernel
theorem dL_law_702 : decode cL_law 702 = .ok (.iadd, 1) := by decide +kernel
theorem dL_law_703 : decode cL_law 703 = .ok (.iaload, 1) := by decide +kernel
theorem dL_law_704 : decode cL_law 704 = .ok (.invokevirtual 89, 3) := by decide +kernel
theorem dL_law_707 : decode cL_law 707 = .ok (.aload_n 2, 1) := by decide +kernel
theorem dL_law_708 : decode cL_law 708 = .ok (.aload_n 0, 1) := by decide +kernel
theorem dL_law_709 : decode cL_law 709 = .ok (.iload_n 3, 1) := by decide +kernel
theorem dL_law_710 : decode cL_law 710 = .ok (.iconst 1, 1) := by decide +kernel
theorem dL_law_711 : decode cL_law 711 = .ok (.iadd, 1) := by decide +kernel
theorem dL_law_712 : decode cL_law 712 = .ok (.iaload, 1) := by decide +kernel
theorem dL_law_713 : decode cL_law 713 = .ok (.invokevirtual 92, 3) := by decide +kernel
theorem dL_law_716 : decode cL_law 716 = .ok (.if_icmp .eq 411, 3) := by decide +kernel
theorem dL_law_719 : decode cL_law 719 = .ok (.iconst 0, 1) := by decide +kernel
theorem dL_law_720 : decode cL_law 720 = .ok (.ireturn, 1) := by decide +kernel
theorem dL_law_721 : decode cL_law 721 = .ok (.aload_n 1, 1) := by decide +kernel
theorem dL_law_722 : decode cL_law 722 = .ok (.invokevirtual 93, 3) := by decide +kernel
theorem dL_law_725 : decode cL_law 725 = .ok (.aload_n 2, 1) := by decide +kernel
theorem dL_law_726 : decode cL_law 726 = .ok (.invokevirtual 96, 3) := by decide +kernel
theorem dL_law_729 : decode cL_law 729 = .ok (.if_icmp .eq 398, 3) := by decide +kernel
theorem dL_law_732 : decode cL_law 732 = .ok (.iconst 0, 1) := by decide +kernel
theorem dL_law_733 : decode cL_law 733 = .ok (.ireturn, 1) := by decide +kernel
theorem dL_law_734 : decode cL_law 734 = .ok (.aload_n 1, 1) := by decide +kernel
theorem dL_law_735 : decode cL_law 735 = .ok (.aload_n 0, 1) := by decide +kernel
theorem dL_law_736 : decode cL_law 736 = .ok (.iload_n 3, 1) := by decide +kernel
theorem dL_law_737 : decode cL_law 737 = .ok (.iconst 1, 1) := by decide +kernel
theorem dL_law_738 : decode cL_law 738 = .ok (.iadd, 1) := by decide +kernel
theorem dL_law_739 : decode cL_law 739 = .ok (.iaload, 1) := by decide +kernel
theorem dL_law_740 : decode cL_law 740 = .ok (.invokevirtual 97, 3) := by decide +kernel
theorem dL_law_743 : decode cL_law 743 = .ok (.aload_n 2, 1) := by decide +kernel
theorem dL_law_744 : decode cL_law 744 = .ok (.aload_n 0, 1) := by decide +kernel
theorem dL_law_745 : decode cL_law 745 = .ok (.iload_n 3, 1) := by decide +kernel
theorem dL_law_746 : decode cL_law 746 = .ok (.iconst 1, 1) := by decide +kernel
theorem dL_law_747 : decode cL_law 747 = .ok (.iadd, 1) := by decide +kernel
theorem dL_law_748 : decode cL_law 748 = .ok (.iaload, 1) := by decide +kernel
theorem dL_law_749 : decode cL_law 749 = .ok (.invokevirtual 100, 3) := by decide +kernel
theorem dL_law_752 : decode cL_law 752 = .ok (.if_icmp .eq 375, 3) := by decide +kernel
theorem dL_law_755 : decode cL_law 755 = .ok (.iconst 0, 1) := by decide +kernel
theorem dL_law_756 : decode cL_law 756 = .ok (.ireturn, 1) := by decide +kernel
theorem dL_law_757 : decode cL_law 757 = .ok (.aload_n 1, 1) := by decide +kernel
theorem dL_law_758 : decode cL_law 758 = .ok (.aload_n 0, 1) := by decide +kernel
theorem dL_law_759 : decode cL_law 759 = .ok (.iload_n 3, 1) := by decide +kernel
theorem dL_law_760 : decode cL_law 760 = .ok (.iconst 1, 1) := by decide +kernel
theorem dL_law_761 : decode cL_law 761 = .ok (.iadd, 1) := by decide +kernel
theorem dL_law_762 : decode cL_law 762 = .ok (.iaload, 1) := by decide +kernel
theorem dL_law_763 : decode cL_law 763 = .ok (.aload_n 0, 1) := by decide +kernel
theorem dL_law_764 : decode cL_law 764 = .ok (.iload_n 3, 1) := by decide +kernel
theorem dL_law_765 : decode cL_law 765 = .ok (.iconst 2, 1) := by decide +kernel
theorem dL_law_766 : decode cL_law 766 = .ok (.iadd, 1) := by decide +kernel
theorem dL_law_767 : decode cL_law 767 = .ok (.iaload, 1) := by decide +kernel
theorem dL_law_768 : decode cL_law 768 = .ok (.aload_n 0, 1) := by decide +kernel
theorem dL_law_769 : decode cL_law 769 = .ok (.iload_n 3, 1) := by decide +kernel
theorem dL_law_770 : decode cL_law 770 = .ok (.iconst 3, 1) := by decide +kernel
theorem dL_law_771 : decode cL_law 771 = .ok (.iadd, 1) := by decide +kernel
theorem dL_law_772 : decode cL_law 772 = .ok (.iaload, 1) := by decide +kernel
theorem dL_law_773 : decode cL_law 773 = .ok (.aload_n 0, 1) := by decide +kernel
theorem dL_law_774 : decode cL_law 774 = .ok (.iload_n 3, 1) := by decide +kernel
theorem dL_law_775 : decode cL_law 775 = .ok (.iconst 4, 1) := by decide +kernel
theorem dL_law_776 : decode cL_law 776 = .ok (.iadd, 1) := by decide +kernel
theorem dL_law_777 : decode cL_law 777 = .ok (.iaload, 1) := by decide +kernel
theorem dL_law_778 : decode cL_law 778 = .ok (.invokevirtual 101, 3) := by decide +kernel
theorem dL_law_781 : decode cL_law 781 = .ok (.aload_n 2, 1) := by decide +kernel
theorem dL_law_782 : decode cL_law 782 = .ok (.aload_n 0, 1) := by decide +kernel
theorem dL_law_783 : decode cL_law 783 = .ok (.iload_n 3, 1) := by decide +kernel
theorem dL_law_784 : decode cL_law 784 = .ok (.iconst 1, 1) := by decide +kernel
theorem dL_law_785 : decode cL_law 785 = .ok (.iadd, 1) := by decide +kernel
theorem dL_law_786 : decode cL_law 786 = .ok (.iaload, 1) := by decide +kernel
theorem dL_law_787 : decode cL_law 787 = .ok (.aload_n 0, 1) := by decide +kernel
theorem dL_law_788 : decode cL_law 788 = .ok (.iload_n 3, 1) := by decide +kernel
theorem dL_law_789 : decode cL_law 789 = .ok (.iconst 2, 1) := by decide +kernel
theorem dL_law_790 : decode cL_law 790 = .ok (.iadd, 1) := by decide +kernel
theorem dL_law_791 : decode cL_law 791 = .ok (.iaload, 1) := by decide +kernel
theorem dL_law_792 : decode cL_law 792 = .ok (.aload_n 0, 1) := by decide +kernel
theorem dL_law_793 : decode cL_law 793 = .ok (.iload_n 3, 1) := by decide +kernel
theorem dL_law_794 : decode cL_law 794 = .ok (.iconst 3, 1) := by decide +kernel
theorem dL_law_795 : decode cL_law 795 = .ok (.iadd, 1) := by decide +kernel
theorem dL_law_796 : decode cL_law 796 = .ok (.iaload, 1) := by decide +kernel
theorem dL_law_797 : decode cL_law 797 = .ok (.aload_n 0, 1) := by decide +kernel
theorem dL_law_798 : decode cL_law 798 = .ok (.iload_n 3, 1) := by decide +kernel
theorem dL_law_799 : decode cL_law 799 = .ok (.iconst 4, 1) := by decide +kernel
theorem dL_law_800 : decode cL_law 800 = .ok (.iadd, 1) := by decide +kernel
theorem dL_law_801 : decode cL_law 801 = .ok (.iaload, 1) := by decide +kernel
theorem dL_law_802 : decode cL_law 802 = .ok (.invokevirtual 105, 3) := by decide +kernel
theorem dL_law_805 : decode cL_law 805 = .ok (.if_icmp .eq 322, 3) := by decide +kernel
theorem dL_law_808 : decode cL_law 808 = .ok (.iconst 0, 1) := by decide +kernel
theorem dL_law_809 : decode cL_law 809 = .ok (.ireturn, 1) := by decide +kernel
theorem dL_law_810 : decode cL_law 810 = .ok (.aload_n 1, 1) := by decide +kernel
theorem dL_law_811 : decode cL_law 811 = .ok (.aload_n 0, 1) := by decide +kernel
theorem dL_law_812 : decode cL_law 812 = .ok (.iload_n 3, 1) := by decide +kernel
theorem dL_law_813 : decode cL_law 813 = .ok (.iconst 1, 1) := by decide +kernel
theorem dL_law_814 : decode cL_law 814 = .ok (.iadd, 1) := by decide +kernel
theorem dL_law_815 : decode cL_law 815 = .ok (.iaload, 1) := by decide +kernel
theorem dL_law_816 : decode cL_law 816 = .ok (.aload_n 0, 1) := by decide +kernel
theorem dL_law_817 : decode cL_law 817 = .ok (.iload_n 3, 1) := by decide +kernel
theorem dL_law_818 : decode cL_law 818 = .ok (.iconst 2, 1) := by decide +kernel
theorem dL_law_819 : decode cL_law 819 = .ok (.iadd, 1) := by decide +kernel
theorem dL_law_820 : decode cL_law 820 = .ok (.iaload, 1) := by decide +kernel
theorem dL_law_821 : decode cL_law 821 = .ok (.invokevirtual 106, 3) := by decide +kernel
theorem dL_law_824 : decode cL_law 824 = .ok (.aload_n 2, 1) := by decide +kernel
theorem dL_law_825 : decode cL_law 825 = .ok (.aload_n 0, 1) := by decide +kernel
theorem dL_law_826 : decode cL_law 826 = .ok (.iload_n 3, 1) := by decide +kernel
theorem dL_law_827 : decode cL_law 827 = .ok (.iconst 1, 1) := by decide +kernel
theorem dL_law_828 : decode cL_law 828 = .ok (.iadd, 1) := by decide +kernel
theorem dL_law_829 : decode cL_law 829 = .ok (.iaload, 1) := by decide +kernel
theorem dL_law_830 : decode cL_law 830 = .ok (.aload_n 0, 1) := by decide +kernel
theorem dL_law_831 : decode cL_law 831 = .ok (.iload_n 3, 1) := by decide +kernel
theorem dL_law_832 : decode cL_law 832 = .ok (.iconst 2, 1) := by decide +kernel
theorem dL_law_833 : decode cL_law 833 = .ok (.iadd, 1) := by decide +kernel
theorem dL_law_834 : decode cL_law 834 = .ok (.iaload, 1) := by decide +kernel
theorem dL_law_835 : decode cL_law 835 = .ok (.invokevirtual 109, 3) := by decide +kernel
theorem dL_law_838 : decode cL_law 838 = .ok (.if_icmp .eq 289, 3) := by decide +kernel
theorem dL_law_841 : decode cL_law 841 = .ok (.iconst 0, 1) := by decide +kernel
theorem dL_law_842 : decode cL_law 842 = .ok (.ireturn, 1) := by decide +kernel
theorem dL_law_843 : decode cL_law 843 = .ok (.aload_n 1, 1) := by decide +kernel
theorem dL_law_844 : decode cL_law 844 = .ok (.aload_n 0, 1) := by decide +kernel
theorem dL_law_845 : decode cL_law 845 = .ok (.iload_n 3, 1) := by decide +kernel
theorem dL_law_846 : decode cL_law 846 = .ok (.iconst 1, 1) := by decide +kernel
theorem dL_law_847 : decode cL_law 847 = .ok (.iadd, 1) := by decide +kernel
theorem dL_law_848 : decode cL_law 848 = .ok (.iaload, 1) := by decide +kernel
theorem dL_law_849 : decode cL_law 849 = .ok (.aload_n 0, 1) := by decide +kernel
theorem dL_law_850 : decode cL_law 850 = .ok (.iload_n 3, 1) := by decide +kernel
theorem dL_law_851 : decode cL_law 851 = .ok (.iconst 2, 1) := by decide +kernel
theorem dL_law_852 : decode cL_law 852 = .ok (.iadd, 1) := by decide +kernel
theorem dL_law_853 : decode cL_law 853 = .ok (.iaload, 1) := by decide +kernel
theorem dL_law_854 : decode cL_law 854 = .ok (.invokevirtual 110, 3) := by decide +kernel
theorem dL_law_857 : decode cL_law 857 = .ok (.aload_n 2, 1) := by decide +kernel
theorem dL_law_858 : decode cL_law 858 = .ok (.aload_n 0, 1) := by decide +kernel
theorem dL_law_859 : decode cL_law 859 = .ok (.iload_n 3, 1) := by decide +kernel
theorem dL_law_860 : decode cL_law 860 = .ok (.iconst 1, 1) := by decide +kernel
theorem dL_law_861 : decode cL_law 861 = .ok (.iadd, 1) := by decide +kernel
theorem dL_law_862 : decode cL_law 862 = .ok (.iaload, 1) := by decide +kernel
theorem dL_law_863 : decode cL_law 863 = .ok (.aload_n 0, 1) := by decide +kernel
theorem dL_law_864 : decode cL_law 864 = .ok (.iload_n 3, 1) := by decide +kernel
theorem dL_law_865 : decode cL_law 865 = .ok (.iconst 2, 1) := by decide +kernel
theorem dL_law_866 : decode cL_law 866 = .ok (.iadd, 1) := by decide +kernel
theorem dL_law_867 : decode cL_law 867 = .ok (.iaload, 1) := by decide +kernel
theorem dL_law_868 : decode cL_law 868 = .ok (.invokevirtual 113, 3) := by decide +kernel
theorem dL_law_871 : decode cL_law 871 = .ok (.if_icmp .eq 256, 3) := by decide +kernel
theorem dL_law_874 : decode cL_law 874 = .ok (.iconst 0, 1) := by decide +kernel
theorem dL_law_875 : decode cL_law 875 = .ok (.ireturn, 1) := by decide +kernel
theorem dL_law_876 : decode cL_law 876 = .ok (.aload_n 1, 1) := by decide +kernel
theorem dL_law_877 : decode cL_law 877 = .ok (.invokevirtual 114, 3) := by decide +kernel
theorem dL_law_880 : decode cL_law 880 = .ok (.aload_n 2, 1) := by decide +kernel
theorem dL_law_881 : decode cL_law 881 = .ok (.invokevirtual 117, 3) := by decide +kernel
theorem dL_law_884 : decode cL_law 884 = .ok (.if_icmp .eq 243, 3) := by decide +kernel
theorem dL_law_887 : decode cL_law 887 = .ok (.iconst 0, 1) := by decide +kernel
theorem dL_law_888 : decode cL_law 888 = .ok (.ireturn, 1) := by decide +kernel
theorem dL_law_889 : decode cL_law 889 = .ok (.aload_n 1, 1) := by decide +kernel
theorem dL_law_890 : decode cL_law 890 = .ok (.invokevirtual 118, 3) := by decide +kernel
theorem dL_law_893 : decode cL_law 893 = .ok (.aload_n 2, 1) := by decide +kernel
theorem dL_law_894 : decode cL_law 894 = .ok (.invokevirtual 121, 3) := by decide +kernel
theorem dL_law_897 : decode cL_law 897 = .ok (.if_icmp .eq 230, 3) := by decide +kernel
theorem dL_law_900 : decode cL_law 900 = .ok (.iconst 0, 1) := by decide +kernel
theorem dL_law_901 : decode cL_law 901 = .ok (.ireturn, 1) := by decide +kernel
theorem dL_law_902 : decode cL_law 902 = .ok (.aload_n 1, 1) := by decide +kernel
theorem dL_law_903 : decode cL_law 903 = .ok (.aload_n 0, 1) := by decide +kernel
theorem dL_law_904 : decode cL_law 904 = .ok (.iload_n 3, 1) := by decide +kernel
theorem dL_law_905 : decode cL_law 905 = .ok (.iconst 1, 1) := by decide +kernel
theorem dL_law_906 : decode cL_law 906 = .ok (.iadd, 1) := by decide +kernel
theorem dL_law_907 : decode cL_law 907 = .ok (.iaload, 1) := by decide +kernel
theorem dL_law_908 : decode cL_law 908 = .ok (.invokevirtual 122, 3) := by decide +kernel
theorem dL_law_911 : decode cL_law 911 = .ok (.aload_n 2, 1) := by decide +kernel
theorem dL_law_912 : decode cL_law 912 = .ok (.aload_n 0, 1) := by decide +kernel
theorem dL_law_913 : decode cL_law 913 = .ok (.iload_n 3, 1) := by decide +kernel
theorem dL_law_914 : decode cL_law 914 = .ok (.iconst 1, 1) := by decide +kernel
theorem dL_law_915 : decode cL_law 915 = .ok (.iadd, 1) := by decide +kernel
theorem dL_law_916 : decode cL_law 916 = .ok (.iaload, 1) := by decide +kernel
theorem dL_law_917 : decode cL_law 917 = .ok (.invokevirtual 125, 3) := by decide +kernel
theorem dL_law_920 : decode cL_law 920 = .ok (.if_icmp .eq 207, 3) := by decide +kernel
theorem dL_law_923 : decode cL_law 923 = .ok (.iconst 0, 1) := by decide +kernel
theorem dL_law_924 : decode cL_law 924 = .ok (.ireturn, 1) := by decide +kernel
theorem dL_law_925 : decode cL_law 925 = .ok (.aload_n 1, 1) := by decide +kernel
theorem dL_law_926 : decode cL_law 926 = .ok (.aload_n 0, 1) := by decide +kernel
theorem dL_law_927 : decode cL_law 927 = .ok (.iload_n 3, 1) := by decide +kernel
theorem dL_law_928 : decode cL_law 928 = .ok (.iconst 1, 1) := by decide +kernel
theorem dL_law_929 : decode cL_law 929 = .ok (.iadd, 1) := by decide +kernel
theorem dL_law_930 : decode cL_law 930 = .ok (.iaload, 1) := by decide +kernel
theorem dL_law_931 : decode cL_law 931 = .ok (.aload_n 0, 1) := by decide +kernel
theorem dL_law_932 : decode cL_law 932 = .ok (.iload_n 3, 1) := by decide +kernel
theorem dL_law_933 : decode cL_law 933 = .ok (.iconst 2, 1) := by decide +kernel
theorem dL_law_934 : decode cL_law 934 = .ok (.iadd, 1) := by decide +kernel
theorem dL_law_935 : decode cL_law 935 = .ok (.iaload, 1) := by decide +kernel
theorem dL_law_936 : decode cL_law 936 = .ok (.aload_n 0, 1) := by decide +kernel
theorem dL_law_937 : decode cL_law 937 = .ok (.iload_n 3, 1) := by decide +kernel
theorem dL_law_938 : decode cL_law 938 = .ok (.iconst 3, 1) := by decide +kernel
theorem dL_law_939 : decode cL_law 939 = .ok (.iadd, 1) := by decide +kernel
theorem dL_law_940 : decode cL_law 940 = .ok (.iaload, 1) := by decide +kernel
theorem dL_law_941 : decode cL_law 941 = .ok (.invokevirtual 126, 3) := by decide +kernel
theorem dL_law_944 : decode cL_law 944 = .ok (.aload_n 2, 1) := by decide +kernel
theorem dL_law_945 : decode cL_law 945 = .ok (.aload_n 0, 1) := by decide +kernel
theorem dL_law_946 : decode cL_law 946 = .ok (.iload_n 3, 1) := by decide +kernel
theorem dL_law_947 : decode cL_law 947 = .ok (.iconst 1, 1) := by decide +kernel
theorem dL_law_948 : decode cL_law 948 = .ok (.iadd, 1) := by decide +kernel
theorem dL_law_949 : decode cL_law 949 = .ok (.iaload, 1) := by decide +kernel
theorem dL_law_950 : decode cL_law 950 = .ok (.aload_n 0, 1) := by decide +kernel
theorem dL_law_951 : decode cL_law 951 = .ok (.iload_n 3, 1) := by decide +kernel
theorem dL_law_952 : decode cL_law 952 = .ok (.iconst 2, 1) := by decide +kernel
theorem dL_law_953 : decode cL_law 953 = .ok (.iadd, 1) := by decide +kernel
theorem dL_law_954 : decode cL_law 954 = .ok (.iaload, 1) := by decide +kernel
theorem dL_law_955 : decode cL_law 955 = .ok (.aload_n 0, 1) := by decide +kernel
theorem dL_law_956 : decode cL_law 956 = .ok (.iload_n 3, 1) := by decide +kernel
theorem dL_law_957 : decode cL_law 957 = .ok (.iconst 3, 1) := by decide +kernel
theorem dL_law_958 : decode cL_law 958 = .ok (.iadd, 1) := by decide +kernel
theorem dL_law_959 : decode cL_law 959 = .ok (.iaload, 1) := by decide +kernel
theorem dL_law_960 : decode cL_law 960 = .ok (.invokevirtual 130, 3) := by decide +kernel
theorem dL_law_963 : decode cL_law 963 = .ok (.if_icmp .eq 164, 3) := by decide +kernel
theorem dL_law_966 : decode cL_law 966 = .ok (.iconst 0, 1) := by decide +kernel
theorem dL_law_967 : decode cL_law 967 = .ok (.ireturn, 1) := by decide +kernel
theorem dL_law_968 : decode cL_law 968 = .ok (.aload_n 1, 1) := by decide +kernel
theorem dL_law_969 : decode cL_law 969 = .ok (.aload_n 0, 1) := by decide +kernel
theorem dL_law_970 : decode cL_law 970 = .ok (.iload_n 3, 1) := by decide +kernel
theorem dL_law_971 : decode cL_law 971 = .ok (.iconst 1, 1) := by decide +kernel
theorem dL_law_972 : decode cL_law 972 = .ok (.iadd, 1) := by decide +kernel
theorem dL_law_973 : decode cL_law 973 = .ok (.iaload, 1) := by decide +kernel
theorem dL_law_974 : decode cL_law 974 = .ok (.aload_n 0, 1) := by decide +kernel
theorem dL_law_975 : decode cL_law 975 = .ok (.iload_n 3, 1) := by decide +kernel
theorem dL_law_976 : decode cL_law 976 = .ok (.iconst 2, 1) := by decide +kernel
theorem dL_law_977 : decode cL_law 977 = .ok (.iadd, 1) := by decide +kernel
theorem dL_law_978 : decode cL_law 978 = .ok (.iaload, 1) := by decide +kernel
theorem dL_law_979 : decode cL_law 979 = .ok (.aload_n 0, 1) := by decide +kernel
theorem dL_law_980 : decode cL_law 980 = .ok (.iload_n 3, 1) := by decide +kernel
theorem dL_law_981 : decode cL_law 981 = .ok (.iconst 3, 1) := by decide +kernel
theorem dL_law_982 : decode cL_law 982 = .ok (.iadd, 1) := by decide +kernel
theorem dL_law_983 : decode cL_law 983 = .ok (.iaload, 1) := by decide +kernel
theorem dL_law_984 : decode cL_law 984 = .ok (.invokevirtual 131, 3) := by decide +kernel
theorem dL_law_987 : decode cL_law 987 = .ok (.aload_n 2, 1) := by decide +kernel
theorem dL_law_988 : decode cL_law 988 = .ok (.aload_n 0, 1) := by decide +kernel
theorem dL_law_989 : decode cL_law 989 = .ok (.iload_n 3, 1) := by decide +kernel
theorem dL_law_990 : decode cL_law 990 = .ok (.iconst 1, 1) := by decide +kernel
theorem dL_law_991 : decode cL_law 991 = .ok (.iadd, 1) := by decide +kernel
theorem dL_law_992 : decode cL_law 992 = .ok (.iaload, 1) := by decide +kernel
theorem dL_law_993 : decode cL_law 993 = .ok (.aload_n 0, 1) := by decide +kernel
theorem dL_law_994 : decode cL_law 994 = .ok (.iload_n 3, 1) := by decide +kernel
theorem dL_law_995 : decode cL_law 995 = .ok (.iconst 2, 1) := by decide +kernel
theorem dL_law_996 : decode cL_law 996 = .ok (.iadd, 1) := by decide +kernel
theorem dL_law_997 : decode cL_law 997 = .ok (.iaload, 1) := by decide +kernel
theorem dL_law_998 : decode cL_law 998 = .ok (.aload_n 0, 1) := by decide +kernel
theorem dL_law_999 : decode cL_law 999 = .ok (.iload_n 3, 1) := by decide +kernel
theorem dL_law_1000 : decode cL_law 1000 = .ok (.iconst 3, 1) := by decide +kernel
theorem dL_law_1001 : decode cL_law 1001 = .ok (.iadd, 1) := by decide +kernel
theorem dL_law_1002 : decode cL_law 1002 = .ok (.iaload, 1) := by decide +kernel
theorem dL_law_1003 : decode cL_law 1003 = .ok (.invokevirtual 134, 3) := by decide +kernel
theorem dL_law_1006 : decode cL_law 1006 = .ok (.if_icmp .eq 121, 3) := by decide +kernel
theorem dL_law_1009 : decode cL_law 1009 = .ok (.iconst 0, 1) := by decide +kernel
theorem dL_law_1010 : decode cL_law 1010 = .ok (.ireturn, 1) := by decide +kernel
theorem dL_law_1011 : decode cL_law 1011 = .ok (.aload_n 1, 1) := by decide +kernel
theorem dL_law_1012 : decode cL_law 1012 = .ok (.aload_n 0, 1) := by decide +kernel
theorem dL_law_1013 : decode cL_law 1013 = .ok (.iload_n 3, 1) := by decide +kernel
theorem dL_law_1014 : decode cL_law 1014 = .ok (.iconst 1, 1) := by decide +kernel
theorem dL_law_1015 : decode cL_law 1015 = .ok (.iadd, 1) := by decide +kernel
theorem dL_law_1016 : decode cL_law 1016 = .ok (.iaload, 1) := by decide +kernel
theorem dL_law_1017 : decode cL_law 1017 = .ok (.aload_n 0, 1) := by decide +kernel
theorem dL_law_1018 : decode cL_law 1018 = .ok (.iload_n 3, 1) := by decide +kernel
theorem dL_law_1019 : decode cL_law 1019 = .ok (.iconst 2, 1) := by decide +kernel
theorem dL_law_1020 : decode cL_law 1020 = .ok (.iadd, 1) := by decide +kernel
theorem dL_law_1021 : decode cL_law 1021 = .ok (.iaload, 1) := by decide +kernel
theorem dL_law_1022 : decode cL_law 1022 = .ok (.aload_n 0, 1) := by decide +kernel
theorem dL_law_1023 : decode cL_law 1023 = .ok (.iload_n 3, 1) := by decide +kernel
theorem dL_law_1024 : decode cL_law 1024 = .ok (.iconst 3, 1) := by decide +kernel
theorem dL_law_1025 : decode cL_law 1025 = .ok (.iadd, 1) := by decide +kernel
theorem dL_law_1026 : decode cL_law 1026 = .ok (.iaload, 1) := by decide +kernel
theorem dL_law_1027 : decode cL_law 1027 = .ok (.aload_n 0, 1) := by decide +kernel
theorem dL_law_1028 : decode cL_law 1028 = .ok (.iload_n 3, 1) := by decide +kernel
theorem dL_law_1029 : decode cL_law 1029 = .ok (.iconst 4, 1) := by decide +kernel
theorem dL_law_1030 : decode cL_law 1030 = .ok (.iadd, 1) := by decide +kernel
theorem dL_law_1031 : decode cL_law 1031 = .ok (.iaload, 1) := by decide +kernel
theorem dL_law_1032 : decode cL_law 1032 = .ok (.aload_n 0, 1) := by decide +kernel
theorem dL_law_1033 : decode cL_law 1033 = .ok (.iload_n 3, 1) := by decide +kernel
theorem dL_law_1034 : decode cL_law 1034 = .ok (.iconst 5, 1) := by decide +kernel
theorem dL_law_1035 : decode cL_law 1035 = .ok (.iadd, 1) := by decide +kernel
theorem dL_law_1036 : decode cL_law 1036 = .ok (.iaload, 1) := by decide +kernel
theorem dL_law_1037 : decode cL_law 1037 = .ok (.invokevirtual 135, 3) := by decide +kernel
theorem dL_law_1040 : decode cL_law 1040 = .ok (.aload_n 2, 1) := by decide +kernel
theorem dL_law_1041 : decode cL_law 1041 = .ok (.aload_n 0, 1) := by decide +kernel
theorem dL_law_1042 : decode cL_law 1042 = .ok (.iload_n 3, 1) := by decide +kernel
theorem dL_law_1043 : decode cL_law 1043 = .ok (.iconst 1, 1) := by decide +kernel
theorem dL_law_1044 : decode cL_law 1044 = .ok (.iadd, 1) := by decide +kernel
theorem dL_law_1045 : decode cL_law 1045 = .ok (.iaload, 1) := by decide +kernel
theorem dL_law_1046 : decode cL_law 1046 = .ok (.aload_n 0, 1) := by decide +kernel
theorem dL_law_1047 : decode cL_law 1047 = .ok (.iload_n 3, 1) := by decide +kernel
theorem dL_law_1048 : decode cL_law 1048 = .ok (.iconst 2, 1) := by decide +kernel
theorem dL_law_1049 : decode cL_law 1049 = .ok (.iadd, 1) := by decide +kernel
theorem dL_law_1050 : decode cL_law 1050 = .ok (.iaload, 1) := by decide +kernel
theorem dL_law_1051 : decode cL_law 1051 = .ok (.aload_n 0, 1) := by decide +kernel
theorem dL_law_1052 : decode cL_law 1052 = .ok (.iload_n 3, 1) := by decide +kernel
theorem dL_law_1053 : decode cL_law 1053 = .ok (.iconst 3, 1) := by decide +kernel
theorem dL_law_1054 : decode cL_law 1054 = .ok (.iadd, 1) := by decide +kernel
theorem dL_law_1055 : decode cL_law 1055 = .ok (.iaload, 1) := by decide +kernel
theorem dL_law_1056 : decode cL_law 1056 = .ok (.aload_n 0, 1) := by decide +kernel
theorem dL_law_1057 : decode cL_law 1057 = .ok (.iload_n 3, 1) := by decide +kernel
theorem dL_law_1058 : decode cL_law 1058 = .ok (.iconst 4, 1) := by decide +kernel
theorem dL_law_1059 : decode cL_law 1059 = .ok (.iadd, 1) := by decide +kernel
theorem dL_law_1060 : decode cL_law 1060 = .ok (.iaload, 1) := by decide +kernel
theorem dL_law_1061 : decode cL_law 1061 = .ok (.aload_n 0, 1) := by decide +kernel
theorem dL_law_1062 : decode cL_law 1062 = .ok (.iload_n 3, 1) := by decide +kernel
theorem dL_law_1063 : decode cL_law 1063 = .ok (.iconst 5, 1) := by decide +kernel
theorem dL_law_1064 : decode cL_law 1064 = .ok (.iadd, 1) := by decide +kernel
theorem dL_law_1065 : decode cL_law 1065 = .ok (.iaload, 1) := by decide +kernel
theorem dL_law_1066 : decode cL_law 1066 = .ok (.invokevirtual 139, 3) := by decide +kernel
theorem dL_law_1069 : decode cL_law 1069 = .ok (.if_icmp .eq 58, 3) := by decide +kernel
theorem dL_law_1072 : decode cL_law 1072 = .ok (.iconst 0, 1) := by decide +kernel
theorem dL_law_1073 : decode cL_law 1073 = .ok (.ireturn, 1) := by decide +kernel
theorem dL_law_1074 : decode cL_law 1074 = .ok (.aload_n 1, 1) := by decide +kernel
theorem dL_law_1075 : decode cL_law 1075 = .ok (.aload_n 0, 1) := by decide +kernel
theorem dL_law_1076 : decode cL_law 1076 = .ok (.iload_n 3, 1) := by decide +kernel
theorem dL_law_1077 : decode cL_law 1077 = .ok (.iconst 1, 1) := by decide +kernel
theorem dL_law_1078 : decode cL_law 1078 = .ok (.iadd, 1) := by decide +kernel
theorem dL_law_1079 : decode cL_law 1079 = .ok (.iaload, 1) := by decide +kernel
theorem dL_law_1080 : decode cL_law 1080 = .ok (.aload_n 0, 1) := by decide +kernel
theorem dL_law_1081 : decode cL_law 1081 = .ok (.iload_n 3, 1) := by decide +kernel
theorem dL_law_1082 : decode cL_law 1082 = .ok (.iconst 2, 1) := by decide +kernel
theorem dL_law_1083 : decode cL_law 1083 = .ok (.iadd, 1) := by decide +kernel
theorem dL_law_1084 : decode cL_law 1084 = .ok (.iaload, 1) := by decide +kernel
theorem dL_law_1085 : decode cL_law 1085 = .ok (.aload_n 0, 1) := by decide +kernel
theorem dL_law_1086 : decode cL_law 1086 = .ok (.iload_n 3, 1) := by decide +kernel
theorem dL_law_1087 : decode cL_law 1087 = .ok (.iconst 3, 1) := by decide +kernel
theorem dL_law_1088 : decode cL_law 1088 = .ok (.iadd, 1) := by decide +kernel
theorem dL_law_1089 : decode cL_law 1089 = .ok (.iaload, 1) := by decide +kernel
theorem dL_law_1090 : decode cL_law 1090 = .ok (.aload_n 0, 1) := by decide +kernel
theorem dL_law_1091 : decode cL_law 1091 = .ok (.iload_n 3, 1) := by decide +kernel
theorem dL_law_1092 : decode cL_law 1092 = .ok (.iconst 4, 1) := by decide +kernel
theorem dL_law_1093 : decode cL_law 1093 = .ok (.iadd, 1) := by decide +kernel
theorem dL_law_1094 : decode cL_law 1094 = .ok (.iaload, 1) := by decide +kernel
theorem dL_law_1095 : decode cL_law 1095 = .ok (.invokevirtual 140, 3) := by decide +kernel
theorem dL_law_1098 : decode cL_law 1098 = .ok (.aload_n 2, 1) := by decide +kernel
theorem dL_law_1099 : decode cL_law 1099 = .ok (.aload_n 0, 1) := by decide +kernel
theorem dL_law_1100 : decode cL_law 1100 = .ok (.iload_n 3, 1) := by decide +kernel
theorem dL_law_1101 : decode cL_law 1101 = .ok (.iconst 1, 1) := by decide +kernel
theorem dL_law_1102 : decode cL_law 1102 = .ok (.iadd, 1) := by decide +kernel
theorem dL_law_1103 : decode cL_law 1103 = .ok (.iaload, 1) := by decide +kernel
theorem dL_law_1104 : decode cL_law 1104 = .ok (.aload_n 0, 1) := by decide +kernel
theorem dL_law_1105 : decode cL_law 1105 = .ok (.iload_n 3, 1) := by decide +kernel
theorem dL_law_1106 : decode cL_law 1106 = .ok (.iconst 2, 1) := by decide +kernel
theorem dL_law_1107 : decode cL_law 1107 = .ok (.iadd, 1) := by decide +kernel
theorem dL_law_1108 : decode cL_law 1108 = .ok (.iaload, 1) := by decide +kernel
theorem dL_law_1109 : decode cL_law 1109 = .ok (.aload_n 0, 1) := by decide +kernel
theorem dL_law_1110 : decode cL_law 1110 = .ok (.iload_n 3, 1) := by decide +kernel
theorem dL_law_1111 : decode cL_law 1111 = .ok (.iconst 3, 1) := by decide +kernel
theorem dL_law_1112 : decode cL_law 1112 = .ok (.iadd, 1) := by decide +kernel
theorem dL_law_1113 : decode cL_law 1113 = .ok (.iaload, 1) := by decide +kernel
theorem dL_law_1114 : decode cL_law 1114 = .ok (.aload_n 0, 1) := by decide +kernel
theorem dL_law_1115 : decode cL_law 1115 = .ok (.iload_n 3, 1) := by decide +kernel
theorem dL_law_1116 : decode cL_law 1116 = .ok (.iconst 4, 1) := by decide +kernel
theorem dL_law_1117 : decode cL_law 1117 = .ok (.iadd, 1) := by decide +kernel
theorem dL_law_1118 : decode cL_law 1118 = .ok (.iaload, 1) := by decide +kernel
theorem dL_law_1119 : decode cL_law 1119 = .ok (.invokevirtual 143, 3) := by decide +kernel
theorem dL_law_1122 : decode cL_law 1122 = .ok (.if_icmp .eq 5, 3) := by decide +kernel
theorem dL_law_1125 : decode cL_law 1125 = .ok (.iconst 0, 1) := by decide +kernel
theorem dL_law_1126 : decode cL_law 1126 = .ok (.ireturn, 1) := by decide +kernel
theorem dL_law_1127 : decode cL_law 1127 = .ok (.iinc 3 7, 3) := by decide +kernel
theorem dL_law_1130 : decode cL_law 1130 = .ok (.goto (-1112), 3) := by decide +kernel
theorem dL_law_1133 : decode cL_law 1133 = .ok (.iconst 1, 1) := by decide +kernel
theorem dL_law_1134 : decode cL_law 1134 = .ok (.ireturn, 1) := by decide +kernel
def f_L_law_18 (xs : Nat → Int32) (sl : Nat) (k18 : Nat × Nat × Int32 → Hp → Option (Int32 × Hp)) (v : Nat × Nat × Int32) (h0 : Hp) : Option (Int32 × Hp) :=
  match v with
  | (l1, l2, l3) => if ((Int32.ofNat sl) - (7 : Int32)) < l3 then (some ((1 : Int32), h0)) else ((sL xs sl l3).bind fun x2 => (some (x2 &&& (31 : Int32))).bind fun x3 => if x3 = 0 then ((sL xs sl (l3 + (1 : Int32))).bind fun x5 => (sL xs sl (l3 + (2 : Int32))).bind fun x6 => (sL xs sl (l3 + (3 : Int32))).bind fun x7 => (sL xs sl (l3 + (4 : Int32))).bind fun x8 => (sL xs sl (l3 + (5 : Int32))).bind fun x9 => (sL xs sl (l3 + (6 : Int32))).bind fun x10 => (f_X6_feed l1 x5 x6 x7 x8 x9 x10 h0).bind fun q11 => (sL xs sl (l3 + (1 : Int32))).bind fun x12 => (sL xs sl (l3 + (2 : Int32))).bind fun x13 => (sL xs sl (l3 + (3 : Int32))).bind fun x14 => (sL xs sl (l3 + (4 : Int32))).bind fun x15 => (sL xs sl (l3 + (5 : Int32))).bind fun x16 => (sL xs sl (l3 + (6 : Int32))).bind fun x17 => (f_X7_feed l2 x12 x13 x14 x15 x16 x17 q11.2).bind fun q18 => if q11.1 = q18.1 then ((some (l3 + 7)).bind fun x20 => k18 (l1, l2, x20) q18.2) else (some ((0 : Int32), q18.2))) else if x3 = 1 then ((f_X6_text l1 h0).bind fun q22 => (f_X7_text l2 q22.2).bind fun q23 => if q22.1 = q23.1 then ((some (l3 + 7)).bind fun x25 => k18 (l1, l2, x25) q23.2) else (some ((0 : Int32), q23.2))) else if x3 = 2 then ((f_X6_named l1 h0).bind fun q27 => (f_X7_named l2 q27.2).bind fun q28 => if q27.1 = q28.1 then ((some (l3 + 7)).bind fun x30 => k18 (l1, l2, x30) q28.2) else (some ((0 : Int32), q28.2))) else if x3 = 3 then ((sL xs sl (l3 + (1 : Int32))).bind fun x32 => (f_X6_system l1 x32 h0).bind fun q33 => (sL xs sl (l3 + (1 : Int32))).bind fun x34 => (f_X7_system l2 x34 q33.2).bind fun q35 => if q33.1 = q35.1 then ((some (l3 + 7)).bind fun x37 => k18 (l1, l2, x37) q35.2) else (some ((0 : Int32), q35.2))) else if x3 = 4 then ((sL xs sl (l3 + (1 : Int32))).bind fun x39 => (sL xs sl (l3 + (2 : Int32))).bind fun x40 => (f_X6_play l1 x39 x40 h0).bind fun q41 => (sL xs sl (l3 + (1 : Int32))).bind fun x42 => (sL xs sl (l3 + (2 : Int32))).bind fun x43 => (f_X7_play l2 x42 x43 q41.2).bind fun q44 => if q41.1 = q44.1 then ((some (l3 + 7)).bind fun x46 => k18 (l1, l2, x46) q44.2) else (some ((0 : Int32), q44.2))) else if x3 = 5 then ((sL xs sl (l3 + (1 : Int32))).bind fun x48 => (f_X6_unplay l1 x48 h0).bind fun q49 => (sL xs sl (l3 + (1 : Int32))).bind fun x50 => (f_X7_unplay l2 x50 q49.2).bind fun q51 => if q49.1 = q51.1 then ((some (l3 + 7)).bind fun x53 => k18 (l1, l2, x53) q51.2) else (some ((0 : Int32), q51.2))) else if x3 = 6 then ((sL xs sl (l3 + (1 : Int32))).bind fun x55 => (sL xs sl (l3 + (2 : Int32))).bind fun x56 => (f_X6_told l1 x55 x56 h0).bind fun q57 => (sL xs sl (l3 + (1 : Int32))).bind fun x58 => (sL xs sl (l3 + (2 : Int32))).bind fun x59 => (f_X7_told l2 x58 x59 q57.2).bind fun q60 => if q57.1 = q60.1 then ((some (l3 + 7)).bind fun x62 => k18 (l1, l2, x62) q60.2) else (some ((0 : Int32), q60.2))) else if x3 = 7 then ((sL xs sl (l3 + (1 : Int32))).bind fun x64 => (sL xs sl (l3 + (2 : Int32))).bind fun x65 => (f_X6_game l1 x64 x65 h0).bind fun q66 => (sL xs sl (l3 + (1 : Int32))).bind fun x67 => (sL xs sl (l3 + (2 : Int32))).bind fun x68 => (f_X7_game l2 x67 x68 q66.2).bind fun q69 => if q66.1 = q69.1 then ((some (l3 + 7)).bind fun x71 => k18 (l1, l2, x71) q69.2) else (some ((0 : Int32), q69.2))) else if x3 = 8 then ((sL xs sl (l3 + (1 : Int32))).bind fun x73 => (sL xs sl (l3 + (2 : Int32))).bind fun x74 => (f_X6_between l1 x73 x74 h0).bind fun q75 => (sL xs sl (l3 + (1 : Int32))).bind fun x76 => (sL xs sl (l3 + (2 : Int32))).bind fun x77 => (f_X7_between l2 x76 x77 q75.2).bind fun q78 => if q75.1 = q78.1 then ((some (l3 + 7)).bind fun x80 => k18 (l1, l2, x80) q78.2) else (some ((0 : Int32), q78.2))) else if x3 = 9 then ((sL xs sl (l3 + (1 : Int32))).bind fun x82 => (f_X6_taken l1 x82 h0).bind fun q83 => (sL xs sl (l3 + (1 : Int32))).bind fun x84 => (f_X7_taken l2 x84 q83.2).bind fun q85 => if q83.1 = q85.1 then ((some (l3 + 7)).bind fun x87 => k18 (l1, l2, x87) q85.2) else (some ((0 : Int32), q85.2))) else if x3 = 10 then ((sL xs sl (l3 + (1 : Int32))).bind fun x89 => (f_X6_isIn l1 x89 h0).bind fun q90 => (sL xs sl (l3 + (1 : Int32))).bind fun x91 => (f_X7_isIn l2 x91 q90.2).bind fun q92 => if q90.1 = q92.1 then ((some (l3 + 7)).bind fun x94 => k18 (l1, l2, x94) q92.2) else (some ((0 : Int32), q92.2))) else if x3 = 11 then ((f_X6_all l1 h0).bind fun q96 => (f_X7_all l2 q96.2).bind fun q97 => if q96.1 = q97.1 then ((some (l3 + 7)).bind fun x99 => k18 (l1, l2, x99) q97.2) else (some ((0 : Int32), q97.2))) else if x3 = 12 then ((sL xs sl (l3 + (1 : Int32))).bind fun x101 => (sL xs sl (l3 + (2 : Int32))).bind fun x102 => (f_X6_set l1 x101 x102 h0).bind fun q103 => (sL xs sl (l3 + (1 : Int32))).bind fun x104 => (sL xs sl (l3 + (2 : Int32))).bind fun x105 => (f_X7_set l2 x104 x105 q103.2).bind fun q106 => if q103.1 = q106.1 then ((some (l3 + 7)).bind fun x108 => k18 (l1, l2, x108) q106.2) else (some ((0 : Int32), q106.2))) else if x3 = 13 then ((sL xs sl (l3 + (1 : Int32))).bind fun x110 => (sL xs sl (l3 + (2 : Int32))).bind fun x111 => (f_X6_run l1 x110 x111 h0).bind fun q112 => (sL xs sl (l3 + (1 : Int32))).bind fun x113 => (sL xs sl (l3 + (2 : Int32))).bind fun x114 => (f_X7_run l2 x113 x114 q112.2).bind fun q115 => if q112.1 = q115.1 then ((some (l3 + 7)).bind fun x117 => k18 (l1, l2, x117) q115.2) else (some ((0 : Int32), q115.2))) else if x3 = 14 then ((sL xs sl (l3 + (1 : Int32))).bind fun x119 => (f_X6_pattern l1 x119 h0).bind fun q120 => (sL xs sl (l3 + (1 : Int32))).bind fun x121 => (f_X7_pattern l2 x121 q120.2).bind fun q122 => if q120.1 = q122.1 then ((some (l3 + 7)).bind fun x124 => k18 (l1, l2, x124) q122.2) else (some ((0 : Int32), q122.2))) else if x3 = 15 then ((sL xs sl (l3 + (1 : Int32))).bind fun x126 => (sL xs sl (l3 + (2 : Int32))).bind fun x127 => (f_X6_needs l1 x126 x127 h0).bind fun q128 => (sL xs sl (l3 + (1 : Int32))).bind fun x129 => (sL xs sl (l3 + (2 : Int32))).bind fun x130 => (f_X7_needs l2 x129 x130 q128.2).bind fun q131 => if q128.1 = q131.1 then ((some (l3 + 7)).bind fun x133 => k18 (l1, l2, x133) q131.2) else (some ((0 : Int32), q131.2))) else if x3 = 16 then ((sL xs sl (l3 + (1 : Int32))).bind fun x135 => (sL xs sl (l3 + (2 : Int32))).bind fun x136 => (f_X6_since l1 x135 x136 h0).bind fun q137 => (sL xs sl (l3 + (1 : Int32))).bind fun x138 => (sL xs sl (l3 + (2 : Int32))).bind fun x139 => (f_X7_since l2 x138 x139 q137.2).bind fun q140 => if q137.1 = q140.1 then ((some (l3 + 7)).bind fun x142 => k18 (l1, l2, x142) q140.2) else (some ((0 : Int32), q140.2))) else if x3 = 17 then ((sL xs sl (l3 + (1 : Int32))).bind fun x144 => (sL xs sl (l3 + (2 : Int32))).bind fun x145 => (f_X6_help l1 x144 x145 h0).bind fun q146 => (sL xs sl (l3 + (1 : Int32))).bind fun x147 => (sL xs sl (l3 + (2 : Int32))).bind fun x148 => (f_X7_help l2 x147 x148 q146.2).bind fun q149 => if q146.1 = q149.1 then ((some (l3 + 7)).bind fun x151 => k18 (l1, l2, x151) q149.2) else (some ((0 : Int32), q149.2))) else if x3 = 18 then ((sL xs sl (l3 + (1 : Int32))).bind fun x153 => (f_X6_without l1 x153 h0).bind fun q154 => (sL xs sl (l3 + (1 : Int32))).bind fun x155 => (f_X7_without l2 x155 q154.2).bind fun q156 => if q154.1 = q156.1 then ((some (l3 + 7)).bind fun x158 => k18 (l1, l2, x158) q156.2) else (some ((0 : Int32), q156.2))) else if x3 = 19 then ((f_X6_tables l1 h0).bind fun q160 => (f_X7_tables l2 q160.2).bind fun q161 => if q160.1 = q161.1 then ((some (l3 + 7)).bind fun x163 => k18 (l1, l2, x163) q161.2) else (some ((0 : Int32), q161.2))) else if x3 = 20 then ((sL xs sl (l3 + (1 : Int32))).bind fun x165 => (f_X6_drawn l1 x165 h0).bind fun q166 => (sL xs sl (l3 + (1 : Int32))).bind fun x167 => (f_X7_drawn l2 x167 q166.2).bind fun q168 => if q166.1 = q168.1 then ((some (l3 + 7)).bind fun x170 => k18 (l1, l2, x170) q168.2) else (some ((0 : Int32), q168.2))) else if x3 = 21 then ((sL xs sl (l3 + (1 : Int32))).bind fun x172 => (sL xs sl (l3 + (2 : Int32))).bind fun x173 => (sL xs sl (l3 + (3 : Int32))).bind fun x174 => (sL xs sl (l3 + (4 : Int32))).bind fun x175 => (f_X6_chance l1 x172 x173 x174 x175 h0).bind fun q176 => (sL xs sl (l3 + (1 : Int32))).bind fun x177 => (sL xs sl (l3 + (2 : Int32))).bind fun x178 => (sL xs sl (l3 + (3 : Int32))).bind fun x179 => (sL xs sl (l3 + (4 : Int32))).bind fun x180 => (f_X7_chance l2 x177 x178 x179 x180 q176.2).bind fun q181 => if q176.1 = q181.1 then ((some (l3 + 7)).bind fun x183 => k18 (l1, l2, x183) q181.2) else (some ((0 : Int32), q181.2))) else if x3 = 22 then ((sL xs sl (l3 + (1 : Int32))).bind fun x185 => (sL xs sl (l3 + (2 : Int32))).bind fun x186 => (f_X6_tells l1 x185 x186 h0).bind fun q187 => (sL xs sl (l3 + (1 : Int32))).bind fun x188 => (sL xs sl (l3 + (2 : Int32))).bind fun x189 => (f_X7_tells l2 x188 x189 q187.2).bind fun q190 => if q187.1 = q190.1 then ((some (l3 + 7)).bind fun x192 => k18 (l1, l2, x192) q190.2) else (some ((0 : Int32), q190.2))) else if x3 = 23 then ((sL xs sl (l3 + (1 : Int32))).bind fun x194 => (sL xs sl (l3 + (2 : Int32))).bind fun x195 => (f_X6_film l1 x194 x195 h0).bind fun q196 => (sL xs sl (l3 + (1 : Int32))).bind fun x197 => (sL xs sl (l3 + (2 : Int32))).bind fun x198 => (f_X7_film l2 x197 x198 q196.2).bind fun q199 => if q196.1 = q199.1 then ((some (l3 + 7)).bind fun x201 => k18 (l1, l2, x201) q199.2) else (some ((0 : Int32), q199.2))) else if x3 = 24 then ((f_X6_image l1 h0).bind fun q203 => (f_X7_image l2 q203.2).bind fun q204 => if q203.1 = q204.1 then ((some (l3 + 7)).bind fun x206 => k18 (l1, l2, x206) q204.2) else (some ((0 : Int32), q204.2))) else if x3 = 25 then ((f_X6_back l1 h0).bind fun q208 => (f_X7_back l2 q208.2).bind fun q209 => if q208.1 = q209.1 then ((some (l3 + 7)).bind fun x211 => k18 (l1, l2, x211) q209.2) else (some ((0 : Int32), q209.2))) else if x3 = 26 then ((sL xs sl (l3 + (1 : Int32))).bind fun x213 => (f_X6_count l1 x213 h0).bind fun q214 => (sL xs sl (l3 + (1 : Int32))).bind fun x215 => (f_X7_count l2 x215 q214.2).bind fun q216 => if q214.1 = q216.1 then ((some (l3 + 7)).bind fun x218 => k18 (l1, l2, x218) q216.2) else (some ((0 : Int32), q216.2))) else if x3 = 27 then ((sL xs sl (l3 + (1 : Int32))).bind fun x220 => (sL xs sl (l3 + (2 : Int32))).bind fun x221 => (sL xs sl (l3 + (3 : Int32))).bind fun x222 => (f_X6_sheet l1 x220 x221 x222 h0).bind fun q223 => (sL xs sl (l3 + (1 : Int32))).bind fun x224 => (sL xs sl (l3 + (2 : Int32))).bind fun x225 => (sL xs sl (l3 + (3 : Int32))).bind fun x226 => (f_X7_sheet l2 x224 x225 x226 q223.2).bind fun q227 => if q223.1 = q227.1 then ((some (l3 + 7)).bind fun x229 => k18 (l1, l2, x229) q227.2) else (some ((0 : Int32), q227.2))) else if x3 = 28 then ((sL xs sl (l3 + (1 : Int32))).bind fun x231 => (sL xs sl (l3 + (2 : Int32))).bind fun x232 => (sL xs sl (l3 + (3 : Int32))).bind fun x233 => (f_X6_put l1 x231 x232 x233 h0).bind fun q234 => (sL xs sl (l3 + (1 : Int32))).bind fun x235 => (sL xs sl (l3 + (2 : Int32))).bind fun x236 => (sL xs sl (l3 + (3 : Int32))).bind fun x237 => (f_X7_put l2 x235 x236 x237 q234.2).bind fun q238 => if q234.1 = q238.1 then ((some (l3 + 7)).bind fun x240 => k18 (l1, l2, x240) q238.2) else (some ((0 : Int32), q238.2))) else if x3 = 29 then ((sL xs sl (l3 + (1 : Int32))).bind fun x242 => (sL xs sl (l3 + (2 : Int32))).bind fun x243 => (sL xs sl (l3 + (3 : Int32))).bind fun x244 => (sL xs sl (l3 + (4 : Int32))).bind fun x245 => (sL xs sl (l3 + (5 : Int32))).bind fun x246 => (f_X6_copy l1 x242 x243 x244 x245 x246 h0).bind fun q247 => (sL xs sl (l3 + (1 : Int32))).bind fun x248 => (sL xs sl (l3 + (2 : Int32))).bind fun x249 => (sL xs sl (l3 + (3 : Int32))).bind fun x250 => (sL xs sl (l3 + (4 : Int32))).bind fun x251 => (sL xs sl (l3 + (5 : Int32))).bind fun x252 => (f_X7_copy l2 x248 x249 x250 x251 x252 q247.2).bind fun q253 => if q247.1 = q253.1 then ((some (l3 + 7)).bind fun x255 => k18 (l1, l2, x255) q253.2) else (some ((0 : Int32), q253.2))) else if x3 = 30 then ((sL xs sl (l3 + (1 : Int32))).bind fun x257 => (sL xs sl (l3 + (2 : Int32))).bind fun x258 => (sL xs sl (l3 + (3 : Int32))).bind fun x259 => (sL xs sl (l3 + (4 : Int32))).bind fun x260 => (f_X6_load l1 x257 x258 x259 x260 h0).bind fun q261 => (sL xs sl (l3 + (1 : Int32))).bind fun x262 => (sL xs sl (l3 + (2 : Int32))).bind fun x263 => (sL xs sl (l3 + (3 : Int32))).bind fun x264 => (sL xs sl (l3 + (4 : Int32))).bind fun x265 => (f_X7_load l2 x262 x263 x264 x265 q261.2).bind fun q266 => if q261.1 = q266.1 then ((some (l3 + 7)).bind fun x268 => k18 (l1, l2, x268) q266.2) else (some ((0 : Int32), q266.2))) else ((some (l3 + 7)).bind fun x269 => k18 (l1, l2, x269) h0))
set_option maxRecDepth 100000 in
set_option maxHeartbeats 4000000 in
theorem c_L_law_18 {X : Cx} {adr : Nat → Nat} {kc ns : Nat} {Qm : State → Prop} {q : Int32 × Hp} {xs : Nat → Int32} {sl : Nat} (hz : LawX X adr xs sl kc ns Qm q.1) (n : Nat) : ∀ v h0, lp (f_L_law_18 xs sl) n v h0 = some q → AW X cL_law 4 RL room_1 Qm kc ns adr h0 18 [(0, .ref 1030), (1, .ref v.1), (2, .ref v.2.1), (3, .int v.2.2)] [] := by
  refine aw_lp (fun k18 hk18 v h0 hf => ?_) n
  obtain ⟨l1, l2, l3⟩ := v
  unfold f_L_law_18 at hf
  dsimp only at hf
  show AW X cL_law 4 RL room_1 Qm kc ns adr h0 18 [(0, .ref 1030), (1, .ref l1), (2, .ref l2), (3, .int l3)] []
  refine aw_iload_n 3 dL_law_18 rfl rfl ?_
  refine aw_aload_n 0 dL_law_19 rfl rfl ?_
  refine aw_slen hz dL_law_20 ?_
  refine aw_bipush (v := 7) dL_law_21 (by decide) ?_
  refine aw_isub dL_law_23 ?_
  refine aw_icmp_gt (tgt := 1133) dL_law_24 (by decide) (fun c1 => ?_) (fun c1 => ?_)
  · have hf := i_pos c1 hf
    refine aw_iconst (v := 1) dL_law_1133 (by decide) ?_
    have hq := Option.some.inj hf
    subst hq
    exact aw_lret hz dL_law_1134
  · have hf := i_neg c1 hf
    refine aw_aload_n 0 dL_law_27 rfl rfl ?_
    refine aw_iload_n 3 dL_law_28 rfl rfl ?_
    obtain ⟨x2, ex2, hf⟩ := b_some hf
    refine aw_sld hz dL_law_29 ex2 ?_
    refine aw_bipush (v := 31) dL_law_30 (by decide) ?_
    refine aw_iand dL_law_32 ?_
    obtain ⟨x3, ex3, hf⟩ := b_some hf
    refine aw_nm ex3 ?_
    by_cases c4 : x3 = 0
    · have hf := i_pos c4 hf
      refine aw_tabIn (tgt := 172) dL_law_33 (by rw [c4]; decide) (by rw [c4]; decide) (by rw [c4]; rfl) (by decide) ?_
      refine aw_aload_n 1 dL_law_172 rfl rfl ?_
      refine aw_aload_n 0 dL_law_173 rfl rfl ?_
      refine aw_iload_n 3 dL_law_174 rfl rfl ?_
      refine aw_iconst (v := 1) dL_law_175 (by decide) ?_
      refine aw_iadd dL_law_176 ?_
      obtain ⟨x5, ex5, hf⟩ := b_some hf
      refine aw_sld hz dL_law_177 ex5 ?_
      refine aw_aload_n 0 dL_law_178 rfl rfl ?_
      refine aw_iload_n 3 dL_law_179 rfl rfl ?_
      refine aw_iconst (v := 2) dL_law_180 (by decide) ?_
      refine aw_iadd dL_law_181 ?_
      obtain ⟨x6, ex6, hf⟩ := b_some hf
      refine aw_sld hz dL_law_182 ex6 ?_
      refine aw_aload_n 0 dL_law_183 rfl rfl ?_
      refine aw_iload_n 3 dL_law_184 rfl rfl ?_
      refine aw_iconst (v := 3) dL_law_185 (by decide) ?_
      refine aw_iadd dL_law_186 ?_
      obtain ⟨x7, ex7, hf⟩ := b_some hf
      refine aw_sld hz dL_law_187 ex7 ?_
      refine aw_aload_n 0 dL_law_188 rfl rfl ?_
      refine aw_iload_n 3 dL_law_189 rfl rfl ?_
      refine aw_iconst (v := 4) dL_law_190 (by decide) ?_
      refine aw_iadd dL_law_191 ?_
      obtain ⟨x8, ex8, hf⟩ := b_some hf
      refine aw_sld hz dL_law_192 ex8 ?_
      refine aw_aload_n 0 dL_law_193 rfl rfl ?_
      refine aw_iload_n 3 dL_law_194 rfl rfl ?_
      refine aw_iconst (v := 5) dL_law_195 (by decide) ?_
      refine aw_iadd dL_law_196 ?_
      obtain ⟨x9, ex9, hf⟩ := b_some hf
      refine aw_sld hz dL_law_197 ex9 ?_
      refine aw_aload_n 0 dL_law_198 rfl rfl ?_
      refine aw_iload_n 3 dL_law_199 rfl rfl ?_
      refine aw_bipush (v := 6) dL_law_200 (by decide) ?_
      refine aw_iadd dL_law_202 ?_
      obtain ⟨x10, ex10, hf⟩ := b_some hf
      refine aw_sld hz dL_law_203 ex10 ?_
      obtain ⟨q11, eq11, hf⟩ := b_some hf
      refine aw_cV (as := [.int x5, .int x6, .int x7, .int x8, .int x9, .int x10]) dL_law_204 moX6_feed voX6_feed mlL_13 (k_X6_feed eq11) rfl (by decide) (LawX.kn hz) (Nat.le_of_ble_eq_true rfl) rfl (c_X6_feed eq11) ?_
      refine aw_aload_n 2 dL_law_207 rfl rfl ?_
      refine aw_aload_n 0 dL_law_208 rfl rfl ?_
      refine aw_iload_n 3 dL_law_209 rfl rfl ?_
      refine aw_iconst (v := 1) dL_law_210 (by decide) ?_
      refine aw_iadd dL_law_211 ?_
      obtain ⟨x12, ex12, hf⟩ := b_some hf
      refine aw_sld hz dL_law_212 ex12 ?_
      refine aw_aload_n 0 dL_law_213 rfl rfl ?_
      refine aw_iload_n 3 dL_law_214 rfl rfl ?_
      refine aw_iconst (v := 2) dL_law_215 (by decide) ?_
      refine aw_iadd dL_law_216 ?_
      obtain ⟨x13, ex13, hf⟩ := b_some hf
      refine aw_sld hz dL_law_217 ex13 ?_
      refine aw_aload_n 0 dL_law_218 rfl rfl ?_
      refine aw_iload_n 3 dL_law_219 rfl rfl ?_
      refine aw_iconst (v := 3) dL_law_220 (by decide) ?_
      refine aw_iadd dL_law_221 ?_
      obtain ⟨x14, ex14, hf⟩ := b_some hf
      refine aw_sld hz dL_law_222 ex14 ?_
      refine aw_aload_n 0 dL_law_223 rfl rfl ?_
      refine aw_iload_n 3 dL_law_224 rfl rfl ?_
      refine aw_iconst (v := 4) dL_law_225 (by decide) ?_
      refine aw_iadd dL_law_226 ?_
      obtain ⟨x15, ex15, hf⟩ := b_some hf
      refine aw_sld hz dL_law_227 ex15 ?_
      refine aw_aload_n 0 dL_law_228 rfl rfl ?_
      refine aw_iload_n 3 dL_law_229 rfl rfl ?_
      refine aw_iconst (v := 5) dL_law_230 (by decide) ?_
      refine aw_iadd dL_law_231 ?_
      obtain ⟨x16, ex16, hf⟩ := b_some hf
      refine aw_sld hz dL_law_232 ex16 ?_
      refine aw_aload_n 0 dL_law_233 rfl rfl ?_
      refine aw_iload_n 3 dL_law_234 rfl rfl ?_
      refine aw_bipush (v := 6) dL_law_235 (by decide) ?_
      refine aw_iadd dL_law_237 ?_
      obtain ⟨x17, ex17, hf⟩ := b_some hf
      refine aw_sld hz dL_law_238 ex17 ?_
      obtain ⟨q18, eq18, hf⟩ := b_some hf
      refine aw_cV (as := [.int x12, .int x13, .int x14, .int x15, .int x16, .int x17]) dL_law_239 moX7_feed voX7_feed mlL_17 (k_X7_feed eq18) rfl (by decide) (LawX.kn hz) (Nat.le_of_ble_eq_true rfl) rfl (c_X7_feed eq18) ?_
      refine aw_icmp_eq (tgt := 1127) dL_law_242 (by decide) (fun c19 => ?_) (fun c19 => ?_)
      · have hf := i_pos c19 hf
        obtain ⟨x20, ex20, hf⟩ := b_some hf
        refine aw_iinc (v := x20) (L' := [(3, .int x20), (0, .ref 1030), (1, .ref l1), (2, .ref l2)]) 3 dL_law_1127 rfl (Option.some.inj ex20) (by decide) rfl ?_
        refine aw_goto (tgt := 18) dL_law_1130 (by decide) ?_
        exact aw_sub [1, 2, 3, 0] rfl (hk18 _ _ hf)
      · have hf := i_neg c19 hf
        refine aw_iconst (v := 0) dL_law_245 (by decide) ?_
        have hq := Option.some.inj hf
        subst hq
        exact aw_lret hz dL_law_246
    have hf := i_neg c4 hf
    by_cases c21 : x3 = 1
    · have hf := i_pos c21 hf
      refine aw_tabIn (tgt := 247) dL_law_33 (by rw [c21]; decide) (by rw [c21]; decide) (by rw [c21]; rfl) (by decide) ?_
      refine aw_aload_n 1 dL_law_247 rfl rfl ?_
      obtain ⟨q22, eq22, hf⟩ := b_some hf
      refine aw_cV (as := []) dL_law_248 moX6_text voX6_text mlL_18 (k_X6_text eq22) rfl (by decide) (LawX.kn hz) (Nat.le_of_ble_eq_true rfl) rfl (c_X6_text eq22) ?_
      refine aw_aload_n 2 dL_law_251 rfl rfl ?_
      obtain ⟨q23, eq23, hf⟩ := b_some hf
      refine aw_cV (as := []) dL_law_252 moX7_text voX7_text mlL_22 (k_X7_text eq23) rfl (by decide) (LawX.kn hz) (Nat.le_of_ble_eq_true rfl) rfl (c_X7_text eq23) ?_
      refine aw_icmp_eq (tgt := 1127) dL_law_255 (by decide) (fun c24 => ?_) (fun c24 => ?_)
      · have hf := i_pos c24 hf
        obtain ⟨x25, ex25, hf⟩ := b_some hf
        refine aw_iinc (v := x25) (L' := [(3, .int x25), (0, .ref 1030), (1, .ref l1), (2, .ref l2)]) 3 dL_law_1127 rfl (Option.some.inj ex25) (by decide) rfl ?_
        refine aw_goto (tgt := 18) dL_law_1130 (by decide) ?_
        exact aw_sub [1, 2, 3, 0] rfl (hk18 _ _ hf)
      · have hf := i_neg c24 hf
        refine aw_iconst (v := 0) dL_law_258 (by decide) ?_
        have hq := Option.some.inj hf
        subst hq
        exact aw_lret hz dL_law_259
    have hf := i_neg c21 hf
    by_cases c26 : x3 = 2
    · have hf := i_pos c26 hf
      refine aw_tabIn (tgt := 260) dL_law_33 (by rw [c26]; decide) (by rw [c26]; decide) (by rw [c26]; rfl) (by decide) ?_
      refine aw_aload_n 1 dL_law_260 rfl rfl ?_
      obtain ⟨q27, eq27, hf⟩ := b_some hf
      refine aw_cV (as := []) dL_law_261 moX6_named voX6_named mlL_23 (k_X6_named eq27) rfl (by decide) (LawX.kn hz) (Nat.le_of_ble_eq_true rfl) rfl (c_X6_named eq27) ?_
      refine aw_aload_n 2 dL_law_264 rfl rfl ?_
      obtain ⟨q28, eq28, hf⟩ := b_some hf
      refine aw_cV (as := []) dL_law_265 moX7_named voX7_named mlL_26 (k_X7_named eq28) rfl (by decide) (LawX.kn hz) (Nat.le_of_ble_eq_true rfl) rfl (c_X7_named eq28) ?_
      refine aw_icmp_eq (tgt := 1127) dL_law_268 (by decide) (fun c29 => ?_) (fun c29 => ?_)
      · have hf := i_pos c29 hf
        obtain ⟨x30, ex30, hf⟩ := b_some hf
        refine aw_iinc (v := x30) (L' := [(3, .int x30), (0, .ref 1030), (1, .ref l1), (2, .ref l2)]) 3 dL_law_1127 rfl (Option.some.inj ex30) (by decide) rfl ?_
        refine aw_goto (tgt := 18) dL_law_1130 (by decide) ?_
        exact aw_sub [1, 2, 3, 0] rfl (hk18 _ _ hf)
      · have hf := i_neg c29 hf
        refine aw_iconst (v := 0) dL_law_271 (by decide) ?_
        have hq := Option.some.inj hf
        subst hq
        exact aw_lret hz dL_law_272
    have hf := i_neg c26 hf
    by_cases c31 : x3 = 3
    · have hf := i_pos c31 hf
      refine aw_tabIn (tgt := 273) dL_law_33 (by rw [c31]; decide) (by rw [c31]; decide) (by rw [c31]; rfl) (by decide) ?_
      refine aw_aload_n 1 dL_law_273 rfl rfl ?_
      refine aw_aload_n 0 dL_law_274 rfl rfl ?_
      refine aw_iload_n 3 dL_law_275 rfl rfl ?_
      refine aw_iconst (v := 1) dL_law_276 (by decide) ?_
      refine aw_iadd dL_law_277 ?_
      obtain ⟨x32, ex32, hf⟩ := b_some hf
      refine aw_sld hz dL_law_278 ex32 ?_
      obtain ⟨q33, eq33, hf⟩ := b_some hf
      refine aw_cV (as := [.int x32]) dL_law_279 moX6_system voX6_system mlL_27 (k_X6_system eq33) rfl (by decide) (LawX.kn hz) (Nat.le_of_ble_eq_true rfl) rfl (c_X6_system eq33) ?_
      refine aw_aload_n 2 dL_law_282 rfl rfl ?_
      refine aw_aload_n 0 dL_law_283 rfl rfl ?_
      refine aw_iload_n 3 dL_law_284 rfl rfl ?_
      refine aw_iconst (v := 1) dL_law_285 (by decide) ?_
      refine aw_iadd dL_law_286 ?_
      obtain ⟨x34, ex34, hf⟩ := b_some hf
      refine aw_sld hz dL_law_287 ex34 ?_
      obtain ⟨q35, eq35, hf⟩ := b_some hf
      refine aw_cV (as := [.int x34]) dL_law_288 moX7_system voX7_system mlL_31 (k_X7_system eq35) rfl (by decide) (LawX.kn hz) (Nat.le_of_ble_eq_true rfl) rfl (c_X7_system eq35) ?_
      refine aw_icmp_eq (tgt := 1127) dL_law_291 (by decide) (fun c36 => ?_) (fun c36 => ?_)
      · have hf := i_pos c36 hf
        obtain ⟨x37, ex37, hf⟩ := b_some hf
        refine aw_iinc (v := x37) (L' := [(3, .int x37), (0, .ref 1030), (1, .ref l1), (2, .ref l2)]) 3 dL_law_1127 rfl (Option.some.inj ex37) (by decide) rfl ?_
        refine aw_goto (tgt := 18) dL_law_1130 (by decide) ?_
        exact aw_sub [1, 2, 3, 0] rfl (hk18 _ _ hf)
      · have hf := i_neg c36 hf
        refine aw_iconst (v := 0) dL_law_294 (by decide) ?_
        have hq := Option.some.inj hf
        subst hq
        exact aw_lret hz dL_law_295
    have hf := i_neg c31 hf
    by_cases c38 : x3 = 4
    · have hf := i_pos c38 hf
      refine aw_tabIn (tgt := 296) dL_law_33 (by rw [c38]; decide) (by rw [c38]; decide) (by rw [c38]; rfl) (by decide) ?_
      refine aw_aload_n 1 dL_law_296 rfl rfl ?_
      refine aw_aload_n 0 dL_law_297 rfl rfl ?_
      refine aw_iload_n 3 dL_law_298 rfl rfl ?_
      refine aw_iconst (v := 1) dL_law_299 (by decide) ?_
      refine aw_iadd dL_law_300 ?_
      obtain ⟨x39, ex39, hf⟩ := b_some hf
      refine aw_sld hz dL_law_301 ex39 ?_
      refine aw_aload_n 0 dL_law_302 rfl rfl ?_
      refine aw_iload_n 3 dL_law_303 rfl rfl ?_
      refine aw_iconst (v := 2) dL_law_304 (by decide) ?_
      refine aw_iadd dL_law_305 ?_
      obtain ⟨x40, ex40, hf⟩ := b_some hf
      refine aw_sld hz dL_law_306 ex40 ?_
      obtain ⟨q41, eq41, hf⟩ := b_some hf
      refine aw_cV (as := [.int x39, .int x40]) dL_law_307 moX6_play voX6_play mlL_32 (k_X6_play eq41) rfl (by decide) (LawX.kn hz) (Nat.le_of_ble_eq_true rfl) rfl (c_X6_play eq41) ?_
      refine aw_aload_n 2 dL_law_310 rfl rfl ?_
      refine aw_aload_n 0 dL_law_311 rfl rfl ?_
      refine aw_iload_n 3 dL_law_312 rfl rfl ?_
      refine aw_iconst (v := 1) dL_law_313 (by decide) ?_
      refine aw_iadd dL_law_314 ?_
      obtain ⟨x42, ex42, hf⟩ := b_some hf
      refine aw_sld hz dL_law_315 ex42 ?_
      refine aw_aload_n 0 dL_law_316 rfl rfl ?_
      refine aw_iload_n 3 dL_law_317 rfl rfl ?_
      refine aw_iconst (v := 2) dL_law_318 (by decide) ?_
      refine aw_iadd dL_law_319 ?_
      obtain ⟨x43, ex43, hf⟩ := b_some hf
      refine aw_sld hz dL_law_320 ex43 ?_
      obtain ⟨q44, eq44, hf⟩ := b_some hf
      refine aw_cV (as := [.int x42, .int x43]) dL_law_321 moX7_play voX7_play mlL_36 (k_X7_play eq44) rfl (by decide) (LawX.kn hz) (Nat.le_of_ble_eq_true rfl) rfl (c_X7_play eq44) ?_
      refine aw_icmp_eq (tgt := 1127) dL_law_324 (by decide) (fun c45 => ?_) (fun c45 => ?_)
      · have hf := i_pos c45 hf
        obtain ⟨x46, ex46, hf⟩ := b_some hf
        refine aw_iinc (v := x46) (L' := [(3, .int x46), (0, .ref 1030), (1, .ref l1), (2, .ref l2)]) 3 dL_law_1127 rfl (Option.some.inj ex46) (by decide) rfl ?_
        refine aw_goto (tgt := 18) dL_law_1130 (by decide) ?_
        exact aw_sub [1, 2, 3, 0] rfl (hk18 _ _ hf)
      · have hf := i_neg c45 hf
        refine aw_iconst (v := 0) dL_law_327 (by decide) ?_
        have hq := Option.some.inj hf
        subst hq
        exact aw_lret hz dL_law_328
    have hf := i_neg c38 hf
    by_cases c47 : x3 = 5
    · have hf := i_pos c47 hf
      refine aw_tabIn (tgt := 329) dL_law_33 (by rw [c47]; decide) (by rw [c47]; decide) (by rw [c47]; rfl) (by decide) ?_
      refine aw_aload_n 1 dL_law_329 rfl rfl ?_
      refine aw_aload_n 0 dL_law_330 rfl rfl ?_
      refine aw_iload_n 3 dL_law_331 rfl rfl ?_
      refine aw_iconst (v := 1) dL_law_332 (by decide) ?_
      refine aw_iadd dL_law_333 ?_
      obtain ⟨x48, ex48, hf⟩ := b_some hf
      refine aw_sld hz dL_law_334 ex48 ?_
      obtain ⟨q49, eq49, hf⟩ := b_some hf
      refine aw_cV (as := [.int x48]) dL_law_335 moX6_unplay voX6_unplay mlL_37 (k_X6_unplay eq49) rfl (by decide) (LawX.kn hz) (Nat.le_of_ble_eq_true rfl) rfl (c_X6_unplay eq49) ?_
      refine aw_aload_n 2 dL_law_338 rfl rfl ?_
      refine aw_aload_n 0 dL_law_339 rfl rfl ?_
      refine aw_iload_n 3 dL_law_340 rfl rfl ?_
      refine aw_iconst (v := 1) dL_law_341 (by decide) ?_
      refine aw_iadd dL_law_342 ?_
      obtain ⟨x50, ex50, hf⟩ := b_some hf
      refine aw_sld hz dL_law_343 ex50 ?_
      obtain ⟨q51, eq51, hf⟩ := b_some hf
      refine aw_cV (as := [.int x50]) dL_law_344 moX7_unplay voX7_unplay mlL_40 (k_X7_unplay eq51) rfl (by decide) (LawX.kn hz) (Nat.le_of_ble_eq_true rfl) rfl (c_X7_unplay eq51) ?_
      refine aw_icmp_eq (tgt := 1127) dL_law_347 (by decide) (fun c52 => ?_) (fun c52 => ?_)
      · have hf := i_pos c52 hf
        obtain ⟨x53, ex53, hf⟩ := b_some hf
        refine aw_iinc (v := x53) (L' := [(3, .int x53), (0, .ref 1030), (1, .ref l1), (2, .ref l2)]) 3 dL_law_1127 rfl (Option.some.inj ex53) (by decide) rfl ?_
        refine aw_goto (tgt := 18) dL_law_1130 (by decide) ?_
        exact aw_sub [1, 2, 3, 0] rfl (hk18 _ _ hf)
      · have hf := i_neg c52 hf
        refine aw_iconst (v := 0) dL_law_350 (by decide) ?_
        have hq := Option.some.inj hf
        subst hq
        exact aw_lret hz dL_law_351
    have hf := i_neg c47 hf
    by_cases c54 : x3 = 6
    · have hf := i_pos c54 hf
      refine aw_tabIn (tgt := 352) dL_law_33 (by rw [c54]; decide) (by rw [c54]; decide) (by rw [c54]; rfl) (by decide) ?_
      refine aw_aload_n 1 dL_law_352 rfl rfl ?_
      refine aw_aload_n 0 dL_law_353 rfl rfl ?_
      refine aw_iload_n 3 dL_law_354 rfl rfl ?_
      refine aw_iconst (v := 1) dL_law_355 (by decide) ?_
      refine aw_iadd dL_law_356 ?_
      obtain ⟨x55, ex55, hf⟩ := b_some hf
      refine aw_sld hz dL_law_357 ex55 ?_
      refine aw_aload_n 0 dL_law_358 rfl rfl ?_
      refine aw_iload_n 3 dL_law_359 rfl rfl ?_
      refine aw_iconst (v := 2) dL_law_360 (by decide) ?_
      refine aw_iadd dL_law_361 ?_
      obtain ⟨x56, ex56, hf⟩ := b_some hf
      refine aw_sld hz dL_law_362 ex56 ?_
      obtain ⟨q57, eq57, hf⟩ := b_some hf
      refine aw_cV (as := [.int x55, .int x56]) dL_law_363 moX6_told voX6_told mlL_41 (k_X6_told eq57) rfl (by decide) (LawX.kn hz) (Nat.le_of_ble_eq_true rfl) rfl (c_X6_told eq57) ?_
      refine aw_aload_n 2 dL_law_366 rfl rfl ?_
      refine aw_aload_n 0 dL_law_367 rfl rfl ?_
      refine aw_iload_n 3 dL_law_368 rfl rfl ?_
      refine aw_iconst (v := 1) dL_law_369 (by decide) ?_
      refine aw_iadd dL_law_370 ?_
      obtain ⟨x58, ex58, hf⟩ := b_some hf
      refine aw_sld hz dL_law_371 ex58 ?_
      refine aw_aload_n 0 dL_law_372 rfl rfl ?_
      refine aw_iload_n 3 dL_law_373 rfl rfl ?_
      refine aw_iconst (v := 2) dL_law_374 (by decide) ?_
      refine aw_iadd dL_law_375 ?_
      obtain ⟨x59, ex59, hf⟩ := b_some hf
      refine aw_sld hz dL_law_376 ex59 ?_
      obtain ⟨q60, eq60, hf⟩ := b_some hf
      refine aw_cV (as := [.int x58, .int x59]) dL_law_377 moX7_told voX7_told mlL_44 (k_X7_told eq60) rfl (by decide) (LawX.kn hz) (Nat.le_of_ble_eq_true rfl) rfl (c_X7_told eq60) ?_
      refine aw_icmp_eq (tgt := 1127) dL_law_380 (by decide) (fun c61 => ?_) (fun c61 => ?_)
      · have hf := i_pos c61 hf
        obtain ⟨x62, ex62, hf⟩ := b_some hf
        refine aw_iinc (v := x62) (L' := [(3, .int x62), (0, .ref 1030), (1, .ref l1), (2, .ref l2)]) 3 dL_law_1127 rfl (Option.some.inj ex62) (by decide) rfl ?_
        refine aw_goto (tgt := 18) dL_law_1130 (by decide) ?_
        exact aw_sub [1, 2, 3, 0] rfl (hk18 _ _ hf)
      · have hf := i_neg c61 hf
        refine aw_iconst (v := 0) dL_law_383 (by decide) ?_
        have hq := Option.some.inj hf
        subst hq
        exact aw_lret hz dL_law_384
    have hf := i_neg c54 hf
    by_cases c63 : x3 = 7
    · have hf := i_pos c63 hf
      refine aw_tabIn (tgt := 385) dL_law_33 (by rw [c63]; decide) (by rw [c63]; decide) (by rw [c63]; rfl) (by decide) ?_
      refine aw_aload_n 1 dL_law_385 rfl rfl ?_
      refine aw_aload_n 0 dL_law_386 rfl rfl ?_
      refine aw_iload_n 3 dL_law_387 rfl rfl ?_
      refine aw_iconst (v := 1) dL_law_388 (by decide) ?_
      refine aw_iadd dL_law_389 ?_
      obtain ⟨x64, ex64, hf⟩ := b_some hf
      refine aw_sld hz dL_law_390 ex64 ?_
      refine aw_aload_n 0 dL_law_391 rfl rfl ?_
      refine aw_iload_n 3 dL_law_392 rfl rfl ?_
      refine aw_iconst (v := 2) dL_law_393 (by decide) ?_
      refine aw_iadd dL_law_394 ?_
      obtain ⟨x65, ex65, hf⟩ := b_some hf
      refine aw_sld hz dL_law_395 ex65 ?_
      obtain ⟨q66, eq66, hf⟩ := b_some hf
      refine aw_cV (as := [.int x64, .int x65]) dL_law_396 moX6_game voX6_game mlL_45 (k_X6_game eq66) rfl (by decide) (LawX.kn hz) (Nat.le_of_ble_eq_true rfl) rfl (c_X6_game eq66) ?_
      refine aw_aload_n 2 dL_law_399 rfl rfl ?_
      refine aw_aload_n 0 dL_law_400 rfl rfl ?_
      refine aw_iload_n 3 dL_law_401 rfl rfl ?_
      refine aw_iconst (v := 1) dL_law_402 (by decide) ?_
      refine aw_iadd dL_law_403 ?_
      obtain ⟨x67, ex67, hf⟩ := b_some hf
      refine aw_sld hz dL_law_404 ex67 ?_
      refine aw_aload_n 0 dL_law_405 rfl rfl ?_
      refine aw_iload_n 3 dL_law_406 rfl rfl ?_
      refine aw_iconst (v := 2) dL_law_407 (by decide) ?_
      refine aw_iadd dL_law_408 ?_
      obtain ⟨x68, ex68, hf⟩ := b_some hf
      refine aw_sld hz dL_law_409 ex68 ?_
      obtain ⟨q69, eq69, hf⟩ := b_some hf
      refine aw_cV (as := [.int x67, .int x68]) dL_law_410 moX7_game voX7_game mlL_48 (k_X7_game eq69) rfl (by decide) (LawX.kn hz) (Nat.le_of_ble_eq_true rfl) rfl (c_X7_game eq69) ?_
      refine aw_icmp_eq (tgt := 1127) dL_law_413 (by decide) (fun c70 => ?_) (fun c70 => ?_)
      · have hf := i_pos c70 hf
        obtain ⟨x71, ex71, hf⟩ := b_some hf
        refine aw_iinc (v := x71) (L' := [(3, .int x71), (0, .ref 1030), (1, .ref l1), (2, .ref l2)]) 3 dL_law_1127 rfl (Option.some.inj ex71) (by decide) rfl ?_
        refine aw_goto (tgt := 18) dL_law_1130 (by decide) ?_
        exact aw_sub [1, 2, 3, 0] rfl (hk18 _ _ hf)
      · have hf := i_neg c70 hf
        refine aw_iconst (v := 0) dL_law_416 (by decide) ?_
        have hq := Option.some.inj hf
        subst hq
        exact aw_lret hz dL_law_417
    have hf := i_neg c63 hf
    by_cases c72 : x3 = 8
    · have hf := i_pos c72 hf
      refine aw_tabIn (tgt := 418) dL_law_33 (by rw [c72]; decide) (by rw [c72]; decide) (by rw [c72]; rfl) (by decide) ?_
      refine aw_aload_n 1 dL_law_418 rfl rfl ?_
      refine aw_aload_n 0 dL_law_419 rfl rfl ?_
      refine aw_iload_n 3 dL_law_420 rfl rfl ?_
      refine aw_iconst (v := 1) dL_law_421 (by decide) ?_
      refine aw_iadd dL_law_422 ?_
      obtain ⟨x73, ex73, hf⟩ := b_some hf
      refine aw_sld hz dL_law_423 ex73 ?_
      refine aw_aload_n 0 dL_law_424 rfl rfl ?_
      refine aw_iload_n 3 dL_law_425 rfl rfl ?_
      refine aw_iconst (v := 2) dL_law_426 (by decide) ?_
      refine aw_iadd dL_law_427 ?_
      obtain ⟨x74, ex74, hf⟩ := b_some hf
      refine aw_sld hz dL_law_428 ex74 ?_
      obtain ⟨q75, eq75, hf⟩ := b_some hf
      refine aw_cV (as := [.int x73, .int x74]) dL_law_429 moX6_between voX6_between mlL_49 (k_X6_between eq75) rfl (by decide) (LawX.kn hz) (Nat.le_of_ble_eq_true rfl) rfl (c_X6_between eq75) ?_
      refine aw_aload_n 2 dL_law_432 rfl rfl ?_
      refine aw_aload_n 0 dL_law_433 rfl rfl ?_
      refine aw_iload_n 3 dL_law_434 rfl rfl ?_
      refine aw_iconst (v := 1) dL_law_435 (by decide) ?_
      refine aw_iadd dL_law_436 ?_
      obtain ⟨x76, ex76, hf⟩ := b_some hf
      refine aw_sld hz dL_law_437 ex76 ?_
      refine aw_aload_n 0 dL_law_438 rfl rfl ?_
      refine aw_iload_n 3 dL_law_439 rfl rfl ?_
      refine aw_iconst (v := 2) dL_law_440 (by decide) ?_
      refine aw_iadd dL_law_441 ?_
      obtain ⟨x77, ex77, hf⟩ := b_some hf
      refine aw_sld hz dL_law_442 ex77 ?_
      obtain ⟨q78, eq78, hf⟩ := b_some hf
      refine aw_cV (as := [.int x76, .int x77]) dL_law_443 moX7_between voX7_between mlL_52 (k_X7_between eq78) rfl (by decide) (LawX.kn hz) (Nat.le_of_ble_eq_true rfl) rfl (c_X7_between eq78) ?_
      refine aw_icmp_eq (tgt := 1127) dL_law_446 (by decide) (fun c79 => ?_) (fun c79 => ?_)
      · have hf := i_pos c79 hf
        obtain ⟨x80, ex80, hf⟩ := b_some hf
        refine aw_iinc (v := x80) (L' := [(3, .int x80), (0, .ref 1030), (1, .ref l1), (2, .ref l2)]) 3 dL_law_1127 rfl (Option.some.inj ex80) (by decide) rfl ?_
        refine aw_goto (tgt := 18) dL_law_1130 (by decide) ?_
        exact aw_sub [1, 2, 3, 0] rfl (hk18 _ _ hf)
      · have hf := i_neg c79 hf
        refine aw_iconst (v := 0) dL_law_449 (by decide) ?_
        have hq := Option.some.inj hf
        subst hq
        exact aw_lret hz dL_law_450
    have hf := i_neg c72 hf
    by_cases c81 : x3 = 9
    · have hf := i_pos c81 hf
      refine aw_tabIn (tgt := 451) dL_law_33 (by rw [c81]; decide) (by rw [c81]; decide) (by rw [c81]; rfl) (by decide) ?_
      refine aw_aload_n 1 dL_law_451 rfl rfl ?_
      refine aw_aload_n 0 dL_law_452 rfl rfl ?_
      refine aw_iload_n 3 dL_law_453 rfl rfl ?_
      refine aw_iconst (v := 1) dL_law_454 (by decide) ?_
      refine aw_iadd dL_law_455 ?_
      obtain ⟨x82, ex82, hf⟩ := b_some hf
      refine aw_sld hz dL_law_456 ex82 ?_
      obtain ⟨q83, eq83, hf⟩ := b_some hf
      refine aw_cV (as := [.int x82]) dL_law_457 moX6_taken voX6_taken mlL_53 (k_X6_taken eq83) rfl (by decide) (LawX.kn hz) (Nat.le_of_ble_eq_true rfl) rfl (c_X6_taken eq83) ?_
      refine aw_aload_n 2 dL_law_460 rfl rfl ?_
      refine aw_aload_n 0 dL_law_461 rfl rfl ?_
      refine aw_iload_n 3 dL_law_462 rfl rfl ?_
      refine aw_iconst (v := 1) dL_law_463 (by decide) ?_
      refine aw_iadd dL_law_464 ?_
      obtain ⟨x84, ex84, hf⟩ := b_some hf
      refine aw_sld hz dL_law_465 ex84 ?_
      obtain ⟨q85, eq85, hf⟩ := b_some hf
      refine aw_cV (as := [.int x84]) dL_law_466 moX7_taken voX7_taken mlL_56 (k_X7_taken eq85) rfl (by decide) (LawX.kn hz) (Nat.le_of_ble_eq_true rfl) rfl (c_X7_taken eq85) ?_
      refine aw_icmp_eq (tgt := 1127) dL_law_469 (by decide) (fun c86 => ?_) (fun c86 => ?_)
      · have hf := i_pos c86 hf
        obtain ⟨x87, ex87, hf⟩ := b_some hf
        refine aw_iinc (v := x87) (L' := [(3, .int x87), (0, .ref 1030), (1, .ref l1), (2, .ref l2)]) 3 dL_law_1127 rfl (Option.some.inj ex87) (by decide) rfl ?_
        refine aw_goto (tgt := 18) dL_law_1130 (by decide) ?_
        exact aw_sub [1, 2, 3, 0] rfl (hk18 _ _ hf)
      · have hf := i_neg c86 hf
        refine aw_iconst (v := 0) dL_law_472 (by decide) ?_
        have hq := Option.some.inj hf
        subst hq
        exact aw_lret hz dL_law_473
    have hf := i_neg c81 hf
    by_cases c88 : x3 = 10
    · have hf := i_pos c88 hf
      refine aw_tabIn (tgt := 474) dL_law_33 (by rw [c88]; decide) (by rw [c88]; decide) (by rw [c88]; rfl) (by decide) ?_
      refine aw_aload_n 1 dL_law_474 rfl rfl ?_
      refine aw_aload_n 0 dL_law_475 rfl rfl ?_
      refine aw_iload_n 3 dL_law_476 rfl rfl ?_
      refine aw_iconst (v := 1) dL_law_477 (by decide) ?_
      refine aw_iadd dL_law_478 ?_
      obtain ⟨x89, ex89, hf⟩ := b_some hf
      refine aw_sld hz dL_law_479 ex89 ?_
      obtain ⟨q90, eq90, hf⟩ := b_some hf
      refine aw_cV (as := [.int x89]) dL_law_480 moX6_isIn voX6_isIn mlL_57 (k_X6_isIn eq90) rfl (by decide) (LawX.kn hz) (Nat.le_of_ble_eq_true rfl) rfl (c_X6_isIn eq90) ?_
      refine aw_aload_n 2 dL_law_483 rfl rfl ?_
      refine aw_aload_n 0 dL_law_484 rfl rfl ?_
      refine aw_iload_n 3 dL_law_485 rfl rfl ?_
      refine aw_iconst (v := 1) dL_law_486 (by decide) ?_
      refine aw_iadd dL_law_487 ?_
      obtain ⟨x91, ex91, hf⟩ := b_some hf
      refine aw_sld hz dL_law_488 ex91 ?_
      obtain ⟨q92, eq92, hf⟩ := b_some hf
      refine aw_cV (as := [.int x91]) dL_law_489 moX7_isIn voX7_isIn mlL_60 (k_X7_isIn eq92) rfl (by decide) (LawX.kn hz) (Nat.le_of_ble_eq_true rfl) rfl (c_X7_isIn eq92) ?_
      refine aw_icmp_eq (tgt := 1127) dL_law_492 (by decide) (fun c93 => ?_) (fun c93 => ?_)
      · have hf := i_pos c93 hf
        obtain ⟨x94, ex94, hf⟩ := b_some hf
        refine aw_iinc (v := x94) (L' := [(3, .int x94), (0, .ref 1030), (1, .ref l1), (2, .ref l2)]) 3 dL_law_1127 rfl (Option.some.inj ex94) (by decide) rfl ?_
        refine aw_goto (tgt := 18) dL_law_1130 (by decide) ?_
        exact aw_sub [1, 2, 3, 0] rfl (hk18 _ _ hf)
      · have hf := i_neg c93 hf
        refine aw_iconst (v := 0) dL_law_495 (by decide) ?_
        have hq := Option.some.inj hf
        subst hq
        exact aw_lret hz dL_law_496
    have hf := i_neg c88 hf
    by_cases c95 : x3 = 11
    · have hf := i_pos c95 hf
      refine aw_tabIn (tgt := 497) dL_law_33 (by rw [c95]; decide) (by rw [c95]; decide) (by rw [c95]; rfl) (by decide) ?_
      refine aw_aload_n 1 dL_law_497 rfl rfl ?_
      obtain ⟨q96, eq96, hf⟩ := b_some hf
      refine aw_cV (as := []) dL_law_498 moX6_all voX6_all mlL_61 (k_X6_all eq96) rfl (by decide) (LawX.kn hz) (Nat.le_of_ble_eq_true rfl) rfl (c_X6_all eq96) ?_
      refine aw_aload_n 2 dL_law_501 rfl rfl ?_
      obtain ⟨q97, eq97, hf⟩ := b_some hf
      refine aw_cV (as := []) dL_law_502 moX7_all voX7_all mlL_64 (k_X7_all eq97) rfl (by decide) (LawX.kn hz) (Nat.le_of_ble_eq_true rfl) rfl (c_X7_all eq97) ?_
      refine aw_icmp_eq (tgt := 1127) dL_law_505 (by decide) (fun c98 => ?_) (fun c98 => ?_)
      · have hf := i_pos c98 hf
        obtain ⟨x99, ex99, hf⟩ := b_some hf
        refine aw_iinc (v := x99) (L' := [(3, .int x99), (0, .ref 1030), (1, .ref l1), (2, .ref l2)]) 3 dL_law_1127 rfl (Option.some.inj ex99) (by decide) rfl ?_
        refine aw_goto (tgt := 18) dL_law_1130 (by decide) ?_
        exact aw_sub [1, 2, 3, 0] rfl (hk18 _ _ hf)
      · have hf := i_neg c98 hf
        refine aw_iconst (v := 0) dL_law_508 (by decide) ?_
        have hq := Option.some.inj hf
        subst hq
        exact aw_lret hz dL_law_509
    have hf := i_neg c95 hf
    by_cases c100 : x3 = 12
    · have hf := i_pos c100 hf
      refine aw_tabIn (tgt := 510) dL_law_33 (by rw [c100]; decide) (by rw [c100]; decide) (by rw [c100]; rfl) (by decide) ?_
      refine aw_aload_n 1 dL_law_510 rfl rfl ?_
      refine aw_aload_n 0 dL_law_511 rfl rfl ?_
      refine aw_iload_n 3 dL_law_512 rfl rfl ?_
      refine aw_iconst (v := 1) dL_law_513 (by decide) ?_
      refine aw_iadd dL_law_514 ?_
      obtain ⟨x101, ex101, hf⟩ := b_some hf
      refine aw_sld hz dL_law_515 ex101 ?_
      refine aw_aload_n 0 dL_law_516 rfl rfl ?_
      refine aw_iload_n 3 dL_law_517 rfl rfl ?_
      refine aw_iconst (v := 2) dL_law_518 (by decide) ?_
      refine aw_iadd dL_law_519 ?_
      obtain ⟨x102, ex102, hf⟩ := b_some hf
      refine aw_sld hz dL_law_520 ex102 ?_
      obtain ⟨q103, eq103, hf⟩ := b_some hf
      refine aw_cV (as := [.int x101, .int x102]) dL_law_521 moX6_set voX6_set mlL_65 (k_X6_set eq103) rfl (by decide) (LawX.kn hz) (Nat.le_of_ble_eq_true rfl) rfl (c_X6_set eq103) ?_
      refine aw_aload_n 2 dL_law_524 rfl rfl ?_
      refine aw_aload_n 0 dL_law_525 rfl rfl ?_
      refine aw_iload_n 3 dL_law_526 rfl rfl ?_
      refine aw_iconst (v := 1) dL_law_527 (by decide) ?_
      refine aw_iadd dL_law_528 ?_
      obtain ⟨x104, ex104, hf⟩ := b_some hf
      refine aw_sld hz dL_law_529 ex104 ?_
      refine aw_aload_n 0 dL_law_530 rfl rfl ?_
      refine aw_iload_n 3 dL_law_531 rfl rfl ?_
      refine aw_iconst (v := 2) dL_law_532 (by decide) ?_
      refine aw_iadd dL_law_533 ?_
      obtain ⟨x105, ex105, hf⟩ := b_some hf
      refine aw_sld hz dL_law_534 ex105 ?_
      obtain ⟨q106, eq106, hf⟩ := b_some hf
      refine aw_cV (as := [.int x104, .int x105]) dL_law_535 moX7_set voX7_set mlL_68 (k_X7_set eq106) rfl (by decide) (LawX.kn hz) (Nat.le_of_ble_eq_true rfl) rfl (c_X7_set eq106) ?_
      refine aw_icmp_eq (tgt := 1127) dL_law_538 (by decide) (fun c107 => ?_) (fun c107 => ?_)
      · have hf := i_pos c107 hf
        obtain ⟨x108, ex108, hf⟩ := b_some hf
        refine aw_iinc (v := x108) (L' := [(3, .int x108), (0, .ref 1030), (1, .ref l1), (2, .ref l2)]) 3 dL_law_1127 rfl (Option.some.inj ex108) (by decide) rfl ?_
        refine aw_goto (tgt := 18) dL_law_1130 (by decide) ?_
        exact aw_sub [1, 2, 3, 0] rfl (hk18 _ _ hf)
      · have hf := i_neg c107 hf
        refine aw_iconst (v := 0) dL_law_541 (by decide) ?_
        have hq := Option.some.inj hf
        subst hq
        exact aw_lret hz dL_law_542
    have hf := i_neg c100 hf
    by_cases c109 : x3 = 13
    · have hf := i_pos c109 hf
      refine aw_tabIn (tgt := 543) dL_law_33 (by rw [c109]; decide) (by rw [c109]; decide) (by rw [c109]; rfl) (by decide) ?_
      refine aw_aload_n 1 dL_law_543 rfl rfl ?_
      refine aw_aload_n 0 dL_law_544 rfl rfl ?_
      refine aw_iload_n 3 dL_law_545 rfl rfl ?_
      refine aw_iconst (v := 1) dL_law_546 (by decide) ?_
      refine aw_iadd dL_law_547 ?_
      obtain ⟨x110, ex110, hf⟩ := b_some hf
      refine aw_sld hz dL_law_548 ex110 ?_
      refine aw_aload_n 0 dL_law_549 rfl rfl ?_
      refine aw_iload_n 3 dL_law_550 rfl rfl ?_
      refine aw_iconst (v := 2) dL_law_551 (by decide) ?_
      refine aw_iadd dL_law_552 ?_
      obtain ⟨x111, ex111, hf⟩ := b_some hf
      refine aw_sld hz dL_law_553 ex111 ?_
      obtain ⟨q112, eq112, hf⟩ := b_some hf
      refine aw_cV (as := [.int x110, .int x111]) dL_law_554 moX6_run voX6_run mlL_69 (k_X6_run eq112) rfl (by decide) (LawX.kn hz) (Nat.le_of_ble_eq_true rfl) rfl (c_X6_run eq112) ?_
      refine aw_aload_n 2 dL_law_557 rfl rfl ?_
      refine aw_aload_n 0 dL_law_558 rfl rfl ?_
      refine aw_iload_n 3 dL_law_559 rfl rfl ?_
      refine aw_iconst (v := 1) dL_law_560 (by decide) ?_
      refine aw_iadd dL_law_561 ?_
      obtain ⟨x113, ex113, hf⟩ := b_some hf
      refine aw_sld hz dL_law_562 ex113 ?_
      refine aw_aload_n 0 dL_law_563 rfl rfl ?_
      refine aw_iload_n 3 dL_law_564 rfl rfl ?_
      refine aw_iconst (v := 2) dL_law_565 (by decide) ?_
      refine aw_iadd dL_law_566 ?_
      obtain ⟨x114, ex114, hf⟩ := b_some hf
      refine aw_sld hz dL_law_567 ex114 ?_
      obtain ⟨q115, eq115, hf⟩ := b_some hf
      refine aw_cV (as := [.int x113, .int x114]) dL_law_568 moX7_run voX7_run mlL_72 (k_X7_run eq115) rfl (by decide) (LawX.kn hz) (Nat.le_of_ble_eq_true rfl) rfl (c_X7_run eq115) ?_
      refine aw_icmp_eq (tgt := 1127) dL_law_571 (by decide) (fun c116 => ?_) (fun c116 => ?_)
      · have hf := i_pos c116 hf
        obtain ⟨x117, ex117, hf⟩ := b_some hf
        refine aw_iinc (v := x117) (L' := [(3, .int x117), (0, .ref 1030), (1, .ref l1), (2, .ref l2)]) 3 dL_law_1127 rfl (Option.some.inj ex117) (by decide) rfl ?_
        refine aw_goto (tgt := 18) dL_law_1130 (by decide) ?_
        exact aw_sub [1, 2, 3, 0] rfl (hk18 _ _ hf)
      · have hf := i_neg c116 hf
        refine aw_iconst (v := 0) dL_law_574 (by decide) ?_
        have hq := Option.some.inj hf
        subst hq
        exact aw_lret hz dL_law_575
    have hf := i_neg c109 hf
    by_cases c118 : x3 = 14
    · have hf := i_pos c118 hf
      refine aw_tabIn (tgt := 576) dL_law_33 (by rw [c118]; decide) (by rw [c118]; decide) (by rw [c118]; rfl) (by decide) ?_
      refine aw_aload_n 1 dL_law_576 rfl rfl ?_
      refine aw_aload_n 0 dL_law_577 rfl rfl ?_
      refine aw_iload_n 3 dL_law_578 rfl rfl ?_
      refine aw_iconst (v := 1) dL_law_579 (by decide) ?_
      refine aw_iadd dL_law_580 ?_
      obtain ⟨x119, ex119, hf⟩ := b_some hf
      refine aw_sld hz dL_law_581 ex119 ?_
      obtain ⟨q120, eq120, hf⟩ := b_some hf
      refine aw_cV (as := [.int x119]) dL_law_582 moX6_pattern voX6_pattern mlL_73 (k_X6_pattern eq120) rfl (by decide) (LawX.kn hz) (Nat.le_of_ble_eq_true rfl) rfl (c_X6_pattern eq120) ?_
      refine aw_aload_n 2 dL_law_585 rfl rfl ?_
      refine aw_aload_n 0 dL_law_586 rfl rfl ?_
      refine aw_iload_n 3 dL_law_587 rfl rfl ?_
      refine aw_iconst (v := 1) dL_law_588 (by decide) ?_
      refine aw_iadd dL_law_589 ?_
      obtain ⟨x121, ex121, hf⟩ := b_some hf
      refine aw_sld hz dL_law_590 ex121 ?_
      obtain ⟨q122, eq122, hf⟩ := b_some hf
      refine aw_cV (as := [.int x121]) dL_law_591 moX7_pattern voX7_pattern mlL_76 (k_X7_pattern eq122) rfl (by decide) (LawX.kn hz) (Nat.le_of_ble_eq_true rfl) rfl (c_X7_pattern eq122) ?_
      refine aw_icmp_eq (tgt := 1127) dL_law_594 (by decide) (fun c123 => ?_) (fun c123 => ?_)
      · have hf := i_pos c123 hf
        obtain ⟨x124, ex124, hf⟩ := b_some hf
        refine aw_iinc (v := x124) (L' := [(3, .int x124), (0, .ref 1030), (1, .ref l1), (2, .ref l2)]) 3 dL_law_1127 rfl (Option.some.inj ex124) (by decide) rfl ?_
        refine aw_goto (tgt := 18) dL_law_1130 (by decide) ?_
        exact aw_sub [1, 2, 3, 0] rfl (hk18 _ _ hf)
      · have hf := i_neg c123 hf
        refine aw_iconst (v := 0) dL_law_597 (by decide) ?_
        have hq := Option.some.inj hf
        subst hq
        exact aw_lret hz dL_law_598
    have hf := i_neg c118 hf
    by_cases c125 : x3 = 15
    · have hf := i_pos c125 hf
      refine aw_tabIn (tgt := 599) dL_law_33 (by rw [c125]; decide) (by rw [c125]; decide) (by rw [c125]; rfl) (by decide) ?_
      refine aw_aload_n 1 dL_law_599 rfl rfl ?_
      refine aw_aload_n 0 dL_law_600 rfl rfl ?_
      refine aw_iload_n 3 dL_law_601 rfl rfl ?_
      refine aw_iconst (v := 1) dL_law_602 (by decide) ?_
      refine aw_iadd dL_law_603 ?_
      obtain ⟨x126, ex126, hf⟩ := b_some hf
      refine aw_sld hz dL_law_604 ex126 ?_
      refine aw_aload_n 0 dL_law_605 rfl rfl ?_
      refine aw_iload_n 3 dL_law_606 rfl rfl ?_
      refine aw_iconst (v := 2) dL_law_607 (by decide) ?_
      refine aw_iadd dL_law_608 ?_
      obtain ⟨x127, ex127, hf⟩ := b_some hf
      refine aw_sld hz dL_law_609 ex127 ?_
      obtain ⟨q128, eq128, hf⟩ := b_some hf
      refine aw_cV (as := [.int x126, .int x127]) dL_law_610 moX6_needs voX6_needs mlL_77 (k_X6_needs eq128) rfl (by decide) (LawX.kn hz) (Nat.le_of_ble_eq_true rfl) rfl (c_X6_needs eq128) ?_
      refine aw_aload_n 2 dL_law_613 rfl rfl ?_
      refine aw_aload_n 0 dL_law_614 rfl rfl ?_
      refine aw_iload_n 3 dL_law_615 rfl rfl ?_
      refine aw_iconst (v := 1) dL_law_616 (by decide) ?_
      refine aw_iadd dL_law_617 ?_
      obtain ⟨x129, ex129, hf⟩ := b_some hf
      refine aw_sld hz dL_law_618 ex129 ?_
      refine aw_aload_n 0 dL_law_619 rfl rfl ?_
      refine aw_iload_n 3 dL_law_620 rfl rfl ?_
      refine aw_iconst (v := 2) dL_law_621 (by decide) ?_
      refine aw_iadd dL_law_622 ?_
      obtain ⟨x130, ex130, hf⟩ := b_some hf
      refine aw_sld hz dL_law_623 ex130 ?_
      obtain ⟨q131, eq131, hf⟩ := b_some hf
      refine aw_cV (as := [.int x129, .int x130]) dL_law_624 moX7_needs voX7_needs mlL_80 (k_X7_needs eq131) rfl (by decide) (LawX.kn hz) (Nat.le_of_ble_eq_true rfl) rfl (c_X7_needs eq131) ?_
      refine aw_icmp_eq (tgt := 1127) dL_law_627 (by decide) (fun c132 => ?_) (fun c132 => ?_)
      · have hf := i_pos c132 hf
        obtain ⟨x133, ex133, hf⟩ := b_some hf
        refine aw_iinc (v := x133) (L' := [(3, .int x133), (0, .ref 1030), (1, .ref l1), (2, .ref l2)]) 3 dL_law_1127 rfl (Option.some.inj ex133) (by decide) rfl ?_
        refine aw_goto (tgt := 18) dL_law_1130 (by decide) ?_
        exact aw_sub [1, 2, 3, 0] rfl (hk18 _ _ hf)
      · have hf := i_neg c132 hf
        refine aw_iconst (v := 0) dL_law_630 (by decide) ?_
        have hq := Option.some.inj hf
        subst hq
        exact aw_lret hz dL_law_631
    have hf := i_neg c125 hf
    by_cases c134 : x3 = 16
    · have hf := i_pos c134 hf
      refine aw_tabIn (tgt := 632) dL_law_33 (by rw [c134]; decide) (by rw [c134]; decide) (by rw [c134]; rfl) (by decide) ?_
      refine aw_aload_n 1 dL_law_632 rfl rfl ?_
      refine aw_aload_n 0 dL_law_633 rfl rfl ?_
      refine aw_iload_n 3 dL_law_634 rfl rfl ?_
      refine aw_iconst (v := 1) dL_law_635 (by decide) ?_
      refine aw_iadd dL_law_636 ?_
      obtain ⟨x135, ex135, hf⟩ := b_some hf
      refine aw_sld hz dL_law_637 ex135 ?_
      refine aw_aload_n 0 dL_law_638 rfl rfl ?_
      refine aw_iload_n 3 dL_law_639 rfl rfl ?_
      refine aw_iconst (v := 2) dL_law_640 (by decide) ?_
      refine aw_iadd dL_law_641 ?_
      obtain ⟨x136, ex136, hf⟩ := b_some hf
      refine aw_sld hz dL_law_642 ex136 ?_
      obtain ⟨q137, eq137, hf⟩ := b_some hf
      refine aw_cV (as := [.int x135, .int x136]) dL_law_643 moX6_since voX6_since mlL_81 (k_X6_since eq137) rfl (by decide) (LawX.kn hz) (Nat.le_of_ble_eq_true rfl) rfl (c_X6_since eq137) ?_
      refine aw_aload_n 2 dL_law_646 rfl rfl ?_
      refine aw_aload_n 0 dL_law_647 rfl rfl ?_
      refine aw_iload_n 3 dL_law_648 rfl rfl ?_
      refine aw_iconst (v := 1) dL_law_649 (by decide) ?_
      refine aw_iadd dL_law_650 ?_
      obtain ⟨x138, ex138, hf⟩ := b_some hf
      refine aw_sld hz dL_law_651 ex138 ?_
      refine aw_aload_n 0 dL_law_652 rfl rfl ?_
      refine aw_iload_n 3 dL_law_653 rfl rfl ?_
      refine aw_iconst (v := 2) dL_law_654 (by decide) ?_
      refine aw_iadd dL_law_655 ?_
      obtain ⟨x139, ex139, hf⟩ := b_some hf
      refine aw_sld hz dL_law_656 ex139 ?_
      obtain ⟨q140, eq140, hf⟩ := b_some hf
      refine aw_cV (as := [.int x138, .int x139]) dL_law_657 moX7_since voX7_since mlL_84 (k_X7_since eq140) rfl (by decide) (LawX.kn hz) (Nat.le_of_ble_eq_true rfl) rfl (c_X7_since eq140) ?_
      refine aw_icmp_eq (tgt := 1127) dL_law_660 (by decide) (fun c141 => ?_) (fun c141 => ?_)
      · have hf := i_pos c141 hf
        obtain ⟨x142, ex142, hf⟩ := b_some hf
        refine aw_iinc (v := x142) (L' := [(3, .int x142), (0, .ref 1030), (1, .ref l1), (2, .ref l2)]) 3 dL_law_1127 rfl (Option.some.inj ex142) (by decide) rfl ?_
        refine aw_goto (tgt := 18) dL_law_1130 (by decide) ?_
        exact aw_sub [1, 2, 3, 0] rfl (hk18 _ _ hf)
      · have hf := i_neg c141 hf
        refine aw_iconst (v := 0) dL_law_663 (by decide) ?_
        have hq := Option.some.inj hf
        subst hq
        exact aw_lret hz dL_law_664
    have hf := i_neg c134 hf
    by_cases c143 : x3 = 17
    · have hf := i_pos c143 hf
      refine aw_tabIn (tgt := 665) dL_law_33 (by rw [c143]; decide) (by rw [c143]; decide) (by rw [c143]; rfl) (by decide) ?_
      refine aw_aload_n 1 dL_law_665 rfl rfl ?_
      refine aw_aload_n 0 dL_law_666 rfl rfl ?_
      refine aw_iload_n 3 dL_law_667 rfl rfl ?_
      refine aw_iconst (v := 1) dL_law_668 (by decide) ?_
      refine aw_iadd dL_law_669 ?_
      obtain ⟨x144, ex144, hf⟩ := b_some hf
      refine aw_sld hz dL_law_670 ex144 ?_
      refine aw_aload_n 0 dL_law_671 rfl rfl ?_
      refine aw_iload_n 3 dL_law_672 rfl rfl ?_
      refine aw_iconst (v := 2) dL_law_673 (by decide) ?_
      refine aw_iadd dL_law_674 ?_
      obtain ⟨x145, ex145, hf⟩ := b_some hf
      refine aw_sld hz dL_law_675 ex145 ?_
      obtain ⟨q146, eq146, hf⟩ := b_some hf
      refine aw_cV (as := [.int x144, .int x145]) dL_law_676 moX6_help voX6_help mlL_85 (k_X6_help eq146) rfl (by decide) (LawX.kn hz) (Nat.le_of_ble_eq_true rfl) rfl (c_X6_help eq146) ?_
      refine aw_aload_n 2 dL_law_679 rfl rfl ?_
      refine aw_aload_n 0 dL_law_680 rfl rfl ?_
      refine aw_iload_n 3 dL_law_681 rfl rfl ?_
      refine aw_iconst (v := 1) dL_law_682 (by decide) ?_
      refine aw_iadd dL_law_683 ?_
      obtain ⟨x147, ex147, hf⟩ := b_some hf
      refine aw_sld hz dL_law_684 ex147 ?_
      refine aw_aload_n 0 dL_law_685 rfl rfl ?_
      refine aw_iload_n 3 dL_law_686 rfl rfl ?_
      refine aw_iconst (v := 2) dL_law_687 (by decide) ?_
      refine aw_iadd dL_law_688 ?_
      obtain ⟨x148, ex148, hf⟩ := b_some hf
      refine aw_sld hz dL_law_689 ex148 ?_
      obtain ⟨q149, eq149, hf⟩ := b_some hf
      refine aw_cV (as := [.int x147, .int x148]) dL_law_690 moX7_help voX7_help mlL_88 (k_X7_help eq149) rfl (by decide) (LawX.kn hz) (Nat.le_of_ble_eq_true rfl) rfl (c_X7_help eq149) ?_
      refine aw_icmp_eq (tgt := 1127) dL_law_693 (by decide) (fun c150 => ?_) (fun c150 => ?_)
      · have hf := i_pos c150 hf
        obtain ⟨x151, ex151, hf⟩ := b_some hf
        refine aw_iinc (v := x151) (L' := [(3, .int x151), (0, .ref 1030), (1, .ref l1), (2, .ref l2)]) 3 dL_law_1127 rfl (Option.some.inj ex151) (by decide) rfl ?_
        refine aw_goto (tgt := 18) dL_law_1130 (by decide) ?_
        exact aw_sub [1, 2, 3, 0] rfl (hk18 _ _ hf)
      · have hf := i_neg c150 hf
        refine aw_iconst (v := 0) dL_law_696 (by decide) ?_
        have hq := Option.some.inj hf
        subst hq
        exact aw_lret hz dL_law_697
    have hf := i_neg c143 hf
    by_cases c152 : x3 = 18
    · have hf := i_pos c152 hf
      refine aw_tabIn (tgt := 698) dL_law_33 (by rw [c152]; decide) (by rw [c152]; decide) (by rw [c152]; rfl) (by decide) ?_
      refine aw_aload_n 1 dL_law_698 rfl rfl ?_
      refine aw_aload_n 0 dL_law_699 rfl rfl ?_
      refine aw_iload_n 3 dL_law_700 rfl rfl ?_
      refine aw_iconst (v := 1) dL_law_701 (by decide) ?_
      refine aw_iadd dL_law_702 ?_
      obtain ⟨x153, ex153, hf⟩ := b_some hf
      refine aw_sld hz dL_law_703 ex153 ?_
      obtain ⟨q154, eq154, hf⟩ := b_some hf
      refine aw_cV (as := [.int x153]) dL_law_704 moX6_without voX6_without mlL_89 (k_X6_without eq154) rfl (by decide) (LawX.kn hz) (Nat.le_of_ble_eq_true rfl) rfl (c_X6_without eq154) ?_
      refine aw_aload_n 2 dL_law_707 rfl rfl ?_
      refine aw_aload_n 0 dL_law_708 rfl rfl ?_
      refine aw_iload_n 3 dL_law_709 rfl rfl ?_
      refine aw_iconst (v := 1) dL_law_710 (by decide) ?_
      refine aw_iadd dL_law_711 ?_
      obtain ⟨x155, ex155, hf⟩ := b_some hf
      refine aw_sld hz dL_law_712 ex155 ?_
      obtain ⟨q156, eq156, hf⟩ := b_some hf
      refine aw_cV (as := [.int x155]) dL_law_713 moX7_without voX7_without mlL_92 (k_X7_without eq156) rfl (by decide) (LawX.kn hz) (Nat.le_of_ble_eq_true rfl) rfl (c_X7_without eq156) ?_
      refine aw_icmp_eq (tgt := 1127) dL_law_716 (by decide) (fun c157 => ?_) (fun c157 => ?_)
      · have hf := i_pos c157 hf
        obtain ⟨x158, ex158, hf⟩ := b_some hf
        refine aw_iinc (v := x158) (L' := [(3, .int x158), (0, .ref 1030), (1, .ref l1), (2, .ref l2)]) 3 dL_law_1127 rfl (Option.some.inj ex158) (by decide) rfl ?_
        refine aw_goto (tgt := 18) dL_law_1130 (by decide) ?_
        exact aw_sub [1, 2, 3, 0] rfl (hk18 _ _ hf)
      · have hf := i_neg c157 hf
        refine aw_iconst (v := 0) dL_law_719 (by decide) ?_
        have hq := Option.some.inj hf
        subst hq
        exact aw_lret hz dL_law_720
    have hf := i_neg c152 hf
    by_cases c159 : x3 = 19
    · have hf := i_pos c159 hf
      refine aw_tabIn (tgt := 721) dL_law_33 (by rw [c159]; decide) (by rw [c159]; decide) (by rw [c159]; rfl) (by decide) ?_
      refine aw_aload_n 1 dL_law_721 rfl rfl ?_
      obtain ⟨q160, eq160, hf⟩ := b_some hf
      refine aw_cV (as := []) dL_law_722 moX6_tables voX6_tables mlL_93 (k_X6_tables eq160) rfl (by decide) (LawX.kn hz) (Nat.le_of_ble_eq_true rfl) rfl (c_X6_tables eq160) ?_
      refine aw_aload_n 2 dL_law_725 rfl rfl ?_
      obtain ⟨q161, eq161, hf⟩ := b_some hf
      refine aw_cV (as := []) dL_law_726 moX7_tables voX7_tables mlL_96 (k_X7_tables eq161) rfl (by decide) (LawX.kn hz) (Nat.le_of_ble_eq_true rfl) rfl (c_X7_tables eq161) ?_
      refine aw_icmp_eq (tgt := 1127) dL_law_729 (by decide) (fun c162 => ?_) (fun c162 => ?_)
      · have hf := i_pos c162 hf
        obtain ⟨x163, ex163, hf⟩ := b_some hf
        refine aw_iinc (v := x163) (L' := [(3, .int x163), (0, .ref 1030), (1, .ref l1), (2, .ref l2)]) 3 dL_law_1127 rfl (Option.some.inj ex163) (by decide) rfl ?_
        refine aw_goto (tgt := 18) dL_law_1130 (by decide) ?_
        exact aw_sub [1, 2, 3, 0] rfl (hk18 _ _ hf)
      · have hf := i_neg c162 hf
        refine aw_iconst (v := 0) dL_law_732 (by decide) ?_
        have hq := Option.some.inj hf
        subst hq
        exact aw_lret hz dL_law_733
    have hf := i_neg c159 hf
    by_cases c164 : x3 = 20
    · have hf := i_pos c164 hf
      refine aw_tabIn (tgt := 734) dL_law_33 (by rw [c164]; decide) (by rw [c164]; decide) (by rw [c164]; rfl) (by decide) ?_
      refine aw_aload_n 1 dL_law_734 rfl rfl ?_
      refine aw_aload_n 0 dL_law_735 rfl rfl ?_
      refine aw_iload_n 3 dL_law_736 rfl rfl ?_
      refine aw_iconst (v := 1) dL_law_737 (by decide) ?_
      refine aw_iadd dL_law_738 ?_
      obtain ⟨x165, ex165, hf⟩ := b_some hf
      refine aw_sld hz dL_law_739 ex165 ?_
      obtain ⟨q166, eq166, hf⟩ := b_some hf
      refine aw_cV (as := [.int x165]) dL_law_740 moX6_drawn voX6_drawn mlL_97 (k_X6_drawn eq166) rfl (by decide) (LawX.kn hz) (Nat.le_of_ble_eq_true rfl) rfl (c_X6_drawn eq166) ?_
      refine aw_aload_n 2 dL_law_743 rfl rfl ?_
      refine aw_aload_n 0 dL_law_744 rfl rfl ?_
      refine aw_iload_n 3 dL_law_745 rfl rfl ?_
      refine aw_iconst (v := 1) dL_law_746 (by decide) ?_
      refine aw_iadd dL_law_747 ?_
      obtain ⟨x167, ex167, hf⟩ := b_some hf
      refine aw_sld hz dL_law_748 ex167 ?_
      obtain ⟨q168, eq168, hf⟩ := b_some hf
      refine aw_cV (as := [.int x167]) dL_law_749 moX7_drawn voX7_drawn mlL_100 (k_X7_drawn eq168) rfl (by decide) (LawX.kn hz) (Nat.le_of_ble_eq_true rfl) rfl (c_X7_drawn eq168) ?_
      refine aw_icmp_eq (tgt := 1127) dL_law_752 (by decide) (fun c169 => ?_) (fun c169 => ?_)
      · have hf := i_pos c169 hf
        obtain ⟨x170, ex170, hf⟩ := b_some hf
        refine aw_iinc (v := x170) (L' := [(3, .int x170), (0, .ref 1030), (1, .ref l1), (2, .ref l2)]) 3 dL_law_1127 rfl (Option.some.inj ex170) (by decide) rfl ?_
        refine aw_goto (tgt := 18) dL_law_1130 (by decide) ?_
        exact aw_sub [1, 2, 3, 0] rfl (hk18 _ _ hf)
      · have hf := i_neg c169 hf
        refine aw_iconst (v := 0) dL_law_755 (by decide) ?_
        have hq := Option.some.inj hf
        subst hq
        exact aw_lret hz dL_law_756
    have hf := i_neg c164 hf
    by_cases c171 : x3 = 21
    · have hf := i_pos c171 hf
      refine aw_tabIn (tgt := 757) dL_law_33 (by rw [c171]; decide) (by rw [c171]; decide) (by rw [c171]; rfl) (by decide) ?_
      refine aw_aload_n 1 dL_law_757 rfl rfl ?_
      refine aw_aload_n 0 dL_law_758 rfl rfl ?_
      refine aw_iload_n 3 dL_law_759 rfl rfl ?_
      refine aw_iconst (v := 1) dL_law_760 (by decide) ?_
      refine aw_iadd dL_law_761 ?_
      obtain ⟨x172, ex172, hf⟩ := b_some hf
      refine aw_sld hz dL_law_762 ex172 ?_
      refine aw_aload_n 0 dL_law_763 rfl rfl ?_
      refine aw_iload_n 3 dL_law_764 rfl rfl ?_
      refine aw_iconst (v := 2) dL_law_765 (by decide) ?_
      refine aw_iadd dL_law_766 ?_
      obtain ⟨x173, ex173, hf⟩ := b_some hf
      refine aw_sld hz dL_law_767 ex173 ?_
      refine aw_aload_n 0 dL_law_768 rfl rfl ?_
      refine aw_iload_n 3 dL_law_769 rfl rfl ?_
      refine aw_iconst (v := 3) dL_law_770 (by decide) ?_
      refine aw_iadd dL_law_771 ?_
      obtain ⟨x174, ex174, hf⟩ := b_some hf
      refine aw_sld hz dL_law_772 ex174 ?_
      refine aw_aload_n 0 dL_law_773 rfl rfl ?_
      refine aw_iload_n 3 dL_law_774 rfl rfl ?_
      refine aw_iconst (v := 4) dL_law_775 (by decide) ?_
      refine aw_iadd dL_law_776 ?_
      obtain ⟨x175, ex175, hf⟩ := b_some hf
      refine aw_sld hz dL_law_777 ex175 ?_
      obtain ⟨q176, eq176, hf⟩ := b_some hf
      refine aw_cV (as := [.int x172, .int x173, .int x174, .int x175]) dL_law_778 moX6_chance voX6_chance mlL_101 (k_X6_chance eq176) rfl (by decide) (LawX.kn hz) (Nat.le_of_ble_eq_true rfl) rfl (c_X6_chance eq176) ?_
      refine aw_aload_n 2 dL_law_781 rfl rfl ?_
      refine aw_aload_n 0 dL_law_782 rfl rfl ?_
      refine aw_iload_n 3 dL_law_783 rfl rfl ?_
      refine aw_iconst (v := 1) dL_law_784 (by decide) ?_
      refine aw_iadd dL_law_785 ?_
      obtain ⟨x177, ex177, hf⟩ := b_some hf
      refine aw_sld hz dL_law_786 ex177 ?_
      refine aw_aload_n 0 dL_law_787 rfl rfl ?_
      refine aw_iload_n 3 dL_law_788 rfl rfl ?_
      refine aw_iconst (v := 2) dL_law_789 (by decide) ?_
      refine aw_iadd dL_law_790 ?_
      obtain ⟨x178, ex178, hf⟩ := b_some hf
      refine aw_sld hz dL_law_791 ex178 ?_
      refine aw_aload_n 0 dL_law_792 rfl rfl ?_
      refine aw_iload_n 3 dL_law_793 rfl rfl ?_
      refine aw_iconst (v := 3) dL_law_794 (by decide) ?_
      refine aw_iadd dL_law_795 ?_
      obtain ⟨x179, ex179, hf⟩ := b_some hf
      refine aw_sld hz dL_law_796 ex179 ?_
      refine aw_aload_n 0 dL_law_797 rfl rfl ?_
      refine aw_iload_n 3 dL_law_798 rfl rfl ?_
      refine aw_iconst (v := 4) dL_law_799 (by decide) ?_
      refine aw_iadd dL_law_800 ?_
      obtain ⟨x180, ex180, hf⟩ := b_some hf
      refine aw_sld hz dL_law_801 ex180 ?_
      obtain ⟨q181, eq181, hf⟩ := b_some hf
      refine aw_cV (as := [.int x177, .int x178, .int x179, .int x180]) dL_law_802 moX7_chance voX7_chance mlL_105 (k_X7_chance eq181) rfl (by decide) (LawX.kn hz) (Nat.le_of_ble_eq_true rfl) rfl (c_X7_chance eq181) ?_
      refine aw_icmp_eq (tgt := 1127) dL_law_805 (by decide) (fun c182 => ?_) (fun c182 => ?_)
      · have hf := i_pos c182 hf
        obtain ⟨x183, ex183, hf⟩ := b_some hf
        refine aw_iinc (v := x183) (L' := [(3, .int x183), (0, .ref 1030), (1, .ref l1), (2, .ref l2)]) 3 dL_law_1127 rfl (Option.some.inj ex183) (by decide) rfl ?_
        refine aw_goto (tgt := 18) dL_law_1130 (by decide) ?_
        exact aw_sub [1, 2, 3, 0] rfl (hk18 _ _ hf)
      · have hf := i_neg c182 hf
        refine aw_iconst (v := 0) dL_law_808 (by decide) ?_
        have hq := Option.some.inj hf
        subst hq
        exact aw_lret hz dL_law_809
    have hf := i_neg c171 hf
    by_cases c184 : x3 = 22
    · have hf := i_pos c184 hf
      refine aw_tabIn (tgt := 810) dL_law_33 (by rw [c184]; decide) (by rw [c184]; decide) (by rw [c184]; rfl) (by decide) ?_
      refine aw_aload_n 1 dL_law_810 rfl rfl ?_
      refine aw_aload_n 0 dL_law_811 rfl rfl ?_
      refine aw_iload_n 3 dL_law_812 rfl rfl ?_
      refine aw_iconst (v := 1) dL_law_813 (by decide) ?_
      refine aw_iadd dL_law_814 ?_
      obtain ⟨x185, ex185, hf⟩ := b_some hf
      refine aw_sld hz dL_law_815 ex185 ?_
      refine aw_aload_n 0 dL_law_816 rfl rfl ?_
      refine aw_iload_n 3 dL_law_817 rfl rfl ?_
      refine aw_iconst (v := 2) dL_law_818 (by decide) ?_
      refine aw_iadd dL_law_819 ?_
      obtain ⟨x186, ex186, hf⟩ := b_some hf
      refine aw_sld hz dL_law_820 ex186 ?_
      obtain ⟨q187, eq187, hf⟩ := b_some hf
      refine aw_cV (as := [.int x185, .int x186]) dL_law_821 moX6_tells voX6_tells mlL_106 (k_X6_tells eq187) rfl (by decide) (LawX.kn hz) (Nat.le_of_ble_eq_true rfl) rfl (c_X6_tells eq187) ?_
      refine aw_aload_n 2 dL_law_824 rfl rfl ?_
      refine aw_aload_n 0 dL_law_825 rfl rfl ?_
      refine aw_iload_n 3 dL_law_826 rfl rfl ?_
      refine aw_iconst (v := 1) dL_law_827 (by decide) ?_
      refine aw_iadd dL_law_828 ?_
      obtain ⟨x188, ex188, hf⟩ := b_some hf
      refine aw_sld hz dL_law_829 ex188 ?_
      refine aw_aload_n 0 dL_law_830 rfl rfl ?_
      refine aw_iload_n 3 dL_law_831 rfl rfl ?_
      refine aw_iconst (v := 2) dL_law_832 (by decide) ?_
      refine aw_iadd dL_law_833 ?_
      obtain ⟨x189, ex189, hf⟩ := b_some hf
      refine aw_sld hz dL_law_834 ex189 ?_
      obtain ⟨q190, eq190, hf⟩ := b_some hf
      refine aw_cV (as := [.int x188, .int x189]) dL_law_835 moX7_tells voX7_tells mlL_109 (k_X7_tells eq190) rfl (by decide) (LawX.kn hz) (Nat.le_of_ble_eq_true rfl) rfl (c_X7_tells eq190) ?_
      refine aw_icmp_eq (tgt := 1127) dL_law_838 (by decide) (fun c191 => ?_) (fun c191 => ?_)
      · have hf := i_pos c191 hf
        obtain ⟨x192, ex192, hf⟩ := b_some hf
        refine aw_iinc (v := x192) (L' := [(3, .int x192), (0, .ref 1030), (1, .ref l1), (2, .ref l2)]) 3 dL_law_1127 rfl (Option.some.inj ex192) (by decide) rfl ?_
        refine aw_goto (tgt := 18) dL_law_1130 (by decide) ?_
        exact aw_sub [1, 2, 3, 0] rfl (hk18 _ _ hf)
      · have hf := i_neg c191 hf
        refine aw_iconst (v := 0) dL_law_841 (by decide) ?_
        have hq := Option.some.inj hf
        subst hq
        exact aw_lret hz dL_law_842
    have hf := i_neg c184 hf
    by_cases c193 : x3 = 23
    · have hf := i_pos c193 hf
      refine aw_tabIn (tgt := 843) dL_law_33 (by rw [c193]; decide) (by rw [c193]; decide) (by rw [c193]; rfl) (by decide) ?_
      refine aw_aload_n 1 dL_law_843 rfl rfl ?_
      refine aw_aload_n 0 dL_law_844 rfl rfl ?_
      refine aw_iload_n 3 dL_law_845 rfl rfl ?_
      refine aw_iconst (v := 1) dL_law_846 (by decide) ?_
      refine aw_iadd dL_law_847 ?_
      obtain ⟨x194, ex194, hf⟩ := b_some hf
      refine aw_sld hz dL_law_848 ex194 ?_
      refine aw_aload_n 0 dL_law_849 rfl rfl ?_
      refine aw_iload_n 3 dL_law_850 rfl rfl ?_
      refine aw_iconst (v := 2) dL_law_851 (by decide) ?_
      refine aw_iadd dL_law_852 ?_
      obtain ⟨x195, ex195, hf⟩ := b_some hf
      refine aw_sld hz dL_law_853 ex195 ?_
      obtain ⟨q196, eq196, hf⟩ := b_some hf
      refine aw_cV (as := [.int x194, .int x195]) dL_law_854 moX6_film voX6_film mlL_110 (k_X6_film eq196) rfl (by decide) (LawX.kn hz) (Nat.le_of_ble_eq_true rfl) rfl (c_X6_film eq196) ?_
      refine aw_aload_n 2 dL_law_857 rfl rfl ?_
      refine aw_aload_n 0 dL_law_858 rfl rfl ?_
      refine aw_iload_n 3 dL_law_859 rfl rfl ?_
      refine aw_iconst (v := 1) dL_law_860 (by decide) ?_
      refine aw_iadd dL_law_861 ?_
      obtain ⟨x197, ex197, hf⟩ := b_some hf
      refine aw_sld hz dL_law_862 ex197 ?_
      refine aw_aload_n 0 dL_law_863 rfl rfl ?_
      refine aw_iload_n 3 dL_law_864 rfl rfl ?_
      refine aw_iconst (v := 2) dL_law_865 (by decide) ?_
      refine aw_iadd dL_law_866 ?_
      obtain ⟨x198, ex198, hf⟩ := b_some hf
      refine aw_sld hz dL_law_867 ex198 ?_
      obtain ⟨q199, eq199, hf⟩ := b_some hf
      refine aw_cV (as := [.int x197, .int x198]) dL_law_868 moX7_film voX7_film mlL_113 (k_X7_film eq199) rfl (by decide) (LawX.kn hz) (Nat.le_of_ble_eq_true rfl) rfl (c_X7_film eq199) ?_
      refine aw_icmp_eq (tgt := 1127) dL_law_871 (by decide) (fun c200 => ?_) (fun c200 => ?_)
      · have hf := i_pos c200 hf
        obtain ⟨x201, ex201, hf⟩ := b_some hf
        refine aw_iinc (v := x201) (L' := [(3, .int x201), (0, .ref 1030), (1, .ref l1), (2, .ref l2)]) 3 dL_law_1127 rfl (Option.some.inj ex201) (by decide) rfl ?_
        refine aw_goto (tgt := 18) dL_law_1130 (by decide) ?_
        exact aw_sub [1, 2, 3, 0] rfl (hk18 _ _ hf)
      · have hf := i_neg c200 hf
        refine aw_iconst (v := 0) dL_law_874 (by decide) ?_
        have hq := Option.some.inj hf
        subst hq
        exact aw_lret hz dL_law_875
    have hf := i_neg c193 hf
    by_cases c202 : x3 = 24
    · have hf := i_pos c202 hf
      refine aw_tabIn (tgt := 876) dL_law_33 (by rw [c202]; decide) (by rw [c202]; decide) (by rw [c202]; rfl) (by decide) ?_
      refine aw_aload_n 1 dL_law_876 rfl rfl ?_
      obtain ⟨q203, eq203, hf⟩ := b_some hf
      refine aw_cV (as := []) dL_law_877 moX6_image voX6_image mlL_114 (k_X6_image eq203) rfl (by decide) (LawX.kn hz) (Nat.le_of_ble_eq_true rfl) rfl (c_X6_image eq203) ?_
      refine aw_aload_n 2 dL_law_880 rfl rfl ?_
      obtain ⟨q204, eq204, hf⟩ := b_some hf
      refine aw_cV (as := []) dL_law_881 moX7_image voX7_image mlL_117 (k_X7_image eq204) rfl (by decide) (LawX.kn hz) (Nat.le_of_ble_eq_true rfl) rfl (c_X7_image eq204) ?_
      refine aw_icmp_eq (tgt := 1127) dL_law_884 (by decide) (fun c205 => ?_) (fun c205 => ?_)
      · have hf := i_pos c205 hf
        obtain ⟨x206, ex206, hf⟩ := b_some hf
        refine aw_iinc (v := x206) (L' := [(3, .int x206), (0, .ref 1030), (1, .ref l1), (2, .ref l2)]) 3 dL_law_1127 rfl (Option.some.inj ex206) (by decide) rfl ?_
        refine aw_goto (tgt := 18) dL_law_1130 (by decide) ?_
        exact aw_sub [1, 2, 3, 0] rfl (hk18 _ _ hf)
      · have hf := i_neg c205 hf
        refine aw_iconst (v := 0) dL_law_887 (by decide) ?_
        have hq := Option.some.inj hf
        subst hq
        exact aw_lret hz dL_law_888
    have hf := i_neg c202 hf
    by_cases c207 : x3 = 25
    · have hf := i_pos c207 hf
      refine aw_tabIn (tgt := 889) dL_law_33 (by rw [c207]; decide) (by rw [c207]; decide) (by rw [c207]; rfl) (by decide) ?_
      refine aw_aload_n 1 dL_law_889 rfl rfl ?_
      obtain ⟨q208, eq208, hf⟩ := b_some hf
      refine aw_cV (as := []) dL_law_890 moX6_back voX6_back mlL_118 (k_X6_back eq208) rfl (by decide) (LawX.kn hz) (Nat.le_of_ble_eq_true rfl) rfl (c_X6_back eq208) ?_
      refine aw_aload_n 2 dL_law_893 rfl rfl ?_
      obtain ⟨q209, eq209, hf⟩ := b_some hf
      refine aw_cV (as := []) dL_law_894 moX7_back voX7_back mlL_121 (k_X7_back eq209) rfl (by decide) (LawX.kn hz) (Nat.le_of_ble_eq_true rfl) rfl (c_X7_back eq209) ?_
      refine aw_icmp_eq (tgt := 1127) dL_law_897 (by decide) (fun c210 => ?_) (fun c210 => ?_)
      · have hf := i_pos c210 hf
        obtain ⟨x211, ex211, hf⟩ := b_some hf
        refine aw_iinc (v := x211) (L' := [(3, .int x211), (0, .ref 1030), (1, .ref l1), (2, .ref l2)]) 3 dL_law_1127 rfl (Option.some.inj ex211) (by decide) rfl ?_
        refine aw_goto (tgt := 18) dL_law_1130 (by decide) ?_
        exact aw_sub [1, 2, 3, 0] rfl (hk18 _ _ hf)
      · have hf := i_neg c210 hf
        refine aw_iconst (v := 0) dL_law_900 (by decide) ?_
        have hq := Option.some.inj hf
        subst hq
        exact aw_lret hz dL_law_901
    have hf := i_neg c207 hf
    by_cases c212 : x3 = 26
    · have hf := i_pos c212 hf
      refine aw_tabIn (tgt := 902) dL_law_33 (by rw [c212]; decide) (by rw [c212]; decide) (by rw [c212]; rfl) (by decide) ?_
      refine aw_aload_n 1 dL_law_902 rfl rfl ?_
      refine aw_aload_n 0 dL_law_903 rfl rfl ?_
      refine aw_iload_n 3 dL_law_904 rfl rfl ?_
      refine aw_iconst (v := 1) dL_law_905 (by decide) ?_
      refine aw_iadd dL_law_906 ?_
      obtain ⟨x213, ex213, hf⟩ := b_some hf
      refine aw_sld hz dL_law_907 ex213 ?_
      obtain ⟨q214, eq214, hf⟩ := b_some hf
      refine aw_cV (as := [.int x213]) dL_law_908 moX6_count voX6_count mlL_122 (k_X6_count eq214) rfl (by decide) (LawX.kn hz) (Nat.le_of_ble_eq_true rfl) rfl (c_X6_count eq214) ?_
      refine aw_aload_n 2 dL_law_911 rfl rfl ?_
      refine aw_aload_n 0 dL_law_912 rfl rfl ?_
      refine aw_iload_n 3 dL_law_913 rfl rfl ?_
      refine aw_iconst (v := 1) dL_law_914 (by decide) ?_
      refine aw_iadd dL_law_915 ?_
      obtain ⟨x215, ex215, hf⟩ := b_some hf
      refine aw_sld hz dL_law_916 ex215 ?_
      obtain ⟨q216, eq216, hf⟩ := b_some hf
      refine aw_cV (as := [.int x215]) dL_law_917 moX7_count voX7_count mlL_125 (k_X7_count eq216) rfl (by decide) (LawX.kn hz) (Nat.le_of_ble_eq_true rfl) rfl (c_X7_count eq216) ?_
      refine aw_icmp_eq (tgt := 1127) dL_law_920 (by decide) (fun c217 => ?_) (fun c217 => ?_)
      · have hf := i_pos c217 hf
        obtain ⟨x218, ex218, hf⟩ := b_some hf
        refine aw_iinc (v := x218) (L' := [(3, .int x218), (0, .ref 1030), (1, .ref l1), (2, .ref l2)]) 3 dL_law_1127 rfl (Option.some.inj ex218) (by decide) rfl ?_
        refine aw_goto (tgt := 18) dL_law_1130 (by decide) ?_
        exact aw_sub [1, 2, 3, 0] rfl (hk18 _ _ hf)
      · have hf := i_neg c217 hf
        refine aw_iconst (v := 0) dL_law_923 (by decide) ?_
        have hq := Option.some.inj hf
        subst hq
        exact aw_lret hz dL_law_924
    have hf := i_neg c212 hf
    by_cases c219 : x3 = 27
    · have hf := i_pos c219 hf
      refine aw_tabIn (tgt := 925) dL_law_33 (by rw [c219]; decide) (by rw [c219]; decide) (by rw [c219]; rfl) (by decide) ?_
      refine aw_aload_n 1 dL_law_925 rfl rfl ?_
      refine aw_aload_n 0 dL_law_926 rfl rfl ?_
      refine aw_iload_n 3 dL_law_927 rfl rfl ?_
      refine aw_iconst (v := 1) dL_law_928 (by decide) ?_
      refine aw_iadd dL_law_929 ?_
      obtain ⟨x220, ex220, hf⟩ := b_some hf
      refine aw_sld hz dL_law_930 ex220 ?_
      refine aw_aload_n 0 dL_law_931 rfl rfl ?_
      refine aw_iload_n 3 dL_law_932 rfl rfl ?_
      refine aw_iconst (v := 2) dL_law_933 (by decide) ?_
      refine aw_iadd dL_law_934 ?_
      obtain ⟨x221, ex221, hf⟩ := b_some hf
      refine aw_sld hz dL_law_935 ex221 ?_
      refine aw_aload_n 0 dL_law_936 rfl rfl ?_
      refine aw_iload_n 3 dL_law_937 rfl rfl ?_
      refine aw_iconst (v := 3) dL_law_938 (by decide) ?_
      refine aw_iadd dL_law_939 ?_
      obtain ⟨x222, ex222, hf⟩ := b_some hf
      refine aw_sld hz dL_law_940 ex222 ?_
      obtain ⟨q223, eq223, hf⟩ := b_some hf
      refine aw_cV (as := [.int x220, .int x221, .int x222]) dL_law_941 moX6_sheet voX6_sheet mlL_126 (k_X6_sheet eq223) rfl (by decide) (LawX.kn hz) (Nat.le_of_ble_eq_true rfl) rfl (c_X6_sheet eq223) ?_
      refine aw_aload_n 2 dL_law_944 rfl rfl ?_
      refine aw_aload_n 0 dL_law_945 rfl rfl ?_
      refine aw_iload_n 3 dL_law_946 rfl rfl ?_
      refine aw_iconst (v := 1) dL_law_947 (by decide) ?_
      refine aw_iadd dL_law_948 ?_
      obtain ⟨x224, ex224, hf⟩ := b_some hf
      refine aw_sld hz dL_law_949 ex224 ?_
      refine aw_aload_n 0 dL_law_950 rfl rfl ?_
      refine aw_iload_n 3 dL_law_951 rfl rfl ?_
      refine aw_iconst (v := 2) dL_law_952 (by decide) ?_
      refine aw_iadd dL_law_953 ?_
      obtain ⟨x225, ex225, hf⟩ := b_some hf
      refine aw_sld hz dL_law_954 ex225 ?_
      refine aw_aload_n 0 dL_law_955 rfl rfl ?_
      refine aw_iload_n 3 dL_law_956 rfl rfl ?_
      refine aw_iconst (v := 3) dL_law_957 (by decide) ?_
      refine aw_iadd dL_law_958 ?_
      obtain ⟨x226, ex226, hf⟩ := b_some hf
      refine aw_sld hz dL_law_959 ex226 ?_
      obtain ⟨q227, eq227, hf⟩ := b_some hf
      refine aw_cV (as := [.int x224, .int x225, .int x226]) dL_law_960 moX7_sheet voX7_sheet mlL_130 (k_X7_sheet eq227) rfl (by decide) (LawX.kn hz) (Nat.le_of_ble_eq_true rfl) rfl (c_X7_sheet eq227) ?_
      refine aw_icmp_eq (tgt := 1127) dL_law_963 (by decide) (fun c228 => ?_) (fun c228 => ?_)
      · have hf := i_pos c228 hf
        obtain ⟨x229, ex229, hf⟩ := b_some hf
        refine aw_iinc (v := x229) (L' := [(3, .int x229), (0, .ref 1030), (1, .ref l1), (2, .ref l2)]) 3 dL_law_1127 rfl (Option.some.inj ex229) (by decide) rfl ?_
        refine aw_goto (tgt := 18) dL_law_1130 (by decide) ?_
        exact aw_sub [1, 2, 3, 0] rfl (hk18 _ _ hf)
      · have hf := i_neg c228 hf
        refine aw_iconst (v := 0) dL_law_966 (by decide) ?_
        have hq := Option.some.inj hf
        subst hq
        exact aw_lret hz dL_law_967
    have hf := i_neg c219 hf
    by_cases c230 : x3 = 28
    · have hf := i_pos c230 hf
      refine aw_tabIn (tgt := 968) dL_law_33 (by rw [c230]; decide) (by rw [c230]; decide) (by rw [c230]; rfl) (by decide) ?_
      refine aw_aload_n 1 dL_law_968 rfl rfl ?_
      refine aw_aload_n 0 dL_law_969 rfl rfl ?_
      refine aw_iload_n 3 dL_law_970 rfl rfl ?_
      refine aw_iconst (v := 1) dL_law_971 (by decide) ?_
      refine aw_iadd dL_law_972 ?_
      obtain ⟨x231, ex231, hf⟩ := b_some hf
      refine aw_sld hz dL_law_973 ex231 ?_
      refine aw_aload_n 0 dL_law_974 rfl rfl ?_
      refine aw_iload_n 3 dL_law_975 rfl rfl ?_
      refine aw_iconst (v := 2) dL_law_976 (by decide) ?_
      refine aw_iadd dL_law_977 ?_
      obtain ⟨x232, ex232, hf⟩ := b_some hf
      refine aw_sld hz dL_law_978 ex232 ?_
      refine aw_aload_n 0 dL_law_979 rfl rfl ?_
      refine aw_iload_n 3 dL_law_980 rfl rfl ?_
      refine aw_iconst (v := 3) dL_law_981 (by decide) ?_
      refine aw_iadd dL_law_982 ?_
      obtain ⟨x233, ex233, hf⟩ := b_some hf
      refine aw_sld hz dL_law_983 ex233 ?_
      obtain ⟨q234, eq234, hf⟩ := b_some hf
      refine aw_cV (as := [.int x231, .int x232, .int x233]) dL_law_984 moX6_put voX6_put mlL_131 (k_X6_put eq234) rfl (by decide) (LawX.kn hz) (Nat.le_of_ble_eq_true rfl) rfl (c_X6_put eq234) ?_
      refine aw_aload_n 2 dL_law_987 rfl rfl ?_
      refine aw_aload_n 0 dL_law_988 rfl rfl ?_
      refine aw_iload_n 3 dL_law_989 rfl rfl ?_
      refine aw_iconst (v := 1) dL_law_990 (by decide) ?_
      refine aw_iadd dL_law_991 ?_
      obtain ⟨x235, ex235, hf⟩ := b_some hf
      refine aw_sld hz dL_law_992 ex235 ?_
      refine aw_aload_n 0 dL_law_993 rfl rfl ?_
      refine aw_iload_n 3 dL_law_994 rfl rfl ?_
      refine aw_iconst (v := 2) dL_law_995 (by decide) ?_
      refine aw_iadd dL_law_996 ?_
      obtain ⟨x236, ex236, hf⟩ := b_some hf
      refine aw_sld hz dL_law_997 ex236 ?_
      refine aw_aload_n 0 dL_law_998 rfl rfl ?_
      refine aw_iload_n 3 dL_law_999 rfl rfl ?_
      refine aw_iconst (v := 3) dL_law_1000 (by decide) ?_
      refine aw_iadd dL_law_1001 ?_
      obtain ⟨x237, ex237, hf⟩ := b_some hf
      refine aw_sld hz dL_law_1002 ex237 ?_
      obtain ⟨q238, eq238, hf⟩ := b_some hf
      refine aw_cV (as := [.int x235, .int x236, .int x237]) dL_law_1003 moX7_put voX7_put mlL_134 (k_X7_put eq238) rfl (by decide) (LawX.kn hz) (Nat.le_of_ble_eq_true rfl) rfl (c_X7_put eq238) ?_
      refine aw_icmp_eq (tgt := 1127) dL_law_1006 (by decide) (fun c239 => ?_) (fun c239 => ?_)
      · have hf := i_pos c239 hf
        obtain ⟨x240, ex240, hf⟩ := b_some hf
        refine aw_iinc (v := x240) (L' := [(3, .int x240), (0, .ref 1030), (1, .ref l1), (2, .ref l2)]) 3 dL_law_1127 rfl (Option.some.inj ex240) (by decide) rfl ?_
        refine aw_goto (tgt := 18) dL_law_1130 (by decide) ?_
        exact aw_sub [1, 2, 3, 0] rfl (hk18 _ _ hf)
      · have hf := i_neg c239 hf
        refine aw_iconst (v := 0) dL_law_1009 (by decide) ?_
        have hq := Option.some.inj hf
        subst hq
        exact aw_lret hz dL_law_1010
    have hf := i_neg c230 hf
    by_cases c241 : x3 = 29
    · have hf := i_pos c241 hf
      refine aw_tabIn (tgt := 1011) dL_law_33 (by rw [c241]; decide) (by rw [c241]; decide) (by rw [c241]; rfl) (by decide) ?_
      refine aw_aload_n 1 dL_law_1011 rfl rfl ?_
      refine aw_aload_n 0 dL_law_1012 rfl rfl ?_
      refine aw_iload_n 3 dL_law_1013 rfl rfl ?_
      refine aw_iconst (v := 1) dL_law_1014 (by decide) ?_
      refine aw_iadd dL_law_1015 ?_
      obtain ⟨x242, ex242, hf⟩ := b_some hf
      refine aw_sld hz dL_law_1016 ex242 ?_
      refine aw_aload_n 0 dL_law_1017 rfl rfl ?_
      refine aw_iload_n 3 dL_law_1018 rfl rfl ?_
      refine aw_iconst (v := 2) dL_law_1019 (by decide) ?_
      refine aw_iadd dL_law_1020 ?_
      obtain ⟨x243, ex243, hf⟩ := b_some hf
      refine aw_sld hz dL_law_1021 ex243 ?_
      refine aw_aload_n 0 dL_law_1022 rfl rfl ?_
      refine aw_iload_n 3 dL_law_1023 rfl rfl ?_
      refine aw_iconst (v := 3) dL_law_1024 (by decide) ?_
      refine aw_iadd dL_law_1025 ?_
      obtain ⟨x244, ex244, hf⟩ := b_some hf
      refine aw_sld hz dL_law_1026 ex244 ?_
      refine aw_aload_n 0 dL_law_1027 rfl rfl ?_
      refine aw_iload_n 3 dL_law_1028 rfl rfl ?_
      refine aw_iconst (v := 4) dL_law_1029 (by decide) ?_
      refine aw_iadd dL_law_1030 ?_
      obtain ⟨x245, ex245, hf⟩ := b_some hf
      refine aw_sld hz dL_law_1031 ex245 ?_
      refine aw_aload_n 0 dL_law_1032 rfl rfl ?_
      refine aw_iload_n 3 dL_law_1033 rfl rfl ?_
      refine aw_iconst (v := 5) dL_law_1034 (by decide) ?_
      refine aw_iadd dL_law_1035 ?_
      obtain ⟨x246, ex246, hf⟩ := b_some hf
      refine aw_sld hz dL_law_1036 ex246 ?_
      obtain ⟨q247, eq247, hf⟩ := b_some hf
      refine aw_cV (as := [.int x242, .int x243, .int x244, .int x245, .int x246]) dL_law_1037 moX6_copy voX6_copy mlL_135 (k_X6_copy eq247) rfl (by decide) (LawX.kn hz) (Nat.le_of_ble_eq_true rfl) rfl (c_X6_copy eq247) ?_
      refine aw_aload_n 2 dL_law_1040 rfl rfl ?_
      refine aw_aload_n 0 dL_law_1041 rfl rfl ?_
      refine aw_iload_n 3 dL_law_1042 rfl rfl ?_
      refine aw_iconst (v := 1) dL_law_1043 (by decide) ?_
      refine aw_iadd dL_law_1044 ?_
      obtain ⟨x248, ex248, hf⟩ := b_some hf
      refine aw_sld hz dL_law_1045 ex248 ?_
      refine aw_aload_n 0 dL_law_1046 rfl rfl ?_
      refine aw_iload_n 3 dL_law_1047 rfl rfl ?_
      refine aw_iconst (v := 2) dL_law_1048 (by decide) ?_
      refine aw_iadd dL_law_1049 ?_
      obtain ⟨x249, ex249, hf⟩ := b_some hf
      refine aw_sld hz dL_law_1050 ex249 ?_
      refine aw_aload_n 0 dL_law_1051 rfl rfl ?_
      refine aw_iload_n 3 dL_law_1052 rfl rfl ?_
      refine aw_iconst (v := 3) dL_law_1053 (by decide) ?_
      refine aw_iadd dL_law_1054 ?_
      obtain ⟨x250, ex250, hf⟩ := b_some hf
      refine aw_sld hz dL_law_1055 ex250 ?_
      refine aw_aload_n 0 dL_law_1056 rfl rfl ?_
      refine aw_iload_n 3 dL_law_1057 rfl rfl ?_
      refine aw_iconst (v := 4) dL_law_1058 (by decide) ?_
      refine aw_iadd dL_law_1059 ?_
      obtain ⟨x251, ex251, hf⟩ := b_some hf
      refine aw_sld hz dL_law_1060 ex251 ?_
      refine aw_aload_n 0 dL_law_1061 rfl rfl ?_
      refine aw_iload_n 3 dL_law_1062 rfl rfl ?_
      refine aw_iconst (v := 5) dL_law_1063 (by decide) ?_
      refine aw_iadd dL_law_1064 ?_
      obtain ⟨x252, ex252, hf⟩ := b_some hf
      refine aw_sld hz dL_law_1065 ex252 ?_
      obtain ⟨q253, eq253, hf⟩ := b_some hf
      refine aw_cV (as := [.int x248, .int x249, .int x250, .int x251, .int x252]) dL_law_1066 moX7_copy voX7_copy mlL_139 (k_X7_copy eq253) rfl (by decide) (LawX.kn hz) (Nat.le_of_ble_eq_true rfl) rfl (c_X7_copy eq253) ?_
      refine aw_icmp_eq (tgt := 1127) dL_law_1069 (by decide) (fun c254 => ?_) (fun c254 => ?_)
      · have hf := i_pos c254 hf
        obtain ⟨x255, ex255, hf⟩ := b_some hf
        refine aw_iinc (v := x255) (L' := [(3, .int x255), (0, .ref 1030), (1, .ref l1), (2, .ref l2)]) 3 dL_law_1127 rfl (Option.some.inj ex255) (by decide) rfl ?_
        refine aw_goto (tgt := 18) dL_law_1130 (by decide) ?_
        exact aw_sub [1, 2, 3, 0] rfl (hk18 _ _ hf)
      · have hf := i_neg c254 hf
        refine aw_iconst (v := 0) dL_law_1072 (by decide) ?_
        have hq := Option.some.inj hf
        subst hq
        exact aw_lret hz dL_law_1073
    have hf := i_neg c241 hf
    by_cases c256 : x3 = 30
    · have hf := i_pos c256 hf
      refine aw_tabIn (tgt := 1074) dL_law_33 (by rw [c256]; decide) (by rw [c256]; decide) (by rw [c256]; rfl) (by decide) ?_
      refine aw_aload_n 1 dL_law_1074 rfl rfl ?_
      refine aw_aload_n 0 dL_law_1075 rfl rfl ?_
      refine aw_iload_n 3 dL_law_1076 rfl rfl ?_
      refine aw_iconst (v := 1) dL_law_1077 (by decide) ?_
      refine aw_iadd dL_law_1078 ?_
      obtain ⟨x257, ex257, hf⟩ := b_some hf
      refine aw_sld hz dL_law_1079 ex257 ?_
      refine aw_aload_n 0 dL_law_1080 rfl rfl ?_
      refine aw_iload_n 3 dL_law_1081 rfl rfl ?_
      refine aw_iconst (v := 2) dL_law_1082 (by decide) ?_
      refine aw_iadd dL_law_1083 ?_
      obtain ⟨x258, ex258, hf⟩ := b_some hf
      refine aw_sld hz dL_law_1084 ex258 ?_
      refine aw_aload_n 0 dL_law_1085 rfl rfl ?_
      refine aw_iload_n 3 dL_law_1086 rfl rfl ?_
      refine aw_iconst (v := 3) dL_law_1087 (by decide) ?_
      refine aw_iadd dL_law_1088 ?_
      obtain ⟨x259, ex259, hf⟩ := b_some hf
      refine aw_sld hz dL_law_1089 ex259 ?_
      refine aw_aload_n 0 dL_law_1090 rfl rfl ?_
      refine aw_iload_n 3 dL_law_1091 rfl rfl ?_
      refine aw_iconst (v := 4) dL_law_1092 (by decide) ?_
      refine aw_iadd dL_law_1093 ?_
      obtain ⟨x260, ex260, hf⟩ := b_some hf
      refine aw_sld hz dL_law_1094 ex260 ?_
      obtain ⟨q261, eq261, hf⟩ := b_some hf
      refine aw_cV (as := [.int x257, .int x258, .int x259, .int x260]) dL_law_1095 moX6_load voX6_load mlL_140 (k_X6_load eq261) rfl (by decide) (LawX.kn hz) (Nat.le_of_ble_eq_true rfl) rfl (c_X6_load eq261) ?_
      refine aw_aload_n 2 dL_law_1098 rfl rfl ?_
      refine aw_aload_n 0 dL_law_1099 rfl rfl ?_
      refine aw_iload_n 3 dL_law_1100 rfl rfl ?_
      refine aw_iconst (v := 1) dL_law_1101 (by decide) ?_
      refine aw_iadd dL_law_1102 ?_
      obtain ⟨x262, ex262, hf⟩ := b_some hf
      refine aw_sld hz dL_law_1103 ex262 ?_
      refine aw_aload_n 0 dL_law_1104 rfl rfl ?_
      refine aw_iload_n 3 dL_law_1105 rfl rfl ?_
      refine aw_iconst (v := 2) dL_law_1106 (by decide) ?_
      refine aw_iadd dL_law_1107 ?_
      obtain ⟨x263, ex263, hf⟩ := b_some hf
      refine aw_sld hz dL_law_1108 ex263 ?_
      refine aw_aload_n 0 dL_law_1109 rfl rfl ?_
      refine aw_iload_n 3 dL_law_1110 rfl rfl ?_
      refine aw_iconst (v := 3) dL_law_1111 (by decide) ?_
      refine aw_iadd dL_law_1112 ?_
      obtain ⟨x264, ex264, hf⟩ := b_some hf
      refine aw_sld hz dL_law_1113 ex264 ?_
      refine aw_aload_n 0 dL_law_1114 rfl rfl ?_
      refine aw_iload_n 3 dL_law_1115 rfl rfl ?_
      refine aw_iconst (v := 4) dL_law_1116 (by decide) ?_
      refine aw_iadd dL_law_1117 ?_
      obtain ⟨x265, ex265, hf⟩ := b_some hf
      refine aw_sld hz dL_law_1118 ex265 ?_
      obtain ⟨q266, eq266, hf⟩ := b_some hf
      refine aw_cV (as := [.int x262, .int x263, .int x264, .int x265]) dL_law_1119 moX7_load voX7_load mlL_143 (k_X7_load eq266) rfl (by decide) (LawX.kn hz) (Nat.le_of_ble_eq_true rfl) rfl (c_X7_load eq266) ?_
      refine aw_icmp_eq (tgt := 1127) dL_law_1122 (by decide) (fun c267 => ?_) (fun c267 => ?_)
      · have hf := i_pos c267 hf
        obtain ⟨x268, ex268, hf⟩ := b_some hf
        refine aw_iinc (v := x268) (L' := [(3, .int x268), (0, .ref 1030), (1, .ref l1), (2, .ref l2)]) 3 dL_law_1127 rfl (Option.some.inj ex268) (by decide) rfl ?_
        refine aw_goto (tgt := 18) dL_law_1130 (by decide) ?_
        exact aw_sub [1, 2, 3, 0] rfl (hk18 _ _ hf)
      · have hf := i_neg c267 hf
        refine aw_iconst (v := 0) dL_law_1125 (by decide) ?_
        have hq := Option.some.inj hf
        subst hq
        exact aw_lret hz dL_law_1126
    have hf := i_neg c256 hf
    refine aw_tabOut (tgt := 1127) dL_law_33 (tab_out (N := 31) (by decide) (by decide) (fun j hj => ?_)) (by decide) ?_
    · match j, hj with
      | 0, _ => exact c4
      | 1, _ => exact c21
      | 2, _ => exact c26
      | 3, _ => exact c31
      | 4, _ => exact c38
      | 5, _ => exact c47
      | 6, _ => exact c54
      | 7, _ => exact c63
      | 8, _ => exact c72
      | 9, _ => exact c81
      | 10, _ => exact c88
      | 11, _ => exact c95
      | 12, _ => exact c100
      | 13, _ => exact c109
      | 14, _ => exact c118
      | 15, _ => exact c125
      | 16, _ => exact c134
      | 17, _ => exact c143
      | 18, _ => exact c152
      | 19, _ => exact c159
      | 20, _ => exact c164
      | 21, _ => exact c171
      | 22, _ => exact c184
      | 23, _ => exact c193
      | 24, _ => exact c202
      | 25, _ => exact c207
      | 26, _ => exact c212
      | 27, _ => exact c219
      | 28, _ => exact c230
      | 29, _ => exact c241
      | 30, _ => exact c256
      | j + 31, hj => exact absurd hj (by omega)
    obtain ⟨x269, ex269, hf⟩ := b_some hf
    refine aw_iinc (v := x269) (L' := [(3, .int x269), (0, .ref 1030), (1, .ref l1), (2, .ref l2)]) 3 dL_law_1127 rfl (Option.some.inj ex269) (by decide) rfl ?_
    refine aw_goto (tgt := 18) dL_law_1130 (by decide) ?_
    exact aw_sub [1, 2, 3, 0] rfl (hk18 _ _ hf)
set_option maxRecDepth 100000 in
set_option maxHeartbeats 4000000 in
/-- the law from its entry to its loop -/
theorem law_start {X : Cx} {adr : Nat → Nat} {Qm : State → Prop} {q : Int32 × Hp} {xs : Nat → Int32} {sl : Nat} (hz : LawX X adr xs sl 62 1629 Qm q.1) (hf : lp (f_L_law_18 xs sl) 600 (0, 50, 0) hi_25 = some q) : AW X cL_law 4 RL room_1 Qm 0 0 adr [] 0 [(0, .ref 1030)] [] := by
  refine aw_new (ci := 6) (fs := [.null, .null, .null, .null, .null, .null, .null, .null, .null, .int 0]) tyX6 dL_law_0 rfl inlX6 tyX6_ok wcL_7 wiX6 wnX6 (by decide +kernel) (by decide) ⟨Nat.le_of_ble_eq_true rfl, Nat.le_of_ble_eq_true rfl⟩ (N0 := 0) (by decide +kernel) (by decide) (by decide +kernel) (by decide +kernel) (fun a1 A1 => ?_)
  refine AW.heq (h1 := [.inr (6, [.null, .null, .null, .null, .null, .null, .null, .null, .null, .int 0])]) rfl ?_
  refine AW.keq (k1 := 1) (n1 := 10) rfl rfl ?_
  refine aw_dup dL_law_3 rfl ?_
  refine aw_ctor (as := []) dL_law_4 moX6_init ioX6_init rfl mlL_9 (by decide) ⟨Nat.le_of_ble_eq_true rfl, Nat.le_of_ble_eq_true rfl⟩ (by decide) rfl (N0 := 1) (by decide +kernel) k12_X6_init (fun a2 A2 => ?_)
  refine AW.heq (h1 := [.inr (6, [.ref 1, .ref 3, .ref 11, .ref 19, .ref 27, .ref 30, .ref 36, .ref 41, .ref 40, .int 0]), .inr (4, [.ref 2, .int 0, .int 0, .int 0, .int 0]), .inl (0, (40, .inl (fun _ => 0))), .inr (0, [.int 0, .int 0, .int 0, .ref 4, .ref 5, .ref 6, .ref 7, .ref 8, .ref 9, .ref 10]), .inl (0, (6, .inl (fun _ => 0))), .inl (0, (6, .inl (fun _ => 0))), .inl (0, (36, .inl (fun _ => 0))), .inl (0, (9, .inl (fun _ => 0))), .inl (0, (9, .inl (fun _ => 0))), .inl (0, (9, .inl (fun _ => 0))), .inl (0, (9, .inl (fun _ => 0))), .inr (0, [.int 0, .int 0, .int 0, .ref 12, .ref 13, .ref 14, .ref 15, .ref 16, .ref 17, .ref 18]), .inl (0, (6, .inl (fun _ => 0))), .inl (0, (6, .inl (fun _ => 0))), .inl (0, (36, .inl (fun _ => 0))), .inl (0, (9, .inl (fun _ => 0))), .inl (0, (9, .inl (fun _ => 0))), .inl (0, (9, .inl (fun _ => 0))), .inl (0, (9, .inl (fun _ => 0))), .inr (0, [.int 0, .int 0, .int 0, .ref 20, .ref 21, .ref 22, .ref 23, .ref 24, .ref 25, .ref 26]), .inl (0, (6, .inl (fun _ => 0))), .inl (0, (6, .inl (fun _ => 0))), .inl (0, (36, .inl (fun _ => 0))), .inl (0, (9, .inl (fun _ => 0))), .inl (0, (9, .inl (fun _ => 0))), .inl (0, (9, .inl (fun _ => 0))), .inl (0, (9, .inl (fun _ => 0))), .inr (3, [.ref 28, .ref 29, .int 0, .int 0, .int 0]), .inl (0, (6, .inl (fun _ => 0))), .inl (0, (9, .inl (fun _ => 0))), .inr (1, [.ref 31, .ref 32, .ref 33, .ref 34, .ref 35, .int 0, .int 0, .int 0, .int 0]), .inl (0, (6, .inl (fun _ => 0))), .inl (0, (9, .inl (fun _ => 0))), .inl (0, (9, .inl (fun _ => 0))), .inl (0, (9, .inl (fun _ => 0))), .inl (0, (9, .inl (fun _ => 0))), .inr (5, [.ref 37, .ref 38, .ref 39, .int 0, .int 0]), .inl (0, (6, .inl (fun _ => 0))), .inl (0, (9, .inl (fun _ => 0))), .inl (1, (81, .inr (.inl (fun _ => 0)))), .inl (0, (6, .inl (fun _ => 0))), .inl (2, (4, .inr (.inr (.inr (.inr (va_up (va_up (va_up (va_up (fun _ => none) 0 (some 42)) 1 (some 44)) 2 (some 46)) 3 (some 48))))))), .inr (2, [.ref 43, .int (-1), .int 0]), .inl (0, (40, .inl (fun _ => 0))), .inr (2, [.ref 45, .int (-1), .int 0]), .inl (0, (40, .inl (fun _ => 0))), .inr (2, [.ref 47, .int (-1), .int 0]), .inl (0, (40, .inl (fun _ => 0))), .inr (2, [.ref 49, .int (-1), .int 0]), .inl (0, (40, .inl (fun _ => 0)))]) rfl ?_
  refine AW.keq (k1 := 50) (n1 := 691) rfl rfl ?_
  refine aw_astore_n (L' := [(1, .ref 0), (0, .ref 1030)]) dL_law_7 rfl (by decide) rfl ?_
  refine aw_new (ci := 7) (fs := [.null, .null, .int 0, .null, .null, .int 0, .int 0, .null, .int 0, .int 0, .null, .int 0, .int 0, .int 0, .int 0, .null, .null, .int 0, .null, .null, .null]) tyX7 dL_law_8 rfl inlX7 tyX7_ok wcL_10 wiX7 wnX7 (by decide +kernel) (by decide) ⟨Nat.le_of_ble_eq_true rfl, Nat.le_of_ble_eq_true rfl⟩ (N0 := 50) (by decide +kernel) (by decide) (by decide +kernel) (by decide +kernel) (fun a3 A3 => ?_)
  refine AW.heq (h1 := [.inr (6, [.ref 1, .ref 3, .ref 11, .ref 19, .ref 27, .ref 30, .ref 36, .ref 41, .ref 40, .int 0]), .inr (4, [.ref 2, .int 0, .int 0, .int 0, .int 0]), .inl (0, (40, .inl (fun _ => 0))), .inr (0, [.int 0, .int 0, .int 0, .ref 4, .ref 5, .ref 6, .ref 7, .ref 8, .ref 9, .ref 10]), .inl (0, (6, .inl (fun _ => 0))), .inl (0, (6, .inl (fun _ => 0))), .inl (0, (36, .inl (fun _ => 0))), .inl (0, (9, .inl (fun _ => 0))), .inl (0, (9, .inl (fun _ => 0))), .inl (0, (9, .inl (fun _ => 0))), .inl (0, (9, .inl (fun _ => 0))), .inr (0, [.int 0, .int 0, .int 0, .ref 12, .ref 13, .ref 14, .ref 15, .ref 16, .ref 17, .ref 18]), .inl (0, (6, .inl (fun _ => 0))), .inl (0, (6, .inl (fun _ => 0))), .inl (0, (36, .inl (fun _ => 0))), .inl (0, (9, .inl (fun _ => 0))), .inl (0, (9, .inl (fun _ => 0))), .inl (0, (9, .inl (fun _ => 0))), .inl (0, (9, .inl (fun _ => 0))), .inr (0, [.int 0, .int 0, .int 0, .ref 20, .ref 21, .ref 22, .ref 23, .ref 24, .ref 25, .ref 26]), .inl (0, (6, .inl (fun _ => 0))), .inl (0, (6, .inl (fun _ => 0))), .inl (0, (36, .inl (fun _ => 0))), .inl (0, (9, .inl (fun _ => 0))), .inl (0, (9, .inl (fun _ => 0))), .inl (0, (9, .inl (fun _ => 0))), .inl (0, (9, .inl (fun _ => 0))), .inr (3, [.ref 28, .ref 29, .int 0, .int 0, .int 0]), .inl (0, (6, .inl (fun _ => 0))), .inl (0, (9, .inl (fun _ => 0))), .inr (1, [.ref 31, .ref 32, .ref 33, .ref 34, .ref 35, .int 0, .int 0, .int 0, .int 0]), .inl (0, (6, .inl (fun _ => 0))), .inl (0, (9, .inl (fun _ => 0))), .inl (0, (9, .inl (fun _ => 0))), .inl (0, (9, .inl (fun _ => 0))), .inl (0, (9, .inl (fun _ => 0))), .inr (5, [.ref 37, .ref 38, .ref 39, .int 0, .int 0]), .inl (0, (6, .inl (fun _ => 0))), .inl (0, (9, .inl (fun _ => 0))), .inl (1, (81, .inr (.inl (fun _ => 0)))), .inl (0, (6, .inl (fun _ => 0))), .inl (2, (4, .inr (.inr (.inr (.inr (va_up (va_up (va_up (va_up (fun _ => none) 0 (some 42)) 1 (some 44)) 2 (some 46)) 3 (some 48))))))), .inr (2, [.ref 43, .int (-1), .int 0]), .inl (0, (40, .inl (fun _ => 0))), .inr (2, [.ref 45, .int (-1), .int 0]), .inl (0, (40, .inl (fun _ => 0))), .inr (2, [.ref 47, .int (-1), .int 0]), .inl (0, (40, .inl (fun _ => 0))), .inr (2, [.ref 49, .int (-1), .int 0]), .inl (0, (40, .inl (fun _ => 0))), .inr (7, [.null, .null, .int 0, .null, .null, .int 0, .int 0, .null, .int 0, .int 0, .null, .int 0, .int 0, .int 0, .int 0, .null, .null, .int 0, .null, .null, .null])]) rfl ?_
  refine AW.keq (k1 := 51) (n1 := 712) rfl rfl ?_
  refine aw_dup dL_law_11 rfl ?_
  refine aw_ctor (as := []) dL_law_12 moX7_init ioX7_init rfl mlL_12 (by decide) ⟨Nat.le_of_ble_eq_true rfl, Nat.le_of_ble_eq_true rfl⟩ (by decide) rfl (N0 := 51) (by decide +kernel) k13_X7_init (fun a4 A4 => ?_)
  refine AW.heq (h1 := [.inr (6, [.ref 1, .ref 3, .ref 11, .ref 19, .ref 27, .ref 30, .ref 36, .ref 41, .ref 40, .int 0]), .inr (4, [.ref 2, .int 0, .int 0, .int 0, .int 0]), .inl (0, (40, .inl (fun _ => 0))), .inr (0, [.int 0, .int 0, .int 0, .ref 4, .ref 5, .ref 6, .ref 7, .ref 8, .ref 9, .ref 10]), .inl (0, (6, .inl (fun _ => 0))), .inl (0, (6, .inl (fun _ => 0))), .inl (0, (36, .inl (fun _ => 0))), .inl (0, (9, .inl (fun _ => 0))), .inl (0, (9, .inl (fun _ => 0))), .inl (0, (9, .inl (fun _ => 0))), .inl (0, (9, .inl (fun _ => 0))), .inr (0, [.int 0, .int 0, .int 0, .ref 12, .ref 13, .ref 14, .ref 15, .ref 16, .ref 17, .ref 18]), .inl (0, (6, .inl (fun _ => 0))), .inl (0, (6, .inl (fun _ => 0))), .inl (0, (36, .inl (fun _ => 0))), .inl (0, (9, .inl (fun _ => 0))), .inl (0, (9, .inl (fun _ => 0))), .inl (0, (9, .inl (fun _ => 0))), .inl (0, (9, .inl (fun _ => 0))), .inr (0, [.int 0, .int 0, .int 0, .ref 20, .ref 21, .ref 22, .ref 23, .ref 24, .ref 25, .ref 26]), .inl (0, (6, .inl (fun _ => 0))), .inl (0, (6, .inl (fun _ => 0))), .inl (0, (36, .inl (fun _ => 0))), .inl (0, (9, .inl (fun _ => 0))), .inl (0, (9, .inl (fun _ => 0))), .inl (0, (9, .inl (fun _ => 0))), .inl (0, (9, .inl (fun _ => 0))), .inr (3, [.ref 28, .ref 29, .int 0, .int 0, .int 0]), .inl (0, (6, .inl (fun _ => 0))), .inl (0, (9, .inl (fun _ => 0))), .inr (1, [.ref 31, .ref 32, .ref 33, .ref 34, .ref 35, .int 0, .int 0, .int 0, .int 0]), .inl (0, (6, .inl (fun _ => 0))), .inl (0, (9, .inl (fun _ => 0))), .inl (0, (9, .inl (fun _ => 0))), .inl (0, (9, .inl (fun _ => 0))), .inl (0, (9, .inl (fun _ => 0))), .inr (5, [.ref 37, .ref 38, .ref 39, .int 0, .int 0]), .inl (0, (6, .inl (fun _ => 0))), .inl (0, (9, .inl (fun _ => 0))), .inl (1, (81, .inr (.inl (fun _ => 0)))), .inl (0, (6, .inl (fun _ => 0))), .inl (2, (4, .inr (.inr (.inr (.inr (va_up (va_up (va_up (va_up (fun _ => none) 0 (some 42)) 1 (some 44)) 2 (some 46)) 3 (some 48))))))), .inr (2, [.ref 43, .int (-1), .int 0]), .inl (0, (40, .inl (fun _ => 0))), .inr (2, [.ref 45, .int (-1), .int 0]), .inl (0, (40, .inl (fun _ => 0))), .inr (2, [.ref 47, .int (-1), .int 0]), .inl (0, (40, .inl (fun _ => 0))), .inr (2, [.ref 49, .int (-1), .int 0]), .inl (0, (40, .inl (fun _ => 0))), .inr (7, [.ref 51, .ref 52, .int 0, .ref 53, .ref 54, .int 0, .int 0, .ref 55, .int 0, .int 0, .ref 56, .int 0, .int 0, .int 0, .int 0, .ref 57, .ref 58, .int 0, .ref 59, .ref 60, .ref 61]), .inl (0, (87, .inl (fun _ => 0))), .inl (0, (87, .inl (fun _ => 0))), .inl (0, (9, .inl (fun _ => 0))), .inl (0, (6, .inl (fun _ => 0))), .inl (0, (9, .inl (fun _ => 0))), .inl (0, (40, .inl (fun _ => 0))), .inl (0, (25, .inl (upd (upd (upd (upd (upd (upd (upd (upd (upd (upd (upd (upd (upd (upd (upd (upd (upd (upd (upd (upd (upd (upd (upd (upd (upd (fun _ => 0) 0 (116)) 1 (101)) 2 (97)) 3 (109)) 4 (32)) 5 (115)) 6 (116)) 7 (97)) 8 (114)) 9 (116)) 10 (103)) 11 (97)) 12 (109)) 13 (101)) 14 (32)) 15 (119)) 16 (111)) 17 (110)) 18 (32)) 19 (32)) 20 (100)) 21 (114)) 22 (101)) 23 (119)) 24 (32)))), .inl (0, (486, .inl (fun _ => 0))), .inl (0, (4, .inl (upd (upd (upd (upd (fun _ => 0) 0 (-1)) 1 (-1)) 2 (-1)) 3 (-1)))), .inl (0, (4, .inl (fun _ => 0))), .inl (0, (160, .inl (fun _ => 0)))]) rfl ?_
  refine AW.keq (k1 := 62) (n1 := 1629) rfl rfl ?_
  refine aw_astore_n (L' := [(2, .ref 50), (1, .ref 0), (0, .ref 1030)]) dL_law_15 rfl (by decide) rfl ?_
  refine aw_iconst (v := 0) dL_law_16 (by decide) ?_
  refine aw_istore_n (L' := [(3, .int 0), (2, .ref 50), (1, .ref 0), (0, .ref 1030)]) dL_law_17 rfl (by decide) rfl ?_
  have e4 : a4 1030 = adr 1030 := (Agr.tr (N := 0) (by decide) A4 (Agr.tr (by decide) A3 (Agr.tr (by decide) A2 (Agr.tr (by decide) A1 Agr.rf)))) 1030 (Or.inr (by decide))
  have hz4 : LawX X a4 xs sl 62 1629 Qm q.1 := by
    unfold LawX at hz ⊢
    rw [e4]
    exact hz
  exact aw_sub [3, 2, 1, 0] rfl (c_L_law_18 hz4 600 (0, 50, 0) _ hf)
